section
-- ===== PART A: goes FIRST, ahead of the names: the tables' words, and 'selects' of the private methods out of them =====
/-- a private method of a class that the tables say can be made, by its rows of tables_1 -/
def lw_okq (q : MethodName × Nat) : Prop := (q.1.cls ≠ "java/lang/invoke/MethodHandle" ∧ q.1.cls ≠ "java/lang/invoke/VarHandle") ∧ Cond.instantiable q.1.cls q.2 ∈ tables_1 ∧ Cond.privateMethod q.1 ∈ tables_1 ∧ Cond.instanceMethod q.1 ∈ tables_1
theorem lw_p0 : lw_okq (⟨"FeetHorns", "isSort", "(I)Z"⟩, 12) := ⟨⟨by decide +kernel, by decide +kernel⟩, List.mem_of_getElem? (i := 19) (by decide +kernel), List.mem_of_getElem? (i := 303) (by decide +kernel), List.mem_of_getElem? (i := 304) (by decide +kernel)⟩
theorem lw_p1 : lw_okq (⟨"FeetHorns", "look", "()V"⟩, 12) := ⟨⟨by decide +kernel, by decide +kernel⟩, List.mem_of_getElem? (i := 19) (by decide +kernel), List.mem_of_getElem? (i := 307) (by decide +kernel), List.mem_of_getElem? (i := 308) (by decide +kernel)⟩
theorem lw_p2 : lw_okq (⟨"FeetHorns", "holdingFence", "()LFeetHorns$Fence;"⟩, 12) := ⟨⟨by decide +kernel, by decide +kernel⟩, List.mem_of_getElem? (i := 19) (by decide +kernel), List.mem_of_getElem? (i := 311) (by decide +kernel), List.mem_of_getElem? (i := 312) (by decide +kernel)⟩
theorem lw_p3 : lw_okq (⟨"FeetHorns$Fence", "holds", "(I[I)Z"⟩, 6) := ⟨⟨by decide +kernel, by decide +kernel⟩, List.mem_of_getElem? (i := 104) (by decide +kernel), List.mem_of_getElem? (i := 330) (by decide +kernel), List.mem_of_getElem? (i := 331) (by decide +kernel)⟩
theorem lw_p4 : lw_okq (⟨"FeetHorns$FenceText", "readClause", "()V"⟩, 5) := ⟨⟨by decide +kernel, by decide +kernel⟩, List.mem_of_getElem? (i := 80) (by decide +kernel), List.mem_of_getElem? (i := 387) (by decide +kernel), List.mem_of_getElem? (i := 388) (by decide +kernel)⟩
theorem lw_p5 : lw_okq (⟨"FeetHorns$FenceText", "isAt", "(C)Z"⟩, 5) := ⟨⟨by decide +kernel, by decide +kernel⟩, List.mem_of_getElem? (i := 80) (by decide +kernel), List.mem_of_getElem? (i := 391) (by decide +kernel), List.mem_of_getElem? (i := 392) (by decide +kernel)⟩
theorem lw_p6 : lw_okq (⟨"FeetHorns$FenceText", "need", "(Ljava/lang/String;)V"⟩, 5) := ⟨⟨by decide +kernel, by decide +kernel⟩, List.mem_of_getElem? (i := 80) (by decide +kernel), List.mem_of_getElem? (i := 398) (by decide +kernel), List.mem_of_getElem? (i := 399) (by decide +kernel)⟩
theorem lw_p7 : lw_okq (⟨"FeetHorns$FenceText", "takes", "(C)Z"⟩, 5) := ⟨⟨by decide +kernel, by decide +kernel⟩, List.mem_of_getElem? (i := 80) (by decide +kernel), List.mem_of_getElem? (i := 450) (by decide +kernel), List.mem_of_getElem? (i := 451) (by decide +kernel)⟩
theorem lw_p8 : lw_okq (⟨"FeetHorns$FenceText", "readNumber", "()I"⟩, 5) := ⟨⟨by decide +kernel, by decide +kernel⟩, List.mem_of_getElem? (i := 80) (by decide +kernel), List.mem_of_getElem? (i := 454) (by decide +kernel), List.mem_of_getElem? (i := 455) (by decide +kernel)⟩
theorem lw_p9 : lw_okq (⟨"FeetHorns$FenceText", "takesOneOf", "(Ljava/lang/String;Z)I"⟩, 5) := ⟨⟨by decide +kernel, by decide +kernel⟩, List.mem_of_getElem? (i := 80) (by decide +kernel), List.mem_of_getElem? (i := 459) (by decide +kernel), List.mem_of_getElem? (i := 460) (by decide +kernel)⟩
theorem lw_p10 : lw_okq (⟨"FeetHorns$FenceText", "readEither", "(I)V"⟩, 5) := ⟨⟨by decide +kernel, by decide +kernel⟩, List.mem_of_getElem? (i := 80) (by decide +kernel), List.mem_of_getElem? (i := 519) (by decide +kernel), List.mem_of_getElem? (i := 520) (by decide +kernel)⟩
theorem lw_p11 : lw_okq (⟨"FeetHorns$FenceText", "readFactor", "(I)V"⟩, 5) := ⟨⟨by decide +kernel, by decide +kernel⟩, List.mem_of_getElem? (i := 80) (by decide +kernel), List.mem_of_getElem? (i := 523) (by decide +kernel), List.mem_of_getElem? (i := 524) (by decide +kernel)⟩
theorem lw_p12 : lw_okq (⟨"FeetHorns$FenceText", "readTest", "()V"⟩, 5) := ⟨⟨by decide +kernel, by decide +kernel⟩, List.mem_of_getElem? (i := 80) (by decide +kernel), List.mem_of_getElem? (i := 532) (by decide +kernel), List.mem_of_getElem? (i := 533) (by decide +kernel)⟩
theorem lw_p13 : lw_okq (⟨"FeetHorns", "toldByHole", "(I)I"⟩, 12) := ⟨⟨by decide +kernel, by decide +kernel⟩, List.mem_of_getElem? (i := 19) (by decide +kernel), List.mem_of_getElem? (i := 553) (by decide +kernel), List.mem_of_getElem? (i := 554) (by decide +kernel)⟩
theorem lw_p14 : lw_okq (⟨"FeetHorns", "searchFitting", "()V"⟩, 12) := ⟨⟨by decide +kernel, by decide +kernel⟩, List.mem_of_getElem? (i := 19) (by decide +kernel), List.mem_of_getElem? (i := 565) (by decide +kernel), List.mem_of_getElem? (i := 566) (by decide +kernel)⟩
theorem lw_p15 : lw_okq (⟨"FeetHorns$Search", "begin", "()V"⟩, 12) := ⟨⟨by decide +kernel, by decide +kernel⟩, List.mem_of_getElem? (i := 159) (by decide +kernel), List.mem_of_getElem? (i := 576) (by decide +kernel), List.mem_of_getElem? (i := 577) (by decide +kernel)⟩
def lw_privs_1 : List (MethodName × Nat) := [(⟨"FeetHorns", "isSort", "(I)Z"⟩, 12), (⟨"FeetHorns", "look", "()V"⟩, 12), (⟨"FeetHorns", "holdingFence", "()LFeetHorns$Fence;"⟩, 12), (⟨"FeetHorns$Fence", "holds", "(I[I)Z"⟩, 6), (⟨"FeetHorns$FenceText", "readClause", "()V"⟩, 5), (⟨"FeetHorns$FenceText", "isAt", "(C)Z"⟩, 5), (⟨"FeetHorns$FenceText", "need", "(Ljava/lang/String;)V"⟩, 5), (⟨"FeetHorns$FenceText", "takes", "(C)Z"⟩, 5), (⟨"FeetHorns$FenceText", "readNumber", "()I"⟩, 5), (⟨"FeetHorns$FenceText", "takesOneOf", "(Ljava/lang/String;Z)I"⟩, 5), (⟨"FeetHorns$FenceText", "readEither", "(I)V"⟩, 5), (⟨"FeetHorns$FenceText", "readFactor", "(I)V"⟩, 5), (⟨"FeetHorns$FenceText", "readTest", "()V"⟩, 5), (⟨"FeetHorns", "toldByHole", "(I)I"⟩, 12), (⟨"FeetHorns", "searchFitting", "()V"⟩, 12), (⟨"FeetHorns$Search", "begin", "()V"⟩, 12)]
theorem lw_r1 : ∀ q ∈ lw_privs_1, lw_okq q := List.forall_mem_cons.mpr ⟨lw_p0, List.forall_mem_cons.mpr ⟨lw_p1, List.forall_mem_cons.mpr ⟨lw_p2, List.forall_mem_cons.mpr ⟨lw_p3, List.forall_mem_cons.mpr ⟨lw_p4, List.forall_mem_cons.mpr ⟨lw_p5, List.forall_mem_cons.mpr ⟨lw_p6, List.forall_mem_cons.mpr ⟨lw_p7, List.forall_mem_cons.mpr ⟨lw_p8, List.forall_mem_cons.mpr ⟨lw_p9, List.forall_mem_cons.mpr ⟨lw_p10, List.forall_mem_cons.mpr ⟨lw_p11, List.forall_mem_cons.mpr ⟨lw_p12, List.forall_mem_cons.mpr ⟨lw_p13, List.forall_mem_cons.mpr ⟨lw_p14, List.forall_mem_cons.mpr ⟨lw_p15, fun _ h => absurd h List.not_mem_nil⟩⟩⟩⟩⟩⟩⟩⟩⟩⟩⟩⟩⟩⟩⟩⟩
theorem lw_p16 : lw_okq (⟨"FeetHorns$Search", "excess", "([I)I"⟩, 12) := ⟨⟨by decide +kernel, by decide +kernel⟩, List.mem_of_getElem? (i := 159) (by decide +kernel), List.mem_of_getElem? (i := 581) (by decide +kernel), List.mem_of_getElem? (i := 582) (by decide +kernel)⟩
theorem lw_p17 : lw_okq (⟨"FeetHorns$Search", "keep", "()V"⟩, 12) := ⟨⟨by decide +kernel, by decide +kernel⟩, List.mem_of_getElem? (i := 159) (by decide +kernel), List.mem_of_getElem? (i := 585) (by decide +kernel), List.mem_of_getElem? (i := 586) (by decide +kernel)⟩
theorem lw_p18 : lw_okq (⟨"FeetHorns$Search", "isBeyond", "([I)Z"⟩, 12) := ⟨⟨by decide +kernel, by decide +kernel⟩, List.mem_of_getElem? (i := 159) (by decide +kernel), List.mem_of_getElem? (i := 593) (by decide +kernel), List.mem_of_getElem? (i := 594) (by decide +kernel)⟩
theorem lw_p19 : lw_okq (⟨"FeetHorns$Search", "advance", "(IZ)V"⟩, 12) := ⟨⟨by decide +kernel, by decide +kernel⟩, List.mem_of_getElem? (i := 159) (by decide +kernel), List.mem_of_getElem? (i := 597) (by decide +kernel), List.mem_of_getElem? (i := 598) (by decide +kernel)⟩
theorem lw_p20 : lw_okq (⟨"FeetHorns$Search", "addBeasts", "(II)V"⟩, 12) := ⟨⟨by decide +kernel, by decide +kernel⟩, List.mem_of_getElem? (i := 159) (by decide +kernel), List.mem_of_getElem? (i := 601) (by decide +kernel), List.mem_of_getElem? (i := 602) (by decide +kernel)⟩
theorem lw_p21 : lw_okq (⟨"FeetHorns", "isBarred", "(II)Z"⟩, 12) := ⟨⟨by decide +kernel, by decide +kernel⟩, List.mem_of_getElem? (i := 19) (by decide +kernel), List.mem_of_getElem? (i := 609) (by decide +kernel), List.mem_of_getElem? (i := 610) (by decide +kernel)⟩
theorem lw_p22 : lw_okq (⟨"FeetHorns", "foundIfTold", "(I)I"⟩, 12) := ⟨⟨by decide +kernel, by decide +kernel⟩, List.mem_of_getElem? (i := 19) (by decide +kernel), List.mem_of_getElem? (i := 621) (by decide +kernel), List.mem_of_getElem? (i := 622) (by decide +kernel)⟩
theorem lw_p23 : lw_okq (⟨"FeetHorns", "wantCountsOfHerd", "()V"⟩, 12) := ⟨⟨by decide +kernel, by decide +kernel⟩, List.mem_of_getElem? (i := 19) (by decide +kernel), List.mem_of_getElem? (i := 630) (by decide +kernel), List.mem_of_getElem? (i := 631) (by decide +kernel)⟩
theorem lw_p24 : lw_okq (⟨"FeetHorns", "bestPrices", "([I)I"⟩, 12) := ⟨⟨by decide +kernel, by decide +kernel⟩, List.mem_of_getElem? (i := 19) (by decide +kernel), List.mem_of_getElem? (i := 651) (by decide +kernel), List.mem_of_getElem? (i := 652) (by decide +kernel)⟩
theorem lw_p25 : lw_okq (⟨"FeetHorns", "isFair", "(I)Z"⟩, 12) := ⟨⟨by decide +kernel, by decide +kernel⟩, List.mem_of_getElem? (i := 19) (by decide +kernel), List.mem_of_getElem? (i := 661) (by decide +kernel), List.mem_of_getElem? (i := 662) (by decide +kernel)⟩
theorem lw_p26 : lw_okq (⟨"FeetHorns", "isToldWithout", "(II)Z"⟩, 12) := ⟨⟨by decide +kernel, by decide +kernel⟩, List.mem_of_getElem? (i := 19) (by decide +kernel), List.mem_of_getElem? (i := 669) (by decide +kernel), List.mem_of_getElem? (i := 670) (by decide +kernel)⟩
theorem lw_p27 : lw_okq (⟨"FeetHorns", "sharePerFittingHerd", "([III)J"⟩, 12) := ⟨⟨by decide +kernel, by decide +kernel⟩, List.mem_of_getElem? (i := 19) (by decide +kernel), List.mem_of_getElem? (i := 681) (by decide +kernel), List.mem_of_getElem? (i := 682) (by decide +kernel)⟩
theorem lw_p28 : lw_okq (⟨"FeetHorns$Acts", "run", "(IIII)I"⟩, 5) := ⟨⟨by decide +kernel, by decide +kernel⟩, List.mem_of_getElem? (i := 208) (by decide +kernel), List.mem_of_getElem? (i := 739) (by decide +kernel), List.mem_of_getElem? (i := 740) (by decide +kernel)⟩
theorem lw_p29 : lw_okq (⟨"FeetHorns$Acts", "begins", "(I)V"⟩, 5) := ⟨⟨by decide +kernel, by decide +kernel⟩, List.mem_of_getElem? (i := 208) (by decide +kernel), List.mem_of_getElem? (i := 745) (by decide +kernel), List.mem_of_getElem? (i := 746) (by decide +kernel)⟩
theorem lw_p30 : lw_okq (⟨"FeetHorns$Tape", "cut", "(J)J"⟩, 3) := ⟨⟨by decide +kernel, by decide +kernel⟩, List.mem_of_getElem? (i := 233) (by decide +kernel), List.mem_of_getElem? (i := 782) (by decide +kernel), List.mem_of_getElem? (i := 783) (by decide +kernel)⟩
theorem lw_p31 : lw_okq (⟨"FeetHornsModel", "in", "(III)Z"⟩, 62) := ⟨⟨by decide +kernel, by decide +kernel⟩, List.mem_of_getElem? (i := 798) (by decide +kernel), List.mem_of_getElem? (i := 996) (by decide +kernel), List.mem_of_getElem? (i := 997) (by decide +kernel)⟩
def lw_privs_2 : List (MethodName × Nat) := [(⟨"FeetHorns$Search", "excess", "([I)I"⟩, 12), (⟨"FeetHorns$Search", "keep", "()V"⟩, 12), (⟨"FeetHorns$Search", "isBeyond", "([I)Z"⟩, 12), (⟨"FeetHorns$Search", "advance", "(IZ)V"⟩, 12), (⟨"FeetHorns$Search", "addBeasts", "(II)V"⟩, 12), (⟨"FeetHorns", "isBarred", "(II)Z"⟩, 12), (⟨"FeetHorns", "foundIfTold", "(I)I"⟩, 12), (⟨"FeetHorns", "wantCountsOfHerd", "()V"⟩, 12), (⟨"FeetHorns", "bestPrices", "([I)I"⟩, 12), (⟨"FeetHorns", "isFair", "(I)Z"⟩, 12), (⟨"FeetHorns", "isToldWithout", "(II)Z"⟩, 12), (⟨"FeetHorns", "sharePerFittingHerd", "([III)J"⟩, 12), (⟨"FeetHorns$Acts", "run", "(IIII)I"⟩, 5), (⟨"FeetHorns$Acts", "begins", "(I)V"⟩, 5), (⟨"FeetHorns$Tape", "cut", "(J)J"⟩, 3), (⟨"FeetHornsModel", "in", "(III)Z"⟩, 62)]
theorem lw_r2 : ∀ q ∈ lw_privs_2, lw_okq q := List.forall_mem_cons.mpr ⟨lw_p16, List.forall_mem_cons.mpr ⟨lw_p17, List.forall_mem_cons.mpr ⟨lw_p18, List.forall_mem_cons.mpr ⟨lw_p19, List.forall_mem_cons.mpr ⟨lw_p20, List.forall_mem_cons.mpr ⟨lw_p21, List.forall_mem_cons.mpr ⟨lw_p22, List.forall_mem_cons.mpr ⟨lw_p23, List.forall_mem_cons.mpr ⟨lw_p24, List.forall_mem_cons.mpr ⟨lw_p25, List.forall_mem_cons.mpr ⟨lw_p26, List.forall_mem_cons.mpr ⟨lw_p27, List.forall_mem_cons.mpr ⟨lw_p28, List.forall_mem_cons.mpr ⟨lw_p29, List.forall_mem_cons.mpr ⟨lw_p30, List.forall_mem_cons.mpr ⟨lw_p31, fun _ h => absurd h List.not_mem_nil⟩⟩⟩⟩⟩⟩⟩⟩⟩⟩⟩⟩⟩⟩⟩⟩
theorem lw_p32 : lw_okq (⟨"FeetHornsModel", "isDigit9", "(I)Z"⟩, 62) := ⟨⟨by decide +kernel, by decide +kernel⟩, List.mem_of_getElem? (i := 798) (by decide +kernel), List.mem_of_getElem? (i := 1000) (by decide +kernel), List.mem_of_getElem? (i := 1001) (by decide +kernel)⟩
theorem lw_p33 : lw_okq (⟨"FeetHornsModel", "isSort", "(I)Z"⟩, 62) := ⟨⟨by decide +kernel, by decide +kernel⟩, List.mem_of_getElem? (i := 798) (by decide +kernel), List.mem_of_getElem? (i := 1008) (by decide +kernel), List.mem_of_getElem? (i := 1009) (by decide +kernel)⟩
theorem lw_p34 : lw_okq (⟨"FeetHornsModel", "goesText", "(I)Z"⟩, 62) := ⟨⟨by decide +kernel, by decide +kernel⟩, List.mem_of_getElem? (i := 798) (by decide +kernel), List.mem_of_getElem? (i := 1032) (by decide +kernel), List.mem_of_getElem? (i := 1033) (by decide +kernel)⟩
theorem lw_p35 : lw_okq (⟨"FeetHornsModel", "takesClause", "(I)Z"⟩, 62) := ⟨⟨by decide +kernel, by decide +kernel⟩, List.mem_of_getElem? (i := 798) (by decide +kernel), List.mem_of_getElem? (i := 1036) (by decide +kernel), List.mem_of_getElem? (i := 1037) (by decide +kernel)⟩
theorem lw_p36 : lw_okq (⟨"FeetHornsModel", "takesHead", "(I)Z"⟩, 62) := ⟨⟨by decide +kernel, by decide +kernel⟩, List.mem_of_getElem? (i := 798) (by decide +kernel), List.mem_of_getElem? (i := 1040) (by decide +kernel), List.mem_of_getElem? (i := 1041) (by decide +kernel)⟩
theorem lw_p37 : lw_okq (⟨"FeetHornsModel", "next", "()I"⟩, 62) := ⟨⟨by decide +kernel, by decide +kernel⟩, List.mem_of_getElem? (i := 798) (by decide +kernel), List.mem_of_getElem? (i := 1044) (by decide +kernel), List.mem_of_getElem? (i := 1045) (by decide +kernel)⟩
theorem lw_p38 : lw_okq (⟨"FeetHornsModel", "takesWord", "(II)Z"⟩, 62) := ⟨⟨by decide +kernel, by decide +kernel⟩, List.mem_of_getElem? (i := 798) (by decide +kernel), List.mem_of_getElem? (i := 1048) (by decide +kernel), List.mem_of_getElem? (i := 1049) (by decide +kernel)⟩
theorem lw_p39 : lw_okq (⟨"FeetHornsModel", "takes", "(I)Z"⟩, 62) := ⟨⟨by decide +kernel, by decide +kernel⟩, List.mem_of_getElem? (i := 798) (by decide +kernel), List.mem_of_getElem? (i := 1052) (by decide +kernel), List.mem_of_getElem? (i := 1053) (by decide +kernel)⟩
theorem lw_p40 : lw_okq (⟨"FeetHornsModel", "takesNumber", "()Z"⟩, 62) := ⟨⟨by decide +kernel, by decide +kernel⟩, List.mem_of_getElem? (i := 798) (by decide +kernel), List.mem_of_getElem? (i := 1056) (by decide +kernel), List.mem_of_getElem? (i := 1057) (by decide +kernel)⟩
theorem lw_p41 : lw_okq (⟨"FeetHornsModel", "isDigit", "()Z"⟩, 62) := ⟨⟨by decide +kernel, by decide +kernel⟩, List.mem_of_getElem? (i := 798) (by decide +kernel), List.mem_of_getElem? (i := 1060) (by decide +kernel), List.mem_of_getElem? (i := 1061) (by decide +kernel)⟩
theorem lw_p42 : lw_okq (⟨"FeetHornsModel", "takesE", "(I)Z"⟩, 62) := ⟨⟨by decide +kernel, by decide +kernel⟩, List.mem_of_getElem? (i := 798) (by decide +kernel), List.mem_of_getElem? (i := 1064) (by decide +kernel), List.mem_of_getElem? (i := 1065) (by decide +kernel)⟩
theorem lw_p43 : lw_okq (⟨"FeetHornsModel", "takesTest", "()Z"⟩, 62) := ⟨⟨by decide +kernel, by decide +kernel⟩, List.mem_of_getElem? (i := 798) (by decide +kernel), List.mem_of_getElem? (i := 1068) (by decide +kernel), List.mem_of_getElem? (i := 1069) (by decide +kernel)⟩
theorem lw_p44 : lw_okq (⟨"FeetHornsModel", "place", "(I)I"⟩, 62) := ⟨⟨by decide +kernel, by decide +kernel⟩, List.mem_of_getElem? (i := 798) (by decide +kernel), List.mem_of_getElem? (i := 1072) (by decide +kernel), List.mem_of_getElem? (i := 1073) (by decide +kernel)⟩
theorem lw_p45 : lw_okq (⟨"FeetHornsModel", "emits", "(I)V"⟩, 62) := ⟨⟨by decide +kernel, by decide +kernel⟩, List.mem_of_getElem? (i := 798) (by decide +kernel), List.mem_of_getElem? (i := 1076) (by decide +kernel), List.mem_of_getElem? (i := 1077) (by decide +kernel)⟩
theorem lw_p46 : lw_okq (⟨"FeetHornsModel", "whole", "()V"⟩, 62) := ⟨⟨by decide +kernel, by decide +kernel⟩, List.mem_of_getElem? (i := 798) (by decide +kernel), List.mem_of_getElem? (i := 1080) (by decide +kernel), List.mem_of_getElem? (i := 1081) (by decide +kernel)⟩
theorem lw_p47 : lw_okq (⟨"FeetHornsModel", "settle", "(I)V"⟩, 62) := ⟨⟨by decide +kernel, by decide +kernel⟩, List.mem_of_getElem? (i := 798) (by decide +kernel), List.mem_of_getElem? (i := 1084) (by decide +kernel), List.mem_of_getElem? (i := 1085) (by decide +kernel)⟩
def lw_privs_3 : List (MethodName × Nat) := [(⟨"FeetHornsModel", "isDigit9", "(I)Z"⟩, 62), (⟨"FeetHornsModel", "isSort", "(I)Z"⟩, 62), (⟨"FeetHornsModel", "goesText", "(I)Z"⟩, 62), (⟨"FeetHornsModel", "takesClause", "(I)Z"⟩, 62), (⟨"FeetHornsModel", "takesHead", "(I)Z"⟩, 62), (⟨"FeetHornsModel", "next", "()I"⟩, 62), (⟨"FeetHornsModel", "takesWord", "(II)Z"⟩, 62), (⟨"FeetHornsModel", "takes", "(I)Z"⟩, 62), (⟨"FeetHornsModel", "takesNumber", "()Z"⟩, 62), (⟨"FeetHornsModel", "isDigit", "()Z"⟩, 62), (⟨"FeetHornsModel", "takesE", "(I)Z"⟩, 62), (⟨"FeetHornsModel", "takesTest", "()Z"⟩, 62), (⟨"FeetHornsModel", "place", "(I)I"⟩, 62), (⟨"FeetHornsModel", "emits", "(I)V"⟩, 62), (⟨"FeetHornsModel", "whole", "()V"⟩, 62), (⟨"FeetHornsModel", "settle", "(I)V"⟩, 62)]
theorem lw_r3 : ∀ q ∈ lw_privs_3, lw_okq q := List.forall_mem_cons.mpr ⟨lw_p32, List.forall_mem_cons.mpr ⟨lw_p33, List.forall_mem_cons.mpr ⟨lw_p34, List.forall_mem_cons.mpr ⟨lw_p35, List.forall_mem_cons.mpr ⟨lw_p36, List.forall_mem_cons.mpr ⟨lw_p37, List.forall_mem_cons.mpr ⟨lw_p38, List.forall_mem_cons.mpr ⟨lw_p39, List.forall_mem_cons.mpr ⟨lw_p40, List.forall_mem_cons.mpr ⟨lw_p41, List.forall_mem_cons.mpr ⟨lw_p42, List.forall_mem_cons.mpr ⟨lw_p43, List.forall_mem_cons.mpr ⟨lw_p44, List.forall_mem_cons.mpr ⟨lw_p45, List.forall_mem_cons.mpr ⟨lw_p46, List.forall_mem_cons.mpr ⟨lw_p47, fun _ h => absurd h List.not_mem_nil⟩⟩⟩⟩⟩⟩⟩⟩⟩⟩⟩⟩⟩⟩⟩⟩
theorem lw_p48 : lw_okq (⟨"FeetHornsModel", "layShows", "()V"⟩, 62) := ⟨⟨by decide +kernel, by decide +kernel⟩, List.mem_of_getElem? (i := 798) (by decide +kernel), List.mem_of_getElem? (i := 1092) (by decide +kernel), List.mem_of_getElem? (i := 1093) (by decide +kernel)⟩
theorem lw_p49 : lw_okq (⟨"FeetHornsModel", "sumOf", "(III)I"⟩, 62) := ⟨⟨by decide +kernel, by decide +kernel⟩, List.mem_of_getElem? (i := 798) (by decide +kernel), List.mem_of_getElem? (i := 1096) (by decide +kernel), List.mem_of_getElem? (i := 1097) (by decide +kernel)⟩
theorem lw_p50 : lw_okq (⟨"FeetHornsModel", "begin", "()I"⟩, 62) := ⟨⟨by decide +kernel, by decide +kernel⟩, List.mem_of_getElem? (i := 798) (by decide +kernel), List.mem_of_getElem? (i := 1100) (by decide +kernel), List.mem_of_getElem? (i := 1101) (by decide +kernel)⟩
theorem lw_p51 : lw_okq (⟨"FeetHornsModel", "behind", "()I"⟩, 62) := ⟨⟨by decide +kernel, by decide +kernel⟩, List.mem_of_getElem? (i := 798) (by decide +kernel), List.mem_of_getElem? (i := 1104) (by decide +kernel), List.mem_of_getElem? (i := 1105) (by decide +kernel)⟩
theorem lw_p52 : lw_okq (⟨"FeetHornsModel", "holds", "(III)Z"⟩, 62) := ⟨⟨by decide +kernel, by decide +kernel⟩, List.mem_of_getElem? (i := 798) (by decide +kernel), List.mem_of_getElem? (i := 1108) (by decide +kernel), List.mem_of_getElem? (i := 1109) (by decide +kernel)⟩
theorem lw_p53 : lw_okq (⟨"FeetHornsModel", "factOf", "(III)I"⟩, 62) := ⟨⟨by decide +kernel, by decide +kernel⟩, List.mem_of_getElem? (i := 798) (by decide +kernel), List.mem_of_getElem? (i := 1112) (by decide +kernel), List.mem_of_getElem? (i := 1113) (by decide +kernel)⟩
theorem lw_p54 : lw_okq (⟨"FeetHornsModel", "showsOf", "(II)I"⟩, 62) := ⟨⟨by decide +kernel, by decide +kernel⟩, List.mem_of_getElem? (i := 798) (by decide +kernel), List.mem_of_getElem? (i := 1116) (by decide +kernel), List.mem_of_getElem? (i := 1117) (by decide +kernel)⟩
theorem lw_p55 : lw_okq (⟨"FeetHornsModel", "ownCount", "(I)I"⟩, 62) := ⟨⟨by decide +kernel, by decide +kernel⟩, List.mem_of_getElem? (i := 798) (by decide +kernel), List.mem_of_getElem? (i := 1124) (by decide +kernel), List.mem_of_getElem? (i := 1125) (by decide +kernel)⟩
theorem lw_p56 : lw_okq (⟨"FeetHornsModel", "secondCount", "(I)I"⟩, 62) := ⟨⟨by decide +kernel, by decide +kernel⟩, List.mem_of_getElem? (i := 798) (by decide +kernel), List.mem_of_getElem? (i := 1128) (by decide +kernel), List.mem_of_getElem? (i := 1129) (by decide +kernel)⟩
theorem lw_p57 : lw_okq (⟨"FeetHornsModel", "mostNow", "()I"⟩, 62) := ⟨⟨by decide +kernel, by decide +kernel⟩, List.mem_of_getElem? (i := 798) (by decide +kernel), List.mem_of_getElem? (i := 1132) (by decide +kernel), List.mem_of_getElem? (i := 1133) (by decide +kernel)⟩
theorem lw_p58 : lw_okq (⟨"FeetHornsModel", "ownToll", "()I"⟩, 62) := ⟨⟨by decide +kernel, by decide +kernel⟩, List.mem_of_getElem? (i := 798) (by decide +kernel), List.mem_of_getElem? (i := 1136) (by decide +kernel), List.mem_of_getElem? (i := 1137) (by decide +kernel)⟩
theorem lw_p59 : lw_okq (⟨"FeetHornsModel", "secondToll", "()I"⟩, 62) := ⟨⟨by decide +kernel, by decide +kernel⟩, List.mem_of_getElem? (i := 798) (by decide +kernel), List.mem_of_getElem? (i := 1140) (by decide +kernel), List.mem_of_getElem? (i := 1141) (by decide +kernel)⟩
theorem lw_p60 : lw_okq (⟨"FeetHornsModel", "layFits", "()V"⟩, 62) := ⟨⟨by decide +kernel, by decide +kernel⟩, List.mem_of_getElem? (i := 798) (by decide +kernel), List.mem_of_getElem? (i := 1148) (by decide +kernel), List.mem_of_getElem? (i := 1149) (by decide +kernel)⟩
theorem lw_p61 : lw_okq (⟨"FeetHornsModel", "firstHerd", "()V"⟩, 62) := ⟨⟨by decide +kernel, by decide +kernel⟩, List.mem_of_getElem? (i := 798) (by decide +kernel), List.mem_of_getElem? (i := 1152) (by decide +kernel), List.mem_of_getElem? (i := 1153) (by decide +kernel)⟩
theorem lw_p62 : lw_okq (⟨"FeetHornsModel", "fitsNow", "()Z"⟩, 62) := ⟨⟨by decide +kernel, by decide +kernel⟩, List.mem_of_getElem? (i := 798) (by decide +kernel), List.mem_of_getElem? (i := 1156) (by decide +kernel), List.mem_of_getElem? (i := 1157) (by decide +kernel)⟩
theorem lw_p63 : lw_okq (⟨"FeetHornsModel", "countNow", "(I)I"⟩, 62) := ⟨⟨by decide +kernel, by decide +kernel⟩, List.mem_of_getElem? (i := 798) (by decide +kernel), List.mem_of_getElem? (i := 1160) (by decide +kernel), List.mem_of_getElem? (i := 1161) (by decide +kernel)⟩
def lw_privs_4 : List (MethodName × Nat) := [(⟨"FeetHornsModel", "layShows", "()V"⟩, 62), (⟨"FeetHornsModel", "sumOf", "(III)I"⟩, 62), (⟨"FeetHornsModel", "begin", "()I"⟩, 62), (⟨"FeetHornsModel", "behind", "()I"⟩, 62), (⟨"FeetHornsModel", "holds", "(III)Z"⟩, 62), (⟨"FeetHornsModel", "factOf", "(III)I"⟩, 62), (⟨"FeetHornsModel", "showsOf", "(II)I"⟩, 62), (⟨"FeetHornsModel", "ownCount", "(I)I"⟩, 62), (⟨"FeetHornsModel", "secondCount", "(I)I"⟩, 62), (⟨"FeetHornsModel", "mostNow", "()I"⟩, 62), (⟨"FeetHornsModel", "ownToll", "()I"⟩, 62), (⟨"FeetHornsModel", "secondToll", "()I"⟩, 62), (⟨"FeetHornsModel", "layFits", "()V"⟩, 62), (⟨"FeetHornsModel", "firstHerd", "()V"⟩, 62), (⟨"FeetHornsModel", "fitsNow", "()Z"⟩, 62), (⟨"FeetHornsModel", "countNow", "(I)I"⟩, 62)]
theorem lw_r4 : ∀ q ∈ lw_privs_4, lw_okq q := List.forall_mem_cons.mpr ⟨lw_p48, List.forall_mem_cons.mpr ⟨lw_p49, List.forall_mem_cons.mpr ⟨lw_p50, List.forall_mem_cons.mpr ⟨lw_p51, List.forall_mem_cons.mpr ⟨lw_p52, List.forall_mem_cons.mpr ⟨lw_p53, List.forall_mem_cons.mpr ⟨lw_p54, List.forall_mem_cons.mpr ⟨lw_p55, List.forall_mem_cons.mpr ⟨lw_p56, List.forall_mem_cons.mpr ⟨lw_p57, List.forall_mem_cons.mpr ⟨lw_p58, List.forall_mem_cons.mpr ⟨lw_p59, List.forall_mem_cons.mpr ⟨lw_p60, List.forall_mem_cons.mpr ⟨lw_p61, List.forall_mem_cons.mpr ⟨lw_p62, List.forall_mem_cons.mpr ⟨lw_p63, fun _ h => absurd h List.not_mem_nil⟩⟩⟩⟩⟩⟩⟩⟩⟩⟩⟩⟩⟩⟩⟩⟩
theorem lw_p64 : lw_okq (⟨"FeetHornsModel", "takeNow", "()V"⟩, 62) := ⟨⟨by decide +kernel, by decide +kernel⟩, List.mem_of_getElem? (i := 798) (by decide +kernel), List.mem_of_getElem? (i := 1164) (by decide +kernel), List.mem_of_getElem? (i := 1165) (by decide +kernel)⟩
theorem lw_p65 : lw_okq (⟨"FeetHornsModel", "tollNow", "()I"⟩, 62) := ⟨⟨by decide +kernel, by decide +kernel⟩, List.mem_of_getElem? (i := 798) (by decide +kernel), List.mem_of_getElem? (i := 1168) (by decide +kernel), List.mem_of_getElem? (i := 1169) (by decide +kernel)⟩
theorem lw_p66 : lw_okq (⟨"FeetHornsModel", "nextHerd", "(I)Z"⟩, 62) := ⟨⟨by decide +kernel, by decide +kernel⟩, List.mem_of_getElem? (i := 798) (by decide +kernel), List.mem_of_getElem? (i := 1172) (by decide +kernel), List.mem_of_getElem? (i := 1173) (by decide +kernel)⟩
theorem lw_p67 : lw_okq (⟨"FeetHornsModel", "divisor", "(II)I"⟩, 62) := ⟨⟨by decide +kernel, by decide +kernel⟩, List.mem_of_getElem? (i := 798) (by decide +kernel), List.mem_of_getElem? (i := 1180) (by decide +kernel), List.mem_of_getElem? (i := 1181) (by decide +kernel)⟩
theorem lw_p68 : lw_okq (⟨"FeetHornsModel", "layAlike", "(I)Z"⟩, 62) := ⟨⟨by decide +kernel, by decide +kernel⟩, List.mem_of_getElem? (i := 798) (by decide +kernel), List.mem_of_getElem? (i := 1192) (by decide +kernel), List.mem_of_getElem? (i := 1193) (by decide +kernel)⟩
theorem lw_p69 : lw_okq (⟨"FeetHornsModel", "isAsked", "()Z"⟩, 62) := ⟨⟨by decide +kernel, by decide +kernel⟩, List.mem_of_getElem? (i := 798) (by decide +kernel), List.mem_of_getElem? (i := 1196) (by decide +kernel), List.mem_of_getElem? (i := 1197) (by decide +kernel)⟩
theorem lw_p70 : lw_okq (⟨"FeetHornsModel", "moreNow", "()I"⟩, 62) := ⟨⟨by decide +kernel, by decide +kernel⟩, List.mem_of_getElem? (i := 798) (by decide +kernel), List.mem_of_getElem? (i := 1204) (by decide +kernel), List.mem_of_getElem? (i := 1205) (by decide +kernel)⟩
theorem lw_p71 : lw_okq (⟨"FeetHornsModel", "isFair", "(III)Z"⟩, 62) := ⟨⟨by decide +kernel, by decide +kernel⟩, List.mem_of_getElem? (i := 798) (by decide +kernel), List.mem_of_getElem? (i := 1217) (by decide +kernel), List.mem_of_getElem? (i := 1218) (by decide +kernel)⟩
theorem lw_p72 : lw_okq (⟨"FeetHornsModel", "isWithout", "(II)Z"⟩, 62) := ⟨⟨by decide +kernel, by decide +kernel⟩, List.mem_of_getElem? (i := 798) (by decide +kernel), List.mem_of_getElem? (i := 1225) (by decide +kernel), List.mem_of_getElem? (i := 1226) (by decide +kernel)⟩
theorem lw_p73 : lw_okq (⟨"FeetHornsModel", "lowest", "(III)J"⟩, 62) := ⟨⟨by decide +kernel, by decide +kernel⟩, List.mem_of_getElem? (i := 798) (by decide +kernel), List.mem_of_getElem? (i := 1238) (by decide +kernel), List.mem_of_getElem? (i := 1239) (by decide +kernel)⟩
theorem lw_p74 : lw_okq (⟨"FeetHornsModel", "isTape", "(I)Z"⟩, 62) := ⟨⟨by decide +kernel, by decide +kernel⟩, List.mem_of_getElem? (i := 798) (by decide +kernel), List.mem_of_getElem? (i := 1258) (by decide +kernel), List.mem_of_getElem? (i := 1259) (by decide +kernel)⟩
theorem lw_p75 : lw_okq (⟨"FeetHornsModel", "goesAct", "(II)I"⟩, 62) := ⟨⟨by decide +kernel, by decide +kernel⟩, List.mem_of_getElem? (i := 798) (by decide +kernel), List.mem_of_getElem? (i := 1274) (by decide +kernel), List.mem_of_getElem? (i := 1275) (by decide +kernel)⟩
theorem lw_p76 : lw_okq (⟨"FeetHornsModel", "body", "(I)V"⟩, 62) := ⟨⟨by decide +kernel, by decide +kernel⟩, List.mem_of_getElem? (i := 798) (by decide +kernel), List.mem_of_getElem? (i := 1278) (by decide +kernel), List.mem_of_getElem? (i := 1279) (by decide +kernel)⟩
theorem lw_p77 : lw_okq (⟨"FeetHornsModel", "beastGoes", "(II)I"⟩, 62) := ⟨⟨by decide +kernel, by decide +kernel⟩, List.mem_of_getElem? (i := 798) (by decide +kernel), List.mem_of_getElem? (i := 1282) (by decide +kernel), List.mem_of_getElem? (i := 1283) (by decide +kernel)⟩
theorem lw_p78 : lw_okq (⟨"FeetHornsModel", "showsAct", "(II)I"⟩, 62) := ⟨⟨by decide +kernel, by decide +kernel⟩, List.mem_of_getElem? (i := 798) (by decide +kernel), List.mem_of_getElem? (i := 1286) (by decide +kernel), List.mem_of_getElem? (i := 1287) (by decide +kernel)⟩
theorem lw_p79 : lw_okq (⟨"FeetHornsModel", "hornedShows", "(II)I"⟩, 62) := ⟨⟨by decide +kernel, by decide +kernel⟩, List.mem_of_getElem? (i := 798) (by decide +kernel), List.mem_of_getElem? (i := 1290) (by decide +kernel), List.mem_of_getElem? (i := 1291) (by decide +kernel)⟩
def lw_privs_5 : List (MethodName × Nat) := [(⟨"FeetHornsModel", "takeNow", "()V"⟩, 62), (⟨"FeetHornsModel", "tollNow", "()I"⟩, 62), (⟨"FeetHornsModel", "nextHerd", "(I)Z"⟩, 62), (⟨"FeetHornsModel", "divisor", "(II)I"⟩, 62), (⟨"FeetHornsModel", "layAlike", "(I)Z"⟩, 62), (⟨"FeetHornsModel", "isAsked", "()Z"⟩, 62), (⟨"FeetHornsModel", "moreNow", "()I"⟩, 62), (⟨"FeetHornsModel", "isFair", "(III)Z"⟩, 62), (⟨"FeetHornsModel", "isWithout", "(II)Z"⟩, 62), (⟨"FeetHornsModel", "lowest", "(III)J"⟩, 62), (⟨"FeetHornsModel", "isTape", "(I)Z"⟩, 62), (⟨"FeetHornsModel", "goesAct", "(II)I"⟩, 62), (⟨"FeetHornsModel", "body", "(I)V"⟩, 62), (⟨"FeetHornsModel", "beastGoes", "(II)I"⟩, 62), (⟨"FeetHornsModel", "showsAct", "(II)I"⟩, 62), (⟨"FeetHornsModel", "hornedShows", "(II)I"⟩, 62)]
theorem lw_r5 : ∀ q ∈ lw_privs_5, lw_okq q := List.forall_mem_cons.mpr ⟨lw_p64, List.forall_mem_cons.mpr ⟨lw_p65, List.forall_mem_cons.mpr ⟨lw_p66, List.forall_mem_cons.mpr ⟨lw_p67, List.forall_mem_cons.mpr ⟨lw_p68, List.forall_mem_cons.mpr ⟨lw_p69, List.forall_mem_cons.mpr ⟨lw_p70, List.forall_mem_cons.mpr ⟨lw_p71, List.forall_mem_cons.mpr ⟨lw_p72, List.forall_mem_cons.mpr ⟨lw_p73, List.forall_mem_cons.mpr ⟨lw_p74, List.forall_mem_cons.mpr ⟨lw_p75, List.forall_mem_cons.mpr ⟨lw_p76, List.forall_mem_cons.mpr ⟨lw_p77, List.forall_mem_cons.mpr ⟨lw_p78, List.forall_mem_cons.mpr ⟨lw_p79, fun _ h => absurd h List.not_mem_nil⟩⟩⟩⟩⟩⟩⟩⟩⟩⟩⟩⟩⟩⟩⟩⟩
theorem lw_p80 : lw_okq (⟨"FeetHornsModel", "beastShows", "(II)I"⟩, 62) := ⟨⟨by decide +kernel, by decide +kernel⟩, List.mem_of_getElem? (i := 798) (by decide +kernel), List.mem_of_getElem? (i := 1294) (by decide +kernel), List.mem_of_getElem? (i := 1295) (by decide +kernel)⟩
theorem lw_p81 : lw_okq (⟨"FeetHornsModel", "tellsAct", "(II)I"⟩, 62) := ⟨⟨by decide +kernel, by decide +kernel⟩, List.mem_of_getElem? (i := 798) (by decide +kernel), List.mem_of_getElem? (i := 1298) (by decide +kernel), List.mem_of_getElem? (i := 1299) (by decide +kernel)⟩
theorem lw_p82 : lw_okq (⟨"FeetHornsModel", "beastTells", "(II)I"⟩, 62) := ⟨⟨by decide +kernel, by decide +kernel⟩, List.mem_of_getElem? (i := 798) (by decide +kernel), List.mem_of_getElem? (i := 1302) (by decide +kernel), List.mem_of_getElem? (i := 1303) (by decide +kernel)⟩
theorem lw_p83 : lw_okq (⟨"FeetHornsModel", "narrow", "(IJ)J"⟩, 62) := ⟨⟨by decide +kernel, by decide +kernel⟩, List.mem_of_getElem? (i := 798) (by decide +kernel), List.mem_of_getElem? (i := 1326) (by decide +kernel), List.mem_of_getElem? (i := 1327) (by decide +kernel)⟩
def lw_privs_6 : List (MethodName × Nat) := [(⟨"FeetHornsModel", "beastShows", "(II)I"⟩, 62), (⟨"FeetHornsModel", "tellsAct", "(II)I"⟩, 62), (⟨"FeetHornsModel", "beastTells", "(II)I"⟩, 62), (⟨"FeetHornsModel", "narrow", "(IJ)J"⟩, 62)]
theorem lw_r6 : ∀ q ∈ lw_privs_6, lw_okq q := List.forall_mem_cons.mpr ⟨lw_p80, List.forall_mem_cons.mpr ⟨lw_p81, List.forall_mem_cons.mpr ⟨lw_p82, List.forall_mem_cons.mpr ⟨lw_p83, fun _ h => absurd h List.not_mem_nil⟩⟩⟩⟩
def lw_privs : List (MethodName × Nat) := lw_privs_1 ++ (lw_privs_2 ++ (lw_privs_3 ++ (lw_privs_4 ++ (lw_privs_5 ++ (lw_privs_6)))))
def lw_tbl : List Cond := k2_sels lw_privs ++ tables_1
theorem lw_privs_ok : ∀ q ∈ lw_privs, lw_okq q := by
  show ∀ q ∈ lw_privs_1 ++ (lw_privs_2 ++ (lw_privs_3 ++ (lw_privs_4 ++ (lw_privs_5 ++ (lw_privs_6))))), lw_okq q
  exact List.forall_mem_append.mpr ⟨lw_r1, List.forall_mem_append.mpr ⟨lw_r2, List.forall_mem_append.mpr ⟨lw_r3, List.forall_mem_append.mpr ⟨lw_r4, List.forall_mem_append.mpr ⟨lw_r5, lw_r6⟩⟩⟩⟩⟩
end
section
def RX0 : String := "FeetHorns$Acts"
def TX0 : u_T := fun k => match k with
  | 0 => ("FeetHorns$Acts", "ran", "I", false)
  | 1 => ("FeetHorns$Acts", "bodies", "[I", true)
  | 2 => ("FeetHorns$Acts", "kind", "I", false)
  | 3 => ("FeetHorns$Acts", "number", "I", false)
  | _ => ("FeetHorns$Acts", "v", "I", false)
def tyX0 : Nat → FieldType := fun k => match k with
  | 0 => .int
  | 1 => .array .int
  | 2 => .int
  | 3 => .int
  | _ => .int
abbrev wsX00 : List Cond := u_ws RX0 TX0 5
theorem nmX0 : ∀ a, a < 5 → ∀ b, b < 5 → a ≠ b → (TX0 a).2.1 ≠ (TX0 b).2.1 := by decide +kernel
theorem tyX0_ok : ∀ k, k < 5 → parseFieldDescriptor (TX0 k).2.2.1 = some (tyX0 k) := by decide +kernel
abbrev cX0_init : ByteArray := prog_2_method_1_code
def yX0_init : MethodName := ⟨RX0, "<init>", "()V"⟩
abbrev cX0_forget : ByteArray := prog_2_method_2_code
def yX0_forget : MethodName := ⟨RX0, "forget", "()V"⟩
abbrev cX0_start : ByteArray := prog_2_method_3_code
def yX0_start : MethodName := ⟨RX0, "start", "([IIII)I"⟩
abbrev cX0_run : ByteArray := prog_2_method_4_code
def yX0_run : MethodName := ⟨RX0, "run", "(IIII)I"⟩
abbrev cX0_begins : ByteArray := prog_2_method_5_code
def yX0_begins : MethodName := ⟨RX0, "begins", "(I)V"⟩
def RX1 : String := "FeetHorns$Fence"
def TX1 : u_T := fun k => match k with
  | 0 => ("FeetHorns$Fence", "clauses", "I", false)
  | 1 => ("FeetHorns$Fence", "codeLength", "I", false)
  | 2 => ("FeetHorns$Fence", "words", "[I", true)
  | 3 => ("FeetHorns$Fence", "numbers", "[I", true)
  | 4 => ("FeetHorns$Fence", "codeEnds", "[I", true)
  | _ => ("FeetHorns$Fence", "code", "[I", true)
def tyX1 : Nat → FieldType := fun k => match k with
  | 0 => .int
  | 1 => .int
  | 2 => .array .int
  | 3 => .array .int
  | 4 => .array .int
  | _ => .array .int
abbrev wsX10 : List Cond := u_ws RX1 TX1 6
theorem nmX1 : ∀ a, a < 6 → ∀ b, b < 6 → a ≠ b → (TX1 a).2.1 ≠ (TX1 b).2.1 := by decide +kernel
theorem tyX1_ok : ∀ k, k < 6 → parseFieldDescriptor (TX1 k).2.2.1 = some (tyX1 k) := by decide +kernel
abbrev cX1_init : ByteArray := prog_3_method_1_code
def yX1_init : MethodName := ⟨RX1, "<init>", "()V"⟩
abbrev cX1_clear : ByteArray := prog_3_method_2_code
def yX1_clear : MethodName := ⟨RX1, "clear", "()V"⟩
abbrev cX1_addCode : ByteArray := prog_3_method_3_code
def yX1_addCode : MethodName := ⟨RX1, "addCode", "(I)V"⟩
abbrev cX1_addClause : ByteArray := prog_3_method_4_code
def yX1_addClause : MethodName := ⟨RX1, "addClause", "(II)V"⟩
abbrev cX1_mostBeasts : ByteArray := prog_3_method_5_code
def yX1_mostBeasts : MethodName := ⟨RX1, "mostBeasts", "()I"⟩
abbrev cX1_sumOf : ByteArray := prog_3_method_6_code
def yX1_sumOf : MethodName := ⟨RX1, "sumOf", "(I[I)I"⟩
abbrev cX1_holds : ByteArray := prog_3_method_7_code
def yX1_holds : MethodName := ⟨RX1, "holds", "(I[I)Z"⟩
abbrev cX1_testCode : ByteArray := prog_3_method_8_code
def yX1_testCode : MethodName := ⟨RX1, "testCode", "(III)I"⟩
abbrev cX1_testHolds : ByteArray := prog_3_method_9_code
def yX1_testHolds : MethodName := ⟨RX1, "testHolds", "(I[I)Z"⟩
def RX2 : String := "FeetHorns$FenceText"
def TX2 : u_T := fun k => match k with
  | 0 => ("FeetHorns$FenceText", "signs", "[B", true)
  | 1 => ("FeetHorns$FenceText", "length", "I", false)
  | 2 => ("FeetHorns$FenceText", "place", "I", false)
  | 3 => ("FeetHorns$FenceText", "failed", "Z", false)
  | _ => ("FeetHorns$FenceText", "fence", "LFeetHorns$Fence;", false)
def tyX2 : Nat → FieldType := fun k => match k with
  | 0 => .array .byte
  | 1 => .int
  | 2 => .int
  | 3 => .boolean
  | _ => .object "FeetHorns$Fence"
abbrev wsX20 : List Cond := u_ws RX2 TX2 5
theorem nmX2 : ∀ a, a < 5 → ∀ b, b < 5 → a ≠ b → (TX2 a).2.1 ≠ (TX2 b).2.1 := by decide +kernel
theorem tyX2_ok : ∀ k, k < 5 → parseFieldDescriptor (TX2 k).2.2.1 = some (tyX2 k) := by decide +kernel
abbrev cX2_init : ByteArray := prog_4_method_1_code
def yX2_init : MethodName := ⟨RX2, "<init>", "()V"⟩
abbrev cX2_add : ByteArray := prog_4_method_2_code
def yX2_add : MethodName := ⟨RX2, "add", "(I)V"⟩
abbrev cX2_readInto : ByteArray := prog_4_method_3_code
def yX2_readInto : MethodName := ⟨RX2, "readInto", "(LFeetHorns$Fence;)I"⟩
abbrev cX2_readClause : ByteArray := prog_4_method_4_code
def yX2_readClause : MethodName := ⟨RX2, "readClause", "()V"⟩
abbrev cX2_readEither : ByteArray := prog_4_method_5_code
def yX2_readEither : MethodName := ⟨RX2, "readEither", "(I)V"⟩
abbrev cX2_readFactor : ByteArray := prog_4_method_6_code
def yX2_readFactor : MethodName := ⟨RX2, "readFactor", "(I)V"⟩
abbrev cX2_readTest : ByteArray := prog_4_method_7_code
def yX2_readTest : MethodName := ⟨RX2, "readTest", "()V"⟩
abbrev cX2_readNumber : ByteArray := prog_4_method_8_code
def yX2_readNumber : MethodName := ⟨RX2, "readNumber", "()I"⟩
abbrev cX2_isAt : ByteArray := prog_4_method_9_code
def yX2_isAt : MethodName := ⟨RX2, "isAt", "(C)Z"⟩
abbrev cX2_takes : ByteArray := prog_4_method_10_code
def yX2_takes : MethodName := ⟨RX2, "takes", "(C)Z"⟩
abbrev cX2_need : ByteArray := prog_4_method_11_code
def yX2_need : MethodName := ⟨RX2, "need", "(Ljava/lang/String;)V"⟩
abbrev cX2_takesOneOf : ByteArray := prog_4_method_12_code
def yX2_takesOneOf : MethodName := ⟨RX2, "takesOneOf", "(Ljava/lang/String;Z)I"⟩
def RX3 : String := "FeetHorns$Search"
def TX3 : u_T := fun k => match k with
  | 0 => ("FeetHorns$Search", "sight", "LFeetHorns$Sight;", true)
  | 1 => ("FeetHorns$Search", "row", "[I", true)
  | 2 => ("FeetHorns$Search", "counts", "[I", true)
  | 3 => ("FeetHorns$Search", "beasts", "I", false)
  | 4 => ("FeetHorns$Search", "toll", "I", false)
  | 5 => ("FeetHorns$Search", "ended", "Z", false)
  | 6 => ("FeetHorns$Search", "found", "I", false)
  | 7 => ("FeetHorns$Search", "least", "I", false)
  | 8 => ("FeetHorns$Search", "greatest", "I", false)
  | 9 => ("FeetHorns$Search", "first", "[I", true)
  | 10 => ("FeetHorns$Search", "having", "[I", true)
  | _ => ("FeetHorns$Search", "heads", "[I", true)
def tyX3 : Nat → FieldType := fun k => match k with
  | 0 => .object "FeetHorns$Sight"
  | 1 => .array .int
  | 2 => .array .int
  | 3 => .int
  | 4 => .int
  | 5 => .boolean
  | 6 => .int
  | 7 => .int
  | 8 => .int
  | 9 => .array .int
  | 10 => .array .int
  | _ => .array .int
abbrev wsX30 : List Cond := u_ws RX3 TX3 12
theorem nmX3 : ∀ a, a < 12 → ∀ b, b < 12 → a ≠ b → (TX3 a).2.1 ≠ (TX3 b).2.1 := by decide +kernel
theorem tyX3_ok : ∀ k, k < 12 → parseFieldDescriptor (TX3 k).2.2.1 = some (tyX3 k) := by decide +kernel
abbrev cX3_init : ByteArray := prog_5_method_1_code
def yX3_init : MethodName := ⟨RX3, "<init>", "(LFeetHorns$Sight;)V"⟩
abbrev cX3_find : ByteArray := prog_5_method_2_code
def yX3_find : MethodName := ⟨RX3, "find", "(I[I)V"⟩
abbrev cX3_leastExcess : ByteArray := prog_5_method_3_code
def yX3_leastExcess : MethodName := ⟨RX3, "leastExcess", "(I[I)I"⟩
abbrev cX3_begin : ByteArray := prog_5_method_4_code
def yX3_begin : MethodName := ⟨RX3, "begin", "()V"⟩
abbrev cX3_advance : ByteArray := prog_5_method_5_code
def yX3_advance : MethodName := ⟨RX3, "advance", "(IZ)V"⟩
abbrev cX3_addBeasts : ByteArray := prog_5_method_6_code
def yX3_addBeasts : MethodName := ⟨RX3, "addBeasts", "(II)V"⟩
abbrev cX3_excess : ByteArray := prog_5_method_7_code
def yX3_excess : MethodName := ⟨RX3, "excess", "([I)I"⟩
abbrev cX3_isBeyond : ByteArray := prog_5_method_8_code
def yX3_isBeyond : MethodName := ⟨RX3, "isBeyond", "([I)Z"⟩
abbrev cX3_keep : ByteArray := prog_5_method_9_code
def yX3_keep : MethodName := ⟨RX3, "keep", "()V"⟩
def RX4 : String := "FeetHorns$Sight"
def TX4 : u_T := fun k => match k with
  | 0 => ("FeetHorns$Sight", "sorts", "I", false)
  | 1 => ("FeetHorns$Sight", "most", "I", false)
  | 2 => ("FeetHorns$Sight", "shows", "[[I", true)
  | 3 => ("FeetHorns$Sight", "owes", "[I", true)
  | _ => ("FeetHorns$Sight", "letters", "[I", true)
def tyX4 : Nat → FieldType := fun k => match k with
  | 0 => .int
  | 1 => .int
  | 2 => .array (.array .int)
  | 3 => .array .int
  | _ => .array .int
abbrev wsX40 : List Cond := u_ws RX4 TX4 5
theorem nmX4 : ∀ a, a < 5 → ∀ b, b < 5 → a ≠ b → (TX4 a).2.1 ≠ (TX4 b).2.1 := by decide +kernel
theorem tyX4_ok : ∀ k, k < 5 → parseFieldDescriptor (TX4 k).2.2.1 = some (tyX4 k) := by decide +kernel
abbrev cX4_init : ByteArray := prog_6_method_1_code
def yX4_init : MethodName := ⟨RX4, "<init>", "()V"⟩
abbrev cX4_look : ByteArray := prog_6_method_2_code
def yX4_look : MethodName := ⟨RX4, "look", "(LFeetHorns$State;LFeetHorns$Fence;I)V"⟩
abbrev cX4_shown : ByteArray := prog_6_method_3_code
def yX4_shown : MethodName := ⟨RX4, "shown", "([IIIII)I"⟩
abbrev cX4_total : ByteArray := prog_6_method_4_code
def yX4_total : MethodName := ⟨RX4, "total", "([II)I"⟩
abbrev cX4_tollOf : ByteArray := prog_6_method_5_code
def yX4_tollOf : MethodName := ⟨RX4, "tollOf", "([I)I"⟩
def RX5 : String := "FeetHorns$State"
def TX5 : u_T := fun k => match k with
  | 0 => ("FeetHorns$State", "sorts", "I", false)
  | 1 => ("FeetHorns$State", "traits", "[[I", true)
  | 2 => ("FeetHorns$State", "rows", "[[I", true)
  | 3 => ("FeetHorns$State", "herds", "[[I", true)
  | 4 => ("FeetHorns$State", "month", "I", false)
  | 5 => ("FeetHorns$State", "told", "[I", true)
  | 6 => ("FeetHorns$State", "bookRows", "I", false)
  | 7 => ("FeetHorns$State", "bookHoles", "[I", true)
  | 8 => ("FeetHorns$State", "bookNumbers", "[I", true)
  | _ => ("FeetHorns$State", "fence", "I", false)
def tyX5 : Nat → FieldType := fun k => match k with
  | 0 => .int
  | 1 => .array (.array .int)
  | 2 => .array (.array .int)
  | 3 => .array (.array .int)
  | 4 => .int
  | 5 => .array .int
  | 6 => .int
  | 7 => .array .int
  | 8 => .array .int
  | _ => .int
abbrev wsX50 : List Cond := u_ws RX5 TX5 10
theorem nmX5 : ∀ a, a < 10 → ∀ b, b < 10 → a ≠ b → (TX5 a).2.1 ≠ (TX5 b).2.1 := by decide +kernel
theorem tyX5_ok : ∀ k, k < 10 → parseFieldDescriptor (TX5 k).2.2.1 = some (tyX5 k) := by decide +kernel
abbrev cX5_init : ByteArray := prog_7_method_1_code
def yX5_init : MethodName := ⟨RX5, "<init>", "()V"⟩
abbrev cX5_become : ByteArray := prog_7_method_2_code
def yX5_become : MethodName := ⟨RX5, "become", "(LFeetHorns$State;)V"⟩
def RX6 : String := "FeetHorns$Tape"
def TX6 : u_T := fun k => match k with
  | 0 => ("FeetHorns$Tape", "sort", "I", false)
  | 1 => ("FeetHorns$Tape", "length", "I", false)
  | _ => ("FeetHorns$Tape", "items", "[J", true)
def tyX6 : Nat → FieldType := fun k => match k with
  | 0 => .int
  | 1 => .int
  | _ => .array .long
abbrev wsX60 : List Cond := u_ws RX6 TX6 3
theorem nmX6 : ∀ a, a < 3 → ∀ b, b < 3 → a ≠ b → (TX6 a).2.1 ≠ (TX6 b).2.1 := by decide +kernel
theorem tyX6_ok : ∀ k, k < 3 → parseFieldDescriptor (TX6 k).2.2.1 = some (tyX6 k) := by decide +kernel
abbrev cX6_init : ByteArray := prog_8_method_1_code
def yX6_init : MethodName := ⟨RX6, "<init>", "()V"⟩
abbrev cX6_become : ByteArray := prog_8_method_2_code
def yX6_become : MethodName := ⟨RX6, "become", "(II)V"⟩
abbrev cX6_isEmpty : ByteArray := prog_8_method_3_code
def yX6_isEmpty : MethodName := ⟨RX6, "isEmpty", "()Z"⟩
abbrev cX6_has : ByteArray := prog_8_method_4_code
def yX6_has : MethodName := ⟨RX6, "has", "(I)Z"⟩
abbrev cX6_hasRun : ByteArray := prog_8_method_5_code
def yX6_hasRun : MethodName := ⟨RX6, "hasRun", "(II)Z"⟩
abbrev cX6_put : ByteArray := prog_8_method_6_code
def yX6_put : MethodName := ⟨RX6, "put", "(IJ)V"⟩
abbrev cX6_cut : ByteArray := prog_8_method_7_code
def yX6_cut : MethodName := ⟨RX6, "cut", "(J)J"⟩
def RX7 : String := "FeetHorns"
def TX7 : u_T := fun k => match k with
  | 0 => ("FeetHorns", "now", "LFeetHorns$State;", true)
  | 1 => ("FeetHorns", "kept", "LFeetHorns$State;", true)
  | 2 => ("FeetHorns", "hasImage", "Z", false)
  | 3 => ("FeetHorns", "text", "LFeetHorns$FenceText;", true)
  | 4 => ("FeetHorns", "openFence", "LFeetHorns$Fence;", true)
  | 5 => ("FeetHorns", "fences", "[LFeetHorns$Fence;", true)
  | 6 => ("FeetHorns", "fenceCount", "I", false)
  | 7 => ("FeetHorns", "sight", "LFeetHorns$Sight;", true)
  | 8 => ("FeetHorns", "search", "LFeetHorns$Search;", true)
  | 9 => ("FeetHorns", "wanted", "[I", true)
  | 10 => ("FeetHorns", "acts", "LFeetHorns$Acts;", true)
  | _ => ("FeetHorns", "tapes", "[LFeetHorns$Tape;", true)
def tyX7 : Nat → FieldType := fun k => match k with
  | 0 => .object "FeetHorns$State"
  | 1 => .object "FeetHorns$State"
  | 2 => .boolean
  | 3 => .object "FeetHorns$FenceText"
  | 4 => .object "FeetHorns$Fence"
  | 5 => .array (.object "FeetHorns$Fence")
  | 6 => .int
  | 7 => .object "FeetHorns$Sight"
  | 8 => .object "FeetHorns$Search"
  | 9 => .array .int
  | 10 => .object "FeetHorns$Acts"
  | _ => .array (.object "FeetHorns$Tape")
abbrev wsX70 : List Cond := u_ws RX7 TX7 12
theorem nmX7 : ∀ a, a < 12 → ∀ b, b < 12 → a ≠ b → (TX7 a).2.1 ≠ (TX7 b).2.1 := by decide +kernel
theorem tyX7_ok : ∀ k, k < 12 → parseFieldDescriptor (TX7 k).2.2.1 = some (tyX7 k) := by decide +kernel
abbrev cX7_init : ByteArray := prog_1_method_1_code
def yX7_init : MethodName := ⟨RX7, "<init>", "()V"⟩
abbrev cX7_sort : ByteArray := prog_1_method_2_code
def yX7_sort : MethodName := ⟨RX7, "sort", "(IIIIII)I"⟩
abbrev cX7_of : ByteArray := prog_1_method_3_code
def yX7_of : MethodName := ⟨RX7, "of", "(II)I"⟩
abbrev cX7_herd : ByteArray := prog_1_method_4_code
def yX7_herd : MethodName := ⟨RX7, "herd", "(III)I"⟩
abbrev cX7_row : ByteArray := prog_1_method_5_code
def yX7_row : MethodName := ⟨RX7, "row", "(III)I"⟩
abbrev cX7_month : ByteArray := prog_1_method_6_code
def yX7_month : MethodName := ⟨RX7, "month", "(I)I"⟩
abbrev cX7_tell : ByteArray := prog_1_method_7_code
def yX7_tell : MethodName := ⟨RX7, "tell", "(II)I"⟩
abbrev cX7_feed : ByteArray := prog_1_method_8_code
def yX7_feed : MethodName := ⟨RX7, "feed", "(I)I"⟩
abbrev cX7_fence : ByteArray := prog_1_method_9_code
def yX7_fence : MethodName := ⟨RX7, "fence", "()I"⟩
abbrev cX7_told : ByteArray := prog_1_method_10_code
def yX7_told : MethodName := ⟨RX7, "told", "(I)I"⟩
abbrev cX7_toldByHole : ByteArray := prog_1_method_11_code
def yX7_toldByHole : MethodName := ⟨RX7, "toldByHole", "(I)I"⟩
abbrev cX7_fits : ByteArray := prog_1_method_12_code
def yX7_fits : MethodName := ⟨RX7, "fits", "(I)I"⟩
abbrev cX7_bars : ByteArray := prog_1_method_13_code
def yX7_bars : MethodName := ⟨RX7, "bars", "()I"⟩
abbrev cX7_isBarred : ByteArray := prog_1_method_14_code
def yX7_isBarred : MethodName := ⟨RX7, "isBarred", "(II)Z"⟩
abbrev cX7_hole : ByteArray := prog_1_method_15_code
def yX7_hole : MethodName := ⟨RX7, "hole", "(I)I"⟩
abbrev cX7_foundIfTold : ByteArray := prog_1_method_16_code
def yX7_foundIfTold : MethodName := ⟨RX7, "foundIfTold", "(I)I"⟩
abbrev cX7_alike : ByteArray := prog_1_method_17_code
def yX7_alike : MethodName := ⟨RX7, "alike", "(I)I"⟩
abbrev cX7_missed : ByteArray := prog_1_method_18_code
def yX7_missed : MethodName := ⟨RX7, "missed", "()I"⟩
abbrev cX7_mix : ByteArray := prog_1_method_19_code
def yX7_mix : MethodName := ⟨RX7, "mix", "()I"⟩
abbrev cX7_prices : ByteArray := prog_1_method_20_code
def yX7_prices : MethodName := ⟨RX7, "prices", "(I)I"⟩
abbrev cX7_bestPrices : ByteArray := prog_1_method_21_code
def yX7_bestPrices : MethodName := ⟨RX7, "bestPrices", "([I)I"⟩
abbrev cX7_isFair : ByteArray := prog_1_method_22_code
def yX7_isFair : MethodName := ⟨RX7, "isFair", "(I)Z"⟩
abbrev cX7_pays : ByteArray := prog_1_method_23_code
def yX7_pays : MethodName := ⟨RX7, "pays", "(I[I)I"⟩
abbrev cX7_priceBy : ByteArray := prog_1_method_24_code
def yX7_priceBy : MethodName := ⟨RX7, "priceBy", "(II)I"⟩
abbrev cX7_hid : ByteArray := prog_1_method_25_code
def yX7_hid : MethodName := ⟨RX7, "hid", "()I"⟩
abbrev cX7_isToldWithout : ByteArray := prog_1_method_26_code
def yX7_isToldWithout : MethodName := ⟨RX7, "isToldWithout", "(II)Z"⟩
abbrev cX7_months : ByteArray := prog_1_method_27_code
def yX7_months : MethodName := ⟨RX7, "months", "()I"⟩
abbrev cX7_odds : ByteArray := prog_1_method_28_code
def yX7_odds : MethodName := ⟨RX7, "odds", "(II)J"⟩
abbrev cX7_mean : ByteArray := prog_1_method_29_code
def yX7_mean : MethodName := ⟨RX7, "mean", "(II)J"⟩
abbrev cX7_sharePerFittingHerd : ByteArray := prog_1_method_30_code
def yX7_sharePerFittingHerd : MethodName := ⟨RX7, "sharePerFittingHerd", "([III)J"⟩
abbrev cX7_book : ByteArray := prog_1_method_31_code
def yX7_book : MethodName := ⟨RX7, "book", "(II)I"⟩
abbrev cX7_looked : ByteArray := prog_1_method_32_code
def yX7_looked : MethodName := ⟨RX7, "looked", "()I"⟩
abbrev cX7_judge : ByteArray := prog_1_method_33_code
def yX7_judge : MethodName := ⟨RX7, "judge", "(II)I"⟩
abbrev cX7_image : ByteArray := prog_1_method_34_code
def yX7_image : MethodName := ⟨RX7, "image", "()I"⟩
abbrev cX7_undo : ByteArray := prog_1_method_35_code
def yX7_undo : MethodName := ⟨RX7, "undo", "()I"⟩
abbrev cX7_act : ByteArray := prog_1_method_36_code
def yX7_act : MethodName := ⟨RX7, "act", "(III)I"⟩
abbrev cX7_trace : ByteArray := prog_1_method_37_code
def yX7_trace : MethodName := ⟨RX7, "trace", "(I)I"⟩
abbrev cX7_taken : ByteArray := prog_1_method_38_code
def yX7_taken : MethodName := ⟨RX7, "taken", "(II)I"⟩
abbrev cX7_count : ByteArray := prog_1_method_39_code
def yX7_count : MethodName := ⟨RX7, "count", "(I)I"⟩
abbrev cX7_tape : ByteArray := prog_1_method_40_code
def yX7_tape : MethodName := ⟨RX7, "tape", "(III)I"⟩
abbrev cX7_item : ByteArray := prog_1_method_41_code
def yX7_item : MethodName := ⟨RX7, "item", "(IIJ)I"⟩
abbrev cX7_read : ByteArray := prog_1_method_42_code
def yX7_read : MethodName := ⟨RX7, "read", "(II)J"⟩
abbrev cX7_shift : ByteArray := prog_1_method_43_code
def yX7_shift : MethodName := ⟨RX7, "shift", "(IIIII)I"⟩
abbrev cX7_within : ByteArray := prog_1_method_44_code
def yX7_within : MethodName := ⟨RX7, "within", "(III)Z"⟩
abbrev cX7_isDigit : ByteArray := prog_1_method_45_code
def yX7_isDigit : MethodName := ⟨RX7, "isDigit", "(I)Z"⟩
abbrev cX7_isHole : ByteArray := prog_1_method_46_code
def yX7_isHole : MethodName := ⟨RX7, "isHole", "(I)Z"⟩
abbrev cX7_isTape : ByteArray := prog_1_method_47_code
def yX7_isTape : MethodName := ⟨RX7, "isTape", "(I)Z"⟩
abbrev cX7_isSort : ByteArray := prog_1_method_48_code
def yX7_isSort : MethodName := ⟨RX7, "isSort", "(I)Z"⟩
abbrev cX7_isKindOf : ByteArray := prog_1_method_49_code
def yX7_isKindOf : MethodName := ⟨RX7, "isKindOf", "(II)Z"⟩
abbrev cX7_commonDivisor : ByteArray := prog_1_method_50_code
def yX7_commonDivisor : MethodName := ⟨RX7, "commonDivisor", "(JJ)J"⟩
abbrev cX7_holdingFence : ByteArray := prog_1_method_51_code
def yX7_holdingFence : MethodName := ⟨RX7, "holdingFence", "()LFeetHorns$Fence;"⟩
abbrev cX7_look : ByteArray := prog_1_method_52_code
def yX7_look : MethodName := ⟨RX7, "look", "()V"⟩
abbrev cX7_searchFitting : ByteArray := prog_1_method_53_code
def yX7_searchFitting : MethodName := ⟨RX7, "searchFitting", "()V"⟩
abbrev cX7_wantCountsOfHerd : ByteArray := prog_1_method_54_code
def yX7_wantCountsOfHerd : MethodName := ⟨RX7, "wantCountsOfHerd", "()V"⟩
def RX8 : String := "FeetHornsModel"
def TX8 : u_T := fun k => match k with
  | 0 => ("FeetHornsModel", "sorts", "I", false)
  | 1 => ("FeetHornsModel", "month", "I", false)
  | 2 => ("FeetHornsModel", "kind", "[I", true)
  | 3 => ("FeetHornsModel", "v", "[I", true)
  | 4 => ("FeetHornsModel", "base", "[I", true)
  | 5 => ("FeetHornsModel", "toll", "[I", true)
  | 6 => ("FeetHornsModel", "own", "[I", true)
  | 7 => ("FeetHornsModel", "second", "[I", true)
  | 8 => ("FeetHornsModel", "rows", "[I", true)
  | 9 => ("FeetHornsModel", "tells", "[I", true)
  | 10 => ("FeetHornsModel", "fences", "I", false)
  | 11 => ("FeetHornsModel", "the", "I", false)
  | 12 => ("FeetHornsModel", "fed", "I", false)
  | 13 => ("FeetHornsModel", "at", "I", false)
  | 14 => ("FeetHornsModel", "digits", "I", false)
  | 15 => ("FeetHornsModel", "text", "[I", true)
  | 16 => ("FeetHornsModel", "clauses", "[I", true)
  | 17 => ("FeetHornsModel", "word", "[I", true)
  | 18 => ("FeetHornsModel", "number", "[I", true)
  | 19 => ("FeetHornsModel", "from", "[I", true)
  | 20 => ("FeetHornsModel", "to", "[I", true)
  | 21 => ("FeetHornsModel", "sign", "[I", true)
  | 22 => ("FeetHornsModel", "waits", "[I", true)
  | 23 => ("FeetHornsModel", "signs", "I", false)
  | 24 => ("FeetHornsModel", "waiting", "I", false)
  | 25 => ("FeetHornsModel", "open", "I", false)
  | 26 => ("FeetHornsModel", "letters", "[I", true)
  | 27 => ("FeetHornsModel", "pile", "[Z", true)
  | 28 => ("FeetHornsModel", "shows", "[I", true)
  | 29 => ("FeetHornsModel", "owes", "[I", true)
  | 30 => ("FeetHornsModel", "now", "[I", true)
  | 31 => ("FeetHornsModel", "best", "[I", true)
  | 32 => ("FeetHornsModel", "sum", "[I", true)
  | 33 => ("FeetHornsModel", "beasts", "I", false)
  | 34 => ("FeetHornsModel", "fitting", "I", false)
  | 35 => ("FeetHornsModel", "least", "I", false)
  | 36 => ("FeetHornsModel", "greatest", "I", false)
  | 37 => ("FeetHornsModel", "asked", "[I", true)
  | 38 => ("FeetHornsModel", "books", "I", false)
  | 39 => ("FeetHornsModel", "bookHole", "[I", true)
  | 40 => ("FeetHornsModel", "bookMany", "[I", true)
  | 41 => ("FeetHornsModel", "hasImage", "Z", false)
  | 42 => ("FeetHornsModel", "imageThe", "I", false)
  | 43 => ("FeetHornsModel", "imageSorts", "I", false)
  | 44 => ("FeetHornsModel", "imageMonth", "I", false)
  | 45 => ("FeetHornsModel", "imageBooks", "I", false)
  | 46 => ("FeetHornsModel", "imageKind", "[I", true)
  | 47 => ("FeetHornsModel", "imageV", "[I", true)
  | 48 => ("FeetHornsModel", "imageBase", "[I", true)
  | 49 => ("FeetHornsModel", "imageToll", "[I", true)
  | 50 => ("FeetHornsModel", "imageOwn", "[I", true)
  | 51 => ("FeetHornsModel", "imageSecond", "[I", true)
  | 52 => ("FeetHornsModel", "imageRows", "[I", true)
  | 53 => ("FeetHornsModel", "imageTells", "[I", true)
  | 54 => ("FeetHornsModel", "imageHole", "[I", true)
  | 55 => ("FeetHornsModel", "imageMany", "[I", true)
  | 56 => ("FeetHornsModel", "ran", "I", false)
  | 57 => ("FeetHornsModel", "bodies", "[I", true)
  | 58 => ("FeetHornsModel", "sort", "[I", true)
  | 59 => ("FeetHornsModel", "length", "[I", true)
  | 60 => ("FeetHornsModel", "item", "[J", true)
  | _ => ("FeetHornsModel", "aside", "[J", true)
def tyX8 : Nat → FieldType := fun k => match k with
  | 0 => .int
  | 1 => .int
  | 2 => .array .int
  | 3 => .array .int
  | 4 => .array .int
  | 5 => .array .int
  | 6 => .array .int
  | 7 => .array .int
  | 8 => .array .int
  | 9 => .array .int
  | 10 => .int
  | 11 => .int
  | 12 => .int
  | 13 => .int
  | 14 => .int
  | 15 => .array .int
  | 16 => .array .int
  | 17 => .array .int
  | 18 => .array .int
  | 19 => .array .int
  | 20 => .array .int
  | 21 => .array .int
  | 22 => .array .int
  | 23 => .int
  | 24 => .int
  | 25 => .int
  | 26 => .array .int
  | 27 => .array .boolean
  | 28 => .array .int
  | 29 => .array .int
  | 30 => .array .int
  | 31 => .array .int
  | 32 => .array .int
  | 33 => .int
  | 34 => .int
  | 35 => .int
  | 36 => .int
  | 37 => .array .int
  | 38 => .int
  | 39 => .array .int
  | 40 => .array .int
  | 41 => .boolean
  | 42 => .int
  | 43 => .int
  | 44 => .int
  | 45 => .int
  | 46 => .array .int
  | 47 => .array .int
  | 48 => .array .int
  | 49 => .array .int
  | 50 => .array .int
  | 51 => .array .int
  | 52 => .array .int
  | 53 => .array .int
  | 54 => .array .int
  | 55 => .array .int
  | 56 => .int
  | 57 => .array .int
  | 58 => .array .int
  | 59 => .array .int
  | 60 => .array .long
  | _ => .array .long
abbrev wsX80 : List Cond := u_ws RX8 TX8 62
theorem nmX8 : ∀ a, a < 62 → ∀ b, b < 62 → a ≠ b → (TX8 a).2.1 ≠ (TX8 b).2.1 := by decide +kernel
theorem tyX8_ok : ∀ k, k < 62 → parseFieldDescriptor (TX8 k).2.2.1 = some (tyX8 k) := by decide +kernel
abbrev cX8_init : ByteArray := prog_10_method_1_code
def yX8_init : MethodName := ⟨RX8, "<init>", "()V"⟩
abbrev cX8_in : ByteArray := prog_10_method_2_code
def yX8_in : MethodName := ⟨RX8, "in", "(III)Z"⟩
abbrev cX8_isSort : ByteArray := prog_10_method_3_code
def yX8_isSort : MethodName := ⟨RX8, "isSort", "(I)Z"⟩
abbrev cX8_isDigit9 : ByteArray := prog_10_method_4_code
def yX8_isDigit9 : MethodName := ⟨RX8, "isDigit9", "(I)Z"⟩
abbrev cX8_sort : ByteArray := prog_10_method_5_code
def yX8_sort : MethodName := ⟨RX8, "sort", "(IIIIII)I"⟩
abbrev cX8_herd : ByteArray := prog_10_method_6_code
def yX8_herd : MethodName := ⟨RX8, "herd", "(III)I"⟩
abbrev cX8_row : ByteArray := prog_10_method_7_code
def yX8_row : MethodName := ⟨RX8, "row", "(III)I"⟩
abbrev cX8_month : ByteArray := prog_10_method_8_code
def yX8_month : MethodName := ⟨RX8, "month", "(I)I"⟩
abbrev cX8_tell : ByteArray := prog_10_method_9_code
def yX8_tell : MethodName := ⟨RX8, "tell", "(II)I"⟩
abbrev cX8_feed : ByteArray := prog_10_method_10_code
def yX8_feed : MethodName := ⟨RX8, "feed", "(I)I"⟩
abbrev cX8_next : ByteArray := prog_10_method_11_code
def yX8_next : MethodName := ⟨RX8, "next", "()I"⟩
abbrev cX8_takes : ByteArray := prog_10_method_12_code
def yX8_takes : MethodName := ⟨RX8, "takes", "(I)Z"⟩
abbrev cX8_takesWord : ByteArray := prog_10_method_13_code
def yX8_takesWord : MethodName := ⟨RX8, "takesWord", "(II)Z"⟩
abbrev cX8_isDigit : ByteArray := prog_10_method_14_code
def yX8_isDigit : MethodName := ⟨RX8, "isDigit", "()Z"⟩
abbrev cX8_takesNumber : ByteArray := prog_10_method_15_code
def yX8_takesNumber : MethodName := ⟨RX8, "takesNumber", "()Z"⟩
abbrev cX8_emits : ByteArray := prog_10_method_16_code
def yX8_emits : MethodName := ⟨RX8, "emits", "(I)V"⟩
abbrev cX8_whole : ByteArray := prog_10_method_17_code
def yX8_whole : MethodName := ⟨RX8, "whole", "()V"⟩
abbrev cX8_settle : ByteArray := prog_10_method_18_code
def yX8_settle : MethodName := ⟨RX8, "settle", "(I)V"⟩
abbrev cX8_place : ByteArray := prog_10_method_19_code
def yX8_place : MethodName := ⟨RX8, "place", "(I)I"⟩
abbrev cX8_takesTest : ByteArray := prog_10_method_20_code
def yX8_takesTest : MethodName := ⟨RX8, "takesTest", "()Z"⟩
abbrev cX8_takesE : ByteArray := prog_10_method_21_code
def yX8_takesE : MethodName := ⟨RX8, "takesE", "(I)Z"⟩
abbrev cX8_takesHead : ByteArray := prog_10_method_22_code
def yX8_takesHead : MethodName := ⟨RX8, "takesHead", "(I)Z"⟩
abbrev cX8_takesClause : ByteArray := prog_10_method_23_code
def yX8_takesClause : MethodName := ⟨RX8, "takesClause", "(I)Z"⟩
abbrev cX8_goesText : ByteArray := prog_10_method_24_code
def yX8_goesText : MethodName := ⟨RX8, "goesText", "(I)Z"⟩
abbrev cX8_fence : ByteArray := prog_10_method_25_code
def yX8_fence : MethodName := ⟨RX8, "fence", "()I"⟩
abbrev cX8_begin : ByteArray := prog_10_method_26_code
def yX8_begin : MethodName := ⟨RX8, "begin", "()I"⟩
abbrev cX8_behind : ByteArray := prog_10_method_27_code
def yX8_behind : MethodName := ⟨RX8, "behind", "()I"⟩
abbrev cX8_mostNow : ByteArray := prog_10_method_28_code
def yX8_mostNow : MethodName := ⟨RX8, "mostNow", "()I"⟩
abbrev cX8_factOf : ByteArray := prog_10_method_29_code
def yX8_factOf : MethodName := ⟨RX8, "factOf", "(III)I"⟩
abbrev cX8_holds : ByteArray := prog_10_method_30_code
def yX8_holds : MethodName := ⟨RX8, "holds", "(III)Z"⟩
abbrev cX8_sumOf : ByteArray := prog_10_method_31_code
def yX8_sumOf : MethodName := ⟨RX8, "sumOf", "(III)I"⟩
abbrev cX8_showsOf : ByteArray := prog_10_method_32_code
def yX8_showsOf : MethodName := ⟨RX8, "showsOf", "(II)I"⟩
abbrev cX8_layShows : ByteArray := prog_10_method_33_code
def yX8_layShows : MethodName := ⟨RX8, "layShows", "()V"⟩
abbrev cX8_ownCount : ByteArray := prog_10_method_34_code
def yX8_ownCount : MethodName := ⟨RX8, "ownCount", "(I)I"⟩
abbrev cX8_secondCount : ByteArray := prog_10_method_35_code
def yX8_secondCount : MethodName := ⟨RX8, "secondCount", "(I)I"⟩
abbrev cX8_ownToll : ByteArray := prog_10_method_36_code
def yX8_ownToll : MethodName := ⟨RX8, "ownToll", "()I"⟩
abbrev cX8_secondToll : ByteArray := prog_10_method_37_code
def yX8_secondToll : MethodName := ⟨RX8, "secondToll", "()I"⟩
abbrev cX8_of : ByteArray := prog_10_method_38_code
def yX8_of : MethodName := ⟨RX8, "of", "(II)I"⟩
abbrev cX8_told : ByteArray := prog_10_method_39_code
def yX8_told : MethodName := ⟨RX8, "told", "(I)I"⟩
abbrev cX8_firstHerd : ByteArray := prog_10_method_40_code
def yX8_firstHerd : MethodName := ⟨RX8, "firstHerd", "()V"⟩
abbrev cX8_nextHerd : ByteArray := prog_10_method_41_code
def yX8_nextHerd : MethodName := ⟨RX8, "nextHerd", "(I)Z"⟩
abbrev cX8_countNow : ByteArray := prog_10_method_42_code
def yX8_countNow : MethodName := ⟨RX8, "countNow", "(I)I"⟩
abbrev cX8_tollNow : ByteArray := prog_10_method_43_code
def yX8_tollNow : MethodName := ⟨RX8, "tollNow", "()I"⟩
abbrev cX8_fitsNow : ByteArray := prog_10_method_44_code
def yX8_fitsNow : MethodName := ⟨RX8, "fitsNow", "()Z"⟩
abbrev cX8_takeNow : ByteArray := prog_10_method_45_code
def yX8_takeNow : MethodName := ⟨RX8, "takeNow", "()V"⟩
abbrev cX8_layFits : ByteArray := prog_10_method_46_code
def yX8_layFits : MethodName := ⟨RX8, "layFits", "()V"⟩
abbrev cX8_fits : ByteArray := prog_10_method_47_code
def yX8_fits : MethodName := ⟨RX8, "fits", "(I)I"⟩
abbrev cX8_divisor : ByteArray := prog_10_method_48_code
def yX8_divisor : MethodName := ⟨RX8, "divisor", "(II)I"⟩
abbrev cX8_bars : ByteArray := prog_10_method_49_code
def yX8_bars : MethodName := ⟨RX8, "bars", "()I"⟩
abbrev cX8_hole : ByteArray := prog_10_method_50_code
def yX8_hole : MethodName := ⟨RX8, "hole", "(I)I"⟩
abbrev cX8_isAsked : ByteArray := prog_10_method_51_code
def yX8_isAsked : MethodName := ⟨RX8, "isAsked", "()Z"⟩
abbrev cX8_layAlike : ByteArray := prog_10_method_52_code
def yX8_layAlike : MethodName := ⟨RX8, "layAlike", "(I)Z"⟩
abbrev cX8_alike : ByteArray := prog_10_method_53_code
def yX8_alike : MethodName := ⟨RX8, "alike", "(I)I"⟩
abbrev cX8_moreNow : ByteArray := prog_10_method_54_code
def yX8_moreNow : MethodName := ⟨RX8, "moreNow", "()I"⟩
abbrev cX8_missed : ByteArray := prog_10_method_55_code
def yX8_missed : MethodName := ⟨RX8, "missed", "()I"⟩
abbrev cX8_mix : ByteArray := prog_10_method_56_code
def yX8_mix : MethodName := ⟨RX8, "mix", "()I"⟩
abbrev cX8_isFair : ByteArray := prog_10_method_57_code
def yX8_isFair : MethodName := ⟨RX8, "isFair", "(III)Z"⟩
abbrev cX8_prices : ByteArray := prog_10_method_58_code
def yX8_prices : MethodName := ⟨RX8, "prices", "(I)I"⟩
abbrev cX8_isWithout : ByteArray := prog_10_method_59_code
def yX8_isWithout : MethodName := ⟨RX8, "isWithout", "(II)Z"⟩
abbrev cX8_hid : ByteArray := prog_10_method_60_code
def yX8_hid : MethodName := ⟨RX8, "hid", "()I"⟩
abbrev cX8_months : ByteArray := prog_10_method_61_code
def yX8_months : MethodName := ⟨RX8, "months", "()I"⟩
abbrev cX8_lowest : ByteArray := prog_10_method_62_code
def yX8_lowest : MethodName := ⟨RX8, "lowest", "(III)J"⟩
abbrev cX8_odds : ByteArray := prog_10_method_63_code
def yX8_odds : MethodName := ⟨RX8, "odds", "(II)J"⟩
abbrev cX8_mean : ByteArray := prog_10_method_64_code
def yX8_mean : MethodName := ⟨RX8, "mean", "(II)J"⟩
abbrev cX8_book : ByteArray := prog_10_method_65_code
def yX8_book : MethodName := ⟨RX8, "book", "(II)I"⟩
abbrev cX8_looked : ByteArray := prog_10_method_66_code
def yX8_looked : MethodName := ⟨RX8, "looked", "()I"⟩
abbrev cX8_judge : ByteArray := prog_10_method_67_code
def yX8_judge : MethodName := ⟨RX8, "judge", "(II)I"⟩
abbrev cX8_image : ByteArray := prog_10_method_68_code
def yX8_image : MethodName := ⟨RX8, "image", "()I"⟩
abbrev cX8_undo : ByteArray := prog_10_method_69_code
def yX8_undo : MethodName := ⟨RX8, "undo", "()I"⟩
abbrev cX8_body : ByteArray := prog_10_method_70_code
def yX8_body : MethodName := ⟨RX8, "body", "(I)V"⟩
abbrev cX8_beastGoes : ByteArray := prog_10_method_71_code
def yX8_beastGoes : MethodName := ⟨RX8, "beastGoes", "(II)I"⟩
abbrev cX8_goesAct : ByteArray := prog_10_method_72_code
def yX8_goesAct : MethodName := ⟨RX8, "goesAct", "(II)I"⟩
abbrev cX8_beastShows : ByteArray := prog_10_method_73_code
def yX8_beastShows : MethodName := ⟨RX8, "beastShows", "(II)I"⟩
abbrev cX8_hornedShows : ByteArray := prog_10_method_74_code
def yX8_hornedShows : MethodName := ⟨RX8, "hornedShows", "(II)I"⟩
abbrev cX8_showsAct : ByteArray := prog_10_method_75_code
def yX8_showsAct : MethodName := ⟨RX8, "showsAct", "(II)I"⟩
abbrev cX8_beastTells : ByteArray := prog_10_method_76_code
def yX8_beastTells : MethodName := ⟨RX8, "beastTells", "(II)I"⟩
abbrev cX8_tellsAct : ByteArray := prog_10_method_77_code
def yX8_tellsAct : MethodName := ⟨RX8, "tellsAct", "(II)I"⟩
abbrev cX8_act : ByteArray := prog_10_method_78_code
def yX8_act : MethodName := ⟨RX8, "act", "(III)I"⟩
abbrev cX8_trace : ByteArray := prog_10_method_79_code
def yX8_trace : MethodName := ⟨RX8, "trace", "(I)I"⟩
abbrev cX8_taken : ByteArray := prog_10_method_80_code
def yX8_taken : MethodName := ⟨RX8, "taken", "(II)I"⟩
abbrev cX8_count : ByteArray := prog_10_method_81_code
def yX8_count : MethodName := ⟨RX8, "count", "(I)I"⟩
abbrev cX8_isTape : ByteArray := prog_10_method_82_code
def yX8_isTape : MethodName := ⟨RX8, "isTape", "(I)Z"⟩
abbrev cX8_tape : ByteArray := prog_10_method_83_code
def yX8_tape : MethodName := ⟨RX8, "tape", "(III)I"⟩
abbrev cX8_narrow : ByteArray := prog_10_method_84_code
def yX8_narrow : MethodName := ⟨RX8, "narrow", "(IJ)J"⟩
abbrev cX8_item : ByteArray := prog_10_method_85_code
def yX8_item : MethodName := ⟨RX8, "item", "(IIJ)I"⟩
abbrev cX8_read : ByteArray := prog_10_method_86_code
def yX8_read : MethodName := ⟨RX8, "read", "(II)J"⟩
abbrev cX8_shift : ByteArray := prog_10_method_87_code
def yX8_shift : MethodName := ⟨RX8, "shift", "(IIIII)I"⟩
def RJ11 : String := "java/lang/Character"
abbrev cJ11_isValidCodePoint_9a6ad : ByteArray := prog_11_method_11_code
def yJ11_isValidCodePoint_9a6ad : MethodName := ⟨RJ11, "isValidCodePoint", "(I)Z"⟩
abbrev cJ11_highSurrogate_5068e : ByteArray := prog_11_method_28_code
def yJ11_highSurrogate_5068e : MethodName := ⟨RJ11, "highSurrogate", "(I)C"⟩
abbrev cJ11_lowSurrogate_5068e : ByteArray := prog_11_method_29_code
def yJ11_lowSurrogate_5068e : MethodName := ⟨RJ11, "lowSurrogate", "(I)C"⟩
def RJ9 : String := "java/lang/Math"
abbrev cJ9_max_7cf53 : ByteArray := prog_12_method_65_code
def yJ9_max_7cf53 : MethodName := ⟨RJ9, "max", "(II)I"⟩
abbrev cJ9_min_7cf53 : ByteArray := prog_12_method_69_code
def yJ9_min_7cf53 : MethodName := ⟨RJ9, "min", "(II)I"⟩
def RJ0 : String := "java/lang/String"
abbrev cJ0_length_8abf5 : ByteArray := prog_13_method_54_code
def yJ0_length_8abf5 : MethodName := ⟨RJ0, "length", "()I"⟩
abbrev cJ0_charAt_5068e : ByteArray := prog_13_method_56_code
def yJ0_charAt_5068e : MethodName := ⟨RJ0, "charAt", "(I)C"⟩
abbrev cJ0_indexOf_0f7a4 : ByteArray := prog_13_method_79_code
def yJ0_indexOf_0f7a4 : MethodName := ⟨RJ0, "indexOf", "(I)I"⟩
abbrev cJ0_indexOf_7cf53 : ByteArray := prog_13_method_80_code
def yJ0_indexOf_7cf53 : MethodName := ⟨RJ0, "indexOf", "(II)I"⟩
abbrev cJ0_coder_7d493 : ByteArray := prog_13_method_152_code
def yJ0_coder_7d493 : MethodName := ⟨RJ0, "coder", "()B"⟩
abbrev cJ0_isLatin1_aae02 : ByteArray := prog_13_method_154_code
def yJ0_isLatin1_aae02 : MethodName := ⟨RJ0, "isLatin1", "()Z"⟩
abbrev cJ0_checkIndex_df160 : ByteArray := prog_13_method_155_code
def yJ0_checkIndex_df160 : MethodName := ⟨RJ0, "checkIndex", "(II)V"⟩
abbrev cJ0_checkBoundsBeginEnd_23922 : ByteArray := prog_13_method_158_code
def yJ0_checkBoundsBeginEnd_23922 : MethodName := ⟨RJ0, "checkBoundsBeginEnd", "(III)V"⟩
def RJ1 : String := "java/lang/StringLatin1"
abbrev cJ1_charAt_3b067 : ByteArray := prog_14_method_2_code
def yJ1_charAt_3b067 : MethodName := ⟨RJ1, "charAt", "([BI)C"⟩
abbrev cJ1_canEncode_9a6ad : ByteArray := prog_14_method_4_code
def yJ1_canEncode_9a6ad : MethodName := ⟨RJ1, "canEncode", "(I)Z"⟩
abbrev cJ1_indexOf_4cfef : ByteArray := prog_14_method_22_code
def yJ1_indexOf_4cfef : MethodName := ⟨RJ1, "indexOf", "([BIII)I"⟩
abbrev cJ1_indexOfChar_4cfef : ByteArray := prog_14_method_23_code
def yJ1_indexOfChar_4cfef : MethodName := ⟨RJ1, "indexOfChar", "([BIII)I"⟩
def RJ2 : String := "java/lang/StringUTF16"
abbrev cJ2_getChar_3b067 : ByteArray := prog_15_method_5_code
def yJ2_getChar_3b067 : MethodName := ⟨RJ2, "getChar", "([BI)C"⟩
abbrev cJ2_length_9d52b : ByteArray := prog_15_method_6_code
def yJ2_length_9d52b : MethodName := ⟨RJ2, "length", "([B)I"⟩
abbrev cJ2_indexOf_4cfef : ByteArray := prog_15_method_40_code
def yJ2_indexOf_4cfef : MethodName := ⟨RJ2, "indexOf", "([BIII)I"⟩
abbrev cJ2_indexOfChar_4cfef : ByteArray := prog_15_method_47_code
def yJ2_indexOfChar_4cfef : MethodName := ⟨RJ2, "indexOfChar", "([BIII)I"⟩
abbrev cJ2_indexOfCharUnsafe_4cfef : ByteArray := prog_15_method_48_code
def yJ2_indexOfCharUnsafe_4cfef : MethodName := ⟨RJ2, "indexOfCharUnsafe", "([BIII)I"⟩
abbrev cJ2_indexOfSupplementary_4cfef : ByteArray := prog_15_method_49_code
def yJ2_indexOfSupplementary_4cfef : MethodName := ⟨RJ2, "indexOfSupplementary", "([BIII)I"⟩
abbrev cJ2_charAt_3b067 : ByteArray := prog_15_method_83_code
def yJ2_charAt_3b067 : MethodName := ⟨RJ2, "charAt", "([BI)C"⟩
abbrev cJ2_checkIndex_2214a : ByteArray := prog_15_method_91_code
def yJ2_checkIndex_2214a : MethodName := ⟨RJ2, "checkIndex", "(I[B)V"⟩
abbrev cJ2_checkBoundsBeginEnd_d044e : ByteArray := prog_15_method_93_code
def yJ2_checkBoundsBeginEnd_d044e : MethodName := ⟨RJ2, "checkBoundsBeginEnd", "(II[B)V"⟩
def RJ10 : String := "java/lang/System"
def RJ7 : String := "java/util/Arrays"
abbrev cJ7_fill_d0a16 : ByteArray := prog_17_method_101_code
def yJ7_fill_d0a16 : MethodName := ⟨RJ7, "fill", "([JJ)V"⟩
abbrev cJ7_fill_53178 : ByteArray := prog_17_method_103_code
def yJ7_fill_53178 : MethodName := ⟨RJ7, "fill", "([II)V"⟩
def RJ3 : String := "jdk/internal/util/Preconditions"
abbrev cJ3_checkIndex_8e157 : ByteArray := prog_18_method_11_code
def yJ3_checkIndex_8e157 : MethodName := ⟨RJ3, "checkIndex", "(IILjava/util/function/BiFunction;)I"⟩
abbrev cJ3_checkFromToIndex_8c36e : ByteArray := prog_18_method_12_code
def yJ3_checkFromToIndex_8c36e : MethodName := ⟨RJ3, "checkFromToIndex", "(IIILjava/util/function/BiFunction;)I"⟩
def RL : String := "FeetHornsLaw"
abbrev cL_law : ByteArray := code
def yL_law : MethodName := ⟨RL, "law", "([I)Z"⟩
end
section
theorem dX0_init_0 : decode cX0_init 0 = .ok (.aload_n 0, 1) := by decide +kernel
theorem dX0_init_1 : decode cX0_init 1 = .ok (.invokespecial 3, 3) := by decide +kernel
theorem dX0_init_4 : decode cX0_init 4 = .ok (.aload_n 0, 1) := by decide +kernel
theorem dX0_init_5 : decode cX0_init 5 = .ok (.bipush 20, 2) := by decide +kernel
theorem dX0_init_7 : decode cX0_init 7 = .ok (.newarray .int, 2) := by decide +kernel
theorem dX0_init_9 : decode cX0_init 9 = .ok (.putfield 9, 3) := by decide +kernel
theorem dX0_init_12 : decode cX0_init 12 = .ok (.return_, 1) := by decide +kernel
theorem dX0_forget_0 : decode cX0_forget 0 = .ok (.aload_n 0, 1) := by decide +kernel
theorem dX0_forget_1 : decode cX0_forget 1 = .ok (.iconst 0, 1) := by decide +kernel
theorem dX0_forget_2 : decode cX0_forget 2 = .ok (.putfield 15, 3) := by decide +kernel
theorem dX0_forget_5 : decode cX0_forget 5 = .ok (.return_, 1) := by decide +kernel
theorem dX0_start_0 : decode cX0_start 0 = .ok (.aload_n 0, 1) := by decide +kernel
theorem dX0_start_1 : decode cX0_start 1 = .ok (.aload_n 1, 1) := by decide +kernel
theorem dX0_start_2 : decode cX0_start 2 = .ok (.iconst 0, 1) := by decide +kernel
theorem dX0_start_3 : decode cX0_start 3 = .ok (.iaload, 1) := by decide +kernel
theorem dX0_start_4 : decode cX0_start 4 = .ok (.putfield 19, 3) := by decide +kernel
theorem dX0_start_7 : decode cX0_start 7 = .ok (.aload_n 0, 1) := by decide +kernel
theorem dX0_start_8 : decode cX0_start 8 = .ok (.aload_n 1, 1) := by decide +kernel
theorem dX0_start_9 : decode cX0_start 9 = .ok (.iconst 1, 1) := by decide +kernel
theorem dX0_start_10 : decode cX0_start 10 = .ok (.iaload, 1) := by decide +kernel
theorem dX0_start_11 : decode cX0_start 11 = .ok (.putfield 22, 3) := by decide +kernel
theorem dX0_start_14 : decode cX0_start 14 = .ok (.aload_n 0, 1) := by decide +kernel
theorem dX0_start_15 : decode cX0_start 15 = .ok (.iload_n 2, 1) := by decide +kernel
theorem dX0_start_16 : decode cX0_start 16 = .ok (.putfield 25, 3) := by decide +kernel
theorem dX0_start_19 : decode cX0_start 19 = .ok (.aload_n 0, 1) := by decide +kernel
theorem dX0_start_20 : decode cX0_start 20 = .ok (.iload_n 3, 1) := by decide +kernel
theorem dX0_start_21 : decode cX0_start 21 = .ok (.aload_n 0, 1) := by decide +kernel
theorem dX0_start_22 : decode cX0_start 22 = .ok (.getfield 19, 3) := by decide +kernel
theorem dX0_start_25 : decode cX0_start 25 = .ok (.iload 4, 2) := by decide +kernel
theorem dX0_start_27 : decode cX0_start 27 = .ok (.iconst 0, 1) := by decide +kernel
theorem dX0_start_28 : decode cX0_start 28 = .ok (.invokevirtual 28, 3) := by decide +kernel
theorem dX0_start_31 : decode cX0_start 31 = .ok (.ireturn, 1) := by decide +kernel
theorem dX0_run_0 : decode cX0_run 0 = .ok (.iload 4, 2) := by decide +kernel
theorem dX0_run_2 : decode cX0_run 2 = .ok (.bipush 20, 2) := by decide +kernel
theorem dX0_run_4 : decode cX0_run 4 = .ok (.if_icmp .lt 5, 3) := by decide +kernel
theorem dX0_run_7 : decode cX0_run 7 = .ok (.iconst 0, 1) := by decide +kernel
theorem dX0_run_8 : decode cX0_run 8 = .ok (.ireturn, 1) := by decide +kernel
theorem dX0_run_9 : decode cX0_run 9 = .ok (.getstatic 32, 3) := by decide +kernel
theorem dX0_run_12 : decode cX0_run 12 = .ok (.iload_n 2, 1) := by decide +kernel
theorem dX0_run_13 : decode cX0_run 13 = .ok (.iconst 3, 1) := by decide +kernel
theorem dX0_run_14 : decode cX0_run 14 = .ok (.imul, 1) := by decide +kernel
theorem dX0_run_15 : decode cX0_run 15 = .ok (.iload_n 1, 1) := by decide +kernel
theorem dX0_run_16 : decode cX0_run 16 = .ok (.iadd, 1) := by decide +kernel
theorem dX0_run_17 : decode cX0_run 17 = .ok (.iaload, 1) := by decide +kernel
theorem dX0_run_18 : decode cX0_run 18 = .ok (.istore 5, 2) := by decide +kernel
theorem dX0_run_20 : decode cX0_run 20 = .ok (.aload_n 0, 1) := by decide +kernel
theorem dX0_run_21 : decode cX0_run 21 = .ok (.iload 5, 2) := by decide +kernel
theorem dX0_run_23 : decode cX0_run 23 = .ok (.invokevirtual 35, 3) := by decide +kernel
theorem dX0_run_26 : decode cX0_run 26 = .ok (.iload 4, 2) := by decide +kernel
theorem dX0_run_28 : decode cX0_run 28 = .ok (.iconst 1, 1) := by decide +kernel
theorem dX0_run_29 : decode cX0_run 29 = .ok (.iadd, 1) := by decide +kernel
theorem dX0_run_30 : decode cX0_run 30 = .ok (.istore 6, 2) := by decide +kernel
theorem dX0_run_32 : decode cX0_run 32 = .ok (.iload 5, 2) := by decide +kernel
theorem dX0_run_34 : decode cX0_run 34 = .ok (.lookupswitch 236 #[(10, 90), (11, 97), (12, 115), (20, 130), (30, 143), (40, 155), (50, 178), (51, 189), (60, 201), (70, 216)], 90) := by decide +kernel
theorem dX0_run_124 : decode cX0_run 124 = .ok (.iload_n 3, 1) := by decide +kernel
theorem dX0_run_125 : decode cX0_run 125 = .ok (.aload_n 0, 1) := by decide +kernel
theorem dX0_run_126 : decode cX0_run 126 = .ok (.getfield 25, 3) := by decide +kernel
theorem dX0_run_129 : decode cX0_run 129 = .ok (.iadd, 1) := by decide +kernel
theorem dX0_run_130 : decode cX0_run 130 = .ok (.ireturn, 1) := by decide +kernel
theorem dX0_run_131 : decode cX0_run 131 = .ok (.aload_n 0, 1) := by decide +kernel
theorem dX0_run_132 : decode cX0_run 132 = .ok (.iconst 0, 1) := by decide +kernel
theorem dX0_run_133 : decode cX0_run 133 = .ok (.aload_n 0, 1) := by decide +kernel
theorem dX0_run_134 : decode cX0_run 134 = .ok (.getfield 19, 3) := by decide +kernel
theorem dX0_run_137 : decode cX0_run 137 = .ok (.iload_n 3, 1) := by decide +kernel
theorem dX0_run_138 : decode cX0_run 138 = .ok (.iload 6, 2) := by decide +kernel
theorem dX0_run_140 : decode cX0_run 140 = .ok (.invokevirtual 28, 3) := by decide +kernel
theorem dX0_run_143 : decode cX0_run 143 = .ok (.aload_n 0, 1) := by decide +kernel
theorem dX0_run_144 : decode cX0_run 144 = .ok (.getfield 22, 3) := by decide +kernel
theorem dX0_run_147 : decode cX0_run 147 = .ok (.isub, 1) := by decide +kernel
theorem dX0_run_148 : decode cX0_run 148 = .ok (.ireturn, 1) := by decide +kernel
theorem dX0_run_149 : decode cX0_run 149 = .ok (.aload_n 0, 1) := by decide +kernel
theorem dX0_run_150 : decode cX0_run 150 = .ok (.iconst 1, 1) := by decide +kernel
theorem dX0_run_151 : decode cX0_run 151 = .ok (.aload_n 0, 1) := by decide +kernel
theorem dX0_run_152 : decode cX0_run 152 = .ok (.getfield 19, 3) := by decide +kernel
theorem dX0_run_155 : decode cX0_run 155 = .ok (.iload_n 3, 1) := by decide +kernel
theorem dX0_run_156 : decode cX0_run 156 = .ok (.iload 6, 2) := by decide +kernel
theorem dX0_run_158 : decode cX0_run 158 = .ok (.invokevirtual 28, 3) := by decide +kernel
theorem dX0_run_161 : decode cX0_run 161 = .ok (.iconst 2, 1) := by decide +kernel
theorem dX0_run_162 : decode cX0_run 162 = .ok (.imul, 1) := by decide +kernel
theorem dX0_run_163 : decode cX0_run 163 = .ok (.ireturn, 1) := by decide +kernel
theorem dX0_run_164 : decode cX0_run 164 = .ok (.aload_n 0, 1) := by decide +kernel
theorem dX0_run_165 : decode cX0_run 165 = .ok (.iconst 1, 1) := by decide +kernel
theorem dX0_run_166 : decode cX0_run 166 = .ok (.iconst 0, 1) := by decide +kernel
theorem dX0_run_167 : decode cX0_run 167 = .ok (.iload_n 3, 1) := by decide +kernel
theorem dX0_run_168 : decode cX0_run 168 = .ok (.iload 6, 2) := by decide +kernel
theorem dX0_run_170 : decode cX0_run 170 = .ok (.invokevirtual 28, 3) := by decide +kernel
theorem dX0_run_173 : decode cX0_run 173 = .ok (.bipush 6, 2) := by decide +kernel
theorem dX0_run_175 : decode cX0_run 175 = .ok (.ixor, 1) := by decide +kernel
theorem dX0_run_176 : decode cX0_run 176 = .ok (.ireturn, 1) := by decide +kernel
theorem dX0_run_177 : decode cX0_run 177 = .ok (.aload_n 0, 1) := by decide +kernel
theorem dX0_run_178 : decode cX0_run 178 = .ok (.iconst 0, 1) := by decide +kernel
theorem dX0_run_179 : decode cX0_run 179 = .ok (.iconst 0, 1) := by decide +kernel
theorem dX0_run_180 : decode cX0_run 180 = .ok (.iload_n 3, 1) := by decide +kernel
theorem dX0_run_181 : decode cX0_run 181 = .ok (.iconst 3, 1) := by decide +kernel
theorem dX0_run_182 : decode cX0_run 182 = .ok (.imul, 1) := by decide +kernel
theorem dX0_run_183 : decode cX0_run 183 = .ok (.iload 6, 2) := by decide +kernel
theorem dX0_run_185 : decode cX0_run 185 = .ok (.invokevirtual 28, 3) := by decide +kernel
theorem dX0_run_188 : decode cX0_run 188 = .ok (.ireturn, 1) := by decide +kernel
theorem dX0_run_189 : decode cX0_run 189 = .ok (.aload_n 0, 1) := by decide +kernel
theorem dX0_run_190 : decode cX0_run 190 = .ok (.iconst 2, 1) := by decide +kernel
theorem dX0_run_191 : decode cX0_run 191 = .ok (.iconst 0, 1) := by decide +kernel
theorem dX0_run_192 : decode cX0_run 192 = .ok (.iload_n 3, 1) := by decide +kernel
theorem dX0_run_193 : decode cX0_run 193 = .ok (.iload 6, 2) := by decide +kernel
theorem dX0_run_195 : decode cX0_run 195 = .ok (.invokevirtual 28, 3) := by decide +kernel
theorem dX0_run_198 : decode cX0_run 198 = .ok (.aload_n 0, 1) := by decide +kernel
theorem dX0_run_199 : decode cX0_run 199 = .ok (.iconst 1, 1) := by decide +kernel
theorem dX0_run_200 : decode cX0_run 200 = .ok (.aload_n 0, 1) := by decide +kernel
theorem dX0_run_201 : decode cX0_run 201 = .ok (.getfield 19, 3) := by decide +kernel
theorem dX0_run_204 : decode cX0_run 204 = .ok (.iconst 1, 1) := by decide +kernel
theorem dX0_run_205 : decode cX0_run 205 = .ok (.iload 6, 2) := by decide +kernel
theorem dX0_run_207 : decode cX0_run 207 = .ok (.invokevirtual 28, 3) := by decide +kernel
theorem dX0_run_210 : decode cX0_run 210 = .ok (.iadd, 1) := by decide +kernel
theorem dX0_run_211 : decode cX0_run 211 = .ok (.ireturn, 1) := by decide +kernel
theorem dX0_run_212 : decode cX0_run 212 = .ok (.aload_n 0, 1) := by decide +kernel
theorem dX0_run_213 : decode cX0_run 213 = .ok (.iconst 0, 1) := by decide +kernel
theorem dX0_run_214 : decode cX0_run 214 = .ok (.iconst 1, 1) := by decide +kernel
theorem dX0_run_215 : decode cX0_run 215 = .ok (.iload_n 3, 1) := by decide +kernel
theorem dX0_run_216 : decode cX0_run 216 = .ok (.iload 6, 2) := by decide +kernel
theorem dX0_run_218 : decode cX0_run 218 = .ok (.invokevirtual 28, 3) := by decide +kernel
theorem dX0_run_221 : decode cX0_run 221 = .ok (.ineg, 1) := by decide +kernel
theorem dX0_run_222 : decode cX0_run 222 = .ok (.ireturn, 1) := by decide +kernel
theorem dX0_run_223 : decode cX0_run 223 = .ok (.aload_n 0, 1) := by decide +kernel
theorem dX0_run_224 : decode cX0_run 224 = .ok (.iconst 1, 1) := by decide +kernel
theorem dX0_run_225 : decode cX0_run 225 = .ok (.iconst 1, 1) := by decide +kernel
theorem dX0_run_226 : decode cX0_run 226 = .ok (.iload_n 3, 1) := by decide +kernel
theorem dX0_run_227 : decode cX0_run 227 = .ok (.iconst 1, 1) := by decide +kernel
theorem dX0_run_228 : decode cX0_run 228 = .ok (.iadd, 1) := by decide +kernel
theorem dX0_run_229 : decode cX0_run 229 = .ok (.iload 6, 2) := by decide +kernel
theorem dX0_run_231 : decode cX0_run 231 = .ok (.invokevirtual 28, 3) := by decide +kernel
theorem dX0_run_234 : decode cX0_run 234 = .ok (.ireturn, 1) := by decide +kernel
theorem dX0_run_235 : decode cX0_run 235 = .ok (.aload_n 0, 1) := by decide +kernel
theorem dX0_run_236 : decode cX0_run 236 = .ok (.iconst 2, 1) := by decide +kernel
theorem dX0_run_237 : decode cX0_run 237 = .ok (.iconst 2, 1) := by decide +kernel
theorem dX0_run_238 : decode cX0_run 238 = .ok (.iload_n 3, 1) := by decide +kernel
theorem dX0_run_239 : decode cX0_run 239 = .ok (.aload_n 0, 1) := by decide +kernel
theorem dX0_run_240 : decode cX0_run 240 = .ok (.getfield 25, 3) := by decide +kernel
theorem dX0_run_243 : decode cX0_run 243 = .ok (.isub, 1) := by decide +kernel
theorem dX0_run_244 : decode cX0_run 244 = .ok (.iload 6, 2) := by decide +kernel
theorem dX0_run_246 : decode cX0_run 246 = .ok (.invokevirtual 28, 3) := by decide +kernel
theorem dX0_run_249 : decode cX0_run 249 = .ok (.ireturn, 1) := by decide +kernel
theorem dX0_run_250 : decode cX0_run 250 = .ok (.aload_n 0, 1) := by decide +kernel
theorem dX0_run_251 : decode cX0_run 251 = .ok (.iconst 1, 1) := by decide +kernel
theorem dX0_run_252 : decode cX0_run 252 = .ok (.iconst 3, 1) := by decide +kernel
theorem dX0_run_253 : decode cX0_run 253 = .ok (.iload_n 3, 1) := by decide +kernel
theorem dX0_run_254 : decode cX0_run 254 = .ok (.iload 6, 2) := by decide +kernel
theorem dX0_run_256 : decode cX0_run 256 = .ok (.invokevirtual 28, 3) := by decide +kernel
theorem dX0_run_259 : decode cX0_run 259 = .ok (.aload_n 0, 1) := by decide +kernel
theorem dX0_run_260 : decode cX0_run 260 = .ok (.iconst 0, 1) := by decide +kernel
theorem dX0_run_261 : decode cX0_run 261 = .ok (.iconst 3, 1) := by decide +kernel
theorem dX0_run_262 : decode cX0_run 262 = .ok (.iconst 2, 1) := by decide +kernel
theorem dX0_run_263 : decode cX0_run 263 = .ok (.iload 6, 2) := by decide +kernel
theorem dX0_run_265 : decode cX0_run 265 = .ok (.invokevirtual 28, 3) := by decide +kernel
theorem dX0_run_268 : decode cX0_run 268 = .ok (.iadd, 1) := by decide +kernel
theorem dX0_run_269 : decode cX0_run 269 = .ok (.ireturn, 1) := by decide +kernel
theorem dX0_run_270 : decode cX0_run 270 = .ok (.aload_n 0, 1) := by decide +kernel
theorem dX0_run_271 : decode cX0_run 271 = .ok (.iconst 0, 1) := by decide +kernel
theorem dX0_run_272 : decode cX0_run 272 = .ok (.iconst 3, 1) := by decide +kernel
theorem dX0_run_273 : decode cX0_run 273 = .ok (.iload_n 3, 1) := by decide +kernel
theorem dX0_run_274 : decode cX0_run 274 = .ok (.iload 6, 2) := by decide +kernel
theorem dX0_run_276 : decode cX0_run 276 = .ok (.invokevirtual 28, 3) := by decide +kernel
theorem dX0_run_279 : decode cX0_run 279 = .ok (.aload_n 0, 1) := by decide +kernel
theorem dX0_run_280 : decode cX0_run 280 = .ok (.getfield 22, 3) := by decide +kernel
theorem dX0_run_283 : decode cX0_run 283 = .ok (.ixor, 1) := by decide +kernel
theorem dX0_run_284 : decode cX0_run 284 = .ok (.ireturn, 1) := by decide +kernel
theorem dX0_begins_0 : decode cX0_begins 0 = .ok (.aload_n 0, 1) := by decide +kernel
theorem dX0_begins_1 : decode cX0_begins 1 = .ok (.getfield 15, 3) := by decide +kernel
theorem dX0_begins_4 : decode cX0_begins 4 = .ok (.bipush 20, 2) := by decide +kernel
theorem dX0_begins_6 : decode cX0_begins 6 = .ok (.if_icmp .ge 13, 3) := by decide +kernel
theorem dX0_begins_9 : decode cX0_begins 9 = .ok (.aload_n 0, 1) := by decide +kernel
theorem dX0_begins_10 : decode cX0_begins 10 = .ok (.getfield 9, 3) := by decide +kernel
theorem dX0_begins_13 : decode cX0_begins 13 = .ok (.aload_n 0, 1) := by decide +kernel
theorem dX0_begins_14 : decode cX0_begins 14 = .ok (.getfield 15, 3) := by decide +kernel
theorem dX0_begins_17 : decode cX0_begins 17 = .ok (.iload_n 1, 1) := by decide +kernel
theorem dX0_begins_18 : decode cX0_begins 18 = .ok (.iastore, 1) := by decide +kernel
theorem dX0_begins_19 : decode cX0_begins 19 = .ok (.aload_n 0, 1) := by decide +kernel
theorem dX0_begins_20 : decode cX0_begins 20 = .ok (.dup, 1) := by decide +kernel
theorem dX0_begins_21 : decode cX0_begins 21 = .ok (.getfield 15, 3) := by decide +kernel
theorem dX0_begins_24 : decode cX0_begins 24 = .ok (.iconst 1, 1) := by decide +kernel
theorem dX0_begins_25 : decode cX0_begins 25 = .ok (.iadd, 1) := by decide +kernel
theorem dX0_begins_26 : decode cX0_begins 26 = .ok (.putfield 15, 3) := by decide +kernel
theorem dX0_begins_29 : decode cX0_begins 29 = .ok (.return_, 1) := by decide +kernel
theorem dX1_init_0 : decode cX1_init 0 = .ok (.aload_n 0, 1) := by decide +kernel
theorem dX1_init_1 : decode cX1_init 1 = .ok (.invokespecial 3, 3) := by decide +kernel
theorem dX1_init_4 : decode cX1_init 4 = .ok (.aload_n 0, 1) := by decide +kernel
theorem dX1_init_5 : decode cX1_init 5 = .ok (.bipush 10, 2) := by decide +kernel
theorem dX1_init_7 : decode cX1_init 7 = .ok (.newarray .int, 2) := by decide +kernel
theorem dX1_init_9 : decode cX1_init 9 = .ok (.putfield 9, 3) := by decide +kernel
theorem dX1_init_12 : decode cX1_init 12 = .ok (.aload_n 0, 1) := by decide +kernel
theorem dX1_init_13 : decode cX1_init 13 = .ok (.bipush 10, 2) := by decide +kernel
theorem dX1_init_15 : decode cX1_init 15 = .ok (.newarray .int, 2) := by decide +kernel
theorem dX1_init_17 : decode cX1_init 17 = .ok (.putfield 15, 3) := by decide +kernel
theorem dX1_init_20 : decode cX1_init 20 = .ok (.aload_n 0, 1) := by decide +kernel
theorem dX1_init_21 : decode cX1_init 21 = .ok (.bipush 10, 2) := by decide +kernel
theorem dX1_init_23 : decode cX1_init 23 = .ok (.newarray .int, 2) := by decide +kernel
theorem dX1_init_25 : decode cX1_init 25 = .ok (.putfield 18, 3) := by decide +kernel
theorem dX1_init_28 : decode cX1_init 28 = .ok (.aload_n 0, 1) := by decide +kernel
theorem dX1_init_29 : decode cX1_init 29 = .ok (.bipush 100, 2) := by decide +kernel
theorem dX1_init_31 : decode cX1_init 31 = .ok (.newarray .int, 2) := by decide +kernel
theorem dX1_init_33 : decode cX1_init 33 = .ok (.putfield 21, 3) := by decide +kernel
theorem dX1_init_36 : decode cX1_init 36 = .ok (.return_, 1) := by decide +kernel
theorem dX1_clear_0 : decode cX1_clear 0 = .ok (.aload_n 0, 1) := by decide +kernel
theorem dX1_clear_1 : decode cX1_clear 1 = .ok (.iconst 0, 1) := by decide +kernel
theorem dX1_clear_2 : decode cX1_clear 2 = .ok (.putfield 24, 3) := by decide +kernel
theorem dX1_clear_5 : decode cX1_clear 5 = .ok (.aload_n 0, 1) := by decide +kernel
theorem dX1_clear_6 : decode cX1_clear 6 = .ok (.iconst 0, 1) := by decide +kernel
theorem dX1_clear_7 : decode cX1_clear 7 = .ok (.putfield 28, 3) := by decide +kernel
theorem dX1_clear_10 : decode cX1_clear 10 = .ok (.return_, 1) := by decide +kernel
theorem dX1_addCode_0 : decode cX1_addCode 0 = .ok (.aload_n 0, 1) := by decide +kernel
theorem dX1_addCode_1 : decode cX1_addCode 1 = .ok (.getfield 28, 3) := by decide +kernel
theorem dX1_addCode_4 : decode cX1_addCode 4 = .ok (.bipush 100, 2) := by decide +kernel
theorem dX1_addCode_6 : decode cX1_addCode 6 = .ok (.if_icmp .ge 23, 3) := by decide +kernel
theorem dX1_addCode_9 : decode cX1_addCode 9 = .ok (.aload_n 0, 1) := by decide +kernel
theorem dX1_addCode_10 : decode cX1_addCode 10 = .ok (.getfield 21, 3) := by decide +kernel
theorem dX1_addCode_13 : decode cX1_addCode 13 = .ok (.aload_n 0, 1) := by decide +kernel
theorem dX1_addCode_14 : decode cX1_addCode 14 = .ok (.getfield 28, 3) := by decide +kernel
theorem dX1_addCode_17 : decode cX1_addCode 17 = .ok (.iload_n 1, 1) := by decide +kernel
theorem dX1_addCode_18 : decode cX1_addCode 18 = .ok (.iastore, 1) := by decide +kernel
theorem dX1_addCode_19 : decode cX1_addCode 19 = .ok (.aload_n 0, 1) := by decide +kernel
theorem dX1_addCode_20 : decode cX1_addCode 20 = .ok (.dup, 1) := by decide +kernel
theorem dX1_addCode_21 : decode cX1_addCode 21 = .ok (.getfield 28, 3) := by decide +kernel
theorem dX1_addCode_24 : decode cX1_addCode 24 = .ok (.iconst 1, 1) := by decide +kernel
theorem dX1_addCode_25 : decode cX1_addCode 25 = .ok (.iadd, 1) := by decide +kernel
theorem dX1_addCode_26 : decode cX1_addCode 26 = .ok (.putfield 28, 3) := by decide +kernel
theorem dX1_addCode_29 : decode cX1_addCode 29 = .ok (.return_, 1) := by decide +kernel
theorem dX1_addClause_0 : decode cX1_addClause 0 = .ok (.aload_n 0, 1) := by decide +kernel
theorem dX1_addClause_1 : decode cX1_addClause 1 = .ok (.getfield 24, 3) := by decide +kernel
theorem dX1_addClause_4 : decode cX1_addClause 4 = .ok (.bipush 10, 2) := by decide +kernel
theorem dX1_addClause_6 : decode cX1_addClause 6 = .ok (.if_icmp .ge 46, 3) := by decide +kernel
theorem dX1_addClause_9 : decode cX1_addClause 9 = .ok (.aload_n 0, 1) := by decide +kernel
theorem dX1_addClause_10 : decode cX1_addClause 10 = .ok (.getfield 9, 3) := by decide +kernel
theorem dX1_addClause_13 : decode cX1_addClause 13 = .ok (.aload_n 0, 1) := by decide +kernel
theorem dX1_addClause_14 : decode cX1_addClause 14 = .ok (.getfield 24, 3) := by decide +kernel
theorem dX1_addClause_17 : decode cX1_addClause 17 = .ok (.iload_n 1, 1) := by decide +kernel
theorem dX1_addClause_18 : decode cX1_addClause 18 = .ok (.iastore, 1) := by decide +kernel
theorem dX1_addClause_19 : decode cX1_addClause 19 = .ok (.aload_n 0, 1) := by decide +kernel
theorem dX1_addClause_20 : decode cX1_addClause 20 = .ok (.getfield 15, 3) := by decide +kernel
theorem dX1_addClause_23 : decode cX1_addClause 23 = .ok (.aload_n 0, 1) := by decide +kernel
theorem dX1_addClause_24 : decode cX1_addClause 24 = .ok (.getfield 24, 3) := by decide +kernel
theorem dX1_addClause_27 : decode cX1_addClause 27 = .ok (.iload_n 2, 1) := by decide +kernel
theorem dX1_addClause_28 : decode cX1_addClause 28 = .ok (.iastore, 1) := by decide +kernel
theorem dX1_addClause_29 : decode cX1_addClause 29 = .ok (.aload_n 0, 1) := by decide +kernel
theorem dX1_addClause_30 : decode cX1_addClause 30 = .ok (.getfield 18, 3) := by decide +kernel
theorem dX1_addClause_33 : decode cX1_addClause 33 = .ok (.aload_n 0, 1) := by decide +kernel
theorem dX1_addClause_34 : decode cX1_addClause 34 = .ok (.getfield 24, 3) := by decide +kernel
theorem dX1_addClause_37 : decode cX1_addClause 37 = .ok (.aload_n 0, 1) := by decide +kernel
theorem dX1_addClause_38 : decode cX1_addClause 38 = .ok (.getfield 28, 3) := by decide +kernel
theorem dX1_addClause_41 : decode cX1_addClause 41 = .ok (.iastore, 1) := by decide +kernel
theorem dX1_addClause_42 : decode cX1_addClause 42 = .ok (.aload_n 0, 1) := by decide +kernel
theorem dX1_addClause_43 : decode cX1_addClause 43 = .ok (.dup, 1) := by decide +kernel
theorem dX1_addClause_44 : decode cX1_addClause 44 = .ok (.getfield 24, 3) := by decide +kernel
theorem dX1_addClause_47 : decode cX1_addClause 47 = .ok (.iconst 1, 1) := by decide +kernel
theorem dX1_addClause_48 : decode cX1_addClause 48 = .ok (.iadd, 1) := by decide +kernel
theorem dX1_addClause_49 : decode cX1_addClause 49 = .ok (.putfield 24, 3) := by decide +kernel
theorem dX1_addClause_52 : decode cX1_addClause 52 = .ok (.return_, 1) := by decide +kernel
theorem dX1_mostBeasts_0 : decode cX1_mostBeasts 0 = .ok (.bipush 8, 2) := by decide +kernel
theorem dX1_mostBeasts_2 : decode cX1_mostBeasts 2 = .ok (.istore_n 1, 1) := by decide +kernel
theorem dX1_mostBeasts_3 : decode cX1_mostBeasts 3 = .ok (.iconst 0, 1) := by decide +kernel
theorem dX1_mostBeasts_4 : decode cX1_mostBeasts 4 = .ok (.istore_n 2, 1) := by decide +kernel
theorem dX1_mostBeasts_5 : decode cX1_mostBeasts 5 = .ok (.iload_n 2, 1) := by decide +kernel
theorem dX1_mostBeasts_6 : decode cX1_mostBeasts 6 = .ok (.aload_n 0, 1) := by decide +kernel
theorem dX1_mostBeasts_7 : decode cX1_mostBeasts 7 = .ok (.getfield 24, 3) := by decide +kernel
theorem dX1_mostBeasts_10 : decode cX1_mostBeasts 10 = .ok (.if_icmp .ge 31, 3) := by decide +kernel
theorem dX1_mostBeasts_13 : decode cX1_mostBeasts 13 = .ok (.aload_n 0, 1) := by decide +kernel
theorem dX1_mostBeasts_14 : decode cX1_mostBeasts 14 = .ok (.getfield 9, 3) := by decide +kernel
theorem dX1_mostBeasts_17 : decode cX1_mostBeasts 17 = .ok (.iload_n 2, 1) := by decide +kernel
theorem dX1_mostBeasts_18 : decode cX1_mostBeasts 18 = .ok (.iaload, 1) := by decide +kernel
theorem dX1_mostBeasts_19 : decode cX1_mostBeasts 19 = .ok (.iconst 2, 1) := by decide +kernel
theorem dX1_mostBeasts_20 : decode cX1_mostBeasts 20 = .ok (.if_icmp .ne 15, 3) := by decide +kernel
theorem dX1_mostBeasts_23 : decode cX1_mostBeasts 23 = .ok (.aload_n 0, 1) := by decide +kernel
theorem dX1_mostBeasts_24 : decode cX1_mostBeasts 24 = .ok (.getfield 15, 3) := by decide +kernel
theorem dX1_mostBeasts_27 : decode cX1_mostBeasts 27 = .ok (.iload_n 2, 1) := by decide +kernel
theorem dX1_mostBeasts_28 : decode cX1_mostBeasts 28 = .ok (.iaload, 1) := by decide +kernel
theorem dX1_mostBeasts_29 : decode cX1_mostBeasts 29 = .ok (.bipush 9, 2) := by decide +kernel
theorem dX1_mostBeasts_31 : decode cX1_mostBeasts 31 = .ok (.invokestatic 31, 3) := by decide +kernel
theorem dX1_mostBeasts_34 : decode cX1_mostBeasts 34 = .ok (.istore_n 1, 1) := by decide +kernel
theorem dX1_mostBeasts_35 : decode cX1_mostBeasts 35 = .ok (.iinc 2 1, 3) := by decide +kernel
theorem dX1_mostBeasts_38 : decode cX1_mostBeasts 38 = .ok (.goto (-33), 3) := by decide +kernel
theorem dX1_mostBeasts_41 : decode cX1_mostBeasts 41 = .ok (.iload_n 1, 1) := by decide +kernel
theorem dX1_mostBeasts_42 : decode cX1_mostBeasts 42 = .ok (.ireturn, 1) := by decide +kernel
theorem dX1_sumOf_0 : decode cX1_sumOf 0 = .ok (.iconst 0, 1) := by decide +kernel
theorem dX1_sumOf_1 : decode cX1_sumOf 1 = .ok (.istore_n 3, 1) := by decide +kernel
theorem dX1_sumOf_2 : decode cX1_sumOf 2 = .ok (.iconst 0, 1) := by decide +kernel
theorem dX1_sumOf_3 : decode cX1_sumOf 3 = .ok (.istore 4, 2) := by decide +kernel
theorem dX1_sumOf_5 : decode cX1_sumOf 5 = .ok (.iload 4, 2) := by decide +kernel
theorem dX1_sumOf_7 : decode cX1_sumOf 7 = .ok (.aload_n 0, 1) := by decide +kernel
theorem dX1_sumOf_8 : decode cX1_sumOf 8 = .ok (.getfield 24, 3) := by decide +kernel
theorem dX1_sumOf_11 : decode cX1_sumOf 11 = .ok (.if_icmp .ge 40, 3) := by decide +kernel
theorem dX1_sumOf_14 : decode cX1_sumOf 14 = .ok (.aload_n 0, 1) := by decide +kernel
theorem dX1_sumOf_15 : decode cX1_sumOf 15 = .ok (.getfield 9, 3) := by decide +kernel
theorem dX1_sumOf_18 : decode cX1_sumOf 18 = .ok (.iload 4, 2) := by decide +kernel
theorem dX1_sumOf_20 : decode cX1_sumOf 20 = .ok (.iaload, 1) := by decide +kernel
theorem dX1_sumOf_21 : decode cX1_sumOf 21 = .ok (.iload_n 1, 1) := by decide +kernel
theorem dX1_sumOf_22 : decode cX1_sumOf 22 = .ok (.if_icmp .ne 23, 3) := by decide +kernel
theorem dX1_sumOf_25 : decode cX1_sumOf 25 = .ok (.aload_n 0, 1) := by decide +kernel
theorem dX1_sumOf_26 : decode cX1_sumOf 26 = .ok (.iload 4, 2) := by decide +kernel
theorem dX1_sumOf_28 : decode cX1_sumOf 28 = .ok (.aload_n 2, 1) := by decide +kernel
theorem dX1_sumOf_29 : decode cX1_sumOf 29 = .ok (.invokevirtual 37, 3) := by decide +kernel
theorem dX1_sumOf_32 : decode cX1_sumOf 32 = .ok (.ifCond .eq 13, 3) := by decide +kernel
theorem dX1_sumOf_35 : decode cX1_sumOf 35 = .ok (.iload_n 3, 1) := by decide +kernel
theorem dX1_sumOf_36 : decode cX1_sumOf 36 = .ok (.aload_n 0, 1) := by decide +kernel
theorem dX1_sumOf_37 : decode cX1_sumOf 37 = .ok (.getfield 15, 3) := by decide +kernel
theorem dX1_sumOf_40 : decode cX1_sumOf 40 = .ok (.iload 4, 2) := by decide +kernel
theorem dX1_sumOf_42 : decode cX1_sumOf 42 = .ok (.iaload, 1) := by decide +kernel
theorem dX1_sumOf_43 : decode cX1_sumOf 43 = .ok (.iadd, 1) := by decide +kernel
theorem dX1_sumOf_44 : decode cX1_sumOf 44 = .ok (.istore_n 3, 1) := by decide +kernel
theorem dX1_sumOf_45 : decode cX1_sumOf 45 = .ok (.iinc 4 1, 3) := by decide +kernel
theorem dX1_sumOf_48 : decode cX1_sumOf 48 = .ok (.goto (-43), 3) := by decide +kernel
theorem dX1_sumOf_51 : decode cX1_sumOf 51 = .ok (.iload_n 3, 1) := by decide +kernel
theorem dX1_sumOf_52 : decode cX1_sumOf 52 = .ok (.ireturn, 1) := by decide +kernel
theorem dX1_holds_0 : decode cX1_holds 0 = .ok (.iconst 0, 1) := by decide +kernel
theorem dX1_holds_1 : decode cX1_holds 1 = .ok (.istore_n 3, 1) := by decide +kernel
theorem dX1_holds_2 : decode cX1_holds 2 = .ok (.iload_n 1, 1) := by decide +kernel
theorem dX1_holds_3 : decode cX1_holds 3 = .ok (.ifCond .ne 7, 3) := by decide +kernel
theorem dX1_holds_6 : decode cX1_holds 6 = .ok (.iconst 0, 1) := by decide +kernel
theorem dX1_holds_7 : decode cX1_holds 7 = .ok (.goto 11, 3) := by decide +kernel
theorem dX1_holds_10 : decode cX1_holds 10 = .ok (.aload_n 0, 1) := by decide +kernel
theorem dX1_holds_11 : decode cX1_holds 11 = .ok (.getfield 18, 3) := by decide +kernel
theorem dX1_holds_14 : decode cX1_holds 14 = .ok (.iload_n 1, 1) := by decide +kernel
theorem dX1_holds_15 : decode cX1_holds 15 = .ok (.iconst 1, 1) := by decide +kernel
theorem dX1_holds_16 : decode cX1_holds 16 = .ok (.isub, 1) := by decide +kernel
theorem dX1_holds_17 : decode cX1_holds 17 = .ok (.iaload, 1) := by decide +kernel
theorem dX1_holds_18 : decode cX1_holds 18 = .ok (.istore 4, 2) := by decide +kernel
theorem dX1_holds_20 : decode cX1_holds 20 = .ok (.iload 4, 2) := by decide +kernel
theorem dX1_holds_22 : decode cX1_holds 22 = .ok (.aload_n 0, 1) := by decide +kernel
theorem dX1_holds_23 : decode cX1_holds 23 = .ok (.getfield 18, 3) := by decide +kernel
theorem dX1_holds_26 : decode cX1_holds 26 = .ok (.iload_n 1, 1) := by decide +kernel
theorem dX1_holds_27 : decode cX1_holds 27 = .ok (.iaload, 1) := by decide +kernel
theorem dX1_holds_28 : decode cX1_holds 28 = .ok (.if_icmp .ge 100, 3) := by decide +kernel
theorem dX1_holds_31 : decode cX1_holds 31 = .ok (.iload_n 3, 1) := by decide +kernel
theorem dX1_holds_32 : decode cX1_holds 32 = .ok (.iconst 1, 1) := by decide +kernel
theorem dX1_holds_33 : decode cX1_holds 33 = .ok (.iand, 1) := by decide +kernel
theorem dX1_holds_34 : decode cX1_holds 34 = .ok (.istore 5, 2) := by decide +kernel
theorem dX1_holds_36 : decode cX1_holds 36 = .ok (.aload_n 0, 1) := by decide +kernel
theorem dX1_holds_37 : decode cX1_holds 37 = .ok (.getfield 21, 3) := by decide +kernel
theorem dX1_holds_40 : decode cX1_holds 40 = .ok (.iload 4, 2) := by decide +kernel
theorem dX1_holds_42 : decode cX1_holds 42 = .ok (.iaload, 1) := by decide +kernel
theorem dX1_holds_43 : decode cX1_holds 43 = .ok (.tableswitch 55 (-3) (-1) #[45, 32, 25], 25) := by decide +kernel
theorem dX1_holds_68 : decode cX1_holds 68 = .ok (.iload_n 3, 1) := by decide +kernel
theorem dX1_holds_69 : decode cX1_holds 69 = .ok (.iconst 1, 1) := by decide +kernel
theorem dX1_holds_70 : decode cX1_holds 70 = .ok (.ixor, 1) := by decide +kernel
theorem dX1_holds_71 : decode cX1_holds 71 = .ok (.istore_n 3, 1) := by decide +kernel
theorem dX1_holds_72 : decode cX1_holds 72 = .ok (.goto 50, 3) := by decide +kernel
theorem dX1_holds_75 : decode cX1_holds 75 = .ok (.iload_n 3, 1) := by decide +kernel
theorem dX1_holds_76 : decode cX1_holds 76 = .ok (.iconst 1, 1) := by decide +kernel
theorem dX1_holds_77 : decode cX1_holds 77 = .ok (.iushr, 1) := by decide +kernel
theorem dX1_holds_78 : decode cX1_holds 78 = .ok (.iload 5, 2) := by decide +kernel
theorem dX1_holds_80 : decode cX1_holds 80 = .ok (.bipush (-2), 2) := by decide +kernel
theorem dX1_holds_82 : decode cX1_holds 82 = .ok (.ior, 1) := by decide +kernel
theorem dX1_holds_83 : decode cX1_holds 83 = .ok (.iand, 1) := by decide +kernel
theorem dX1_holds_84 : decode cX1_holds 84 = .ok (.istore_n 3, 1) := by decide +kernel
theorem dX1_holds_85 : decode cX1_holds 85 = .ok (.goto 37, 3) := by decide +kernel
theorem dX1_holds_88 : decode cX1_holds 88 = .ok (.iload_n 3, 1) := by decide +kernel
theorem dX1_holds_89 : decode cX1_holds 89 = .ok (.iconst 1, 1) := by decide +kernel
theorem dX1_holds_90 : decode cX1_holds 90 = .ok (.iushr, 1) := by decide +kernel
theorem dX1_holds_91 : decode cX1_holds 91 = .ok (.iload 5, 2) := by decide +kernel
theorem dX1_holds_93 : decode cX1_holds 93 = .ok (.ior, 1) := by decide +kernel
theorem dX1_holds_94 : decode cX1_holds 94 = .ok (.istore_n 3, 1) := by decide +kernel
theorem dX1_holds_95 : decode cX1_holds 95 = .ok (.goto 27, 3) := by decide +kernel
theorem dX1_holds_98 : decode cX1_holds 98 = .ok (.iload_n 3, 1) := by decide +kernel
theorem dX1_holds_99 : decode cX1_holds 99 = .ok (.iconst 1, 1) := by decide +kernel
theorem dX1_holds_100 : decode cX1_holds 100 = .ok (.ishl, 1) := by decide +kernel
theorem dX1_holds_101 : decode cX1_holds 101 = .ok (.aload_n 0, 1) := by decide +kernel
theorem dX1_holds_102 : decode cX1_holds 102 = .ok (.getfield 21, 3) := by decide +kernel
theorem dX1_holds_105 : decode cX1_holds 105 = .ok (.iload 4, 2) := by decide +kernel
theorem dX1_holds_107 : decode cX1_holds 107 = .ok (.iaload, 1) := by decide +kernel
theorem dX1_holds_108 : decode cX1_holds 108 = .ok (.aload_n 2, 1) := by decide +kernel
theorem dX1_holds_109 : decode cX1_holds 109 = .ok (.invokestatic 41, 3) := by decide +kernel
theorem dX1_holds_112 : decode cX1_holds 112 = .ok (.ifCond .eq 7, 3) := by decide +kernel
theorem dX1_holds_115 : decode cX1_holds 115 = .ok (.iconst 1, 1) := by decide +kernel
theorem dX1_holds_116 : decode cX1_holds 116 = .ok (.goto 4, 3) := by decide +kernel
theorem dX1_holds_119 : decode cX1_holds 119 = .ok (.iconst 0, 1) := by decide +kernel
theorem dX1_holds_120 : decode cX1_holds 120 = .ok (.ior, 1) := by decide +kernel
theorem dX1_holds_121 : decode cX1_holds 121 = .ok (.istore_n 3, 1) := by decide +kernel
theorem dX1_holds_122 : decode cX1_holds 122 = .ok (.iinc 4 1, 3) := by decide +kernel
theorem dX1_holds_125 : decode cX1_holds 125 = .ok (.goto (-105), 3) := by decide +kernel
theorem dX1_holds_128 : decode cX1_holds 128 = .ok (.iload_n 3, 1) := by decide +kernel
theorem dX1_holds_129 : decode cX1_holds 129 = .ok (.iconst 1, 1) := by decide +kernel
theorem dX1_holds_130 : decode cX1_holds 130 = .ok (.iand, 1) := by decide +kernel
theorem dX1_holds_131 : decode cX1_holds 131 = .ok (.iconst 1, 1) := by decide +kernel
theorem dX1_holds_132 : decode cX1_holds 132 = .ok (.if_icmp .ne 7, 3) := by decide +kernel
theorem dX1_holds_135 : decode cX1_holds 135 = .ok (.iconst 1, 1) := by decide +kernel
theorem dX1_holds_136 : decode cX1_holds 136 = .ok (.goto 4, 3) := by decide +kernel
theorem dX1_holds_139 : decode cX1_holds 139 = .ok (.iconst 0, 1) := by decide +kernel
theorem dX1_holds_140 : decode cX1_holds 140 = .ok (.ireturn, 1) := by decide +kernel
theorem dX1_testCode_0 : decode cX1_testCode 0 = .ok (.iload_n 0, 1) := by decide +kernel
theorem dX1_testCode_1 : decode cX1_testCode 1 = .ok (.iconst 3, 1) := by decide +kernel
theorem dX1_testCode_2 : decode cX1_testCode 2 = .ok (.imul, 1) := by decide +kernel
theorem dX1_testCode_3 : decode cX1_testCode 3 = .ok (.iload_n 1, 1) := by decide +kernel
theorem dX1_testCode_4 : decode cX1_testCode 4 = .ok (.iadd, 1) := by decide +kernel
theorem dX1_testCode_5 : decode cX1_testCode 5 = .ok (.bipush 100, 2) := by decide +kernel
theorem dX1_testCode_7 : decode cX1_testCode 7 = .ok (.imul, 1) := by decide +kernel
theorem dX1_testCode_8 : decode cX1_testCode 8 = .ok (.iload_n 2, 1) := by decide +kernel
theorem dX1_testCode_9 : decode cX1_testCode 9 = .ok (.iadd, 1) := by decide +kernel
theorem dX1_testCode_10 : decode cX1_testCode 10 = .ok (.ireturn, 1) := by decide +kernel
theorem dX1_testHolds_0 : decode cX1_testHolds 0 = .ok (.aload_n 1, 1) := by decide +kernel
theorem dX1_testHolds_1 : decode cX1_testHolds 1 = .ok (.iload_n 0, 1) := by decide +kernel
theorem dX1_testHolds_2 : decode cX1_testHolds 2 = .ok (.sipush 300, 3) := by decide +kernel
theorem dX1_testHolds_5 : decode cX1_testHolds 5 = .ok (.idiv, 1) := by decide +kernel
theorem dX1_testHolds_6 : decode cX1_testHolds 6 = .ok (.iaload, 1) := by decide +kernel
theorem dX1_testHolds_7 : decode cX1_testHolds 7 = .ok (.istore_n 2, 1) := by decide +kernel
theorem dX1_testHolds_8 : decode cX1_testHolds 8 = .ok (.iload_n 0, 1) := by decide +kernel
theorem dX1_testHolds_9 : decode cX1_testHolds 9 = .ok (.bipush 100, 2) := by decide +kernel
theorem dX1_testHolds_11 : decode cX1_testHolds 11 = .ok (.irem, 1) := by decide +kernel
theorem dX1_testHolds_12 : decode cX1_testHolds 12 = .ok (.istore_n 3, 1) := by decide +kernel
theorem dX1_testHolds_13 : decode cX1_testHolds 13 = .ok (.iload_n 0, 1) := by decide +kernel
theorem dX1_testHolds_14 : decode cX1_testHolds 14 = .ok (.bipush 100, 2) := by decide +kernel
theorem dX1_testHolds_16 : decode cX1_testHolds 16 = .ok (.idiv, 1) := by decide +kernel
theorem dX1_testHolds_17 : decode cX1_testHolds 17 = .ok (.iconst 3, 1) := by decide +kernel
theorem dX1_testHolds_18 : decode cX1_testHolds 18 = .ok (.irem, 1) := by decide +kernel
theorem dX1_testHolds_19 : decode cX1_testHolds 19 = .ok (.lookupswitch 47 #[(0, 25), (1, 36)], 25) := by decide +kernel
theorem dX1_testHolds_44 : decode cX1_testHolds 44 = .ok (.iload_n 2, 1) := by decide +kernel
theorem dX1_testHolds_45 : decode cX1_testHolds 45 = .ok (.iload_n 3, 1) := by decide +kernel
theorem dX1_testHolds_46 : decode cX1_testHolds 46 = .ok (.if_icmp .ge 7, 3) := by decide +kernel
theorem dX1_testHolds_49 : decode cX1_testHolds 49 = .ok (.iconst 1, 1) := by decide +kernel
theorem dX1_testHolds_50 : decode cX1_testHolds 50 = .ok (.goto 4, 3) := by decide +kernel
theorem dX1_testHolds_53 : decode cX1_testHolds 53 = .ok (.iconst 0, 1) := by decide +kernel
theorem dX1_testHolds_54 : decode cX1_testHolds 54 = .ok (.ireturn, 1) := by decide +kernel
theorem dX1_testHolds_55 : decode cX1_testHolds 55 = .ok (.iload_n 2, 1) := by decide +kernel
theorem dX1_testHolds_56 : decode cX1_testHolds 56 = .ok (.iload_n 3, 1) := by decide +kernel
theorem dX1_testHolds_57 : decode cX1_testHolds 57 = .ok (.if_icmp .ne 7, 3) := by decide +kernel
theorem dX1_testHolds_60 : decode cX1_testHolds 60 = .ok (.iconst 1, 1) := by decide +kernel
theorem dX1_testHolds_61 : decode cX1_testHolds 61 = .ok (.goto 4, 3) := by decide +kernel
theorem dX1_testHolds_64 : decode cX1_testHolds 64 = .ok (.iconst 0, 1) := by decide +kernel
theorem dX1_testHolds_65 : decode cX1_testHolds 65 = .ok (.ireturn, 1) := by decide +kernel
theorem dX1_testHolds_66 : decode cX1_testHolds 66 = .ok (.iload_n 2, 1) := by decide +kernel
theorem dX1_testHolds_67 : decode cX1_testHolds 67 = .ok (.iload_n 3, 1) := by decide +kernel
theorem dX1_testHolds_68 : decode cX1_testHolds 68 = .ok (.if_icmp .le 7, 3) := by decide +kernel
theorem dX1_testHolds_71 : decode cX1_testHolds 71 = .ok (.iconst 1, 1) := by decide +kernel
theorem dX1_testHolds_72 : decode cX1_testHolds 72 = .ok (.goto 4, 3) := by decide +kernel
theorem dX1_testHolds_75 : decode cX1_testHolds 75 = .ok (.iconst 0, 1) := by decide +kernel
theorem dX1_testHolds_76 : decode cX1_testHolds 76 = .ok (.ireturn, 1) := by decide +kernel
theorem dX2_init_0 : decode cX2_init 0 = .ok (.aload_n 0, 1) := by decide +kernel
theorem dX2_init_1 : decode cX2_init 1 = .ok (.invokespecial 3, 3) := by decide +kernel
theorem dX2_init_4 : decode cX2_init 4 = .ok (.aload_n 0, 1) := by decide +kernel
theorem dX2_init_5 : decode cX2_init 5 = .ok (.bipush 100, 2) := by decide +kernel
theorem dX2_init_7 : decode cX2_init 7 = .ok (.newarray .byte, 2) := by decide +kernel
theorem dX2_init_9 : decode cX2_init 9 = .ok (.putfield 9, 3) := by decide +kernel
theorem dX2_init_12 : decode cX2_init 12 = .ok (.return_, 1) := by decide +kernel
theorem dX2_add_0 : decode cX2_add 0 = .ok (.aload_n 0, 1) := by decide +kernel
theorem dX2_add_1 : decode cX2_add 1 = .ok (.getfield 15, 3) := by decide +kernel
theorem dX2_add_4 : decode cX2_add 4 = .ok (.bipush 100, 2) := by decide +kernel
theorem dX2_add_6 : decode cX2_add 6 = .ok (.if_icmp .ge 24, 3) := by decide +kernel
theorem dX2_add_9 : decode cX2_add 9 = .ok (.aload_n 0, 1) := by decide +kernel
theorem dX2_add_10 : decode cX2_add 10 = .ok (.getfield 9, 3) := by decide +kernel
theorem dX2_add_13 : decode cX2_add 13 = .ok (.aload_n 0, 1) := by decide +kernel
theorem dX2_add_14 : decode cX2_add 14 = .ok (.getfield 15, 3) := by decide +kernel
theorem dX2_add_17 : decode cX2_add 17 = .ok (.iload_n 1, 1) := by decide +kernel
theorem dX2_add_18 : decode cX2_add 18 = .ok (.i2b, 1) := by decide +kernel
theorem dX2_add_19 : decode cX2_add 19 = .ok (.bastore, 1) := by decide +kernel
theorem dX2_add_20 : decode cX2_add 20 = .ok (.aload_n 0, 1) := by decide +kernel
theorem dX2_add_21 : decode cX2_add 21 = .ok (.dup, 1) := by decide +kernel
theorem dX2_add_22 : decode cX2_add 22 = .ok (.getfield 15, 3) := by decide +kernel
theorem dX2_add_25 : decode cX2_add 25 = .ok (.iconst 1, 1) := by decide +kernel
theorem dX2_add_26 : decode cX2_add 26 = .ok (.iadd, 1) := by decide +kernel
theorem dX2_add_27 : decode cX2_add 27 = .ok (.putfield 15, 3) := by decide +kernel
theorem dX2_add_30 : decode cX2_add 30 = .ok (.return_, 1) := by decide +kernel
theorem dX2_readInto_0 : decode cX2_readInto 0 = .ok (.aload_n 0, 1) := by decide +kernel
theorem dX2_readInto_1 : decode cX2_readInto 1 = .ok (.aload_n 1, 1) := by decide +kernel
theorem dX2_readInto_2 : decode cX2_readInto 2 = .ok (.putfield 19, 3) := by decide +kernel
theorem dX2_readInto_5 : decode cX2_readInto 5 = .ok (.aload_n 0, 1) := by decide +kernel
theorem dX2_readInto_6 : decode cX2_readInto 6 = .ok (.getfield 19, 3) := by decide +kernel
theorem dX2_readInto_9 : decode cX2_readInto 9 = .ok (.invokevirtual 23, 3) := by decide +kernel
theorem dX2_readInto_12 : decode cX2_readInto 12 = .ok (.aload_n 0, 1) := by decide +kernel
theorem dX2_readInto_13 : decode cX2_readInto 13 = .ok (.iconst 0, 1) := by decide +kernel
theorem dX2_readInto_14 : decode cX2_readInto 14 = .ok (.putfield 28, 3) := by decide +kernel
theorem dX2_readInto_17 : decode cX2_readInto 17 = .ok (.aload_n 0, 1) := by decide +kernel
theorem dX2_readInto_18 : decode cX2_readInto 18 = .ok (.iconst 0, 1) := by decide +kernel
theorem dX2_readInto_19 : decode cX2_readInto 19 = .ok (.putfield 31, 3) := by decide +kernel
theorem dX2_readInto_22 : decode cX2_readInto 22 = .ok (.iconst 0, 1) := by decide +kernel
theorem dX2_readInto_23 : decode cX2_readInto 23 = .ok (.istore_n 2, 1) := by decide +kernel
theorem dX2_readInto_24 : decode cX2_readInto 24 = .ok (.iload_n 2, 1) := by decide +kernel
theorem dX2_readInto_25 : decode cX2_readInto 25 = .ok (.bipush 10, 2) := by decide +kernel
theorem dX2_readInto_27 : decode cX2_readInto 27 = .ok (.if_icmp .ge 51, 3) := by decide +kernel
theorem dX2_readInto_30 : decode cX2_readInto 30 = .ok (.aload_n 0, 1) := by decide +kernel
theorem dX2_readInto_31 : decode cX2_readInto 31 = .ok (.invokevirtual 35, 3) := by decide +kernel
theorem dX2_readInto_34 : decode cX2_readInto 34 = .ok (.aload_n 0, 1) := by decide +kernel
theorem dX2_readInto_35 : decode cX2_readInto 35 = .ok (.getfield 31, 3) := by decide +kernel
theorem dX2_readInto_38 : decode cX2_readInto 38 = .ok (.ifCond .ne 16, 3) := by decide +kernel
theorem dX2_readInto_41 : decode cX2_readInto 41 = .ok (.aload_n 0, 1) := by decide +kernel
theorem dX2_readInto_42 : decode cX2_readInto 42 = .ok (.getfield 28, 3) := by decide +kernel
theorem dX2_readInto_45 : decode cX2_readInto 45 = .ok (.aload_n 0, 1) := by decide +kernel
theorem dX2_readInto_46 : decode cX2_readInto 46 = .ok (.getfield 15, 3) := by decide +kernel
theorem dX2_readInto_49 : decode cX2_readInto 49 = .ok (.if_icmp .ne 5, 3) := by decide +kernel
theorem dX2_readInto_52 : decode cX2_readInto 52 = .ok (.iconst (-1), 1) := by decide +kernel
theorem dX2_readInto_53 : decode cX2_readInto 53 = .ok (.ireturn, 1) := by decide +kernel
theorem dX2_readInto_54 : decode cX2_readInto 54 = .ok (.iload_n 2, 1) := by decide +kernel
theorem dX2_readInto_55 : decode cX2_readInto 55 = .ok (.bipush 9, 2) := by decide +kernel
theorem dX2_readInto_57 : decode cX2_readInto 57 = .ok (.if_icmp .eq 21, 3) := by decide +kernel
theorem dX2_readInto_60 : decode cX2_readInto 60 = .ok (.aload_n 0, 1) := by decide +kernel
theorem dX2_readInto_61 : decode cX2_readInto 61 = .ok (.bipush 59, 2) := by decide +kernel
theorem dX2_readInto_63 : decode cX2_readInto 63 = .ok (.invokevirtual 38, 3) := by decide +kernel
theorem dX2_readInto_66 : decode cX2_readInto 66 = .ok (.ifCond .ne 6, 3) := by decide +kernel
theorem dX2_readInto_69 : decode cX2_readInto 69 = .ok (.goto 9, 3) := by decide +kernel
theorem dX2_readInto_72 : decode cX2_readInto 72 = .ok (.iinc 2 1, 3) := by decide +kernel
theorem dX2_readInto_75 : decode cX2_readInto 75 = .ok (.goto (-51), 3) := by decide +kernel
theorem dX2_readInto_78 : decode cX2_readInto 78 = .ok (.aload_n 0, 1) := by decide +kernel
theorem dX2_readInto_79 : decode cX2_readInto 79 = .ok (.getfield 28, 3) := by decide +kernel
theorem dX2_readInto_82 : decode cX2_readInto 82 = .ok (.ireturn, 1) := by decide +kernel
theorem dX2_readClause_0 : decode cX2_readClause 0 = .ok (.aload_n 0, 1) := by decide +kernel
theorem dX2_readClause_1 : decode cX2_readClause 1 = .ok (.bipush 111, 2) := by decide +kernel
theorem dX2_readClause_3 : decode cX2_readClause 3 = .ok (.invokevirtual 42, 3) := by decide +kernel
theorem dX2_readClause_6 : decode cX2_readClause 6 = .ok (.ifCond .eq 7, 3) := by decide +kernel
theorem dX2_readClause_9 : decode cX2_readClause 9 = .ok (.iconst 0, 1) := by decide +kernel
theorem dX2_readClause_10 : decode cX2_readClause 10 = .ok (.goto 17, 3) := by decide +kernel
theorem dX2_readClause_13 : decode cX2_readClause 13 = .ok (.aload_n 0, 1) := by decide +kernel
theorem dX2_readClause_14 : decode cX2_readClause 14 = .ok (.bipush 115, 2) := by decide +kernel
theorem dX2_readClause_16 : decode cX2_readClause 16 = .ok (.invokevirtual 42, 3) := by decide +kernel
theorem dX2_readClause_19 : decode cX2_readClause 19 = .ok (.ifCond .eq 7, 3) := by decide +kernel
theorem dX2_readClause_22 : decode cX2_readClause 22 = .ok (.iconst 1, 1) := by decide +kernel
theorem dX2_readClause_23 : decode cX2_readClause 23 = .ok (.goto 4, 3) := by decide +kernel
theorem dX2_readClause_26 : decode cX2_readClause 26 = .ok (.iconst 2, 1) := by decide +kernel
theorem dX2_readClause_27 : decode cX2_readClause 27 = .ok (.istore_n 1, 1) := by decide +kernel
theorem dX2_readClause_28 : decode cX2_readClause 28 = .ok (.aload_n 0, 1) := by decide +kernel
theorem dX2_readClause_29 : decode cX2_readClause 29 = .ok (.iload_n 1, 1) := by decide +kernel
theorem dX2_readClause_30 : decode cX2_readClause 30 = .ok (.ifCond .ne 8, 3) := by decide +kernel
theorem dX2_readClause_33 : decode cX2_readClause 33 = .ok (.ldc 45, 2) := by decide +kernel
theorem dX2_readClause_35 : decode cX2_readClause 35 = .ok (.goto 15, 3) := by decide +kernel
theorem dX2_readClause_38 : decode cX2_readClause 38 = .ok (.iload_n 1, 1) := by decide +kernel
theorem dX2_readClause_39 : decode cX2_readClause 39 = .ok (.iconst 1, 1) := by decide +kernel
theorem dX2_readClause_40 : decode cX2_readClause 40 = .ok (.if_icmp .ne 8, 3) := by decide +kernel
theorem dX2_readClause_43 : decode cX2_readClause 43 = .ok (.ldc 47, 2) := by decide +kernel
theorem dX2_readClause_45 : decode cX2_readClause 45 = .ok (.goto 5, 3) := by decide +kernel
theorem dX2_readClause_48 : decode cX2_readClause 48 = .ok (.ldc 49, 2) := by decide +kernel
theorem dX2_readClause_50 : decode cX2_readClause 50 = .ok (.invokevirtual 51, 3) := by decide +kernel
theorem dX2_readClause_53 : decode cX2_readClause 53 = .ok (.aload_n 0, 1) := by decide +kernel
theorem dX2_readClause_54 : decode cX2_readClause 54 = .ok (.invokevirtual 55, 3) := by decide +kernel
theorem dX2_readClause_57 : decode cX2_readClause 57 = .ok (.istore_n 2, 1) := by decide +kernel
theorem dX2_readClause_58 : decode cX2_readClause 58 = .ok (.iload_n 1, 1) := by decide +kernel
theorem dX2_readClause_59 : decode cX2_readClause 59 = .ok (.iconst 2, 1) := by decide +kernel
theorem dX2_readClause_60 : decode cX2_readClause 60 = .ok (.if_icmp .eq 14, 3) := by decide +kernel
theorem dX2_readClause_63 : decode cX2_readClause 63 = .ok (.aload_n 0, 1) := by decide +kernel
theorem dX2_readClause_64 : decode cX2_readClause 64 = .ok (.ldc 59, 2) := by decide +kernel
theorem dX2_readClause_66 : decode cX2_readClause 66 = .ok (.invokevirtual 51, 3) := by decide +kernel
theorem dX2_readClause_69 : decode cX2_readClause 69 = .ok (.aload_n 0, 1) := by decide +kernel
theorem dX2_readClause_70 : decode cX2_readClause 70 = .ok (.iconst 0, 1) := by decide +kernel
theorem dX2_readClause_71 : decode cX2_readClause 71 = .ok (.invokevirtual 61, 3) := by decide +kernel
theorem dX2_readClause_74 : decode cX2_readClause 74 = .ok (.aload_n 0, 1) := by decide +kernel
theorem dX2_readClause_75 : decode cX2_readClause 75 = .ok (.getfield 19, 3) := by decide +kernel
theorem dX2_readClause_78 : decode cX2_readClause 78 = .ok (.iload_n 1, 1) := by decide +kernel
theorem dX2_readClause_79 : decode cX2_readClause 79 = .ok (.iload_n 2, 1) := by decide +kernel
theorem dX2_readClause_80 : decode cX2_readClause 80 = .ok (.invokevirtual 65, 3) := by decide +kernel
theorem dX2_readClause_83 : decode cX2_readClause 83 = .ok (.return_, 1) := by decide +kernel
theorem dX2_readEither_0 : decode cX2_readEither 0 = .ok (.iconst 0, 1) := by decide +kernel
theorem dX2_readEither_1 : decode cX2_readEither 1 = .ok (.istore_n 2, 1) := by decide +kernel
theorem dX2_readEither_2 : decode cX2_readEither 2 = .ok (.iload_n 2, 1) := by decide +kernel
theorem dX2_readEither_3 : decode cX2_readEither 3 = .ok (.ifCond .eq 18, 3) := by decide +kernel
theorem dX2_readEither_6 : decode cX2_readEither 6 = .ok (.iload_n 2, 1) := by decide +kernel
theorem dX2_readEither_7 : decode cX2_readEither 7 = .ok (.bipush 100, 2) := by decide +kernel
theorem dX2_readEither_9 : decode cX2_readEither 9 = .ok (.if_icmp .ge 73, 3) := by decide +kernel
theorem dX2_readEither_12 : decode cX2_readEither 12 = .ok (.aload_n 0, 1) := by decide +kernel
theorem dX2_readEither_13 : decode cX2_readEither 13 = .ok (.bipush 124, 2) := by decide +kernel
theorem dX2_readEither_15 : decode cX2_readEither 15 = .ok (.invokevirtual 38, 3) := by decide +kernel
theorem dX2_readEither_18 : decode cX2_readEither 18 = .ok (.ifCond .eq 64, 3) := by decide +kernel
theorem dX2_readEither_21 : decode cX2_readEither 21 = .ok (.aload_n 0, 1) := by decide +kernel
theorem dX2_readEither_22 : decode cX2_readEither 22 = .ok (.iload_n 1, 1) := by decide +kernel
theorem dX2_readEither_23 : decode cX2_readEither 23 = .ok (.invokevirtual 69, 3) := by decide +kernel
theorem dX2_readEither_26 : decode cX2_readEither 26 = .ok (.iconst 0, 1) := by decide +kernel
theorem dX2_readEither_27 : decode cX2_readEither 27 = .ok (.istore_n 3, 1) := by decide +kernel
theorem dX2_readEither_28 : decode cX2_readEither 28 = .ok (.iload_n 3, 1) := by decide +kernel
theorem dX2_readEither_29 : decode cX2_readEither 29 = .ok (.bipush 100, 2) := by decide +kernel
theorem dX2_readEither_31 : decode cX2_readEither 31 = .ok (.if_icmp .ge 32, 3) := by decide +kernel
theorem dX2_readEither_34 : decode cX2_readEither 34 = .ok (.aload_n 0, 1) := by decide +kernel
theorem dX2_readEither_35 : decode cX2_readEither 35 = .ok (.bipush 38, 2) := by decide +kernel
theorem dX2_readEither_37 : decode cX2_readEither 37 = .ok (.invokevirtual 38, 3) := by decide +kernel
theorem dX2_readEither_40 : decode cX2_readEither 40 = .ok (.ifCond .eq 23, 3) := by decide +kernel
theorem dX2_readEither_43 : decode cX2_readEither 43 = .ok (.aload_n 0, 1) := by decide +kernel
theorem dX2_readEither_44 : decode cX2_readEither 44 = .ok (.iload_n 1, 1) := by decide +kernel
theorem dX2_readEither_45 : decode cX2_readEither 45 = .ok (.invokevirtual 69, 3) := by decide +kernel
theorem dX2_readEither_48 : decode cX2_readEither 48 = .ok (.aload_n 0, 1) := by decide +kernel
theorem dX2_readEither_49 : decode cX2_readEither 49 = .ok (.getfield 19, 3) := by decide +kernel
theorem dX2_readEither_52 : decode cX2_readEither 52 = .ok (.bipush (-2), 2) := by decide +kernel
theorem dX2_readEither_54 : decode cX2_readEither 54 = .ok (.invokevirtual 72, 3) := by decide +kernel
theorem dX2_readEither_57 : decode cX2_readEither 57 = .ok (.iinc 3 1, 3) := by decide +kernel
theorem dX2_readEither_60 : decode cX2_readEither 60 = .ok (.goto (-32), 3) := by decide +kernel
theorem dX2_readEither_63 : decode cX2_readEither 63 = .ok (.iload_n 2, 1) := by decide +kernel
theorem dX2_readEither_64 : decode cX2_readEither 64 = .ok (.ifCond .le 12, 3) := by decide +kernel
theorem dX2_readEither_67 : decode cX2_readEither 67 = .ok (.aload_n 0, 1) := by decide +kernel
theorem dX2_readEither_68 : decode cX2_readEither 68 = .ok (.getfield 19, 3) := by decide +kernel
theorem dX2_readEither_71 : decode cX2_readEither 71 = .ok (.bipush (-3), 2) := by decide +kernel
theorem dX2_readEither_73 : decode cX2_readEither 73 = .ok (.invokevirtual 72, 3) := by decide +kernel
theorem dX2_readEither_76 : decode cX2_readEither 76 = .ok (.iinc 2 1, 3) := by decide +kernel
theorem dX2_readEither_79 : decode cX2_readEither 79 = .ok (.goto (-77), 3) := by decide +kernel
theorem dX2_readEither_82 : decode cX2_readEither 82 = .ok (.return_, 1) := by decide +kernel
theorem dX2_readFactor_0 : decode cX2_readFactor 0 = .ok (.iload_n 1, 1) := by decide +kernel
theorem dX2_readFactor_1 : decode cX2_readFactor 1 = .ok (.iconst 4, 1) := by decide +kernel
theorem dX2_readFactor_2 : decode cX2_readFactor 2 = .ok (.if_icmp .ge 30, 3) := by decide +kernel
theorem dX2_readFactor_5 : decode cX2_readFactor 5 = .ok (.aload_n 0, 1) := by decide +kernel
theorem dX2_readFactor_6 : decode cX2_readFactor 6 = .ok (.bipush 33, 2) := by decide +kernel
theorem dX2_readFactor_8 : decode cX2_readFactor 8 = .ok (.invokevirtual 38, 3) := by decide +kernel
theorem dX2_readFactor_11 : decode cX2_readFactor 11 = .ok (.ifCond .eq 21, 3) := by decide +kernel
theorem dX2_readFactor_14 : decode cX2_readFactor 14 = .ok (.aload_n 0, 1) := by decide +kernel
theorem dX2_readFactor_15 : decode cX2_readFactor 15 = .ok (.iload_n 1, 1) := by decide +kernel
theorem dX2_readFactor_16 : decode cX2_readFactor 16 = .ok (.iconst 1, 1) := by decide +kernel
theorem dX2_readFactor_17 : decode cX2_readFactor 17 = .ok (.iadd, 1) := by decide +kernel
theorem dX2_readFactor_18 : decode cX2_readFactor 18 = .ok (.invokevirtual 69, 3) := by decide +kernel
theorem dX2_readFactor_21 : decode cX2_readFactor 21 = .ok (.aload_n 0, 1) := by decide +kernel
theorem dX2_readFactor_22 : decode cX2_readFactor 22 = .ok (.getfield 19, 3) := by decide +kernel
theorem dX2_readFactor_25 : decode cX2_readFactor 25 = .ok (.iconst (-1), 1) := by decide +kernel
theorem dX2_readFactor_26 : decode cX2_readFactor 26 = .ok (.invokevirtual 72, 3) := by decide +kernel
theorem dX2_readFactor_29 : decode cX2_readFactor 29 = .ok (.goto 37, 3) := by decide +kernel
theorem dX2_readFactor_32 : decode cX2_readFactor 32 = .ok (.iload_n 1, 1) := by decide +kernel
theorem dX2_readFactor_33 : decode cX2_readFactor 33 = .ok (.iconst 4, 1) := by decide +kernel
theorem dX2_readFactor_34 : decode cX2_readFactor 34 = .ok (.if_icmp .ge 28, 3) := by decide +kernel
theorem dX2_readFactor_37 : decode cX2_readFactor 37 = .ok (.aload_n 0, 1) := by decide +kernel
theorem dX2_readFactor_38 : decode cX2_readFactor 38 = .ok (.bipush 40, 2) := by decide +kernel
theorem dX2_readFactor_40 : decode cX2_readFactor 40 = .ok (.invokevirtual 38, 3) := by decide +kernel
theorem dX2_readFactor_43 : decode cX2_readFactor 43 = .ok (.ifCond .eq 19, 3) := by decide +kernel
theorem dX2_readFactor_46 : decode cX2_readFactor 46 = .ok (.aload_n 0, 1) := by decide +kernel
theorem dX2_readFactor_47 : decode cX2_readFactor 47 = .ok (.iload_n 1, 1) := by decide +kernel
theorem dX2_readFactor_48 : decode cX2_readFactor 48 = .ok (.iconst 1, 1) := by decide +kernel
theorem dX2_readFactor_49 : decode cX2_readFactor 49 = .ok (.iadd, 1) := by decide +kernel
theorem dX2_readFactor_50 : decode cX2_readFactor 50 = .ok (.invokevirtual 61, 3) := by decide +kernel
theorem dX2_readFactor_53 : decode cX2_readFactor 53 = .ok (.aload_n 0, 1) := by decide +kernel
theorem dX2_readFactor_54 : decode cX2_readFactor 54 = .ok (.ldc 75, 2) := by decide +kernel
theorem dX2_readFactor_56 : decode cX2_readFactor 56 = .ok (.invokevirtual 51, 3) := by decide +kernel
theorem dX2_readFactor_59 : decode cX2_readFactor 59 = .ok (.goto 7, 3) := by decide +kernel
theorem dX2_readFactor_62 : decode cX2_readFactor 62 = .ok (.aload_n 0, 1) := by decide +kernel
theorem dX2_readFactor_63 : decode cX2_readFactor 63 = .ok (.invokevirtual 77, 3) := by decide +kernel
theorem dX2_readFactor_66 : decode cX2_readFactor 66 = .ok (.return_, 1) := by decide +kernel
theorem dX2_readTest_0 : decode cX2_readTest 0 = .ok (.aload_n 0, 1) := by decide +kernel
theorem dX2_readTest_1 : decode cX2_readTest 1 = .ok (.ldc 80, 2) := by decide +kernel
theorem dX2_readTest_3 : decode cX2_readTest 3 = .ok (.iconst 1, 1) := by decide +kernel
theorem dX2_readTest_4 : decode cX2_readTest 4 = .ok (.invokevirtual 82, 3) := by decide +kernel
theorem dX2_readTest_7 : decode cX2_readTest 7 = .ok (.istore_n 1, 1) := by decide +kernel
theorem dX2_readTest_8 : decode cX2_readTest 8 = .ok (.aload_n 0, 1) := by decide +kernel
theorem dX2_readTest_9 : decode cX2_readTest 9 = .ok (.ldc 86, 2) := by decide +kernel
theorem dX2_readTest_11 : decode cX2_readTest 11 = .ok (.iconst 1, 1) := by decide +kernel
theorem dX2_readTest_12 : decode cX2_readTest 12 = .ok (.invokevirtual 82, 3) := by decide +kernel
theorem dX2_readTest_15 : decode cX2_readTest 15 = .ok (.istore_n 2, 1) := by decide +kernel
theorem dX2_readTest_16 : decode cX2_readTest 16 = .ok (.aload_n 0, 1) := by decide +kernel
theorem dX2_readTest_17 : decode cX2_readTest 17 = .ok (.getfield 19, 3) := by decide +kernel
theorem dX2_readTest_20 : decode cX2_readTest 20 = .ok (.iload_n 1, 1) := by decide +kernel
theorem dX2_readTest_21 : decode cX2_readTest 21 = .ok (.iload_n 2, 1) := by decide +kernel
theorem dX2_readTest_22 : decode cX2_readTest 22 = .ok (.aload_n 0, 1) := by decide +kernel
theorem dX2_readTest_23 : decode cX2_readTest 23 = .ok (.invokevirtual 55, 3) := by decide +kernel
theorem dX2_readTest_26 : decode cX2_readTest 26 = .ok (.invokestatic 88, 3) := by decide +kernel
theorem dX2_readTest_29 : decode cX2_readTest 29 = .ok (.invokevirtual 72, 3) := by decide +kernel
theorem dX2_readTest_32 : decode cX2_readTest 32 = .ok (.return_, 1) := by decide +kernel
theorem dX2_readNumber_0 : decode cX2_readNumber 0 = .ok (.aload_n 0, 1) := by decide +kernel
theorem dX2_readNumber_1 : decode cX2_readNumber 1 = .ok (.ldc 92, 2) := by decide +kernel
theorem dX2_readNumber_3 : decode cX2_readNumber 3 = .ok (.iconst 1, 1) := by decide +kernel
theorem dX2_readNumber_4 : decode cX2_readNumber 4 = .ok (.invokevirtual 82, 3) := by decide +kernel
theorem dX2_readNumber_7 : decode cX2_readNumber 7 = .ok (.istore_n 1, 1) := by decide +kernel
theorem dX2_readNumber_8 : decode cX2_readNumber 8 = .ok (.aload_n 0, 1) := by decide +kernel
theorem dX2_readNumber_9 : decode cX2_readNumber 9 = .ok (.ldc 92, 2) := by decide +kernel
theorem dX2_readNumber_11 : decode cX2_readNumber 11 = .ok (.iconst 0, 1) := by decide +kernel
theorem dX2_readNumber_12 : decode cX2_readNumber 12 = .ok (.invokevirtual 82, 3) := by decide +kernel
theorem dX2_readNumber_15 : decode cX2_readNumber 15 = .ok (.istore_n 2, 1) := by decide +kernel
theorem dX2_readNumber_16 : decode cX2_readNumber 16 = .ok (.iload_n 2, 1) := by decide +kernel
theorem dX2_readNumber_17 : decode cX2_readNumber 17 = .ok (.ifCond .ge 7, 3) := by decide +kernel
theorem dX2_readNumber_20 : decode cX2_readNumber 20 = .ok (.iload_n 1, 1) := by decide +kernel
theorem dX2_readNumber_21 : decode cX2_readNumber 21 = .ok (.goto 9, 3) := by decide +kernel
theorem dX2_readNumber_24 : decode cX2_readNumber 24 = .ok (.iload_n 1, 1) := by decide +kernel
theorem dX2_readNumber_25 : decode cX2_readNumber 25 = .ok (.bipush 10, 2) := by decide +kernel
theorem dX2_readNumber_27 : decode cX2_readNumber 27 = .ok (.imul, 1) := by decide +kernel
theorem dX2_readNumber_28 : decode cX2_readNumber 28 = .ok (.iload_n 2, 1) := by decide +kernel
theorem dX2_readNumber_29 : decode cX2_readNumber 29 = .ok (.iadd, 1) := by decide +kernel
theorem dX2_readNumber_30 : decode cX2_readNumber 30 = .ok (.ireturn, 1) := by decide +kernel
theorem dX2_isAt_0 : decode cX2_isAt 0 = .ok (.aload_n 0, 1) := by decide +kernel
theorem dX2_isAt_1 : decode cX2_isAt 1 = .ok (.getfield 31, 3) := by decide +kernel
theorem dX2_isAt_4 : decode cX2_isAt 4 = .ok (.ifCond .ne 31, 3) := by decide +kernel
theorem dX2_isAt_7 : decode cX2_isAt 7 = .ok (.aload_n 0, 1) := by decide +kernel
theorem dX2_isAt_8 : decode cX2_isAt 8 = .ok (.getfield 28, 3) := by decide +kernel
theorem dX2_isAt_11 : decode cX2_isAt 11 = .ok (.aload_n 0, 1) := by decide +kernel
theorem dX2_isAt_12 : decode cX2_isAt 12 = .ok (.getfield 15, 3) := by decide +kernel
theorem dX2_isAt_15 : decode cX2_isAt 15 = .ok (.if_icmp .ge 20, 3) := by decide +kernel
theorem dX2_isAt_18 : decode cX2_isAt 18 = .ok (.aload_n 0, 1) := by decide +kernel
theorem dX2_isAt_19 : decode cX2_isAt 19 = .ok (.getfield 9, 3) := by decide +kernel
theorem dX2_isAt_22 : decode cX2_isAt 22 = .ok (.aload_n 0, 1) := by decide +kernel
theorem dX2_isAt_23 : decode cX2_isAt 23 = .ok (.getfield 28, 3) := by decide +kernel
theorem dX2_isAt_26 : decode cX2_isAt 26 = .ok (.baload, 1) := by decide +kernel
theorem dX2_isAt_27 : decode cX2_isAt 27 = .ok (.iload_n 1, 1) := by decide +kernel
theorem dX2_isAt_28 : decode cX2_isAt 28 = .ok (.if_icmp .ne 7, 3) := by decide +kernel
theorem dX2_isAt_31 : decode cX2_isAt 31 = .ok (.iconst 1, 1) := by decide +kernel
theorem dX2_isAt_32 : decode cX2_isAt 32 = .ok (.goto 4, 3) := by decide +kernel
theorem dX2_isAt_35 : decode cX2_isAt 35 = .ok (.iconst 0, 1) := by decide +kernel
theorem dX2_isAt_36 : decode cX2_isAt 36 = .ok (.ireturn, 1) := by decide +kernel
theorem dX2_takes_0 : decode cX2_takes 0 = .ok (.aload_n 0, 1) := by decide +kernel
theorem dX2_takes_1 : decode cX2_takes 1 = .ok (.iload_n 1, 1) := by decide +kernel
theorem dX2_takes_2 : decode cX2_takes 2 = .ok (.invokevirtual 42, 3) := by decide +kernel
theorem dX2_takes_5 : decode cX2_takes 5 = .ok (.istore_n 2, 1) := by decide +kernel
theorem dX2_takes_6 : decode cX2_takes 6 = .ok (.iload_n 2, 1) := by decide +kernel
theorem dX2_takes_7 : decode cX2_takes 7 = .ok (.ifCond .eq 13, 3) := by decide +kernel
theorem dX2_takes_10 : decode cX2_takes 10 = .ok (.aload_n 0, 1) := by decide +kernel
theorem dX2_takes_11 : decode cX2_takes 11 = .ok (.dup, 1) := by decide +kernel
theorem dX2_takes_12 : decode cX2_takes 12 = .ok (.getfield 28, 3) := by decide +kernel
theorem dX2_takes_15 : decode cX2_takes 15 = .ok (.iconst 1, 1) := by decide +kernel
theorem dX2_takes_16 : decode cX2_takes 16 = .ok (.iadd, 1) := by decide +kernel
theorem dX2_takes_17 : decode cX2_takes 17 = .ok (.putfield 28, 3) := by decide +kernel
theorem dX2_takes_20 : decode cX2_takes 20 = .ok (.iload_n 2, 1) := by decide +kernel
theorem dX2_takes_21 : decode cX2_takes 21 = .ok (.ireturn, 1) := by decide +kernel
theorem dX2_need_0 : decode cX2_need 0 = .ok (.iconst 0, 1) := by decide +kernel
theorem dX2_need_1 : decode cX2_need 1 = .ok (.istore_n 2, 1) := by decide +kernel
theorem dX2_need_2 : decode cX2_need 2 = .ok (.iload_n 2, 1) := by decide +kernel
theorem dX2_need_3 : decode cX2_need 3 = .ok (.aload_n 1, 1) := by decide +kernel
theorem dX2_need_4 : decode cX2_need 4 = .ok (.invokevirtual 94, 3) := by decide +kernel
theorem dX2_need_7 : decode cX2_need 7 = .ok (.if_icmp .ge 26, 3) := by decide +kernel
theorem dX2_need_10 : decode cX2_need 10 = .ok (.aload_n 0, 1) := by decide +kernel
theorem dX2_need_11 : decode cX2_need 11 = .ok (.aload_n 1, 1) := by decide +kernel
theorem dX2_need_12 : decode cX2_need 12 = .ok (.iload_n 2, 1) := by decide +kernel
theorem dX2_need_13 : decode cX2_need 13 = .ok (.invokevirtual 98, 3) := by decide +kernel
theorem dX2_need_16 : decode cX2_need 16 = .ok (.invokevirtual 38, 3) := by decide +kernel
theorem dX2_need_19 : decode cX2_need 19 = .ok (.ifCond .ne 8, 3) := by decide +kernel
theorem dX2_need_22 : decode cX2_need 22 = .ok (.aload_n 0, 1) := by decide +kernel
theorem dX2_need_23 : decode cX2_need 23 = .ok (.iconst 1, 1) := by decide +kernel
theorem dX2_need_24 : decode cX2_need 24 = .ok (.putfield 31, 3) := by decide +kernel
theorem dX2_need_27 : decode cX2_need 27 = .ok (.iinc 2 1, 3) := by decide +kernel
theorem dX2_need_30 : decode cX2_need 30 = .ok (.goto (-28), 3) := by decide +kernel
theorem dX2_need_33 : decode cX2_need 33 = .ok (.return_, 1) := by decide +kernel
theorem dX2_takesOneOf_0 : decode cX2_takesOneOf 0 = .ok (.aload_n 0, 1) := by decide +kernel
theorem dX2_takesOneOf_1 : decode cX2_takesOneOf 1 = .ok (.getfield 31, 3) := by decide +kernel
theorem dX2_takesOneOf_4 : decode cX2_takesOneOf 4 = .ok (.ifCond .ne 14, 3) := by decide +kernel
theorem dX2_takesOneOf_7 : decode cX2_takesOneOf 7 = .ok (.aload_n 0, 1) := by decide +kernel
theorem dX2_takesOneOf_8 : decode cX2_takesOneOf 8 = .ok (.getfield 28, 3) := by decide +kernel
theorem dX2_takesOneOf_11 : decode cX2_takesOneOf 11 = .ok (.aload_n 0, 1) := by decide +kernel
theorem dX2_takesOneOf_12 : decode cX2_takesOneOf 12 = .ok (.getfield 15, 3) := by decide +kernel
theorem dX2_takesOneOf_15 : decode cX2_takesOneOf 15 = .ok (.if_icmp .lt 7, 3) := by decide +kernel
theorem dX2_takesOneOf_18 : decode cX2_takesOneOf 18 = .ok (.iconst (-1), 1) := by decide +kernel
theorem dX2_takesOneOf_19 : decode cX2_takesOneOf 19 = .ok (.goto 17, 3) := by decide +kernel
theorem dX2_takesOneOf_22 : decode cX2_takesOneOf 22 = .ok (.aload_n 1, 1) := by decide +kernel
theorem dX2_takesOneOf_23 : decode cX2_takesOneOf 23 = .ok (.aload_n 0, 1) := by decide +kernel
theorem dX2_takesOneOf_24 : decode cX2_takesOneOf 24 = .ok (.getfield 9, 3) := by decide +kernel
theorem dX2_takesOneOf_27 : decode cX2_takesOneOf 27 = .ok (.aload_n 0, 1) := by decide +kernel
theorem dX2_takesOneOf_28 : decode cX2_takesOneOf 28 = .ok (.getfield 28, 3) := by decide +kernel
theorem dX2_takesOneOf_31 : decode cX2_takesOneOf 31 = .ok (.baload, 1) := by decide +kernel
theorem dX2_takesOneOf_32 : decode cX2_takesOneOf 32 = .ok (.i2c, 1) := by decide +kernel
theorem dX2_takesOneOf_33 : decode cX2_takesOneOf 33 = .ok (.invokevirtual 102, 3) := by decide +kernel
theorem dX2_takesOneOf_36 : decode cX2_takesOneOf 36 = .ok (.istore_n 3, 1) := by decide +kernel
theorem dX2_takesOneOf_37 : decode cX2_takesOneOf 37 = .ok (.iload_n 3, 1) := by decide +kernel
theorem dX2_takesOneOf_38 : decode cX2_takesOneOf 38 = .ok (.ifCond .lt 16, 3) := by decide +kernel
theorem dX2_takesOneOf_41 : decode cX2_takesOneOf 41 = .ok (.aload_n 0, 1) := by decide +kernel
theorem dX2_takesOneOf_42 : decode cX2_takesOneOf 42 = .ok (.dup, 1) := by decide +kernel
theorem dX2_takesOneOf_43 : decode cX2_takesOneOf 43 = .ok (.getfield 28, 3) := by decide +kernel
theorem dX2_takesOneOf_46 : decode cX2_takesOneOf 46 = .ok (.iconst 1, 1) := by decide +kernel
theorem dX2_takesOneOf_47 : decode cX2_takesOneOf 47 = .ok (.iadd, 1) := by decide +kernel
theorem dX2_takesOneOf_48 : decode cX2_takesOneOf 48 = .ok (.putfield 28, 3) := by decide +kernel
theorem dX2_takesOneOf_51 : decode cX2_takesOneOf 51 = .ok (.goto 12, 3) := by decide +kernel
theorem dX2_takesOneOf_54 : decode cX2_takesOneOf 54 = .ok (.iload_n 2, 1) := by decide +kernel
theorem dX2_takesOneOf_55 : decode cX2_takesOneOf 55 = .ok (.ifCond .eq 8, 3) := by decide +kernel
theorem dX2_takesOneOf_58 : decode cX2_takesOneOf 58 = .ok (.aload_n 0, 1) := by decide +kernel
theorem dX2_takesOneOf_59 : decode cX2_takesOneOf 59 = .ok (.iconst 1, 1) := by decide +kernel
theorem dX2_takesOneOf_60 : decode cX2_takesOneOf 60 = .ok (.putfield 31, 3) := by decide +kernel
theorem dX2_takesOneOf_63 : decode cX2_takesOneOf 63 = .ok (.iload_n 3, 1) := by decide +kernel
theorem dX2_takesOneOf_64 : decode cX2_takesOneOf 64 = .ok (.ireturn, 1) := by decide +kernel
theorem dX3_init_0 : decode cX3_init 0 = .ok (.aload_n 0, 1) := by decide +kernel
theorem dX3_init_1 : decode cX3_init 1 = .ok (.invokespecial 3, 3) := by decide +kernel
theorem dX3_init_4 : decode cX3_init 4 = .ok (.aload_n 0, 1) := by decide +kernel
theorem dX3_init_5 : decode cX3_init 5 = .ok (.iconst 5, 1) := by decide +kernel
theorem dX3_init_6 : decode cX3_init 6 = .ok (.newarray .int, 2) := by decide +kernel
theorem dX3_init_8 : decode cX3_init 8 = .ok (.putfield 9, 3) := by decide +kernel
theorem dX3_init_11 : decode cX3_init 11 = .ok (.aload_n 0, 1) := by decide +kernel
theorem dX3_init_12 : decode cX3_init 12 = .ok (.iconst 3, 1) := by decide +kernel
theorem dX3_init_13 : decode cX3_init 13 = .ok (.newarray .int, 2) := by decide +kernel
theorem dX3_init_15 : decode cX3_init 15 = .ok (.putfield 15, 3) := by decide +kernel
theorem dX3_init_18 : decode cX3_init 18 = .ok (.aload_n 0, 1) := by decide +kernel
theorem dX3_init_19 : decode cX3_init 19 = .ok (.iconst 5, 1) := by decide +kernel
theorem dX3_init_20 : decode cX3_init 20 = .ok (.newarray .int, 2) := by decide +kernel
theorem dX3_init_22 : decode cX3_init 22 = .ok (.putfield 18, 3) := by decide +kernel
theorem dX3_init_25 : decode cX3_init 25 = .ok (.aload_n 0, 1) := by decide +kernel
theorem dX3_init_26 : decode cX3_init 26 = .ok (.iconst 5, 1) := by decide +kernel
theorem dX3_init_27 : decode cX3_init 27 = .ok (.newarray .int, 2) := by decide +kernel
theorem dX3_init_29 : decode cX3_init 29 = .ok (.putfield 21, 3) := by decide +kernel
theorem dX3_init_32 : decode cX3_init 32 = .ok (.aload_n 0, 1) := by decide +kernel
theorem dX3_init_33 : decode cX3_init 33 = .ok (.iconst 5, 1) := by decide +kernel
theorem dX3_init_34 : decode cX3_init 34 = .ok (.newarray .int, 2) := by decide +kernel
theorem dX3_init_36 : decode cX3_init 36 = .ok (.putfield 24, 3) := by decide +kernel
theorem dX3_init_39 : decode cX3_init 39 = .ok (.aload_n 0, 1) := by decide +kernel
theorem dX3_init_40 : decode cX3_init 40 = .ok (.aload_n 1, 1) := by decide +kernel
theorem dX3_init_41 : decode cX3_init 41 = .ok (.putfield 27, 3) := by decide +kernel
theorem dX3_init_44 : decode cX3_init 44 = .ok (.return_, 1) := by decide +kernel
theorem dX3_find_0 : decode cX3_find 0 = .ok (.aload_n 0, 1) := by decide +kernel
theorem dX3_find_1 : decode cX3_find 1 = .ok (.iconst 0, 1) := by decide +kernel
theorem dX3_find_2 : decode cX3_find 2 = .ok (.putfield 31, 3) := by decide +kernel
theorem dX3_find_5 : decode cX3_find 5 = .ok (.aload_n 0, 1) := by decide +kernel
theorem dX3_find_6 : decode cX3_find 6 = .ok (.iconst 0, 1) := by decide +kernel
theorem dX3_find_7 : decode cX3_find 7 = .ok (.putfield 35, 3) := by decide +kernel
theorem dX3_find_10 : decode cX3_find 10 = .ok (.aload_n 0, 1) := by decide +kernel
theorem dX3_find_11 : decode cX3_find 11 = .ok (.iconst 0, 1) := by decide +kernel
theorem dX3_find_12 : decode cX3_find 12 = .ok (.putfield 38, 3) := by decide +kernel
theorem dX3_find_15 : decode cX3_find 15 = .ok (.aload_n 0, 1) := by decide +kernel
theorem dX3_find_16 : decode cX3_find 16 = .ok (.getfield 21, 3) := by decide +kernel
theorem dX3_find_19 : decode cX3_find 19 = .ok (.iconst 0, 1) := by decide +kernel
theorem dX3_find_20 : decode cX3_find 20 = .ok (.invokestatic 41, 3) := by decide +kernel
theorem dX3_find_23 : decode cX3_find 23 = .ok (.aload_n 0, 1) := by decide +kernel
theorem dX3_find_24 : decode cX3_find 24 = .ok (.getfield 24, 3) := by decide +kernel
theorem dX3_find_27 : decode cX3_find 27 = .ok (.iconst 0, 1) := by decide +kernel
theorem dX3_find_28 : decode cX3_find 28 = .ok (.invokestatic 41, 3) := by decide +kernel
theorem dX3_find_31 : decode cX3_find 31 = .ok (.aload_n 0, 1) := by decide +kernel
theorem dX3_find_32 : decode cX3_find 32 = .ok (.invokevirtual 47, 3) := by decide +kernel
theorem dX3_find_35 : decode cX3_find 35 = .ok (.iconst 0, 1) := by decide +kernel
theorem dX3_find_36 : decode cX3_find 36 = .ok (.istore_n 3, 1) := by decide +kernel
theorem dX3_find_37 : decode cX3_find 37 = .ok (.iload_n 3, 1) := by decide +kernel
theorem dX3_find_38 : decode cX3_find 38 = .ok (.ldc 50, 2) := by decide +kernel
theorem dX3_find_40 : decode cX3_find 40 = .ok (.if_icmp .ge 38, 3) := by decide +kernel
theorem dX3_find_43 : decode cX3_find 43 = .ok (.aload_n 0, 1) := by decide +kernel
theorem dX3_find_44 : decode cX3_find 44 = .ok (.getfield 51, 3) := by decide +kernel
theorem dX3_find_47 : decode cX3_find 47 = .ok (.ifCond .ne 31, 3) := by decide +kernel
theorem dX3_find_50 : decode cX3_find 50 = .ok (.aload_n 0, 1) := by decide +kernel
theorem dX3_find_51 : decode cX3_find 51 = .ok (.aload_n 2, 1) := by decide +kernel
theorem dX3_find_52 : decode cX3_find 52 = .ok (.invokevirtual 55, 3) := by decide +kernel
theorem dX3_find_55 : decode cX3_find 55 = .ok (.ifCond .ne 7, 3) := by decide +kernel
theorem dX3_find_58 : decode cX3_find 58 = .ok (.aload_n 0, 1) := by decide +kernel
theorem dX3_find_59 : decode cX3_find 59 = .ok (.invokevirtual 59, 3) := by decide +kernel
theorem dX3_find_62 : decode cX3_find 62 = .ok (.aload_n 0, 1) := by decide +kernel
theorem dX3_find_63 : decode cX3_find 63 = .ok (.iload_n 1, 1) := by decide +kernel
theorem dX3_find_64 : decode cX3_find 64 = .ok (.aload_n 0, 1) := by decide +kernel
theorem dX3_find_65 : decode cX3_find 65 = .ok (.aload_n 2, 1) := by decide +kernel
theorem dX3_find_66 : decode cX3_find 66 = .ok (.invokevirtual 62, 3) := by decide +kernel
theorem dX3_find_69 : decode cX3_find 69 = .ok (.invokevirtual 66, 3) := by decide +kernel
theorem dX3_find_72 : decode cX3_find 72 = .ok (.iinc 3 1, 3) := by decide +kernel
theorem dX3_find_75 : decode cX3_find 75 = .ok (.goto (-38), 3) := by decide +kernel
theorem dX3_find_78 : decode cX3_find 78 = .ok (.return_, 1) := by decide +kernel
theorem dX3_leastExcess_0 : decode cX3_leastExcess 0 = .ok (.iconst (-1), 1) := by decide +kernel
theorem dX3_leastExcess_1 : decode cX3_leastExcess 1 = .ok (.istore_n 3, 1) := by decide +kernel
theorem dX3_leastExcess_2 : decode cX3_leastExcess 2 = .ok (.aload_n 0, 1) := by decide +kernel
theorem dX3_leastExcess_3 : decode cX3_leastExcess 3 = .ok (.invokevirtual 47, 3) := by decide +kernel
theorem dX3_leastExcess_6 : decode cX3_leastExcess 6 = .ok (.iconst 0, 1) := by decide +kernel
theorem dX3_leastExcess_7 : decode cX3_leastExcess 7 = .ok (.istore 4, 2) := by decide +kernel
theorem dX3_leastExcess_9 : decode cX3_leastExcess 9 = .ok (.iload 4, 2) := by decide +kernel
theorem dX3_leastExcess_11 : decode cX3_leastExcess 11 = .ok (.ldc 50, 2) := by decide +kernel
theorem dX3_leastExcess_13 : decode cX3_leastExcess 13 = .ok (.if_icmp .ge 47, 3) := by decide +kernel
theorem dX3_leastExcess_16 : decode cX3_leastExcess 16 = .ok (.aload_n 0, 1) := by decide +kernel
theorem dX3_leastExcess_17 : decode cX3_leastExcess 17 = .ok (.getfield 51, 3) := by decide +kernel
theorem dX3_leastExcess_20 : decode cX3_leastExcess 20 = .ok (.ifCond .ne 40, 3) := by decide +kernel
theorem dX3_leastExcess_23 : decode cX3_leastExcess 23 = .ok (.aload_n 0, 1) := by decide +kernel
theorem dX3_leastExcess_24 : decode cX3_leastExcess 24 = .ok (.aload_n 2, 1) := by decide +kernel
theorem dX3_leastExcess_25 : decode cX3_leastExcess 25 = .ok (.invokevirtual 55, 3) := by decide +kernel
theorem dX3_leastExcess_28 : decode cX3_leastExcess 28 = .ok (.istore 5, 2) := by decide +kernel
theorem dX3_leastExcess_30 : decode cX3_leastExcess 30 = .ok (.iload 5, 2) := by decide +kernel
theorem dX3_leastExcess_32 : decode cX3_leastExcess 32 = .ok (.ifCond .lt 16, 3) := by decide +kernel
theorem dX3_leastExcess_35 : decode cX3_leastExcess 35 = .ok (.iload_n 3, 1) := by decide +kernel
theorem dX3_leastExcess_36 : decode cX3_leastExcess 36 = .ok (.ifCond .lt 9, 3) := by decide +kernel
theorem dX3_leastExcess_39 : decode cX3_leastExcess 39 = .ok (.iload 5, 2) := by decide +kernel
theorem dX3_leastExcess_41 : decode cX3_leastExcess 41 = .ok (.iload_n 3, 1) := by decide +kernel
theorem dX3_leastExcess_42 : decode cX3_leastExcess 42 = .ok (.if_icmp .ge 6, 3) := by decide +kernel
theorem dX3_leastExcess_45 : decode cX3_leastExcess 45 = .ok (.iload 5, 2) := by decide +kernel
theorem dX3_leastExcess_47 : decode cX3_leastExcess 47 = .ok (.istore_n 3, 1) := by decide +kernel
theorem dX3_leastExcess_48 : decode cX3_leastExcess 48 = .ok (.aload_n 0, 1) := by decide +kernel
theorem dX3_leastExcess_49 : decode cX3_leastExcess 49 = .ok (.iload_n 1, 1) := by decide +kernel
theorem dX3_leastExcess_50 : decode cX3_leastExcess 50 = .ok (.iconst 0, 1) := by decide +kernel
theorem dX3_leastExcess_51 : decode cX3_leastExcess 51 = .ok (.invokevirtual 66, 3) := by decide +kernel
theorem dX3_leastExcess_54 : decode cX3_leastExcess 54 = .ok (.iinc 4 1, 3) := by decide +kernel
theorem dX3_leastExcess_57 : decode cX3_leastExcess 57 = .ok (.goto (-48), 3) := by decide +kernel
theorem dX3_leastExcess_60 : decode cX3_leastExcess 60 = .ok (.iload_n 3, 1) := by decide +kernel
theorem dX3_leastExcess_61 : decode cX3_leastExcess 61 = .ok (.ireturn, 1) := by decide +kernel
theorem dX3_begin_0 : decode cX3_begin 0 = .ok (.aload_n 0, 1) := by decide +kernel
theorem dX3_begin_1 : decode cX3_begin 1 = .ok (.getfield 9, 3) := by decide +kernel
theorem dX3_begin_4 : decode cX3_begin 4 = .ok (.iconst 0, 1) := by decide +kernel
theorem dX3_begin_5 : decode cX3_begin 5 = .ok (.invokestatic 41, 3) := by decide +kernel
theorem dX3_begin_8 : decode cX3_begin 8 = .ok (.aload_n 0, 1) := by decide +kernel
theorem dX3_begin_9 : decode cX3_begin 9 = .ok (.getfield 15, 3) := by decide +kernel
theorem dX3_begin_12 : decode cX3_begin 12 = .ok (.iconst 0, 1) := by decide +kernel
theorem dX3_begin_13 : decode cX3_begin 13 = .ok (.invokestatic 41, 3) := by decide +kernel
theorem dX3_begin_16 : decode cX3_begin 16 = .ok (.aload_n 0, 1) := by decide +kernel
theorem dX3_begin_17 : decode cX3_begin 17 = .ok (.iconst 0, 1) := by decide +kernel
theorem dX3_begin_18 : decode cX3_begin 18 = .ok (.putfield 70, 3) := by decide +kernel
theorem dX3_begin_21 : decode cX3_begin 21 = .ok (.aload_n 0, 1) := by decide +kernel
theorem dX3_begin_22 : decode cX3_begin 22 = .ok (.iconst 0, 1) := by decide +kernel
theorem dX3_begin_23 : decode cX3_begin 23 = .ok (.putfield 73, 3) := by decide +kernel
theorem dX3_begin_26 : decode cX3_begin 26 = .ok (.aload_n 0, 1) := by decide +kernel
theorem dX3_begin_27 : decode cX3_begin 27 = .ok (.iconst 0, 1) := by decide +kernel
theorem dX3_begin_28 : decode cX3_begin 28 = .ok (.putfield 51, 3) := by decide +kernel
theorem dX3_begin_31 : decode cX3_begin 31 = .ok (.return_, 1) := by decide +kernel
theorem dX3_advance_0 : decode cX3_advance 0 = .ok (.iload_n 2, 1) := by decide +kernel
theorem dX3_advance_1 : decode cX3_advance 1 = .ok (.ifCond .ne 11, 3) := by decide +kernel
theorem dX3_advance_4 : decode cX3_advance 4 = .ok (.aload_n 0, 1) := by decide +kernel
theorem dX3_advance_5 : decode cX3_advance 5 = .ok (.getfield 70, 3) := by decide +kernel
theorem dX3_advance_8 : decode cX3_advance 8 = .ok (.iload_n 1, 1) := by decide +kernel
theorem dX3_advance_9 : decode cX3_advance 9 = .ok (.if_icmp .lt 7, 3) := by decide +kernel
theorem dX3_advance_12 : decode cX3_advance 12 = .ok (.iconst 1, 1) := by decide +kernel
theorem dX3_advance_13 : decode cX3_advance 13 = .ok (.goto 4, 3) := by decide +kernel
theorem dX3_advance_16 : decode cX3_advance 16 = .ok (.iconst 0, 1) := by decide +kernel
theorem dX3_advance_17 : decode cX3_advance 17 = .ok (.istore_n 3, 1) := by decide +kernel
theorem dX3_advance_18 : decode cX3_advance 18 = .ok (.aload_n 0, 1) := by decide +kernel
theorem dX3_advance_19 : decode cX3_advance 19 = .ok (.getfield 27, 3) := by decide +kernel
theorem dX3_advance_22 : decode cX3_advance 22 = .ok (.getfield 76, 3) := by decide +kernel
theorem dX3_advance_25 : decode cX3_advance 25 = .ok (.iconst 1, 1) := by decide +kernel
theorem dX3_advance_26 : decode cX3_advance 26 = .ok (.isub, 1) := by decide +kernel
theorem dX3_advance_27 : decode cX3_advance 27 = .ok (.istore 4, 2) := by decide +kernel
theorem dX3_advance_29 : decode cX3_advance 29 = .ok (.iload 4, 2) := by decide +kernel
theorem dX3_advance_31 : decode cX3_advance 31 = .ok (.ifCond .lt 47, 3) := by decide +kernel
theorem dX3_advance_34 : decode cX3_advance 34 = .ok (.iload_n 3, 1) := by decide +kernel
theorem dX3_advance_35 : decode cX3_advance 35 = .ok (.ifCond .ne 11, 3) := by decide +kernel
theorem dX3_advance_38 : decode cX3_advance 38 = .ok (.aload_n 0, 1) := by decide +kernel
theorem dX3_advance_39 : decode cX3_advance 39 = .ok (.iload 4, 2) := by decide +kernel
theorem dX3_advance_41 : decode cX3_advance 41 = .ok (.iconst 1, 1) := by decide +kernel
theorem dX3_advance_42 : decode cX3_advance 42 = .ok (.invokevirtual 81, 3) := by decide +kernel
theorem dX3_advance_45 : decode cX3_advance 45 = .ok (.return_, 1) := by decide +kernel
theorem dX3_advance_46 : decode cX3_advance 46 = .ok (.aload_n 0, 1) := by decide +kernel
theorem dX3_advance_47 : decode cX3_advance 47 = .ok (.getfield 9, 3) := by decide +kernel
theorem dX3_advance_50 : decode cX3_advance 50 = .ok (.iload 4, 2) := by decide +kernel
theorem dX3_advance_52 : decode cX3_advance 52 = .ok (.iaload, 1) := by decide +kernel
theorem dX3_advance_53 : decode cX3_advance 53 = .ok (.ifCond .le 19, 3) := by decide +kernel
theorem dX3_advance_56 : decode cX3_advance 56 = .ok (.aload_n 0, 1) := by decide +kernel
theorem dX3_advance_57 : decode cX3_advance 57 = .ok (.iload 4, 2) := by decide +kernel
theorem dX3_advance_59 : decode cX3_advance 59 = .ok (.aload_n 0, 1) := by decide +kernel
theorem dX3_advance_60 : decode cX3_advance 60 = .ok (.getfield 9, 3) := by decide +kernel
theorem dX3_advance_63 : decode cX3_advance 63 = .ok (.iload 4, 2) := by decide +kernel
theorem dX3_advance_65 : decode cX3_advance 65 = .ok (.iaload, 1) := by decide +kernel
theorem dX3_advance_66 : decode cX3_advance 66 = .ok (.ineg, 1) := by decide +kernel
theorem dX3_advance_67 : decode cX3_advance 67 = .ok (.invokevirtual 81, 3) := by decide +kernel
theorem dX3_advance_70 : decode cX3_advance 70 = .ok (.iconst 0, 1) := by decide +kernel
theorem dX3_advance_71 : decode cX3_advance 71 = .ok (.istore_n 3, 1) := by decide +kernel
theorem dX3_advance_72 : decode cX3_advance 72 = .ok (.iinc 4 (-1), 3) := by decide +kernel
theorem dX3_advance_75 : decode cX3_advance 75 = .ok (.goto (-46), 3) := by decide +kernel
theorem dX3_advance_78 : decode cX3_advance 78 = .ok (.aload_n 0, 1) := by decide +kernel
theorem dX3_advance_79 : decode cX3_advance 79 = .ok (.iconst 1, 1) := by decide +kernel
theorem dX3_advance_80 : decode cX3_advance 80 = .ok (.putfield 51, 3) := by decide +kernel
theorem dX3_advance_83 : decode cX3_advance 83 = .ok (.return_, 1) := by decide +kernel
theorem dX3_addBeasts_0 : decode cX3_addBeasts 0 = .ok (.aload_n 0, 1) := by decide +kernel
theorem dX3_addBeasts_1 : decode cX3_addBeasts 1 = .ok (.getfield 9, 3) := by decide +kernel
theorem dX3_addBeasts_4 : decode cX3_addBeasts 4 = .ok (.iload_n 1, 1) := by decide +kernel
theorem dX3_addBeasts_5 : decode cX3_addBeasts 5 = .ok (.dup2, 1) := by decide +kernel
theorem dX3_addBeasts_6 : decode cX3_addBeasts 6 = .ok (.iaload, 1) := by decide +kernel
theorem dX3_addBeasts_7 : decode cX3_addBeasts 7 = .ok (.iload_n 2, 1) := by decide +kernel
theorem dX3_addBeasts_8 : decode cX3_addBeasts 8 = .ok (.iadd, 1) := by decide +kernel
theorem dX3_addBeasts_9 : decode cX3_addBeasts 9 = .ok (.iastore, 1) := by decide +kernel
theorem dX3_addBeasts_10 : decode cX3_addBeasts 10 = .ok (.aload_n 0, 1) := by decide +kernel
theorem dX3_addBeasts_11 : decode cX3_addBeasts 11 = .ok (.dup, 1) := by decide +kernel
theorem dX3_addBeasts_12 : decode cX3_addBeasts 12 = .ok (.getfield 70, 3) := by decide +kernel
theorem dX3_addBeasts_15 : decode cX3_addBeasts 15 = .ok (.iload_n 2, 1) := by decide +kernel
theorem dX3_addBeasts_16 : decode cX3_addBeasts 16 = .ok (.iadd, 1) := by decide +kernel
theorem dX3_addBeasts_17 : decode cX3_addBeasts 17 = .ok (.putfield 70, 3) := by decide +kernel
theorem dX3_addBeasts_20 : decode cX3_addBeasts 20 = .ok (.aload_n 0, 1) := by decide +kernel
theorem dX3_addBeasts_21 : decode cX3_addBeasts 21 = .ok (.dup, 1) := by decide +kernel
theorem dX3_addBeasts_22 : decode cX3_addBeasts 22 = .ok (.getfield 73, 3) := by decide +kernel
theorem dX3_addBeasts_25 : decode cX3_addBeasts 25 = .ok (.iload_n 2, 1) := by decide +kernel
theorem dX3_addBeasts_26 : decode cX3_addBeasts 26 = .ok (.aload_n 0, 1) := by decide +kernel
theorem dX3_addBeasts_27 : decode cX3_addBeasts 27 = .ok (.getfield 27, 3) := by decide +kernel
theorem dX3_addBeasts_30 : decode cX3_addBeasts 30 = .ok (.getfield 85, 3) := by decide +kernel
theorem dX3_addBeasts_33 : decode cX3_addBeasts 33 = .ok (.iload_n 1, 1) := by decide +kernel
theorem dX3_addBeasts_34 : decode cX3_addBeasts 34 = .ok (.iaload, 1) := by decide +kernel
theorem dX3_addBeasts_35 : decode cX3_addBeasts 35 = .ok (.imul, 1) := by decide +kernel
theorem dX3_addBeasts_36 : decode cX3_addBeasts 36 = .ok (.iadd, 1) := by decide +kernel
theorem dX3_addBeasts_37 : decode cX3_addBeasts 37 = .ok (.putfield 73, 3) := by decide +kernel
theorem dX3_addBeasts_40 : decode cX3_addBeasts 40 = .ok (.iconst 0, 1) := by decide +kernel
theorem dX3_addBeasts_41 : decode cX3_addBeasts 41 = .ok (.istore_n 3, 1) := by decide +kernel
theorem dX3_addBeasts_42 : decode cX3_addBeasts 42 = .ok (.iload_n 3, 1) := by decide +kernel
theorem dX3_addBeasts_43 : decode cX3_addBeasts 43 = .ok (.iconst 3, 1) := by decide +kernel
theorem dX3_addBeasts_44 : decode cX3_addBeasts 44 = .ok (.if_icmp .ge 31, 3) := by decide +kernel
theorem dX3_addBeasts_47 : decode cX3_addBeasts 47 = .ok (.aload_n 0, 1) := by decide +kernel
theorem dX3_addBeasts_48 : decode cX3_addBeasts 48 = .ok (.getfield 15, 3) := by decide +kernel
theorem dX3_addBeasts_51 : decode cX3_addBeasts 51 = .ok (.iload_n 3, 1) := by decide +kernel
theorem dX3_addBeasts_52 : decode cX3_addBeasts 52 = .ok (.dup2, 1) := by decide +kernel
theorem dX3_addBeasts_53 : decode cX3_addBeasts 53 = .ok (.iaload, 1) := by decide +kernel
theorem dX3_addBeasts_54 : decode cX3_addBeasts 54 = .ok (.iload_n 2, 1) := by decide +kernel
theorem dX3_addBeasts_55 : decode cX3_addBeasts 55 = .ok (.aload_n 0, 1) := by decide +kernel
theorem dX3_addBeasts_56 : decode cX3_addBeasts 56 = .ok (.getfield 27, 3) := by decide +kernel
theorem dX3_addBeasts_59 : decode cX3_addBeasts 59 = .ok (.getfield 88, 3) := by decide +kernel
theorem dX3_addBeasts_62 : decode cX3_addBeasts 62 = .ok (.iload_n 1, 1) := by decide +kernel
theorem dX3_addBeasts_63 : decode cX3_addBeasts 63 = .ok (.aaload, 1) := by decide +kernel
theorem dX3_addBeasts_64 : decode cX3_addBeasts 64 = .ok (.iload_n 3, 1) := by decide +kernel
theorem dX3_addBeasts_65 : decode cX3_addBeasts 65 = .ok (.iaload, 1) := by decide +kernel
theorem dX3_addBeasts_66 : decode cX3_addBeasts 66 = .ok (.imul, 1) := by decide +kernel
theorem dX3_addBeasts_67 : decode cX3_addBeasts 67 = .ok (.iadd, 1) := by decide +kernel
theorem dX3_addBeasts_68 : decode cX3_addBeasts 68 = .ok (.iastore, 1) := by decide +kernel
theorem dX3_addBeasts_69 : decode cX3_addBeasts 69 = .ok (.iinc 3 1, 3) := by decide +kernel
theorem dX3_addBeasts_72 : decode cX3_addBeasts 72 = .ok (.goto (-30), 3) := by decide +kernel
theorem dX3_addBeasts_75 : decode cX3_addBeasts 75 = .ok (.return_, 1) := by decide +kernel
theorem dX3_excess_0 : decode cX3_excess 0 = .ok (.iconst 0, 1) := by decide +kernel
theorem dX3_excess_1 : decode cX3_excess 1 = .ok (.istore_n 2, 1) := by decide +kernel
theorem dX3_excess_2 : decode cX3_excess 2 = .ok (.iconst 0, 1) := by decide +kernel
theorem dX3_excess_3 : decode cX3_excess 3 = .ok (.istore_n 3, 1) := by decide +kernel
theorem dX3_excess_4 : decode cX3_excess 4 = .ok (.iload_n 3, 1) := by decide +kernel
theorem dX3_excess_5 : decode cX3_excess 5 = .ok (.iconst 3, 1) := by decide +kernel
theorem dX3_excess_6 : decode cX3_excess 6 = .ok (.if_icmp .ge 43, 3) := by decide +kernel
theorem dX3_excess_9 : decode cX3_excess 9 = .ok (.aload_n 1, 1) := by decide +kernel
theorem dX3_excess_10 : decode cX3_excess 10 = .ok (.iload_n 3, 1) := by decide +kernel
theorem dX3_excess_11 : decode cX3_excess 11 = .ok (.iaload, 1) := by decide +kernel
theorem dX3_excess_12 : decode cX3_excess 12 = .ok (.iconst (-1), 1) := by decide +kernel
theorem dX3_excess_13 : decode cX3_excess 13 = .ok (.if_icmp .eq 30, 3) := by decide +kernel
theorem dX3_excess_16 : decode cX3_excess 16 = .ok (.aload_n 0, 1) := by decide +kernel
theorem dX3_excess_17 : decode cX3_excess 17 = .ok (.getfield 15, 3) := by decide +kernel
theorem dX3_excess_20 : decode cX3_excess 20 = .ok (.iload_n 3, 1) := by decide +kernel
theorem dX3_excess_21 : decode cX3_excess 21 = .ok (.iaload, 1) := by decide +kernel
theorem dX3_excess_22 : decode cX3_excess 22 = .ok (.aload_n 1, 1) := by decide +kernel
theorem dX3_excess_23 : decode cX3_excess 23 = .ok (.iload_n 3, 1) := by decide +kernel
theorem dX3_excess_24 : decode cX3_excess 24 = .ok (.iaload, 1) := by decide +kernel
theorem dX3_excess_25 : decode cX3_excess 25 = .ok (.if_icmp .ge 5, 3) := by decide +kernel
theorem dX3_excess_28 : decode cX3_excess 28 = .ok (.iconst (-1), 1) := by decide +kernel
theorem dX3_excess_29 : decode cX3_excess 29 = .ok (.ireturn, 1) := by decide +kernel
theorem dX3_excess_30 : decode cX3_excess 30 = .ok (.iload_n 2, 1) := by decide +kernel
theorem dX3_excess_31 : decode cX3_excess 31 = .ok (.aload_n 0, 1) := by decide +kernel
theorem dX3_excess_32 : decode cX3_excess 32 = .ok (.getfield 15, 3) := by decide +kernel
theorem dX3_excess_35 : decode cX3_excess 35 = .ok (.iload_n 3, 1) := by decide +kernel
theorem dX3_excess_36 : decode cX3_excess 36 = .ok (.iaload, 1) := by decide +kernel
theorem dX3_excess_37 : decode cX3_excess 37 = .ok (.aload_n 1, 1) := by decide +kernel
theorem dX3_excess_38 : decode cX3_excess 38 = .ok (.iload_n 3, 1) := by decide +kernel
theorem dX3_excess_39 : decode cX3_excess 39 = .ok (.iaload, 1) := by decide +kernel
theorem dX3_excess_40 : decode cX3_excess 40 = .ok (.isub, 1) := by decide +kernel
theorem dX3_excess_41 : decode cX3_excess 41 = .ok (.iadd, 1) := by decide +kernel
theorem dX3_excess_42 : decode cX3_excess 42 = .ok (.istore_n 2, 1) := by decide +kernel
theorem dX3_excess_43 : decode cX3_excess 43 = .ok (.iinc 3 1, 3) := by decide +kernel
theorem dX3_excess_46 : decode cX3_excess 46 = .ok (.goto (-42), 3) := by decide +kernel
theorem dX3_excess_49 : decode cX3_excess 49 = .ok (.iload_n 2, 1) := by decide +kernel
theorem dX3_excess_50 : decode cX3_excess 50 = .ok (.ireturn, 1) := by decide +kernel
theorem dX3_isBeyond_0 : decode cX3_isBeyond 0 = .ok (.iconst 0, 1) := by decide +kernel
theorem dX3_isBeyond_1 : decode cX3_isBeyond 1 = .ok (.istore_n 2, 1) := by decide +kernel
theorem dX3_isBeyond_2 : decode cX3_isBeyond 2 = .ok (.iload_n 2, 1) := by decide +kernel
theorem dX3_isBeyond_3 : decode cX3_isBeyond 3 = .ok (.iconst 3, 1) := by decide +kernel
theorem dX3_isBeyond_4 : decode cX3_isBeyond 4 = .ok (.if_icmp .ge 30, 3) := by decide +kernel
theorem dX3_isBeyond_7 : decode cX3_isBeyond 7 = .ok (.aload_n 1, 1) := by decide +kernel
theorem dX3_isBeyond_8 : decode cX3_isBeyond 8 = .ok (.iload_n 2, 1) := by decide +kernel
theorem dX3_isBeyond_9 : decode cX3_isBeyond 9 = .ok (.iaload, 1) := by decide +kernel
theorem dX3_isBeyond_10 : decode cX3_isBeyond 10 = .ok (.iconst (-1), 1) := by decide +kernel
theorem dX3_isBeyond_11 : decode cX3_isBeyond 11 = .ok (.if_icmp .eq 17, 3) := by decide +kernel
theorem dX3_isBeyond_14 : decode cX3_isBeyond 14 = .ok (.aload_n 0, 1) := by decide +kernel
theorem dX3_isBeyond_15 : decode cX3_isBeyond 15 = .ok (.getfield 15, 3) := by decide +kernel
theorem dX3_isBeyond_18 : decode cX3_isBeyond 18 = .ok (.iload_n 2, 1) := by decide +kernel
theorem dX3_isBeyond_19 : decode cX3_isBeyond 19 = .ok (.iaload, 1) := by decide +kernel
theorem dX3_isBeyond_20 : decode cX3_isBeyond 20 = .ok (.aload_n 1, 1) := by decide +kernel
theorem dX3_isBeyond_21 : decode cX3_isBeyond 21 = .ok (.iload_n 2, 1) := by decide +kernel
theorem dX3_isBeyond_22 : decode cX3_isBeyond 22 = .ok (.iaload, 1) := by decide +kernel
theorem dX3_isBeyond_23 : decode cX3_isBeyond 23 = .ok (.if_icmp .le 5, 3) := by decide +kernel
theorem dX3_isBeyond_26 : decode cX3_isBeyond 26 = .ok (.iconst 1, 1) := by decide +kernel
theorem dX3_isBeyond_27 : decode cX3_isBeyond 27 = .ok (.ireturn, 1) := by decide +kernel
theorem dX3_isBeyond_28 : decode cX3_isBeyond 28 = .ok (.iinc 2 1, 3) := by decide +kernel
theorem dX3_isBeyond_31 : decode cX3_isBeyond 31 = .ok (.goto (-29), 3) := by decide +kernel
theorem dX3_isBeyond_34 : decode cX3_isBeyond 34 = .ok (.iconst 0, 1) := by decide +kernel
theorem dX3_isBeyond_35 : decode cX3_isBeyond 35 = .ok (.ireturn, 1) := by decide +kernel
theorem dX3_keep_0 : decode cX3_keep 0 = .ok (.aload_n 0, 1) := by decide +kernel
theorem dX3_keep_1 : decode cX3_keep 1 = .ok (.getfield 31, 3) := by decide +kernel
theorem dX3_keep_4 : decode cX3_keep 4 = .ok (.ifCond .eq 14, 3) := by decide +kernel
theorem dX3_keep_7 : decode cX3_keep 7 = .ok (.aload_n 0, 1) := by decide +kernel
theorem dX3_keep_8 : decode cX3_keep 8 = .ok (.getfield 73, 3) := by decide +kernel
theorem dX3_keep_11 : decode cX3_keep 11 = .ok (.aload_n 0, 1) := by decide +kernel
theorem dX3_keep_12 : decode cX3_keep 12 = .ok (.getfield 35, 3) := by decide +kernel
theorem dX3_keep_15 : decode cX3_keep 15 = .ok (.if_icmp .ge 25, 3) := by decide +kernel
theorem dX3_keep_18 : decode cX3_keep 18 = .ok (.aload_n 0, 1) := by decide +kernel
theorem dX3_keep_19 : decode cX3_keep 19 = .ok (.aload_n 0, 1) := by decide +kernel
theorem dX3_keep_20 : decode cX3_keep 20 = .ok (.getfield 73, 3) := by decide +kernel
theorem dX3_keep_23 : decode cX3_keep 23 = .ok (.putfield 35, 3) := by decide +kernel
theorem dX3_keep_26 : decode cX3_keep 26 = .ok (.aload_n 0, 1) := by decide +kernel
theorem dX3_keep_27 : decode cX3_keep 27 = .ok (.getfield 9, 3) := by decide +kernel
theorem dX3_keep_30 : decode cX3_keep 30 = .ok (.iconst 0, 1) := by decide +kernel
theorem dX3_keep_31 : decode cX3_keep 31 = .ok (.aload_n 0, 1) := by decide +kernel
theorem dX3_keep_32 : decode cX3_keep 32 = .ok (.getfield 18, 3) := by decide +kernel
theorem dX3_keep_35 : decode cX3_keep 35 = .ok (.iconst 0, 1) := by decide +kernel
theorem dX3_keep_36 : decode cX3_keep 36 = .ok (.iconst 5, 1) := by decide +kernel
theorem dX3_keep_37 : decode cX3_keep 37 = .ok (.invokestatic 92, 3) := by decide +kernel
theorem dX3_keep_40 : decode cX3_keep 40 = .ok (.aload_n 0, 1) := by decide +kernel
theorem dX3_keep_41 : decode cX3_keep 41 = .ok (.aload_n 0, 1) := by decide +kernel
theorem dX3_keep_42 : decode cX3_keep 42 = .ok (.getfield 38, 3) := by decide +kernel
theorem dX3_keep_45 : decode cX3_keep 45 = .ok (.aload_n 0, 1) := by decide +kernel
theorem dX3_keep_46 : decode cX3_keep 46 = .ok (.getfield 73, 3) := by decide +kernel
theorem dX3_keep_49 : decode cX3_keep 49 = .ok (.invokestatic 98, 3) := by decide +kernel
theorem dX3_keep_52 : decode cX3_keep 52 = .ok (.putfield 38, 3) := by decide +kernel
theorem dX3_keep_55 : decode cX3_keep 55 = .ok (.aload_n 0, 1) := by decide +kernel
theorem dX3_keep_56 : decode cX3_keep 56 = .ok (.dup, 1) := by decide +kernel
theorem dX3_keep_57 : decode cX3_keep 57 = .ok (.getfield 31, 3) := by decide +kernel
theorem dX3_keep_60 : decode cX3_keep 60 = .ok (.iconst 1, 1) := by decide +kernel
theorem dX3_keep_61 : decode cX3_keep 61 = .ok (.iadd, 1) := by decide +kernel
theorem dX3_keep_62 : decode cX3_keep 62 = .ok (.putfield 31, 3) := by decide +kernel
theorem dX3_keep_65 : decode cX3_keep 65 = .ok (.iconst 0, 1) := by decide +kernel
theorem dX3_keep_66 : decode cX3_keep 66 = .ok (.istore_n 1, 1) := by decide +kernel
theorem dX3_keep_67 : decode cX3_keep 67 = .ok (.iload_n 1, 1) := by decide +kernel
theorem dX3_keep_68 : decode cX3_keep 68 = .ok (.aload_n 0, 1) := by decide +kernel
theorem dX3_keep_69 : decode cX3_keep 69 = .ok (.getfield 27, 3) := by decide +kernel
theorem dX3_keep_72 : decode cX3_keep 72 = .ok (.getfield 76, 3) := by decide +kernel
theorem dX3_keep_75 : decode cX3_keep 75 = .ok (.if_icmp .ge 47, 3) := by decide +kernel
theorem dX3_keep_78 : decode cX3_keep 78 = .ok (.aload_n 0, 1) := by decide +kernel
theorem dX3_keep_79 : decode cX3_keep 79 = .ok (.getfield 21, 3) := by decide +kernel
theorem dX3_keep_82 : decode cX3_keep 82 = .ok (.iload_n 1, 1) := by decide +kernel
theorem dX3_keep_83 : decode cX3_keep 83 = .ok (.dup2, 1) := by decide +kernel
theorem dX3_keep_84 : decode cX3_keep 84 = .ok (.iaload, 1) := by decide +kernel
theorem dX3_keep_85 : decode cX3_keep 85 = .ok (.aload_n 0, 1) := by decide +kernel
theorem dX3_keep_86 : decode cX3_keep 86 = .ok (.getfield 9, 3) := by decide +kernel
theorem dX3_keep_89 : decode cX3_keep 89 = .ok (.iload_n 1, 1) := by decide +kernel
theorem dX3_keep_90 : decode cX3_keep 90 = .ok (.iaload, 1) := by decide +kernel
theorem dX3_keep_91 : decode cX3_keep 91 = .ok (.ifCond .le 7, 3) := by decide +kernel
theorem dX3_keep_94 : decode cX3_keep 94 = .ok (.iconst 1, 1) := by decide +kernel
theorem dX3_keep_95 : decode cX3_keep 95 = .ok (.goto 4, 3) := by decide +kernel
theorem dX3_keep_98 : decode cX3_keep 98 = .ok (.iconst 0, 1) := by decide +kernel
theorem dX3_keep_99 : decode cX3_keep 99 = .ok (.iadd, 1) := by decide +kernel
theorem dX3_keep_100 : decode cX3_keep 100 = .ok (.iastore, 1) := by decide +kernel
theorem dX3_keep_101 : decode cX3_keep 101 = .ok (.aload_n 0, 1) := by decide +kernel
theorem dX3_keep_102 : decode cX3_keep 102 = .ok (.getfield 24, 3) := by decide +kernel
theorem dX3_keep_105 : decode cX3_keep 105 = .ok (.iload_n 1, 1) := by decide +kernel
theorem dX3_keep_106 : decode cX3_keep 106 = .ok (.dup2, 1) := by decide +kernel
theorem dX3_keep_107 : decode cX3_keep 107 = .ok (.iaload, 1) := by decide +kernel
theorem dX3_keep_108 : decode cX3_keep 108 = .ok (.aload_n 0, 1) := by decide +kernel
theorem dX3_keep_109 : decode cX3_keep 109 = .ok (.getfield 9, 3) := by decide +kernel
theorem dX3_keep_112 : decode cX3_keep 112 = .ok (.iload_n 1, 1) := by decide +kernel
theorem dX3_keep_113 : decode cX3_keep 113 = .ok (.iaload, 1) := by decide +kernel
theorem dX3_keep_114 : decode cX3_keep 114 = .ok (.iadd, 1) := by decide +kernel
theorem dX3_keep_115 : decode cX3_keep 115 = .ok (.iastore, 1) := by decide +kernel
theorem dX3_keep_116 : decode cX3_keep 116 = .ok (.iinc 1 1, 3) := by decide +kernel
theorem dX3_keep_119 : decode cX3_keep 119 = .ok (.goto (-52), 3) := by decide +kernel
theorem dX3_keep_122 : decode cX3_keep 122 = .ok (.return_, 1) := by decide +kernel
theorem dX4_init_0 : decode cX4_init 0 = .ok (.aload_n 0, 1) := by decide +kernel
theorem dX4_init_1 : decode cX4_init 1 = .ok (.invokespecial 3, 3) := by decide +kernel
theorem dX4_init_4 : decode cX4_init 4 = .ok (.aload_n 0, 1) := by decide +kernel
theorem dX4_init_5 : decode cX4_init 5 = .ok (.iconst 5, 1) := by decide +kernel
theorem dX4_init_6 : decode cX4_init 6 = .ok (.iconst 3, 1) := by decide +kernel
theorem dX4_init_7 : decode cX4_init 7 = .ok (.multianewarray 9 2, 4) := by decide +kernel
theorem dX4_init_11 : decode cX4_init 11 = .ok (.putfield 11, 3) := by decide +kernel
theorem dX4_init_14 : decode cX4_init 14 = .ok (.aload_n 0, 1) := by decide +kernel
theorem dX4_init_15 : decode cX4_init 15 = .ok (.iconst 5, 1) := by decide +kernel
theorem dX4_init_16 : decode cX4_init 16 = .ok (.newarray .int, 2) := by decide +kernel
theorem dX4_init_18 : decode cX4_init 18 = .ok (.putfield 16, 3) := by decide +kernel
theorem dX4_init_21 : decode cX4_init 21 = .ok (.aload_n 0, 1) := by decide +kernel
theorem dX4_init_22 : decode cX4_init 22 = .ok (.bipush 6, 2) := by decide +kernel
theorem dX4_init_24 : decode cX4_init 24 = .ok (.newarray .int, 2) := by decide +kernel
theorem dX4_init_26 : decode cX4_init 26 = .ok (.putfield 20, 3) := by decide +kernel
theorem dX4_init_29 : decode cX4_init 29 = .ok (.return_, 1) := by decide +kernel
theorem dX4_look_0 : decode cX4_look 0 = .ok (.aload_n 0, 1) := by decide +kernel
theorem dX4_look_1 : decode cX4_look 1 = .ok (.aload_n 1, 1) := by decide +kernel
theorem dX4_look_2 : decode cX4_look 2 = .ok (.getfield 23, 3) := by decide +kernel
theorem dX4_look_5 : decode cX4_look 5 = .ok (.putfield 29, 3) := by decide +kernel
theorem dX4_look_8 : decode cX4_look 8 = .ok (.aload_n 0, 1) := by decide +kernel
theorem dX4_look_9 : decode cX4_look 9 = .ok (.aload_n 2, 1) := by decide +kernel
theorem dX4_look_10 : decode cX4_look 10 = .ok (.invokevirtual 30, 3) := by decide +kernel
theorem dX4_look_13 : decode cX4_look 13 = .ok (.putfield 36, 3) := by decide +kernel
theorem dX4_look_16 : decode cX4_look 16 = .ok (.iconst 0, 1) := by decide +kernel
theorem dX4_look_17 : decode cX4_look 17 = .ok (.istore 4, 2) := by decide +kernel
theorem dX4_look_19 : decode cX4_look 19 = .ok (.iload 4, 2) := by decide +kernel
theorem dX4_look_21 : decode cX4_look 21 = .ok (.aload_n 0, 1) := by decide +kernel
theorem dX4_look_22 : decode cX4_look 22 = .ok (.getfield 29, 3) := by decide +kernel
theorem dX4_look_25 : decode cX4_look 25 = .ok (.if_icmp .ge 165, 3) := by decide +kernel
theorem dX4_look_28 : decode cX4_look 28 = .ok (.aload_n 1, 1) := by decide +kernel
theorem dX4_look_29 : decode cX4_look 29 = .ok (.getfield 39, 3) := by decide +kernel
theorem dX4_look_32 : decode cX4_look 32 = .ok (.iload 4, 2) := by decide +kernel
theorem dX4_look_34 : decode cX4_look 34 = .ok (.aaload, 1) := by decide +kernel
theorem dX4_look_35 : decode cX4_look 35 = .ok (.astore 5, 2) := by decide +kernel
theorem dX4_look_37 : decode cX4_look 37 = .ok (.aload_n 0, 1) := by decide +kernel
theorem dX4_look_38 : decode cX4_look 38 = .ok (.getfield 20, 3) := by decide +kernel
theorem dX4_look_41 : decode cX4_look 41 = .ok (.iconst 0, 1) := by decide +kernel
theorem dX4_look_42 : decode cX4_look 42 = .ok (.iload 4, 2) := by decide +kernel
theorem dX4_look_44 : decode cX4_look 44 = .ok (.iastore, 1) := by decide +kernel
theorem dX4_look_45 : decode cX4_look 45 = .ok (.aload_n 0, 1) := by decide +kernel
theorem dX4_look_46 : decode cX4_look 46 = .ok (.getfield 20, 3) := by decide +kernel
theorem dX4_look_49 : decode cX4_look 49 = .ok (.iconst 1, 1) := by decide +kernel
theorem dX4_look_50 : decode cX4_look 50 = .ok (.aload 5, 2) := by decide +kernel
theorem dX4_look_52 : decode cX4_look 52 = .ok (.iconst 0, 1) := by decide +kernel
theorem dX4_look_53 : decode cX4_look 53 = .ok (.iaload, 1) := by decide +kernel
theorem dX4_look_54 : decode cX4_look 54 = .ok (.iastore, 1) := by decide +kernel
theorem dX4_look_55 : decode cX4_look 55 = .ok (.aload_n 0, 1) := by decide +kernel
theorem dX4_look_56 : decode cX4_look 56 = .ok (.getfield 20, 3) := by decide +kernel
theorem dX4_look_59 : decode cX4_look 59 = .ok (.iconst 2, 1) := by decide +kernel
theorem dX4_look_60 : decode cX4_look 60 = .ok (.aload 5, 2) := by decide +kernel
theorem dX4_look_62 : decode cX4_look 62 = .ok (.iconst 1, 1) := by decide +kernel
theorem dX4_look_63 : decode cX4_look 63 = .ok (.iaload, 1) := by decide +kernel
theorem dX4_look_64 : decode cX4_look 64 = .ok (.iastore, 1) := by decide +kernel
theorem dX4_look_65 : decode cX4_look 65 = .ok (.aload_n 0, 1) := by decide +kernel
theorem dX4_look_66 : decode cX4_look 66 = .ok (.getfield 20, 3) := by decide +kernel
theorem dX4_look_69 : decode cX4_look 69 = .ok (.iconst 3, 1) := by decide +kernel
theorem dX4_look_70 : decode cX4_look 70 = .ok (.aload 5, 2) := by decide +kernel
theorem dX4_look_72 : decode cX4_look 72 = .ok (.iconst 2, 1) := by decide +kernel
theorem dX4_look_73 : decode cX4_look 73 = .ok (.iaload, 1) := by decide +kernel
theorem dX4_look_74 : decode cX4_look 74 = .ok (.iastore, 1) := by decide +kernel
theorem dX4_look_75 : decode cX4_look 75 = .ok (.aload_n 0, 1) := by decide +kernel
theorem dX4_look_76 : decode cX4_look 76 = .ok (.getfield 20, 3) := by decide +kernel
theorem dX4_look_79 : decode cX4_look 79 = .ok (.iconst 4, 1) := by decide +kernel
theorem dX4_look_80 : decode cX4_look 80 = .ok (.iload_n 3, 1) := by decide +kernel
theorem dX4_look_81 : decode cX4_look 81 = .ok (.iastore, 1) := by decide +kernel
theorem dX4_look_82 : decode cX4_look 82 = .ok (.aload_n 0, 1) := by decide +kernel
theorem dX4_look_83 : decode cX4_look 83 = .ok (.getfield 20, 3) := by decide +kernel
theorem dX4_look_86 : decode cX4_look 86 = .ok (.iconst 5, 1) := by decide +kernel
theorem dX4_look_87 : decode cX4_look 87 = .ok (.bipush 9, 2) := by decide +kernel
theorem dX4_look_89 : decode cX4_look 89 = .ok (.iastore, 1) := by decide +kernel
theorem dX4_look_90 : decode cX4_look 90 = .ok (.aload_n 0, 1) := by decide +kernel
theorem dX4_look_91 : decode cX4_look 91 = .ok (.getfield 16, 3) := by decide +kernel
theorem dX4_look_94 : decode cX4_look 94 = .ok (.iload 4, 2) := by decide +kernel
theorem dX4_look_96 : decode cX4_look 96 = .ok (.aload 5, 2) := by decide +kernel
theorem dX4_look_98 : decode cX4_look 98 = .ok (.iconst 5, 1) := by decide +kernel
theorem dX4_look_99 : decode cX4_look 99 = .ok (.iaload, 1) := by decide +kernel
theorem dX4_look_100 : decode cX4_look 100 = .ok (.aload_n 2, 1) := by decide +kernel
theorem dX4_look_101 : decode cX4_look 101 = .ok (.iconst 0, 1) := by decide +kernel
theorem dX4_look_102 : decode cX4_look 102 = .ok (.aload_n 0, 1) := by decide +kernel
theorem dX4_look_103 : decode cX4_look 103 = .ok (.getfield 20, 3) := by decide +kernel
theorem dX4_look_106 : decode cX4_look 106 = .ok (.invokevirtual 42, 3) := by decide +kernel
theorem dX4_look_109 : decode cX4_look 109 = .ok (.iadd, 1) := by decide +kernel
theorem dX4_look_110 : decode cX4_look 110 = .ok (.iastore, 1) := by decide +kernel
theorem dX4_look_111 : decode cX4_look 111 = .ok (.iconst 0, 1) := by decide +kernel
theorem dX4_look_112 : decode cX4_look 112 = .ok (.istore 6, 2) := by decide +kernel
theorem dX4_look_114 : decode cX4_look 114 = .ok (.iload 6, 2) := by decide +kernel
theorem dX4_look_116 : decode cX4_look 116 = .ok (.iconst 3, 1) := by decide +kernel
theorem dX4_look_117 : decode cX4_look 117 = .ok (.if_icmp .ge 67, 3) := by decide +kernel
theorem dX4_look_120 : decode cX4_look 120 = .ok (.aload_n 0, 1) := by decide +kernel
theorem dX4_look_121 : decode cX4_look 121 = .ok (.getfield 20, 3) := by decide +kernel
theorem dX4_look_124 : decode cX4_look 124 = .ok (.iconst 5, 1) := by decide +kernel
theorem dX4_look_125 : decode cX4_look 125 = .ok (.iload 6, 2) := by decide +kernel
theorem dX4_look_127 : decode cX4_look 127 = .ok (.iastore, 1) := by decide +kernel
theorem dX4_look_128 : decode cX4_look 128 = .ok (.aload 5, 2) := by decide +kernel
theorem dX4_look_130 : decode cX4_look 130 = .ok (.iconst 2, 1) := by decide +kernel
theorem dX4_look_131 : decode cX4_look 131 = .ok (.iload 6, 2) := by decide +kernel
theorem dX4_look_133 : decode cX4_look 133 = .ok (.iadd, 1) := by decide +kernel
theorem dX4_look_134 : decode cX4_look 134 = .ok (.iaload, 1) := by decide +kernel
theorem dX4_look_135 : decode cX4_look 135 = .ok (.aload_n 2, 1) := by decide +kernel
theorem dX4_look_136 : decode cX4_look 136 = .ok (.iconst 1, 1) := by decide +kernel
theorem dX4_look_137 : decode cX4_look 137 = .ok (.aload_n 0, 1) := by decide +kernel
theorem dX4_look_138 : decode cX4_look 138 = .ok (.getfield 20, 3) := by decide +kernel
theorem dX4_look_141 : decode cX4_look 141 = .ok (.invokevirtual 42, 3) := by decide +kernel
theorem dX4_look_144 : decode cX4_look 144 = .ok (.iadd, 1) := by decide +kernel
theorem dX4_look_145 : decode cX4_look 145 = .ok (.istore 7, 2) := by decide +kernel
theorem dX4_look_147 : decode cX4_look 147 = .ok (.aload_n 0, 1) := by decide +kernel
theorem dX4_look_148 : decode cX4_look 148 = .ok (.getfield 11, 3) := by decide +kernel
theorem dX4_look_151 : decode cX4_look 151 = .ok (.iload 4, 2) := by decide +kernel
theorem dX4_look_153 : decode cX4_look 153 = .ok (.aaload, 1) := by decide +kernel
theorem dX4_look_154 : decode cX4_look 154 = .ok (.iload 6, 2) := by decide +kernel
theorem dX4_look_156 : decode cX4_look 156 = .ok (.aload 5, 2) := by decide +kernel
theorem dX4_look_158 : decode cX4_look 158 = .ok (.iload 6, 2) := by decide +kernel
theorem dX4_look_160 : decode cX4_look 160 = .ok (.iload 7, 2) := by decide +kernel
theorem dX4_look_162 : decode cX4_look 162 = .ok (.iload_n 3, 1) := by decide +kernel
theorem dX4_look_163 : decode cX4_look 163 = .ok (.aload_n 1, 1) := by decide +kernel
theorem dX4_look_164 : decode cX4_look 164 = .ok (.getfield 46, 3) := by decide +kernel
theorem dX4_look_167 : decode cX4_look 167 = .ok (.iload 4, 2) := by decide +kernel
theorem dX4_look_169 : decode cX4_look 169 = .ok (.aaload, 1) := by decide +kernel
theorem dX4_look_170 : decode cX4_look 170 = .ok (.iload_n 3, 1) := by decide +kernel
theorem dX4_look_171 : decode cX4_look 171 = .ok (.iconst 3, 1) := by decide +kernel
theorem dX4_look_172 : decode cX4_look 172 = .ok (.irem, 1) := by decide +kernel
theorem dX4_look_173 : decode cX4_look 173 = .ok (.iaload, 1) := by decide +kernel
theorem dX4_look_174 : decode cX4_look 174 = .ok (.invokestatic 49, 3) := by decide +kernel
theorem dX4_look_177 : decode cX4_look 177 = .ok (.iastore, 1) := by decide +kernel
theorem dX4_look_178 : decode cX4_look 178 = .ok (.iinc 6 1, 3) := by decide +kernel
theorem dX4_look_181 : decode cX4_look 181 = .ok (.goto (-67), 3) := by decide +kernel
theorem dX4_look_184 : decode cX4_look 184 = .ok (.iinc 4 1, 3) := by decide +kernel
theorem dX4_look_187 : decode cX4_look 187 = .ok (.goto (-168), 3) := by decide +kernel
theorem dX4_look_190 : decode cX4_look 190 = .ok (.return_, 1) := by decide +kernel
theorem dX4_shown_0 : decode cX4_shown 0 = .ok (.aload_n 0, 1) := by decide +kernel
theorem dX4_shown_1 : decode cX4_shown 1 = .ok (.iconst 0, 1) := by decide +kernel
theorem dX4_shown_2 : decode cX4_shown 2 = .ok (.iaload, 1) := by decide +kernel
theorem dX4_shown_3 : decode cX4_shown 3 = .ok (.istore 5, 2) := by decide +kernel
theorem dX4_shown_5 : decode cX4_shown 5 = .ok (.iload 5, 2) := by decide +kernel
theorem dX4_shown_7 : decode cX4_shown 7 = .ok (.iconst 5, 1) := by decide +kernel
theorem dX4_shown_8 : decode cX4_shown 8 = .ok (.if_icmp .ne 12, 3) := by decide +kernel
theorem dX4_shown_11 : decode cX4_shown 11 = .ok (.iload_n 3, 1) := by decide +kernel
theorem dX4_shown_12 : decode cX4_shown 12 = .ok (.aload_n 0, 1) := by decide +kernel
theorem dX4_shown_13 : decode cX4_shown 13 = .ok (.iconst 1, 1) := by decide +kernel
theorem dX4_shown_14 : decode cX4_shown 14 = .ok (.iaload, 1) := by decide +kernel
theorem dX4_shown_15 : decode cX4_shown 15 = .ok (.if_icmp .ne 5, 3) := by decide +kernel
theorem dX4_shown_18 : decode cX4_shown 18 = .ok (.iconst 0, 1) := by decide +kernel
theorem dX4_shown_19 : decode cX4_shown 19 = .ok (.ireturn, 1) := by decide +kernel
theorem dX4_shown_20 : decode cX4_shown 20 = .ok (.iload_n 1, 1) := by decide +kernel
theorem dX4_shown_21 : decode cX4_shown 21 = .ok (.ifCond .ne 24, 3) := by decide +kernel
theorem dX4_shown_24 : decode cX4_shown 24 = .ok (.iload 5, 2) := by decide +kernel
theorem dX4_shown_26 : decode cX4_shown 26 = .ok (.iconst 3, 1) := by decide +kernel
theorem dX4_shown_27 : decode cX4_shown 27 = .ok (.invokestatic 53, 3) := by decide +kernel
theorem dX4_shown_30 : decode cX4_shown 30 = .ok (.ifCond .eq 13, 3) := by decide +kernel
theorem dX4_shown_33 : decode cX4_shown 33 = .ok (.iconst 0, 1) := by decide +kernel
theorem dX4_shown_34 : decode cX4_shown 34 = .ok (.iload_n 2, 1) := by decide +kernel
theorem dX4_shown_35 : decode cX4_shown 35 = .ok (.iconst 1, 1) := by decide +kernel
theorem dX4_shown_36 : decode cX4_shown 36 = .ok (.isub, 1) := by decide +kernel
theorem dX4_shown_37 : decode cX4_shown 37 = .ok (.invokestatic 57, 3) := by decide +kernel
theorem dX4_shown_40 : decode cX4_shown 40 = .ok (.goto 4, 3) := by decide +kernel
theorem dX4_shown_43 : decode cX4_shown 43 = .ok (.iload_n 2, 1) := by decide +kernel
theorem dX4_shown_44 : decode cX4_shown 44 = .ok (.ireturn, 1) := by decide +kernel
theorem dX4_shown_45 : decode cX4_shown 45 = .ok (.iload_n 1, 1) := by decide +kernel
theorem dX4_shown_46 : decode cX4_shown 46 = .ok (.iconst 1, 1) := by decide +kernel
theorem dX4_shown_47 : decode cX4_shown 47 = .ok (.if_icmp .ne 40, 3) := by decide +kernel
theorem dX4_shown_50 : decode cX4_shown 50 = .ok (.iload 5, 2) := by decide +kernel
theorem dX4_shown_52 : decode cX4_shown 52 = .ok (.iconst 2, 1) := by decide +kernel
theorem dX4_shown_53 : decode cX4_shown 53 = .ok (.invokestatic 53, 3) := by decide +kernel
theorem dX4_shown_56 : decode cX4_shown 56 = .ok (.ifCond .eq 10, 3) := by decide +kernel
theorem dX4_shown_59 : decode cX4_shown 59 = .ok (.iload_n 3, 1) := by decide +kernel
theorem dX4_shown_60 : decode cX4_shown 60 = .ok (.iconst 5, 1) := by decide +kernel
theorem dX4_shown_61 : decode cX4_shown 61 = .ok (.if_icmp .ge 5, 3) := by decide +kernel
theorem dX4_shown_64 : decode cX4_shown 64 = .ok (.iconst 0, 1) := by decide +kernel
theorem dX4_shown_65 : decode cX4_shown 65 = .ok (.ireturn, 1) := by decide +kernel
theorem dX4_shown_66 : decode cX4_shown 66 = .ok (.iload 5, 2) := by decide +kernel
theorem dX4_shown_68 : decode cX4_shown 68 = .ok (.iconst 1, 1) := by decide +kernel
theorem dX4_shown_69 : decode cX4_shown 69 = .ok (.invokestatic 53, 3) := by decide +kernel
theorem dX4_shown_72 : decode cX4_shown 72 = .ok (.ifCond .eq 13, 3) := by decide +kernel
theorem dX4_shown_75 : decode cX4_shown 75 = .ok (.iload_n 2, 1) := by decide +kernel
theorem dX4_shown_76 : decode cX4_shown 76 = .ok (.aload_n 0, 1) := by decide +kernel
theorem dX4_shown_77 : decode cX4_shown 77 = .ok (.iconst 1, 1) := by decide +kernel
theorem dX4_shown_78 : decode cX4_shown 78 = .ok (.iaload, 1) := by decide +kernel
theorem dX4_shown_79 : decode cX4_shown 79 = .ok (.iconst 2, 1) := by decide +kernel
theorem dX4_shown_80 : decode cX4_shown 80 = .ok (.irem, 1) := by decide +kernel
theorem dX4_shown_81 : decode cX4_shown 81 = .ok (.iadd, 1) := by decide +kernel
theorem dX4_shown_82 : decode cX4_shown 82 = .ok (.goto 4, 3) := by decide +kernel
theorem dX4_shown_85 : decode cX4_shown 85 = .ok (.iload_n 2, 1) := by decide +kernel
theorem dX4_shown_86 : decode cX4_shown 86 = .ok (.ireturn, 1) := by decide +kernel
theorem dX4_shown_87 : decode cX4_shown 87 = .ok (.iload 5, 2) := by decide +kernel
theorem dX4_shown_89 : decode cX4_shown 89 = .ok (.bipush 6, 2) := by decide +kernel
theorem dX4_shown_91 : decode cX4_shown 91 = .ok (.if_icmp .ne 6, 3) := by decide +kernel
theorem dX4_shown_94 : decode cX4_shown 94 = .ok (.iload 4, 2) := by decide +kernel
theorem dX4_shown_96 : decode cX4_shown 96 = .ok (.ireturn, 1) := by decide +kernel
theorem dX4_shown_97 : decode cX4_shown 97 = .ok (.iload 5, 2) := by decide +kernel
theorem dX4_shown_99 : decode cX4_shown 99 = .ok (.iconst 4, 1) := by decide +kernel
theorem dX4_shown_100 : decode cX4_shown 100 = .ok (.if_icmp .ne 9, 3) := by decide +kernel
theorem dX4_shown_103 : decode cX4_shown 103 = .ok (.iconst 2, 1) := by decide +kernel
theorem dX4_shown_104 : decode cX4_shown 104 = .ok (.iload_n 2, 1) := by decide +kernel
theorem dX4_shown_105 : decode cX4_shown 105 = .ok (.imul, 1) := by decide +kernel
theorem dX4_shown_106 : decode cX4_shown 106 = .ok (.goto 4, 3) := by decide +kernel
theorem dX4_shown_109 : decode cX4_shown 109 = .ok (.iload_n 2, 1) := by decide +kernel
theorem dX4_shown_110 : decode cX4_shown 110 = .ok (.ireturn, 1) := by decide +kernel
theorem dX4_total_0 : decode cX4_total 0 = .ok (.iconst 0, 1) := by decide +kernel
theorem dX4_total_1 : decode cX4_total 1 = .ok (.istore_n 3, 1) := by decide +kernel
theorem dX4_total_2 : decode cX4_total 2 = .ok (.iconst 0, 1) := by decide +kernel
theorem dX4_total_3 : decode cX4_total 3 = .ok (.istore 4, 2) := by decide +kernel
theorem dX4_total_5 : decode cX4_total 5 = .ok (.iload 4, 2) := by decide +kernel
theorem dX4_total_7 : decode cX4_total 7 = .ok (.aload_n 0, 1) := by decide +kernel
theorem dX4_total_8 : decode cX4_total 8 = .ok (.getfield 29, 3) := by decide +kernel
theorem dX4_total_11 : decode cX4_total 11 = .ok (.if_icmp .ge 26, 3) := by decide +kernel
theorem dX4_total_14 : decode cX4_total 14 = .ok (.iload_n 3, 1) := by decide +kernel
theorem dX4_total_15 : decode cX4_total 15 = .ok (.aload_n 1, 1) := by decide +kernel
theorem dX4_total_16 : decode cX4_total 16 = .ok (.iload 4, 2) := by decide +kernel
theorem dX4_total_18 : decode cX4_total 18 = .ok (.iaload, 1) := by decide +kernel
theorem dX4_total_19 : decode cX4_total 19 = .ok (.aload_n 0, 1) := by decide +kernel
theorem dX4_total_20 : decode cX4_total 20 = .ok (.getfield 11, 3) := by decide +kernel
theorem dX4_total_23 : decode cX4_total 23 = .ok (.iload 4, 2) := by decide +kernel
theorem dX4_total_25 : decode cX4_total 25 = .ok (.aaload, 1) := by decide +kernel
theorem dX4_total_26 : decode cX4_total 26 = .ok (.iload_n 2, 1) := by decide +kernel
theorem dX4_total_27 : decode cX4_total 27 = .ok (.iaload, 1) := by decide +kernel
theorem dX4_total_28 : decode cX4_total 28 = .ok (.imul, 1) := by decide +kernel
theorem dX4_total_29 : decode cX4_total 29 = .ok (.iadd, 1) := by decide +kernel
theorem dX4_total_30 : decode cX4_total 30 = .ok (.istore_n 3, 1) := by decide +kernel
theorem dX4_total_31 : decode cX4_total 31 = .ok (.iinc 4 1, 3) := by decide +kernel
theorem dX4_total_34 : decode cX4_total 34 = .ok (.goto (-29), 3) := by decide +kernel
theorem dX4_total_37 : decode cX4_total 37 = .ok (.iload_n 3, 1) := by decide +kernel
theorem dX4_total_38 : decode cX4_total 38 = .ok (.ireturn, 1) := by decide +kernel
theorem dX4_tollOf_0 : decode cX4_tollOf 0 = .ok (.iconst 0, 1) := by decide +kernel
theorem dX4_tollOf_1 : decode cX4_tollOf 1 = .ok (.istore_n 2, 1) := by decide +kernel
theorem dX4_tollOf_2 : decode cX4_tollOf 2 = .ok (.iconst 0, 1) := by decide +kernel
theorem dX4_tollOf_3 : decode cX4_tollOf 3 = .ok (.istore_n 3, 1) := by decide +kernel
theorem dX4_tollOf_4 : decode cX4_tollOf 4 = .ok (.iload_n 3, 1) := by decide +kernel
theorem dX4_tollOf_5 : decode cX4_tollOf 5 = .ok (.aload_n 0, 1) := by decide +kernel
theorem dX4_tollOf_6 : decode cX4_tollOf 6 = .ok (.getfield 29, 3) := by decide +kernel
theorem dX4_tollOf_9 : decode cX4_tollOf 9 = .ok (.if_icmp .ge 22, 3) := by decide +kernel
theorem dX4_tollOf_12 : decode cX4_tollOf 12 = .ok (.iload_n 2, 1) := by decide +kernel
theorem dX4_tollOf_13 : decode cX4_tollOf 13 = .ok (.aload_n 1, 1) := by decide +kernel
theorem dX4_tollOf_14 : decode cX4_tollOf 14 = .ok (.iload_n 3, 1) := by decide +kernel
theorem dX4_tollOf_15 : decode cX4_tollOf 15 = .ok (.iaload, 1) := by decide +kernel
theorem dX4_tollOf_16 : decode cX4_tollOf 16 = .ok (.aload_n 0, 1) := by decide +kernel
theorem dX4_tollOf_17 : decode cX4_tollOf 17 = .ok (.getfield 16, 3) := by decide +kernel
theorem dX4_tollOf_20 : decode cX4_tollOf 20 = .ok (.iload_n 3, 1) := by decide +kernel
theorem dX4_tollOf_21 : decode cX4_tollOf 21 = .ok (.iaload, 1) := by decide +kernel
theorem dX4_tollOf_22 : decode cX4_tollOf 22 = .ok (.imul, 1) := by decide +kernel
theorem dX4_tollOf_23 : decode cX4_tollOf 23 = .ok (.iadd, 1) := by decide +kernel
theorem dX4_tollOf_24 : decode cX4_tollOf 24 = .ok (.istore_n 2, 1) := by decide +kernel
theorem dX4_tollOf_25 : decode cX4_tollOf 25 = .ok (.iinc 3 1, 3) := by decide +kernel
theorem dX4_tollOf_28 : decode cX4_tollOf 28 = .ok (.goto (-24), 3) := by decide +kernel
theorem dX4_tollOf_31 : decode cX4_tollOf 31 = .ok (.iload_n 2, 1) := by decide +kernel
theorem dX4_tollOf_32 : decode cX4_tollOf 32 = .ok (.ireturn, 1) := by decide +kernel
theorem dX5_init_0 : decode cX5_init 0 = .ok (.aload_n 0, 1) := by decide +kernel
theorem dX5_init_1 : decode cX5_init 1 = .ok (.invokespecial 3, 3) := by decide +kernel
theorem dX5_init_4 : decode cX5_init 4 = .ok (.aload_n 0, 1) := by decide +kernel
theorem dX5_init_5 : decode cX5_init 5 = .ok (.iconst 5, 1) := by decide +kernel
theorem dX5_init_6 : decode cX5_init 6 = .ok (.bipush 6, 2) := by decide +kernel
theorem dX5_init_8 : decode cX5_init 8 = .ok (.multianewarray 9 2, 4) := by decide +kernel
theorem dX5_init_12 : decode cX5_init 12 = .ok (.putfield 11, 3) := by decide +kernel
theorem dX5_init_15 : decode cX5_init 15 = .ok (.aload_n 0, 1) := by decide +kernel
theorem dX5_init_16 : decode cX5_init 16 = .ok (.iconst 5, 1) := by decide +kernel
theorem dX5_init_17 : decode cX5_init 17 = .ok (.iconst 3, 1) := by decide +kernel
theorem dX5_init_18 : decode cX5_init 18 = .ok (.multianewarray 9 2, 4) := by decide +kernel
theorem dX5_init_22 : decode cX5_init 22 = .ok (.putfield 16, 3) := by decide +kernel
theorem dX5_init_25 : decode cX5_init 25 = .ok (.aload_n 0, 1) := by decide +kernel
theorem dX5_init_26 : decode cX5_init 26 = .ok (.iconst 2, 1) := by decide +kernel
theorem dX5_init_27 : decode cX5_init 27 = .ok (.iconst 5, 1) := by decide +kernel
theorem dX5_init_28 : decode cX5_init 28 = .ok (.multianewarray 9 2, 4) := by decide +kernel
theorem dX5_init_32 : decode cX5_init 32 = .ok (.putfield 19, 3) := by decide +kernel
theorem dX5_init_35 : decode cX5_init 35 = .ok (.aload_n 0, 1) := by decide +kernel
theorem dX5_init_36 : decode cX5_init 36 = .ok (.iconst 3, 1) := by decide +kernel
theorem dX5_init_37 : decode cX5_init 37 = .ok (.newarray .int, 2) := by decide +kernel
theorem dX5_init_39 : decode cX5_init 39 = .ok (.dup, 1) := by decide +kernel
theorem dX5_init_40 : decode cX5_init 40 = .ok (.iconst 0, 1) := by decide +kernel
theorem dX5_init_41 : decode cX5_init 41 = .ok (.iconst (-1), 1) := by decide +kernel
theorem dX5_init_42 : decode cX5_init 42 = .ok (.iastore, 1) := by decide +kernel
theorem dX5_init_43 : decode cX5_init 43 = .ok (.dup, 1) := by decide +kernel
theorem dX5_init_44 : decode cX5_init 44 = .ok (.iconst 1, 1) := by decide +kernel
theorem dX5_init_45 : decode cX5_init 45 = .ok (.iconst (-1), 1) := by decide +kernel
theorem dX5_init_46 : decode cX5_init 46 = .ok (.iastore, 1) := by decide +kernel
theorem dX5_init_47 : decode cX5_init 47 = .ok (.dup, 1) := by decide +kernel
theorem dX5_init_48 : decode cX5_init 48 = .ok (.iconst 2, 1) := by decide +kernel
theorem dX5_init_49 : decode cX5_init 49 = .ok (.iconst (-1), 1) := by decide +kernel
theorem dX5_init_50 : decode cX5_init 50 = .ok (.iastore, 1) := by decide +kernel
theorem dX5_init_51 : decode cX5_init 51 = .ok (.putfield 22, 3) := by decide +kernel
theorem dX5_init_54 : decode cX5_init 54 = .ok (.aload_n 0, 1) := by decide +kernel
theorem dX5_init_55 : decode cX5_init 55 = .ok (.bipush 12, 2) := by decide +kernel
theorem dX5_init_57 : decode cX5_init 57 = .ok (.newarray .int, 2) := by decide +kernel
theorem dX5_init_59 : decode cX5_init 59 = .ok (.putfield 26, 3) := by decide +kernel
theorem dX5_init_62 : decode cX5_init 62 = .ok (.aload_n 0, 1) := by decide +kernel
theorem dX5_init_63 : decode cX5_init 63 = .ok (.bipush 12, 2) := by decide +kernel
theorem dX5_init_65 : decode cX5_init 65 = .ok (.newarray .int, 2) := by decide +kernel
theorem dX5_init_67 : decode cX5_init 67 = .ok (.putfield 29, 3) := by decide +kernel
theorem dX5_init_70 : decode cX5_init 70 = .ok (.aload_n 0, 1) := by decide +kernel
theorem dX5_init_71 : decode cX5_init 71 = .ok (.iconst (-1), 1) := by decide +kernel
theorem dX5_init_72 : decode cX5_init 72 = .ok (.putfield 32, 3) := by decide +kernel
theorem dX5_init_75 : decode cX5_init 75 = .ok (.return_, 1) := by decide +kernel
theorem dX5_become_0 : decode cX5_become 0 = .ok (.aload_n 0, 1) := by decide +kernel
theorem dX5_become_1 : decode cX5_become 1 = .ok (.aload_n 1, 1) := by decide +kernel
theorem dX5_become_2 : decode cX5_become 2 = .ok (.getfield 36, 3) := by decide +kernel
theorem dX5_become_5 : decode cX5_become 5 = .ok (.putfield 36, 3) := by decide +kernel
theorem dX5_become_8 : decode cX5_become 8 = .ok (.iconst 0, 1) := by decide +kernel
theorem dX5_become_9 : decode cX5_become 9 = .ok (.istore_n 2, 1) := by decide +kernel
theorem dX5_become_10 : decode cX5_become 10 = .ok (.iload_n 2, 1) := by decide +kernel
theorem dX5_become_11 : decode cX5_become 11 = .ok (.iconst 5, 1) := by decide +kernel
theorem dX5_become_12 : decode cX5_become 12 = .ok (.if_icmp .ge 46, 3) := by decide +kernel
theorem dX5_become_15 : decode cX5_become 15 = .ok (.aload_n 1, 1) := by decide +kernel
theorem dX5_become_16 : decode cX5_become 16 = .ok (.getfield 11, 3) := by decide +kernel
theorem dX5_become_19 : decode cX5_become 19 = .ok (.iload_n 2, 1) := by decide +kernel
theorem dX5_become_20 : decode cX5_become 20 = .ok (.aaload, 1) := by decide +kernel
theorem dX5_become_21 : decode cX5_become 21 = .ok (.iconst 0, 1) := by decide +kernel
theorem dX5_become_22 : decode cX5_become 22 = .ok (.aload_n 0, 1) := by decide +kernel
theorem dX5_become_23 : decode cX5_become 23 = .ok (.getfield 11, 3) := by decide +kernel
theorem dX5_become_26 : decode cX5_become 26 = .ok (.iload_n 2, 1) := by decide +kernel
theorem dX5_become_27 : decode cX5_become 27 = .ok (.aaload, 1) := by decide +kernel
theorem dX5_become_28 : decode cX5_become 28 = .ok (.iconst 0, 1) := by decide +kernel
theorem dX5_become_29 : decode cX5_become 29 = .ok (.bipush 6, 2) := by decide +kernel
theorem dX5_become_31 : decode cX5_become 31 = .ok (.invokestatic 39, 3) := by decide +kernel
theorem dX5_become_34 : decode cX5_become 34 = .ok (.aload_n 1, 1) := by decide +kernel
theorem dX5_become_35 : decode cX5_become 35 = .ok (.getfield 16, 3) := by decide +kernel
theorem dX5_become_38 : decode cX5_become 38 = .ok (.iload_n 2, 1) := by decide +kernel
theorem dX5_become_39 : decode cX5_become 39 = .ok (.aaload, 1) := by decide +kernel
theorem dX5_become_40 : decode cX5_become 40 = .ok (.iconst 0, 1) := by decide +kernel
theorem dX5_become_41 : decode cX5_become 41 = .ok (.aload_n 0, 1) := by decide +kernel
theorem dX5_become_42 : decode cX5_become 42 = .ok (.getfield 16, 3) := by decide +kernel
theorem dX5_become_45 : decode cX5_become 45 = .ok (.iload_n 2, 1) := by decide +kernel
theorem dX5_become_46 : decode cX5_become 46 = .ok (.aaload, 1) := by decide +kernel
theorem dX5_become_47 : decode cX5_become 47 = .ok (.iconst 0, 1) := by decide +kernel
theorem dX5_become_48 : decode cX5_become 48 = .ok (.iconst 3, 1) := by decide +kernel
theorem dX5_become_49 : decode cX5_become 49 = .ok (.invokestatic 39, 3) := by decide +kernel
theorem dX5_become_52 : decode cX5_become 52 = .ok (.iinc 2 1, 3) := by decide +kernel
theorem dX5_become_55 : decode cX5_become 55 = .ok (.goto (-45), 3) := by decide +kernel
theorem dX5_become_58 : decode cX5_become 58 = .ok (.aload_n 1, 1) := by decide +kernel
theorem dX5_become_59 : decode cX5_become 59 = .ok (.getfield 19, 3) := by decide +kernel
theorem dX5_become_62 : decode cX5_become 62 = .ok (.iconst 0, 1) := by decide +kernel
theorem dX5_become_63 : decode cX5_become 63 = .ok (.aaload, 1) := by decide +kernel
theorem dX5_become_64 : decode cX5_become 64 = .ok (.iconst 0, 1) := by decide +kernel
theorem dX5_become_65 : decode cX5_become 65 = .ok (.aload_n 0, 1) := by decide +kernel
theorem dX5_become_66 : decode cX5_become 66 = .ok (.getfield 19, 3) := by decide +kernel
theorem dX5_become_69 : decode cX5_become 69 = .ok (.iconst 0, 1) := by decide +kernel
theorem dX5_become_70 : decode cX5_become 70 = .ok (.aaload, 1) := by decide +kernel
theorem dX5_become_71 : decode cX5_become 71 = .ok (.iconst 0, 1) := by decide +kernel
theorem dX5_become_72 : decode cX5_become 72 = .ok (.iconst 5, 1) := by decide +kernel
theorem dX5_become_73 : decode cX5_become 73 = .ok (.invokestatic 39, 3) := by decide +kernel
theorem dX5_become_76 : decode cX5_become 76 = .ok (.aload_n 1, 1) := by decide +kernel
theorem dX5_become_77 : decode cX5_become 77 = .ok (.getfield 19, 3) := by decide +kernel
theorem dX5_become_80 : decode cX5_become 80 = .ok (.iconst 1, 1) := by decide +kernel
theorem dX5_become_81 : decode cX5_become 81 = .ok (.aaload, 1) := by decide +kernel
theorem dX5_become_82 : decode cX5_become 82 = .ok (.iconst 0, 1) := by decide +kernel
theorem dX5_become_83 : decode cX5_become 83 = .ok (.aload_n 0, 1) := by decide +kernel
theorem dX5_become_84 : decode cX5_become 84 = .ok (.getfield 19, 3) := by decide +kernel
theorem dX5_become_87 : decode cX5_become 87 = .ok (.iconst 1, 1) := by decide +kernel
theorem dX5_become_88 : decode cX5_become 88 = .ok (.aaload, 1) := by decide +kernel
theorem dX5_become_89 : decode cX5_become 89 = .ok (.iconst 0, 1) := by decide +kernel
theorem dX5_become_90 : decode cX5_become 90 = .ok (.iconst 5, 1) := by decide +kernel
theorem dX5_become_91 : decode cX5_become 91 = .ok (.invokestatic 39, 3) := by decide +kernel
theorem dX5_become_94 : decode cX5_become 94 = .ok (.aload_n 0, 1) := by decide +kernel
theorem dX5_become_95 : decode cX5_become 95 = .ok (.aload_n 1, 1) := by decide +kernel
theorem dX5_become_96 : decode cX5_become 96 = .ok (.getfield 45, 3) := by decide +kernel
theorem dX5_become_99 : decode cX5_become 99 = .ok (.putfield 45, 3) := by decide +kernel
theorem dX5_become_102 : decode cX5_become 102 = .ok (.aload_n 1, 1) := by decide +kernel
theorem dX5_become_103 : decode cX5_become 103 = .ok (.getfield 22, 3) := by decide +kernel
theorem dX5_become_106 : decode cX5_become 106 = .ok (.iconst 0, 1) := by decide +kernel
theorem dX5_become_107 : decode cX5_become 107 = .ok (.aload_n 0, 1) := by decide +kernel
theorem dX5_become_108 : decode cX5_become 108 = .ok (.getfield 22, 3) := by decide +kernel
theorem dX5_become_111 : decode cX5_become 111 = .ok (.iconst 0, 1) := by decide +kernel
theorem dX5_become_112 : decode cX5_become 112 = .ok (.iconst 3, 1) := by decide +kernel
theorem dX5_become_113 : decode cX5_become 113 = .ok (.invokestatic 39, 3) := by decide +kernel
theorem dX5_become_116 : decode cX5_become 116 = .ok (.aload_n 0, 1) := by decide +kernel
theorem dX5_become_117 : decode cX5_become 117 = .ok (.aload_n 1, 1) := by decide +kernel
theorem dX5_become_118 : decode cX5_become 118 = .ok (.getfield 48, 3) := by decide +kernel
theorem dX5_become_121 : decode cX5_become 121 = .ok (.putfield 48, 3) := by decide +kernel
theorem dX5_become_124 : decode cX5_become 124 = .ok (.aload_n 1, 1) := by decide +kernel
theorem dX5_become_125 : decode cX5_become 125 = .ok (.getfield 26, 3) := by decide +kernel
theorem dX5_become_128 : decode cX5_become 128 = .ok (.iconst 0, 1) := by decide +kernel
theorem dX5_become_129 : decode cX5_become 129 = .ok (.aload_n 0, 1) := by decide +kernel
theorem dX5_become_130 : decode cX5_become 130 = .ok (.getfield 26, 3) := by decide +kernel
theorem dX5_become_133 : decode cX5_become 133 = .ok (.iconst 0, 1) := by decide +kernel
theorem dX5_become_134 : decode cX5_become 134 = .ok (.bipush 12, 2) := by decide +kernel
theorem dX5_become_136 : decode cX5_become 136 = .ok (.invokestatic 39, 3) := by decide +kernel
theorem dX5_become_139 : decode cX5_become 139 = .ok (.aload_n 1, 1) := by decide +kernel
theorem dX5_become_140 : decode cX5_become 140 = .ok (.getfield 29, 3) := by decide +kernel
theorem dX5_become_143 : decode cX5_become 143 = .ok (.iconst 0, 1) := by decide +kernel
theorem dX5_become_144 : decode cX5_become 144 = .ok (.aload_n 0, 1) := by decide +kernel
theorem dX5_become_145 : decode cX5_become 145 = .ok (.getfield 29, 3) := by decide +kernel
theorem dX5_become_148 : decode cX5_become 148 = .ok (.iconst 0, 1) := by decide +kernel
theorem dX5_become_149 : decode cX5_become 149 = .ok (.bipush 12, 2) := by decide +kernel
theorem dX5_become_151 : decode cX5_become 151 = .ok (.invokestatic 39, 3) := by decide +kernel
theorem dX5_become_154 : decode cX5_become 154 = .ok (.aload_n 0, 1) := by decide +kernel
theorem dX5_become_155 : decode cX5_become 155 = .ok (.aload_n 1, 1) := by decide +kernel
theorem dX5_become_156 : decode cX5_become 156 = .ok (.getfield 32, 3) := by decide +kernel
theorem dX5_become_159 : decode cX5_become 159 = .ok (.putfield 32, 3) := by decide +kernel
theorem dX5_become_162 : decode cX5_become 162 = .ok (.return_, 1) := by decide +kernel
theorem dX6_init_0 : decode cX6_init 0 = .ok (.aload_n 0, 1) := by decide +kernel
theorem dX6_init_1 : decode cX6_init 1 = .ok (.invokespecial 3, 3) := by decide +kernel
theorem dX6_init_4 : decode cX6_init 4 = .ok (.aload_n 0, 1) := by decide +kernel
theorem dX6_init_5 : decode cX6_init 5 = .ok (.iconst (-1), 1) := by decide +kernel
theorem dX6_init_6 : decode cX6_init 6 = .ok (.putfield 9, 3) := by decide +kernel
theorem dX6_init_9 : decode cX6_init 9 = .ok (.aload_n 0, 1) := by decide +kernel
theorem dX6_init_10 : decode cX6_init 10 = .ok (.bipush 60, 2) := by decide +kernel
theorem dX6_init_12 : decode cX6_init 12 = .ok (.newarray .long, 2) := by decide +kernel
theorem dX6_init_14 : decode cX6_init 14 = .ok (.putfield 15, 3) := by decide +kernel
theorem dX6_init_17 : decode cX6_init 17 = .ok (.return_, 1) := by decide +kernel
theorem dX6_become_0 : decode cX6_become 0 = .ok (.aload_n 0, 1) := by decide +kernel
theorem dX6_become_1 : decode cX6_become 1 = .ok (.iload_n 1, 1) := by decide +kernel
theorem dX6_become_2 : decode cX6_become 2 = .ok (.putfield 9, 3) := by decide +kernel
theorem dX6_become_5 : decode cX6_become 5 = .ok (.aload_n 0, 1) := by decide +kernel
theorem dX6_become_6 : decode cX6_become 6 = .ok (.iload_n 1, 1) := by decide +kernel
theorem dX6_become_7 : decode cX6_become 7 = .ok (.iconst (-1), 1) := by decide +kernel
theorem dX6_become_8 : decode cX6_become 8 = .ok (.if_icmp .ne 7, 3) := by decide +kernel
theorem dX6_become_11 : decode cX6_become 11 = .ok (.iconst 0, 1) := by decide +kernel
theorem dX6_become_12 : decode cX6_become 12 = .ok (.goto 4, 3) := by decide +kernel
theorem dX6_become_15 : decode cX6_become 15 = .ok (.iload_n 2, 1) := by decide +kernel
theorem dX6_become_16 : decode cX6_become 16 = .ok (.putfield 19, 3) := by decide +kernel
theorem dX6_become_19 : decode cX6_become 19 = .ok (.aload_n 0, 1) := by decide +kernel
theorem dX6_become_20 : decode cX6_become 20 = .ok (.getfield 15, 3) := by decide +kernel
theorem dX6_become_23 : decode cX6_become 23 = .ok (.lconst 0, 1) := by decide +kernel
end
section
theorem dX6_become_24 : decode cX6_become 24 = .ok (.invokestatic 22, 3) := by decide +kernel
theorem dX6_become_27 : decode cX6_become 27 = .ok (.return_, 1) := by decide +kernel
theorem dX6_isEmpty_0 : decode cX6_isEmpty 0 = .ok (.aload_n 0, 1) := by decide +kernel
theorem dX6_isEmpty_1 : decode cX6_isEmpty 1 = .ok (.getfield 9, 3) := by decide +kernel
theorem dX6_isEmpty_4 : decode cX6_isEmpty 4 = .ok (.iconst (-1), 1) := by decide +kernel
theorem dX6_isEmpty_5 : decode cX6_isEmpty 5 = .ok (.if_icmp .ne 7, 3) := by decide +kernel
theorem dX6_isEmpty_8 : decode cX6_isEmpty 8 = .ok (.iconst 1, 1) := by decide +kernel
theorem dX6_isEmpty_9 : decode cX6_isEmpty 9 = .ok (.goto 4, 3) := by decide +kernel
theorem dX6_isEmpty_12 : decode cX6_isEmpty 12 = .ok (.iconst 0, 1) := by decide +kernel
theorem dX6_isEmpty_13 : decode cX6_isEmpty 13 = .ok (.ireturn, 1) := by decide +kernel
theorem dX6_has_0 : decode cX6_has 0 = .ok (.iload_n 1, 1) := by decide +kernel
theorem dX6_has_1 : decode cX6_has 1 = .ok (.iconst 0, 1) := by decide +kernel
theorem dX6_has_2 : decode cX6_has 2 = .ok (.aload_n 0, 1) := by decide +kernel
theorem dX6_has_3 : decode cX6_has 3 = .ok (.getfield 19, 3) := by decide +kernel
theorem dX6_has_6 : decode cX6_has 6 = .ok (.iconst 1, 1) := by decide +kernel
theorem dX6_has_7 : decode cX6_has 7 = .ok (.isub, 1) := by decide +kernel
theorem dX6_has_8 : decode cX6_has 8 = .ok (.invokestatic 28, 3) := by decide +kernel
theorem dX6_has_11 : decode cX6_has 11 = .ok (.ireturn, 1) := by decide +kernel
theorem dX6_hasRun_0 : decode cX6_hasRun 0 = .ok (.iload_n 2, 1) := by decide +kernel
theorem dX6_hasRun_1 : decode cX6_hasRun 1 = .ok (.ifCond .lt 29, 3) := by decide +kernel
theorem dX6_hasRun_4 : decode cX6_hasRun 4 = .ok (.iload_n 1, 1) := by decide +kernel
theorem dX6_hasRun_5 : decode cX6_hasRun 5 = .ok (.ifCond .lt 25, 3) := by decide +kernel
theorem dX6_hasRun_8 : decode cX6_hasRun 8 = .ok (.iload_n 1, 1) := by decide +kernel
theorem dX6_hasRun_9 : decode cX6_hasRun 9 = .ok (.aload_n 0, 1) := by decide +kernel
theorem dX6_hasRun_10 : decode cX6_hasRun 10 = .ok (.getfield 19, 3) := by decide +kernel
theorem dX6_hasRun_13 : decode cX6_hasRun 13 = .ok (.if_icmp .gt 17, 3) := by decide +kernel
theorem dX6_hasRun_16 : decode cX6_hasRun 16 = .ok (.iload_n 2, 1) := by decide +kernel
theorem dX6_hasRun_17 : decode cX6_hasRun 17 = .ok (.aload_n 0, 1) := by decide +kernel
theorem dX6_hasRun_18 : decode cX6_hasRun 18 = .ok (.getfield 19, 3) := by decide +kernel
theorem dX6_hasRun_21 : decode cX6_hasRun 21 = .ok (.iload_n 1, 1) := by decide +kernel
theorem dX6_hasRun_22 : decode cX6_hasRun 22 = .ok (.isub, 1) := by decide +kernel
theorem dX6_hasRun_23 : decode cX6_hasRun 23 = .ok (.if_icmp .gt 7, 3) := by decide +kernel
theorem dX6_hasRun_26 : decode cX6_hasRun 26 = .ok (.iconst 1, 1) := by decide +kernel
theorem dX6_hasRun_27 : decode cX6_hasRun 27 = .ok (.goto 4, 3) := by decide +kernel
theorem dX6_hasRun_30 : decode cX6_hasRun 30 = .ok (.iconst 0, 1) := by decide +kernel
theorem dX6_hasRun_31 : decode cX6_hasRun 31 = .ok (.ireturn, 1) := by decide +kernel
theorem dX6_put_0 : decode cX6_put 0 = .ok (.aload_n 0, 1) := by decide +kernel
theorem dX6_put_1 : decode cX6_put 1 = .ok (.getfield 15, 3) := by decide +kernel
theorem dX6_put_4 : decode cX6_put 4 = .ok (.iload_n 1, 1) := by decide +kernel
theorem dX6_put_5 : decode cX6_put 5 = .ok (.aload_n 0, 1) := by decide +kernel
theorem dX6_put_6 : decode cX6_put 6 = .ok (.lload_n 2, 1) := by decide +kernel
theorem dX6_put_7 : decode cX6_put 7 = .ok (.invokevirtual 32, 3) := by decide +kernel
theorem dX6_put_10 : decode cX6_put 10 = .ok (.lastore, 1) := by decide +kernel
theorem dX6_put_11 : decode cX6_put 11 = .ok (.return_, 1) := by decide +kernel
theorem dX6_cut_0 : decode cX6_cut 0 = .ok (.aload_n 0, 1) := by decide +kernel
theorem dX6_cut_1 : decode cX6_cut 1 = .ok (.getfield 9, 3) := by decide +kernel
theorem dX6_cut_4 : decode cX6_cut 4 = .ok (.tableswitch 62 0 4 #[36, 41, 46, 62, 50], 36) := by decide +kernel
theorem dX6_cut_40 : decode cX6_cut 40 = .ok (.lload_n 1, 1) := by decide +kernel
theorem dX6_cut_41 : decode cX6_cut 41 = .ok (.l2i, 1) := by decide +kernel
theorem dX6_cut_42 : decode cX6_cut 42 = .ok (.i2b, 1) := by decide +kernel
theorem dX6_cut_43 : decode cX6_cut 43 = .ok (.i2l, 1) := by decide +kernel
theorem dX6_cut_44 : decode cX6_cut 44 = .ok (.lreturn, 1) := by decide +kernel
theorem dX6_cut_45 : decode cX6_cut 45 = .ok (.lload_n 1, 1) := by decide +kernel
theorem dX6_cut_46 : decode cX6_cut 46 = .ok (.l2i, 1) := by decide +kernel
theorem dX6_cut_47 : decode cX6_cut 47 = .ok (.i2s, 1) := by decide +kernel
theorem dX6_cut_48 : decode cX6_cut 48 = .ok (.i2l, 1) := by decide +kernel
theorem dX6_cut_49 : decode cX6_cut 49 = .ok (.lreturn, 1) := by decide +kernel
theorem dX6_cut_50 : decode cX6_cut 50 = .ok (.lload_n 1, 1) := by decide +kernel
theorem dX6_cut_51 : decode cX6_cut 51 = .ok (.l2i, 1) := by decide +kernel
theorem dX6_cut_52 : decode cX6_cut 52 = .ok (.i2l, 1) := by decide +kernel
theorem dX6_cut_53 : decode cX6_cut 53 = .ok (.lreturn, 1) := by decide +kernel
theorem dX6_cut_54 : decode cX6_cut 54 = .ok (.lload_n 1, 1) := by decide +kernel
theorem dX6_cut_55 : decode cX6_cut 55 = .ok (.lconst 0, 1) := by decide +kernel
theorem dX6_cut_56 : decode cX6_cut 56 = .ok (.lcmp, 1) := by decide +kernel
theorem dX6_cut_57 : decode cX6_cut 57 = .ok (.ifCond .eq 7, 3) := by decide +kernel
theorem dX6_cut_60 : decode cX6_cut 60 = .ok (.lconst 1, 1) := by decide +kernel
theorem dX6_cut_61 : decode cX6_cut 61 = .ok (.goto 4, 3) := by decide +kernel
theorem dX6_cut_64 : decode cX6_cut 64 = .ok (.lconst 0, 1) := by decide +kernel
theorem dX6_cut_65 : decode cX6_cut 65 = .ok (.lreturn, 1) := by decide +kernel
theorem dX6_cut_66 : decode cX6_cut 66 = .ok (.lload_n 1, 1) := by decide +kernel
theorem dX6_cut_67 : decode cX6_cut 67 = .ok (.lreturn, 1) := by decide +kernel
theorem dX7_init_0 : decode cX7_init 0 = .ok (.aload_n 0, 1) := by decide +kernel
theorem dX7_init_1 : decode cX7_init 1 = .ok (.invokespecial 3, 3) := by decide +kernel
theorem dX7_init_4 : decode cX7_init 4 = .ok (.aload_n 0, 1) := by decide +kernel
theorem dX7_init_5 : decode cX7_init 5 = .ok (.new 9, 3) := by decide +kernel
theorem dX7_init_8 : decode cX7_init 8 = .ok (.dup, 1) := by decide +kernel
theorem dX7_init_9 : decode cX7_init 9 = .ok (.invokespecial 11, 3) := by decide +kernel
theorem dX7_init_12 : decode cX7_init 12 = .ok (.putfield 12, 3) := by decide +kernel
theorem dX7_init_15 : decode cX7_init 15 = .ok (.aload_n 0, 1) := by decide +kernel
theorem dX7_init_16 : decode cX7_init 16 = .ok (.new 9, 3) := by decide +kernel
theorem dX7_init_19 : decode cX7_init 19 = .ok (.dup, 1) := by decide +kernel
theorem dX7_init_20 : decode cX7_init 20 = .ok (.invokespecial 11, 3) := by decide +kernel
theorem dX7_init_23 : decode cX7_init 23 = .ok (.putfield 18, 3) := by decide +kernel
theorem dX7_init_26 : decode cX7_init 26 = .ok (.aload_n 0, 1) := by decide +kernel
theorem dX7_init_27 : decode cX7_init 27 = .ok (.new 21, 3) := by decide +kernel
theorem dX7_init_30 : decode cX7_init 30 = .ok (.dup, 1) := by decide +kernel
theorem dX7_init_31 : decode cX7_init 31 = .ok (.invokespecial 23, 3) := by decide +kernel
theorem dX7_init_34 : decode cX7_init 34 = .ok (.putfield 24, 3) := by decide +kernel
theorem dX7_init_37 : decode cX7_init 37 = .ok (.aload_n 0, 1) := by decide +kernel
theorem dX7_init_38 : decode cX7_init 38 = .ok (.new 28, 3) := by decide +kernel
theorem dX7_init_41 : decode cX7_init 41 = .ok (.dup, 1) := by decide +kernel
theorem dX7_init_42 : decode cX7_init 42 = .ok (.invokespecial 30, 3) := by decide +kernel
theorem dX7_init_45 : decode cX7_init 45 = .ok (.putfield 31, 3) := by decide +kernel
theorem dX7_init_48 : decode cX7_init 48 = .ok (.aload_n 0, 1) := by decide +kernel
theorem dX7_init_49 : decode cX7_init 49 = .ok (.bipush 6, 2) := by decide +kernel
theorem dX7_init_51 : decode cX7_init 51 = .ok (.anewarray 28, 3) := by decide +kernel
theorem dX7_init_54 : decode cX7_init 54 = .ok (.putfield 35, 3) := by decide +kernel
theorem dX7_init_57 : decode cX7_init 57 = .ok (.aload_n 0, 1) := by decide +kernel
theorem dX7_init_58 : decode cX7_init 58 = .ok (.new 39, 3) := by decide +kernel
theorem dX7_init_61 : decode cX7_init 61 = .ok (.dup, 1) := by decide +kernel
theorem dX7_init_62 : decode cX7_init 62 = .ok (.invokespecial 41, 3) := by decide +kernel
theorem dX7_init_65 : decode cX7_init 65 = .ok (.putfield 42, 3) := by decide +kernel
theorem dX7_init_68 : decode cX7_init 68 = .ok (.aload_n 0, 1) := by decide +kernel
theorem dX7_init_69 : decode cX7_init 69 = .ok (.new 46, 3) := by decide +kernel
theorem dX7_init_72 : decode cX7_init 72 = .ok (.dup, 1) := by decide +kernel
theorem dX7_init_73 : decode cX7_init 73 = .ok (.aload_n 0, 1) := by decide +kernel
theorem dX7_init_74 : decode cX7_init 74 = .ok (.getfield 42, 3) := by decide +kernel
theorem dX7_init_77 : decode cX7_init 77 = .ok (.invokespecial 48, 3) := by decide +kernel
theorem dX7_init_80 : decode cX7_init 80 = .ok (.putfield 51, 3) := by decide +kernel
theorem dX7_init_83 : decode cX7_init 83 = .ok (.aload_n 0, 1) := by decide +kernel
theorem dX7_init_84 : decode cX7_init 84 = .ok (.iconst 3, 1) := by decide +kernel
theorem dX7_init_85 : decode cX7_init 85 = .ok (.newarray .int, 2) := by decide +kernel
theorem dX7_init_87 : decode cX7_init 87 = .ok (.putfield 55, 3) := by decide +kernel
theorem dX7_init_90 : decode cX7_init 90 = .ok (.aload_n 0, 1) := by decide +kernel
theorem dX7_init_91 : decode cX7_init 91 = .ok (.new 59, 3) := by decide +kernel
theorem dX7_init_94 : decode cX7_init 94 = .ok (.dup, 1) := by decide +kernel
theorem dX7_init_95 : decode cX7_init 95 = .ok (.invokespecial 61, 3) := by decide +kernel
theorem dX7_init_98 : decode cX7_init 98 = .ok (.putfield 62, 3) := by decide +kernel
theorem dX7_init_101 : decode cX7_init 101 = .ok (.aload_n 0, 1) := by decide +kernel
theorem dX7_init_102 : decode cX7_init 102 = .ok (.bipush 6, 2) := by decide +kernel
theorem dX7_init_104 : decode cX7_init 104 = .ok (.anewarray 66, 3) := by decide +kernel
theorem dX7_init_107 : decode cX7_init 107 = .ok (.putfield 68, 3) := by decide +kernel
theorem dX7_init_110 : decode cX7_init 110 = .ok (.iconst 0, 1) := by decide +kernel
theorem dX7_init_111 : decode cX7_init 111 = .ok (.istore_n 1, 1) := by decide +kernel
theorem dX7_init_112 : decode cX7_init 112 = .ok (.iload_n 1, 1) := by decide +kernel
theorem dX7_init_113 : decode cX7_init 113 = .ok (.bipush 6, 2) := by decide +kernel
theorem dX7_init_115 : decode cX7_init 115 = .ok (.if_icmp .ge 22, 3) := by decide +kernel
theorem dX7_init_118 : decode cX7_init 118 = .ok (.aload_n 0, 1) := by decide +kernel
theorem dX7_init_119 : decode cX7_init 119 = .ok (.getfield 35, 3) := by decide +kernel
theorem dX7_init_122 : decode cX7_init 122 = .ok (.iload_n 1, 1) := by decide +kernel
theorem dX7_init_123 : decode cX7_init 123 = .ok (.new 28, 3) := by decide +kernel
theorem dX7_init_126 : decode cX7_init 126 = .ok (.dup, 1) := by decide +kernel
theorem dX7_init_127 : decode cX7_init 127 = .ok (.invokespecial 30, 3) := by decide +kernel
theorem dX7_init_130 : decode cX7_init 130 = .ok (.aastore, 1) := by decide +kernel
theorem dX7_init_131 : decode cX7_init 131 = .ok (.iinc 1 1, 3) := by decide +kernel
theorem dX7_init_134 : decode cX7_init 134 = .ok (.goto (-22), 3) := by decide +kernel
theorem dX7_init_137 : decode cX7_init 137 = .ok (.iconst 0, 1) := by decide +kernel
theorem dX7_init_138 : decode cX7_init 138 = .ok (.istore_n 1, 1) := by decide +kernel
theorem dX7_init_139 : decode cX7_init 139 = .ok (.iload_n 1, 1) := by decide +kernel
theorem dX7_init_140 : decode cX7_init 140 = .ok (.bipush 6, 2) := by decide +kernel
theorem dX7_init_142 : decode cX7_init 142 = .ok (.if_icmp .ge 22, 3) := by decide +kernel
theorem dX7_init_145 : decode cX7_init 145 = .ok (.aload_n 0, 1) := by decide +kernel
theorem dX7_init_146 : decode cX7_init 146 = .ok (.getfield 68, 3) := by decide +kernel
theorem dX7_init_149 : decode cX7_init 149 = .ok (.iload_n 1, 1) := by decide +kernel
theorem dX7_init_150 : decode cX7_init 150 = .ok (.new 66, 3) := by decide +kernel
theorem dX7_init_153 : decode cX7_init 153 = .ok (.dup, 1) := by decide +kernel
theorem dX7_init_154 : decode cX7_init 154 = .ok (.invokespecial 72, 3) := by decide +kernel
theorem dX7_init_157 : decode cX7_init 157 = .ok (.aastore, 1) := by decide +kernel
theorem dX7_init_158 : decode cX7_init 158 = .ok (.iinc 1 1, 3) := by decide +kernel
theorem dX7_init_161 : decode cX7_init 161 = .ok (.goto (-22), 3) := by decide +kernel
theorem dX7_init_164 : decode cX7_init 164 = .ok (.return_, 1) := by decide +kernel
theorem dX7_sort_0 : decode cX7_sort 0 = .ok (.iload_n 1, 1) := by decide +kernel
theorem dX7_sort_1 : decode cX7_sort 1 = .ok (.iconst 0, 1) := by decide +kernel
theorem dX7_sort_2 : decode cX7_sort 2 = .ok (.bipush 6, 2) := by decide +kernel
theorem dX7_sort_4 : decode cX7_sort 4 = .ok (.invokestatic 73, 3) := by decide +kernel
theorem dX7_sort_7 : decode cX7_sort 7 = .ok (.ifCond .ne 5, 3) := by decide +kernel
theorem dX7_sort_10 : decode cX7_sort 10 = .ok (.iconst (-1), 1) := by decide +kernel
theorem dX7_sort_11 : decode cX7_sort 11 = .ok (.ireturn, 1) := by decide +kernel
theorem dX7_sort_12 : decode cX7_sort 12 = .ok (.iload_n 2, 1) := by decide +kernel
theorem dX7_sort_13 : decode cX7_sort 13 = .ok (.invokestatic 77, 3) := by decide +kernel
theorem dX7_sort_16 : decode cX7_sort 16 = .ok (.ifCond .eq 37, 3) := by decide +kernel
theorem dX7_sort_19 : decode cX7_sort 19 = .ok (.iload_n 3, 1) := by decide +kernel
theorem dX7_sort_20 : decode cX7_sort 20 = .ok (.invokestatic 77, 3) := by decide +kernel
theorem dX7_sort_23 : decode cX7_sort 23 = .ok (.ifCond .eq 30, 3) := by decide +kernel
theorem dX7_sort_26 : decode cX7_sort 26 = .ok (.iload 4, 2) := by decide +kernel
theorem dX7_sort_28 : decode cX7_sort 28 = .ok (.invokestatic 77, 3) := by decide +kernel
theorem dX7_sort_31 : decode cX7_sort 31 = .ok (.ifCond .eq 22, 3) := by decide +kernel
theorem dX7_sort_34 : decode cX7_sort 34 = .ok (.iload 5, 2) := by decide +kernel
theorem dX7_sort_36 : decode cX7_sort 36 = .ok (.invokestatic 77, 3) := by decide +kernel
theorem dX7_sort_39 : decode cX7_sort 39 = .ok (.ifCond .eq 14, 3) := by decide +kernel
theorem dX7_sort_42 : decode cX7_sort 42 = .ok (.iload 6, 2) := by decide +kernel
theorem dX7_sort_44 : decode cX7_sort 44 = .ok (.iconst 0, 1) := by decide +kernel
theorem dX7_sort_45 : decode cX7_sort 45 = .ok (.bipush 99, 2) := by decide +kernel
theorem dX7_sort_47 : decode cX7_sort 47 = .ok (.invokestatic 73, 3) := by decide +kernel
theorem dX7_sort_50 : decode cX7_sort 50 = .ok (.ifCond .ne 6, 3) := by decide +kernel
theorem dX7_sort_53 : decode cX7_sort 53 = .ok (.bipush (-2), 2) := by decide +kernel
theorem dX7_sort_55 : decode cX7_sort 55 = .ok (.ireturn, 1) := by decide +kernel
theorem dX7_sort_56 : decode cX7_sort 56 = .ok (.aload_n 0, 1) := by decide +kernel
theorem dX7_sort_57 : decode cX7_sort 57 = .ok (.getfield 12, 3) := by decide +kernel
theorem dX7_sort_60 : decode cX7_sort 60 = .ok (.getfield 81, 3) := by decide +kernel
theorem dX7_sort_63 : decode cX7_sort 63 = .ok (.iconst 5, 1) := by decide +kernel
theorem dX7_sort_64 : decode cX7_sort 64 = .ok (.if_icmp .lt 6, 3) := by decide +kernel
theorem dX7_sort_67 : decode cX7_sort 67 = .ok (.bipush (-4), 2) := by decide +kernel
theorem dX7_sort_69 : decode cX7_sort 69 = .ok (.ireturn, 1) := by decide +kernel
theorem dX7_sort_70 : decode cX7_sort 70 = .ok (.aload_n 0, 1) := by decide +kernel
theorem dX7_sort_71 : decode cX7_sort 71 = .ok (.getfield 12, 3) := by decide +kernel
theorem dX7_sort_74 : decode cX7_sort 74 = .ok (.getfield 81, 3) := by decide +kernel
theorem dX7_sort_77 : decode cX7_sort 77 = .ok (.istore 7, 2) := by decide +kernel
theorem dX7_sort_79 : decode cX7_sort 79 = .ok (.aload_n 0, 1) := by decide +kernel
theorem dX7_sort_80 : decode cX7_sort 80 = .ok (.getfield 12, 3) := by decide +kernel
theorem dX7_sort_83 : decode cX7_sort 83 = .ok (.getfield 85, 3) := by decide +kernel
theorem dX7_sort_86 : decode cX7_sort 86 = .ok (.iload 7, 2) := by decide +kernel
theorem dX7_sort_88 : decode cX7_sort 88 = .ok (.aaload, 1) := by decide +kernel
theorem dX7_sort_89 : decode cX7_sort 89 = .ok (.astore 8, 2) := by decide +kernel
theorem dX7_sort_91 : decode cX7_sort 91 = .ok (.aload 8, 2) := by decide +kernel
theorem dX7_sort_93 : decode cX7_sort 93 = .ok (.iconst 0, 1) := by decide +kernel
theorem dX7_sort_94 : decode cX7_sort 94 = .ok (.iload_n 1, 1) := by decide +kernel
theorem dX7_sort_95 : decode cX7_sort 95 = .ok (.iastore, 1) := by decide +kernel
theorem dX7_sort_96 : decode cX7_sort 96 = .ok (.aload 8, 2) := by decide +kernel
theorem dX7_sort_98 : decode cX7_sort 98 = .ok (.iconst 1, 1) := by decide +kernel
theorem dX7_sort_99 : decode cX7_sort 99 = .ok (.iload_n 2, 1) := by decide +kernel
theorem dX7_sort_100 : decode cX7_sort 100 = .ok (.iastore, 1) := by decide +kernel
theorem dX7_sort_101 : decode cX7_sort 101 = .ok (.aload 8, 2) := by decide +kernel
theorem dX7_sort_103 : decode cX7_sort 103 = .ok (.iconst 2, 1) := by decide +kernel
theorem dX7_sort_104 : decode cX7_sort 104 = .ok (.iload_n 3, 1) := by decide +kernel
theorem dX7_sort_105 : decode cX7_sort 105 = .ok (.iastore, 1) := by decide +kernel
theorem dX7_sort_106 : decode cX7_sort 106 = .ok (.aload 8, 2) := by decide +kernel
theorem dX7_sort_108 : decode cX7_sort 108 = .ok (.iconst 3, 1) := by decide +kernel
theorem dX7_sort_109 : decode cX7_sort 109 = .ok (.iload 4, 2) := by decide +kernel
theorem dX7_sort_111 : decode cX7_sort 111 = .ok (.iastore, 1) := by decide +kernel
theorem dX7_sort_112 : decode cX7_sort 112 = .ok (.aload 8, 2) := by decide +kernel
theorem dX7_sort_114 : decode cX7_sort 114 = .ok (.iconst 4, 1) := by decide +kernel
theorem dX7_sort_115 : decode cX7_sort 115 = .ok (.iload 5, 2) := by decide +kernel
theorem dX7_sort_117 : decode cX7_sort 117 = .ok (.iastore, 1) := by decide +kernel
theorem dX7_sort_118 : decode cX7_sort 118 = .ok (.aload 8, 2) := by decide +kernel
theorem dX7_sort_120 : decode cX7_sort 120 = .ok (.iconst 5, 1) := by decide +kernel
theorem dX7_sort_121 : decode cX7_sort 121 = .ok (.iload 6, 2) := by decide +kernel
theorem dX7_sort_123 : decode cX7_sort 123 = .ok (.iastore, 1) := by decide +kernel
theorem dX7_sort_124 : decode cX7_sort 124 = .ok (.aload_n 0, 1) := by decide +kernel
theorem dX7_sort_125 : decode cX7_sort 125 = .ok (.getfield 12, 3) := by decide +kernel
theorem dX7_sort_128 : decode cX7_sort 128 = .ok (.iload 7, 2) := by decide +kernel
theorem dX7_sort_130 : decode cX7_sort 130 = .ok (.iconst 1, 1) := by decide +kernel
theorem dX7_sort_131 : decode cX7_sort 131 = .ok (.iadd, 1) := by decide +kernel
theorem dX7_sort_132 : decode cX7_sort 132 = .ok (.putfield 81, 3) := by decide +kernel
theorem dX7_sort_135 : decode cX7_sort 135 = .ok (.iload 7, 2) := by decide +kernel
theorem dX7_sort_137 : decode cX7_sort 137 = .ok (.ireturn, 1) := by decide +kernel
theorem dX7_of_0 : decode cX7_of 0 = .ok (.aload_n 0, 1) := by decide +kernel
theorem dX7_of_1 : decode cX7_of 1 = .ok (.iload_n 1, 1) := by decide +kernel
theorem dX7_of_2 : decode cX7_of 2 = .ok (.invokevirtual 89, 3) := by decide +kernel
theorem dX7_of_5 : decode cX7_of 5 = .ok (.ifCond .ne 5, 3) := by decide +kernel
theorem dX7_of_8 : decode cX7_of 8 = .ok (.iconst (-1), 1) := by decide +kernel
theorem dX7_of_9 : decode cX7_of 9 = .ok (.ireturn, 1) := by decide +kernel
theorem dX7_of_10 : decode cX7_of 10 = .ok (.iload_n 2, 1) := by decide +kernel
theorem dX7_of_11 : decode cX7_of 11 = .ok (.iconst 0, 1) := by decide +kernel
theorem dX7_of_12 : decode cX7_of 12 = .ok (.iconst 5, 1) := by decide +kernel
theorem dX7_of_13 : decode cX7_of 13 = .ok (.invokestatic 73, 3) := by decide +kernel
theorem dX7_of_16 : decode cX7_of 16 = .ok (.ifCond .eq 15, 3) := by decide +kernel
theorem dX7_of_19 : decode cX7_of 19 = .ok (.aload_n 0, 1) := by decide +kernel
theorem dX7_of_20 : decode cX7_of 20 = .ok (.getfield 12, 3) := by decide +kernel
theorem dX7_of_23 : decode cX7_of 23 = .ok (.getfield 85, 3) := by decide +kernel
theorem dX7_of_26 : decode cX7_of 26 = .ok (.iload_n 1, 1) := by decide +kernel
theorem dX7_of_27 : decode cX7_of 27 = .ok (.aaload, 1) := by decide +kernel
theorem dX7_of_28 : decode cX7_of 28 = .ok (.iload_n 2, 1) := by decide +kernel
theorem dX7_of_29 : decode cX7_of 29 = .ok (.iaload, 1) := by decide +kernel
theorem dX7_of_30 : decode cX7_of 30 = .ok (.ireturn, 1) := by decide +kernel
theorem dX7_of_31 : decode cX7_of 31 = .ok (.iload_n 2, 1) := by decide +kernel
theorem dX7_of_32 : decode cX7_of 32 = .ok (.bipush 7, 2) := by decide +kernel
theorem dX7_of_34 : decode cX7_of 34 = .ok (.if_icmp .eq 9, 3) := by decide +kernel
theorem dX7_of_37 : decode cX7_of 37 = .ok (.iload_n 2, 1) := by decide +kernel
theorem dX7_of_38 : decode cX7_of 38 = .ok (.bipush 8, 2) := by decide +kernel
theorem dX7_of_40 : decode cX7_of 40 = .ok (.if_icmp .ne 18, 3) := by decide +kernel
theorem dX7_of_43 : decode cX7_of 43 = .ok (.aload_n 0, 1) := by decide +kernel
theorem dX7_of_44 : decode cX7_of 44 = .ok (.getfield 12, 3) := by decide +kernel
theorem dX7_of_47 : decode cX7_of 47 = .ok (.getfield 92, 3) := by decide +kernel
theorem dX7_of_50 : decode cX7_of 50 = .ok (.iload_n 2, 1) := by decide +kernel
theorem dX7_of_51 : decode cX7_of 51 = .ok (.bipush 7, 2) := by decide +kernel
theorem dX7_of_53 : decode cX7_of 53 = .ok (.isub, 1) := by decide +kernel
theorem dX7_of_54 : decode cX7_of 54 = .ok (.aaload, 1) := by decide +kernel
theorem dX7_of_55 : decode cX7_of 55 = .ok (.iload_n 1, 1) := by decide +kernel
theorem dX7_of_56 : decode cX7_of 56 = .ok (.iaload, 1) := by decide +kernel
theorem dX7_of_57 : decode cX7_of 57 = .ok (.ireturn, 1) := by decide +kernel
theorem dX7_of_58 : decode cX7_of 58 = .ok (.aload_n 0, 1) := by decide +kernel
theorem dX7_of_59 : decode cX7_of 59 = .ok (.invokevirtual 95, 3) := by decide +kernel
theorem dX7_of_62 : decode cX7_of 62 = .ok (.iload_n 2, 1) := by decide +kernel
theorem dX7_of_63 : decode cX7_of 63 = .ok (.bipush 6, 2) := by decide +kernel
theorem dX7_of_65 : decode cX7_of 65 = .ok (.if_icmp .ne 13, 3) := by decide +kernel
theorem dX7_of_68 : decode cX7_of 68 = .ok (.aload_n 0, 1) := by decide +kernel
theorem dX7_of_69 : decode cX7_of 69 = .ok (.getfield 42, 3) := by decide +kernel
theorem dX7_of_72 : decode cX7_of 72 = .ok (.getfield 98, 3) := by decide +kernel
theorem dX7_of_75 : decode cX7_of 75 = .ok (.iload_n 1, 1) := by decide +kernel
theorem dX7_of_76 : decode cX7_of 76 = .ok (.iaload, 1) := by decide +kernel
theorem dX7_of_77 : decode cX7_of 77 = .ok (.ireturn, 1) := by decide +kernel
theorem dX7_of_78 : decode cX7_of 78 = .ok (.iload_n 2, 1) := by decide +kernel
theorem dX7_of_79 : decode cX7_of 79 = .ok (.bipush 10, 2) := by decide +kernel
theorem dX7_of_81 : decode cX7_of 81 = .ok (.isub, 1) := by decide +kernel
theorem dX7_of_82 : decode cX7_of 82 = .ok (.invokestatic 101, 3) := by decide +kernel
theorem dX7_of_85 : decode cX7_of 85 = .ok (.ifCond .eq 20, 3) := by decide +kernel
theorem dX7_of_88 : decode cX7_of 88 = .ok (.aload_n 0, 1) := by decide +kernel
theorem dX7_of_89 : decode cX7_of 89 = .ok (.getfield 42, 3) := by decide +kernel
theorem dX7_of_92 : decode cX7_of 92 = .ok (.getfield 104, 3) := by decide +kernel
theorem dX7_of_95 : decode cX7_of 95 = .ok (.iload_n 1, 1) := by decide +kernel
theorem dX7_of_96 : decode cX7_of 96 = .ok (.aaload, 1) := by decide +kernel
theorem dX7_of_97 : decode cX7_of 97 = .ok (.iload_n 2, 1) := by decide +kernel
theorem dX7_of_98 : decode cX7_of 98 = .ok (.bipush 10, 2) := by decide +kernel
theorem dX7_of_100 : decode cX7_of 100 = .ok (.isub, 1) := by decide +kernel
theorem dX7_of_101 : decode cX7_of 101 = .ok (.iaload, 1) := by decide +kernel
theorem dX7_of_102 : decode cX7_of 102 = .ok (.goto 4, 3) := by decide +kernel
theorem dX7_of_105 : decode cX7_of 105 = .ok (.iconst (-1), 1) := by decide +kernel
theorem dX7_of_106 : decode cX7_of 106 = .ok (.ireturn, 1) := by decide +kernel
theorem dX7_herd_0 : decode cX7_herd 0 = .ok (.aload_n 0, 1) := by decide +kernel
theorem dX7_herd_1 : decode cX7_herd 1 = .ok (.iload_n 1, 1) := by decide +kernel
theorem dX7_herd_2 : decode cX7_herd 2 = .ok (.invokevirtual 89, 3) := by decide +kernel
theorem dX7_herd_5 : decode cX7_herd 5 = .ok (.ifCond .eq 12, 3) := by decide +kernel
theorem dX7_herd_8 : decode cX7_herd 8 = .ok (.iload_n 2, 1) := by decide +kernel
theorem dX7_herd_9 : decode cX7_herd 9 = .ok (.iconst 0, 1) := by decide +kernel
theorem dX7_herd_10 : decode cX7_herd 10 = .ok (.iconst 1, 1) := by decide +kernel
theorem dX7_herd_11 : decode cX7_herd 11 = .ok (.invokestatic 73, 3) := by decide +kernel
theorem dX7_herd_14 : decode cX7_herd 14 = .ok (.ifCond .ne 5, 3) := by decide +kernel
theorem dX7_herd_17 : decode cX7_herd 17 = .ok (.iconst (-1), 1) := by decide +kernel
theorem dX7_herd_18 : decode cX7_herd 18 = .ok (.ireturn, 1) := by decide +kernel
theorem dX7_herd_19 : decode cX7_herd 19 = .ok (.iload_n 3, 1) := by decide +kernel
theorem dX7_herd_20 : decode cX7_herd 20 = .ok (.iconst 0, 1) := by decide +kernel
theorem dX7_herd_21 : decode cX7_herd 21 = .ok (.bipush 12, 2) := by decide +kernel
theorem dX7_herd_23 : decode cX7_herd 23 = .ok (.invokestatic 73, 3) := by decide +kernel
theorem dX7_herd_26 : decode cX7_herd 26 = .ok (.ifCond .ne 6, 3) := by decide +kernel
theorem dX7_herd_29 : decode cX7_herd 29 = .ok (.bipush (-2), 2) := by decide +kernel
theorem dX7_herd_31 : decode cX7_herd 31 = .ok (.ireturn, 1) := by decide +kernel
theorem dX7_herd_32 : decode cX7_herd 32 = .ok (.aload_n 0, 1) := by decide +kernel
theorem dX7_herd_33 : decode cX7_herd 33 = .ok (.getfield 12, 3) := by decide +kernel
theorem dX7_herd_36 : decode cX7_herd 36 = .ok (.getfield 92, 3) := by decide +kernel
theorem dX7_herd_39 : decode cX7_herd 39 = .ok (.iload_n 2, 1) := by decide +kernel
theorem dX7_herd_40 : decode cX7_herd 40 = .ok (.aaload, 1) := by decide +kernel
theorem dX7_herd_41 : decode cX7_herd 41 = .ok (.iload_n 1, 1) := by decide +kernel
theorem dX7_herd_42 : decode cX7_herd 42 = .ok (.iaload, 1) := by decide +kernel
theorem dX7_herd_43 : decode cX7_herd 43 = .ok (.istore 4, 2) := by decide +kernel
theorem dX7_herd_45 : decode cX7_herd 45 = .ok (.aload_n 0, 1) := by decide +kernel
theorem dX7_herd_46 : decode cX7_herd 46 = .ok (.getfield 12, 3) := by decide +kernel
theorem dX7_herd_49 : decode cX7_herd 49 = .ok (.getfield 92, 3) := by decide +kernel
theorem dX7_herd_52 : decode cX7_herd 52 = .ok (.iload_n 2, 1) := by decide +kernel
theorem dX7_herd_53 : decode cX7_herd 53 = .ok (.aaload, 1) := by decide +kernel
theorem dX7_herd_54 : decode cX7_herd 54 = .ok (.iload_n 1, 1) := by decide +kernel
theorem dX7_herd_55 : decode cX7_herd 55 = .ok (.iload_n 3, 1) := by decide +kernel
theorem dX7_herd_56 : decode cX7_herd 56 = .ok (.iastore, 1) := by decide +kernel
theorem dX7_herd_57 : decode cX7_herd 57 = .ok (.iload 4, 2) := by decide +kernel
theorem dX7_herd_59 : decode cX7_herd 59 = .ok (.ireturn, 1) := by decide +kernel
theorem dX7_row_0 : decode cX7_row 0 = .ok (.aload_n 0, 1) := by decide +kernel
theorem dX7_row_1 : decode cX7_row 1 = .ok (.iload_n 1, 1) := by decide +kernel
theorem dX7_row_2 : decode cX7_row 2 = .ok (.invokevirtual 89, 3) := by decide +kernel
theorem dX7_row_5 : decode cX7_row 5 = .ok (.ifCond .eq 12, 3) := by decide +kernel
theorem dX7_row_8 : decode cX7_row 8 = .ok (.iload_n 2, 1) := by decide +kernel
theorem dX7_row_9 : decode cX7_row 9 = .ok (.iconst 0, 1) := by decide +kernel
theorem dX7_row_10 : decode cX7_row 10 = .ok (.iconst 2, 1) := by decide +kernel
theorem dX7_row_11 : decode cX7_row 11 = .ok (.invokestatic 73, 3) := by decide +kernel
theorem dX7_row_14 : decode cX7_row 14 = .ok (.ifCond .ne 5, 3) := by decide +kernel
theorem dX7_row_17 : decode cX7_row 17 = .ok (.iconst (-1), 1) := by decide +kernel
theorem dX7_row_18 : decode cX7_row 18 = .ok (.ireturn, 1) := by decide +kernel
theorem dX7_row_19 : decode cX7_row 19 = .ok (.iload_n 3, 1) := by decide +kernel
theorem dX7_row_20 : decode cX7_row 20 = .ok (.invokestatic 77, 3) := by decide +kernel
theorem dX7_row_23 : decode cX7_row 23 = .ok (.ifCond .ne 6, 3) := by decide +kernel
theorem dX7_row_26 : decode cX7_row 26 = .ok (.bipush (-2), 2) := by decide +kernel
theorem dX7_row_28 : decode cX7_row 28 = .ok (.ireturn, 1) := by decide +kernel
theorem dX7_row_29 : decode cX7_row 29 = .ok (.aload_n 0, 1) := by decide +kernel
theorem dX7_row_30 : decode cX7_row 30 = .ok (.getfield 12, 3) := by decide +kernel
theorem dX7_row_33 : decode cX7_row 33 = .ok (.getfield 85, 3) := by decide +kernel
theorem dX7_row_36 : decode cX7_row 36 = .ok (.iload_n 1, 1) := by decide +kernel
theorem dX7_row_37 : decode cX7_row 37 = .ok (.aaload, 1) := by decide +kernel
theorem dX7_row_38 : decode cX7_row 38 = .ok (.iconst 0, 1) := by decide +kernel
theorem dX7_row_39 : decode cX7_row 39 = .ok (.iaload, 1) := by decide +kernel
theorem dX7_row_40 : decode cX7_row 40 = .ok (.bipush 6, 2) := by decide +kernel
theorem dX7_row_42 : decode cX7_row 42 = .ok (.if_icmp .eq 6, 3) := by decide +kernel
theorem dX7_row_45 : decode cX7_row 45 = .ok (.bipush (-3), 2) := by decide +kernel
theorem dX7_row_47 : decode cX7_row 47 = .ok (.ireturn, 1) := by decide +kernel
theorem dX7_row_48 : decode cX7_row 48 = .ok (.aload_n 0, 1) := by decide +kernel
theorem dX7_row_49 : decode cX7_row 49 = .ok (.getfield 12, 3) := by decide +kernel
theorem dX7_row_52 : decode cX7_row 52 = .ok (.getfield 107, 3) := by decide +kernel
theorem dX7_row_55 : decode cX7_row 55 = .ok (.iload_n 1, 1) := by decide +kernel
theorem dX7_row_56 : decode cX7_row 56 = .ok (.aaload, 1) := by decide +kernel
theorem dX7_row_57 : decode cX7_row 57 = .ok (.iload_n 2, 1) := by decide +kernel
theorem dX7_row_58 : decode cX7_row 58 = .ok (.iaload, 1) := by decide +kernel
theorem dX7_row_59 : decode cX7_row 59 = .ok (.istore 4, 2) := by decide +kernel
theorem dX7_row_61 : decode cX7_row 61 = .ok (.aload_n 0, 1) := by decide +kernel
theorem dX7_row_62 : decode cX7_row 62 = .ok (.getfield 12, 3) := by decide +kernel
theorem dX7_row_65 : decode cX7_row 65 = .ok (.getfield 107, 3) := by decide +kernel
theorem dX7_row_68 : decode cX7_row 68 = .ok (.iload_n 1, 1) := by decide +kernel
theorem dX7_row_69 : decode cX7_row 69 = .ok (.aaload, 1) := by decide +kernel
theorem dX7_row_70 : decode cX7_row 70 = .ok (.iload_n 2, 1) := by decide +kernel
theorem dX7_row_71 : decode cX7_row 71 = .ok (.iload_n 3, 1) := by decide +kernel
theorem dX7_row_72 : decode cX7_row 72 = .ok (.iastore, 1) := by decide +kernel
theorem dX7_row_73 : decode cX7_row 73 = .ok (.iload 4, 2) := by decide +kernel
theorem dX7_row_75 : decode cX7_row 75 = .ok (.ireturn, 1) := by decide +kernel
theorem dX7_month_0 : decode cX7_month 0 = .ok (.iload_n 1, 1) := by decide +kernel
theorem dX7_month_1 : decode cX7_month 1 = .ok (.iconst 0, 1) := by decide +kernel
theorem dX7_month_2 : decode cX7_month 2 = .ok (.bipush 11, 2) := by decide +kernel
theorem dX7_month_4 : decode cX7_month 4 = .ok (.invokestatic 73, 3) := by decide +kernel
theorem dX7_month_7 : decode cX7_month 7 = .ok (.ifCond .ne 6, 3) := by decide +kernel
theorem dX7_month_10 : decode cX7_month 10 = .ok (.bipush (-2), 2) := by decide +kernel
theorem dX7_month_12 : decode cX7_month 12 = .ok (.ireturn, 1) := by decide +kernel
theorem dX7_month_13 : decode cX7_month 13 = .ok (.aload_n 0, 1) := by decide +kernel
theorem dX7_month_14 : decode cX7_month 14 = .ok (.getfield 12, 3) := by decide +kernel
theorem dX7_month_17 : decode cX7_month 17 = .ok (.getfield 110, 3) := by decide +kernel
theorem dX7_month_20 : decode cX7_month 20 = .ok (.istore_n 2, 1) := by decide +kernel
theorem dX7_month_21 : decode cX7_month 21 = .ok (.aload_n 0, 1) := by decide +kernel
theorem dX7_month_22 : decode cX7_month 22 = .ok (.getfield 12, 3) := by decide +kernel
theorem dX7_month_25 : decode cX7_month 25 = .ok (.iload_n 1, 1) := by decide +kernel
theorem dX7_month_26 : decode cX7_month 26 = .ok (.putfield 110, 3) := by decide +kernel
theorem dX7_month_29 : decode cX7_month 29 = .ok (.iload_n 2, 1) := by decide +kernel
theorem dX7_month_30 : decode cX7_month 30 = .ok (.ireturn, 1) := by decide +kernel
theorem dX7_tell_0 : decode cX7_tell 0 = .ok (.iload_n 1, 1) := by decide +kernel
theorem dX7_tell_1 : decode cX7_tell 1 = .ok (.invokestatic 101, 3) := by decide +kernel
theorem dX7_tell_4 : decode cX7_tell 4 = .ok (.ifCond .ne 5, 3) := by decide +kernel
theorem dX7_tell_7 : decode cX7_tell 7 = .ok (.iconst (-1), 1) := by decide +kernel
theorem dX7_tell_8 : decode cX7_tell 8 = .ok (.ireturn, 1) := by decide +kernel
theorem dX7_tell_9 : decode cX7_tell 9 = .ok (.iload_n 2, 1) := by decide +kernel
theorem dX7_tell_10 : decode cX7_tell 10 = .ok (.iconst (-1), 1) := by decide +kernel
theorem dX7_tell_11 : decode cX7_tell 11 = .ok (.if_icmp .eq 17, 3) := by decide +kernel
theorem dX7_tell_14 : decode cX7_tell 14 = .ok (.iload_n 2, 1) := by decide +kernel
theorem dX7_tell_15 : decode cX7_tell 15 = .ok (.iconst 0, 1) := by decide +kernel
theorem dX7_tell_16 : decode cX7_tell 16 = .ok (.sipush 999, 3) := by decide +kernel
theorem dX7_tell_19 : decode cX7_tell 19 = .ok (.invokestatic 73, 3) := by decide +kernel
theorem dX7_tell_22 : decode cX7_tell 22 = .ok (.ifCond .ne 6, 3) := by decide +kernel
theorem dX7_tell_25 : decode cX7_tell 25 = .ok (.bipush (-2), 2) := by decide +kernel
theorem dX7_tell_27 : decode cX7_tell 27 = .ok (.ireturn, 1) := by decide +kernel
theorem dX7_tell_28 : decode cX7_tell 28 = .ok (.aload_n 0, 1) := by decide +kernel
theorem dX7_tell_29 : decode cX7_tell 29 = .ok (.getfield 12, 3) := by decide +kernel
theorem dX7_tell_32 : decode cX7_tell 32 = .ok (.getfield 113, 3) := by decide +kernel
theorem dX7_tell_35 : decode cX7_tell 35 = .ok (.iload_n 1, 1) := by decide +kernel
theorem dX7_tell_36 : decode cX7_tell 36 = .ok (.iload_n 2, 1) := by decide +kernel
theorem dX7_tell_37 : decode cX7_tell 37 = .ok (.iastore, 1) := by decide +kernel
theorem dX7_tell_38 : decode cX7_tell 38 = .ok (.iconst 1, 1) := by decide +kernel
theorem dX7_tell_39 : decode cX7_tell 39 = .ok (.ireturn, 1) := by decide +kernel
theorem dX7_feed_0 : decode cX7_feed 0 = .ok (.iload_n 1, 1) := by decide +kernel
theorem dX7_feed_1 : decode cX7_feed 1 = .ok (.iconst 0, 1) := by decide +kernel
theorem dX7_feed_2 : decode cX7_feed 2 = .ok (.bipush 127, 2) := by decide +kernel
theorem dX7_feed_4 : decode cX7_feed 4 = .ok (.invokestatic 73, 3) := by decide +kernel
theorem dX7_feed_7 : decode cX7_feed 7 = .ok (.ifCond .ne 6, 3) := by decide +kernel
theorem dX7_feed_10 : decode cX7_feed 10 = .ok (.bipush (-2), 2) := by decide +kernel
theorem dX7_feed_12 : decode cX7_feed 12 = .ok (.ireturn, 1) := by decide +kernel
theorem dX7_feed_13 : decode cX7_feed 13 = .ok (.aload_n 0, 1) := by decide +kernel
theorem dX7_feed_14 : decode cX7_feed 14 = .ok (.getfield 24, 3) := by decide +kernel
theorem dX7_feed_17 : decode cX7_feed 17 = .ok (.getfield 116, 3) := by decide +kernel
theorem dX7_feed_20 : decode cX7_feed 20 = .ok (.bipush 100, 2) := by decide +kernel
theorem dX7_feed_22 : decode cX7_feed 22 = .ok (.if_icmp .lt 6, 3) := by decide +kernel
theorem dX7_feed_25 : decode cX7_feed 25 = .ok (.bipush (-4), 2) := by decide +kernel
theorem dX7_feed_27 : decode cX7_feed 27 = .ok (.ireturn, 1) := by decide +kernel
theorem dX7_feed_28 : decode cX7_feed 28 = .ok (.aload_n 0, 1) := by decide +kernel
theorem dX7_feed_29 : decode cX7_feed 29 = .ok (.getfield 24, 3) := by decide +kernel
theorem dX7_feed_32 : decode cX7_feed 32 = .ok (.iload_n 1, 1) := by decide +kernel
theorem dX7_feed_33 : decode cX7_feed 33 = .ok (.invokevirtual 119, 3) := by decide +kernel
theorem dX7_feed_36 : decode cX7_feed 36 = .ok (.aload_n 0, 1) := by decide +kernel
theorem dX7_feed_37 : decode cX7_feed 37 = .ok (.getfield 24, 3) := by decide +kernel
theorem dX7_feed_40 : decode cX7_feed 40 = .ok (.getfield 116, 3) := by decide +kernel
theorem dX7_feed_43 : decode cX7_feed 43 = .ok (.ireturn, 1) := by decide +kernel
theorem dX7_fence_0 : decode cX7_fence 0 = .ok (.aload_n 0, 1) := by decide +kernel
theorem dX7_fence_1 : decode cX7_fence 1 = .ok (.getfield 123, 3) := by decide +kernel
theorem dX7_fence_4 : decode cX7_fence 4 = .ok (.bipush 6, 2) := by decide +kernel
theorem dX7_fence_6 : decode cX7_fence 6 = .ok (.if_icmp .lt 6, 3) := by decide +kernel
theorem dX7_fence_9 : decode cX7_fence 9 = .ok (.bipush (-4), 2) := by decide +kernel
theorem dX7_fence_11 : decode cX7_fence 11 = .ok (.ireturn, 1) := by decide +kernel
theorem dX7_fence_12 : decode cX7_fence 12 = .ok (.aload_n 0, 1) := by decide +kernel
theorem dX7_fence_13 : decode cX7_fence 13 = .ok (.getfield 24, 3) := by decide +kernel
theorem dX7_fence_16 : decode cX7_fence 16 = .ok (.aload_n 0, 1) := by decide +kernel
theorem dX7_fence_17 : decode cX7_fence 17 = .ok (.getfield 35, 3) := by decide +kernel
theorem dX7_fence_20 : decode cX7_fence 20 = .ok (.aload_n 0, 1) := by decide +kernel
theorem dX7_fence_21 : decode cX7_fence 21 = .ok (.getfield 123, 3) := by decide +kernel
theorem dX7_fence_24 : decode cX7_fence 24 = .ok (.aaload, 1) := by decide +kernel
theorem dX7_fence_25 : decode cX7_fence 25 = .ok (.invokevirtual 126, 3) := by decide +kernel
theorem dX7_fence_28 : decode cX7_fence 28 = .ok (.istore_n 1, 1) := by decide +kernel
theorem dX7_fence_29 : decode cX7_fence 29 = .ok (.aload_n 0, 1) := by decide +kernel
theorem dX7_fence_30 : decode cX7_fence 30 = .ok (.getfield 24, 3) := by decide +kernel
theorem dX7_fence_33 : decode cX7_fence 33 = .ok (.iconst 0, 1) := by decide +kernel
theorem dX7_fence_34 : decode cX7_fence 34 = .ok (.putfield 116, 3) := by decide +kernel
theorem dX7_fence_37 : decode cX7_fence 37 = .ok (.iload_n 1, 1) := by decide +kernel
theorem dX7_fence_38 : decode cX7_fence 38 = .ok (.ifCond .lt 8, 3) := by decide +kernel
theorem dX7_fence_41 : decode cX7_fence 41 = .ok (.bipush (-10), 2) := by decide +kernel
theorem dX7_fence_43 : decode cX7_fence 43 = .ok (.iload_n 1, 1) := by decide +kernel
theorem dX7_fence_44 : decode cX7_fence 44 = .ok (.isub, 1) := by decide +kernel
theorem dX7_fence_45 : decode cX7_fence 45 = .ok (.ireturn, 1) := by decide +kernel
theorem dX7_fence_46 : decode cX7_fence 46 = .ok (.aload_n 0, 1) := by decide +kernel
theorem dX7_fence_47 : decode cX7_fence 47 = .ok (.getfield 12, 3) := by decide +kernel
theorem dX7_fence_50 : decode cX7_fence 50 = .ok (.aload_n 0, 1) := by decide +kernel
theorem dX7_fence_51 : decode cX7_fence 51 = .ok (.getfield 123, 3) := by decide +kernel
theorem dX7_fence_54 : decode cX7_fence 54 = .ok (.putfield 130, 3) := by decide +kernel
theorem dX7_fence_57 : decode cX7_fence 57 = .ok (.aload_n 0, 1) := by decide +kernel
theorem dX7_fence_58 : decode cX7_fence 58 = .ok (.dup, 1) := by decide +kernel
theorem dX7_fence_59 : decode cX7_fence 59 = .ok (.getfield 123, 3) := by decide +kernel
theorem dX7_fence_62 : decode cX7_fence 62 = .ok (.iconst 1, 1) := by decide +kernel
theorem dX7_fence_63 : decode cX7_fence 63 = .ok (.iadd, 1) := by decide +kernel
theorem dX7_fence_64 : decode cX7_fence 64 = .ok (.putfield 123, 3) := by decide +kernel
theorem dX7_fence_67 : decode cX7_fence 67 = .ok (.aload_n 0, 1) := by decide +kernel
theorem dX7_fence_68 : decode cX7_fence 68 = .ok (.getfield 12, 3) := by decide +kernel
theorem dX7_fence_71 : decode cX7_fence 71 = .ok (.getfield 130, 3) := by decide +kernel
theorem dX7_fence_74 : decode cX7_fence 74 = .ok (.ireturn, 1) := by decide +kernel
theorem dX7_told_0 : decode cX7_told 0 = .ok (.aload_n 0, 1) := by decide +kernel
theorem dX7_told_1 : decode cX7_told 1 = .ok (.invokevirtual 95, 3) := by decide +kernel
theorem dX7_told_4 : decode cX7_told 4 = .ok (.iload_n 1, 1) := by decide +kernel
theorem dX7_told_5 : decode cX7_told 5 = .ok (.tableswitch 66 0 3 #[31, 39, 47, 47], 31) := by decide +kernel
theorem dX7_told_36 : decode cX7_told 36 = .ok (.aload_n 0, 1) := by decide +kernel
theorem dX7_told_37 : decode cX7_told 37 = .ok (.getfield 42, 3) := by decide +kernel
theorem dX7_told_40 : decode cX7_told 40 = .ok (.getfield 133, 3) := by decide +kernel
theorem dX7_told_43 : decode cX7_told 43 = .ok (.ireturn, 1) := by decide +kernel
theorem dX7_told_44 : decode cX7_told 44 = .ok (.aload_n 0, 1) := by decide +kernel
theorem dX7_told_45 : decode cX7_told 45 = .ok (.getfield 12, 3) := by decide +kernel
theorem dX7_told_48 : decode cX7_told 48 = .ok (.getfield 110, 3) := by decide +kernel
theorem dX7_told_51 : decode cX7_told 51 = .ok (.ireturn, 1) := by decide +kernel
theorem dX7_told_52 : decode cX7_told 52 = .ok (.aload_n 0, 1) := by decide +kernel
theorem dX7_told_53 : decode cX7_told 53 = .ok (.getfield 42, 3) := by decide +kernel
theorem dX7_told_56 : decode cX7_told 56 = .ok (.aload_n 0, 1) := by decide +kernel
theorem dX7_told_57 : decode cX7_told 57 = .ok (.getfield 12, 3) := by decide +kernel
theorem dX7_told_60 : decode cX7_told 60 = .ok (.getfield 92, 3) := by decide +kernel
theorem dX7_told_63 : decode cX7_told 63 = .ok (.iload_n 1, 1) := by decide +kernel
theorem dX7_told_64 : decode cX7_told 64 = .ok (.iconst 2, 1) := by decide +kernel
theorem dX7_told_65 : decode cX7_told 65 = .ok (.isub, 1) := by decide +kernel
theorem dX7_told_66 : decode cX7_told 66 = .ok (.aaload, 1) := by decide +kernel
theorem dX7_told_67 : decode cX7_told 67 = .ok (.invokevirtual 136, 3) := by decide +kernel
theorem dX7_told_70 : decode cX7_told 70 = .ok (.ireturn, 1) := by decide +kernel
theorem dX7_told_71 : decode cX7_told 71 = .ok (.aload_n 0, 1) := by decide +kernel
theorem dX7_told_72 : decode cX7_told 72 = .ok (.iload_n 1, 1) := by decide +kernel
theorem dX7_told_73 : decode cX7_told 73 = .ok (.invokevirtual 140, 3) := by decide +kernel
theorem dX7_told_76 : decode cX7_told 76 = .ok (.ireturn, 1) := by decide +kernel
theorem dX7_toldByHole_0 : decode cX7_toldByHole 0 = .ok (.iload_n 1, 1) := by decide +kernel
theorem dX7_toldByHole_1 : decode cX7_toldByHole 1 = .ok (.bipush 10, 2) := by decide +kernel
theorem dX7_toldByHole_3 : decode cX7_toldByHole 3 = .ok (.isub, 1) := by decide +kernel
theorem dX7_toldByHole_4 : decode cX7_toldByHole 4 = .ok (.invokestatic 101, 3) := by decide +kernel
theorem dX7_toldByHole_7 : decode cX7_toldByHole 7 = .ok (.ifCond .eq 24, 3) := by decide +kernel
theorem dX7_toldByHole_10 : decode cX7_toldByHole 10 = .ok (.aload_n 0, 1) := by decide +kernel
theorem dX7_toldByHole_11 : decode cX7_toldByHole 11 = .ok (.getfield 42, 3) := by decide +kernel
theorem dX7_toldByHole_14 : decode cX7_toldByHole 14 = .ok (.aload_n 0, 1) := by decide +kernel
theorem dX7_toldByHole_15 : decode cX7_toldByHole 15 = .ok (.getfield 12, 3) := by decide +kernel
theorem dX7_toldByHole_18 : decode cX7_toldByHole 18 = .ok (.getfield 92, 3) := by decide +kernel
theorem dX7_toldByHole_21 : decode cX7_toldByHole 21 = .ok (.iconst 0, 1) := by decide +kernel
theorem dX7_toldByHole_22 : decode cX7_toldByHole 22 = .ok (.aaload, 1) := by decide +kernel
theorem dX7_toldByHole_23 : decode cX7_toldByHole 23 = .ok (.iload_n 1, 1) := by decide +kernel
theorem dX7_toldByHole_24 : decode cX7_toldByHole 24 = .ok (.bipush 10, 2) := by decide +kernel
theorem dX7_toldByHole_26 : decode cX7_toldByHole 26 = .ok (.isub, 1) := by decide +kernel
theorem dX7_toldByHole_27 : decode cX7_toldByHole 27 = .ok (.invokevirtual 144, 3) := by decide +kernel
theorem dX7_toldByHole_30 : decode cX7_toldByHole 30 = .ok (.ireturn, 1) := by decide +kernel
theorem dX7_toldByHole_31 : decode cX7_toldByHole 31 = .ok (.iload_n 1, 1) := by decide +kernel
theorem dX7_toldByHole_32 : decode cX7_toldByHole 32 = .ok (.bipush 20, 2) := by decide +kernel
theorem dX7_toldByHole_34 : decode cX7_toldByHole 34 = .ok (.isub, 1) := by decide +kernel
theorem dX7_toldByHole_35 : decode cX7_toldByHole 35 = .ok (.invokestatic 101, 3) := by decide +kernel
theorem dX7_toldByHole_38 : decode cX7_toldByHole 38 = .ok (.ifCond .eq 24, 3) := by decide +kernel
theorem dX7_toldByHole_41 : decode cX7_toldByHole 41 = .ok (.aload_n 0, 1) := by decide +kernel
theorem dX7_toldByHole_42 : decode cX7_toldByHole 42 = .ok (.getfield 42, 3) := by decide +kernel
theorem dX7_toldByHole_45 : decode cX7_toldByHole 45 = .ok (.aload_n 0, 1) := by decide +kernel
theorem dX7_toldByHole_46 : decode cX7_toldByHole 46 = .ok (.getfield 12, 3) := by decide +kernel
theorem dX7_toldByHole_49 : decode cX7_toldByHole 49 = .ok (.getfield 92, 3) := by decide +kernel
theorem dX7_toldByHole_52 : decode cX7_toldByHole 52 = .ok (.iconst 1, 1) := by decide +kernel
theorem dX7_toldByHole_53 : decode cX7_toldByHole 53 = .ok (.aaload, 1) := by decide +kernel
theorem dX7_toldByHole_54 : decode cX7_toldByHole 54 = .ok (.iload_n 1, 1) := by decide +kernel
theorem dX7_toldByHole_55 : decode cX7_toldByHole 55 = .ok (.bipush 20, 2) := by decide +kernel
theorem dX7_toldByHole_57 : decode cX7_toldByHole 57 = .ok (.isub, 1) := by decide +kernel
theorem dX7_toldByHole_58 : decode cX7_toldByHole 58 = .ok (.invokevirtual 144, 3) := by decide +kernel
theorem dX7_toldByHole_61 : decode cX7_toldByHole 61 = .ok (.ireturn, 1) := by decide +kernel
theorem dX7_toldByHole_62 : decode cX7_toldByHole 62 = .ok (.iload_n 1, 1) := by decide +kernel
theorem dX7_toldByHole_63 : decode cX7_toldByHole 63 = .ok (.bipush 30, 2) := by decide +kernel
theorem dX7_toldByHole_65 : decode cX7_toldByHole 65 = .ok (.isub, 1) := by decide +kernel
theorem dX7_toldByHole_66 : decode cX7_toldByHole 66 = .ok (.invokestatic 101, 3) := by decide +kernel
theorem dX7_toldByHole_69 : decode cX7_toldByHole 69 = .ok (.ifCond .eq 28, 3) := by decide +kernel
theorem dX7_toldByHole_72 : decode cX7_toldByHole 72 = .ok (.aload_n 0, 1) := by decide +kernel
theorem dX7_toldByHole_73 : decode cX7_toldByHole 73 = .ok (.getfield 12, 3) := by decide +kernel
theorem dX7_toldByHole_76 : decode cX7_toldByHole 76 = .ok (.getfield 113, 3) := by decide +kernel
theorem dX7_toldByHole_79 : decode cX7_toldByHole 79 = .ok (.iload_n 1, 1) := by decide +kernel
theorem dX7_toldByHole_80 : decode cX7_toldByHole 80 = .ok (.bipush 30, 2) := by decide +kernel
theorem dX7_toldByHole_82 : decode cX7_toldByHole 82 = .ok (.isub, 1) := by decide +kernel
theorem dX7_toldByHole_83 : decode cX7_toldByHole 83 = .ok (.iaload, 1) := by decide +kernel
theorem dX7_toldByHole_84 : decode cX7_toldByHole 84 = .ok (.istore_n 2, 1) := by decide +kernel
theorem dX7_toldByHole_85 : decode cX7_toldByHole 85 = .ok (.iload_n 2, 1) := by decide +kernel
theorem dX7_toldByHole_86 : decode cX7_toldByHole 86 = .ok (.iconst (-1), 1) := by decide +kernel
theorem dX7_toldByHole_87 : decode cX7_toldByHole 87 = .ok (.if_icmp .ne 8, 3) := by decide +kernel
theorem dX7_toldByHole_90 : decode cX7_toldByHole 90 = .ok (.bipush (-5), 2) := by decide +kernel
theorem dX7_toldByHole_92 : decode cX7_toldByHole 92 = .ok (.goto 4, 3) := by decide +kernel
theorem dX7_toldByHole_95 : decode cX7_toldByHole 95 = .ok (.iload_n 2, 1) := by decide +kernel
theorem dX7_toldByHole_96 : decode cX7_toldByHole 96 = .ok (.ireturn, 1) := by decide +kernel
theorem dX7_toldByHole_97 : decode cX7_toldByHole 97 = .ok (.sipush (-1001), 3) := by decide +kernel
theorem dX7_toldByHole_100 : decode cX7_toldByHole 100 = .ok (.ireturn, 1) := by decide +kernel
theorem dX7_fits_0 : decode cX7_fits 0 = .ok (.aload_n 0, 1) := by decide +kernel
theorem dX7_fits_1 : decode cX7_fits 1 = .ok (.iload_n 1, 1) := by decide +kernel
theorem dX7_fits_2 : decode cX7_fits 2 = .ok (.bipush 10, 2) := by decide +kernel
theorem dX7_fits_4 : decode cX7_fits 4 = .ok (.isub, 1) := by decide +kernel
theorem dX7_fits_5 : decode cX7_fits 5 = .ok (.invokevirtual 89, 3) := by decide +kernel
theorem dX7_fits_8 : decode cX7_fits 8 = .ok (.istore_n 2, 1) := by decide +kernel
theorem dX7_fits_9 : decode cX7_fits 9 = .ok (.iload_n 2, 1) := by decide +kernel
theorem dX7_fits_10 : decode cX7_fits 10 = .ok (.ifCond .ne 16, 3) := by decide +kernel
theorem dX7_fits_13 : decode cX7_fits 13 = .ok (.iload_n 1, 1) := by decide +kernel
theorem dX7_fits_14 : decode cX7_fits 14 = .ok (.iconst 0, 1) := by decide +kernel
theorem dX7_fits_15 : decode cX7_fits 15 = .ok (.iconst 2, 1) := by decide +kernel
theorem dX7_fits_16 : decode cX7_fits 16 = .ok (.invokestatic 73, 3) := by decide +kernel
theorem dX7_fits_19 : decode cX7_fits 19 = .ok (.ifCond .ne 7, 3) := by decide +kernel
theorem dX7_fits_22 : decode cX7_fits 22 = .ok (.sipush (-1001), 3) := by decide +kernel
theorem dX7_fits_25 : decode cX7_fits 25 = .ok (.ireturn, 1) := by decide +kernel
theorem dX7_fits_26 : decode cX7_fits 26 = .ok (.aload_n 0, 1) := by decide +kernel
theorem dX7_fits_27 : decode cX7_fits 27 = .ok (.invokevirtual 148, 3) := by decide +kernel
theorem dX7_fits_30 : decode cX7_fits 30 = .ok (.iload_n 1, 1) := by decide +kernel
theorem dX7_fits_31 : decode cX7_fits 31 = .ok (.ifCond .ne 11, 3) := by decide +kernel
theorem dX7_fits_34 : decode cX7_fits 34 = .ok (.aload_n 0, 1) := by decide +kernel
theorem dX7_fits_35 : decode cX7_fits 35 = .ok (.getfield 51, 3) := by decide +kernel
theorem dX7_fits_38 : decode cX7_fits 38 = .ok (.getfield 151, 3) := by decide +kernel
theorem dX7_fits_41 : decode cX7_fits 41 = .ok (.ireturn, 1) := by decide +kernel
theorem dX7_fits_42 : decode cX7_fits 42 = .ok (.aload_n 0, 1) := by decide +kernel
theorem dX7_fits_43 : decode cX7_fits 43 = .ok (.getfield 51, 3) := by decide +kernel
theorem dX7_fits_46 : decode cX7_fits 46 = .ok (.getfield 151, 3) := by decide +kernel
theorem dX7_fits_49 : decode cX7_fits 49 = .ok (.ifCond .ne 6, 3) := by decide +kernel
theorem dX7_fits_52 : decode cX7_fits 52 = .ok (.bipush (-5), 2) := by decide +kernel
theorem dX7_fits_54 : decode cX7_fits 54 = .ok (.ireturn, 1) := by decide +kernel
theorem dX7_fits_55 : decode cX7_fits 55 = .ok (.iload_n 2, 1) := by decide +kernel
theorem dX7_fits_56 : decode cX7_fits 56 = .ok (.ifCond .eq 16, 3) := by decide +kernel
theorem dX7_fits_59 : decode cX7_fits 59 = .ok (.aload_n 0, 1) := by decide +kernel
theorem dX7_fits_60 : decode cX7_fits 60 = .ok (.getfield 51, 3) := by decide +kernel
theorem dX7_fits_63 : decode cX7_fits 63 = .ok (.getfield 154, 3) := by decide +kernel
theorem dX7_fits_66 : decode cX7_fits 66 = .ok (.iload_n 1, 1) := by decide +kernel
theorem dX7_fits_67 : decode cX7_fits 67 = .ok (.bipush 10, 2) := by decide +kernel
theorem dX7_fits_69 : decode cX7_fits 69 = .ok (.isub, 1) := by decide +kernel
theorem dX7_fits_70 : decode cX7_fits 70 = .ok (.iaload, 1) := by decide +kernel
theorem dX7_fits_71 : decode cX7_fits 71 = .ok (.ireturn, 1) := by decide +kernel
theorem dX7_fits_72 : decode cX7_fits 72 = .ok (.iload_n 1, 1) := by decide +kernel
theorem dX7_fits_73 : decode cX7_fits 73 = .ok (.iconst 1, 1) := by decide +kernel
theorem dX7_fits_74 : decode cX7_fits 74 = .ok (.if_icmp .ne 13, 3) := by decide +kernel
theorem dX7_fits_77 : decode cX7_fits 77 = .ok (.aload_n 0, 1) := by decide +kernel
theorem dX7_fits_78 : decode cX7_fits 78 = .ok (.getfield 51, 3) := by decide +kernel
theorem dX7_fits_81 : decode cX7_fits 81 = .ok (.getfield 157, 3) := by decide +kernel
theorem dX7_fits_84 : decode cX7_fits 84 = .ok (.goto 10, 3) := by decide +kernel
theorem dX7_fits_87 : decode cX7_fits 87 = .ok (.aload_n 0, 1) := by decide +kernel
theorem dX7_fits_88 : decode cX7_fits 88 = .ok (.getfield 51, 3) := by decide +kernel
theorem dX7_fits_91 : decode cX7_fits 91 = .ok (.getfield 160, 3) := by decide +kernel
theorem dX7_fits_94 : decode cX7_fits 94 = .ok (.ireturn, 1) := by decide +kernel
theorem dX7_bars_0 : decode cX7_bars 0 = .ok (.aload_n 0, 1) := by decide +kernel
theorem dX7_bars_1 : decode cX7_bars 1 = .ok (.invokevirtual 95, 3) := by decide +kernel
theorem dX7_bars_4 : decode cX7_bars 4 = .ok (.iconst 2, 1) := by decide +kernel
theorem dX7_bars_5 : decode cX7_bars 5 = .ok (.istore_n 1, 1) := by decide +kernel
theorem dX7_bars_6 : decode cX7_bars 6 = .ok (.iload_n 1, 1) := by decide +kernel
theorem dX7_bars_7 : decode cX7_bars 7 = .ok (.bipush 30, 2) := by decide +kernel
theorem dX7_bars_9 : decode cX7_bars 9 = .ok (.if_icmp .gt 51, 3) := by decide +kernel
theorem dX7_bars_12 : decode cX7_bars 12 = .ok (.iconst 0, 1) := by decide +kernel
theorem dX7_bars_13 : decode cX7_bars 13 = .ok (.istore_n 2, 1) := by decide +kernel
theorem dX7_bars_14 : decode cX7_bars 14 = .ok (.iload_n 2, 1) := by decide +kernel
theorem dX7_bars_15 : decode cX7_bars 15 = .ok (.iconst 3, 1) := by decide +kernel
theorem dX7_bars_16 : decode cX7_bars 16 = .ok (.if_icmp .ge 38, 3) := by decide +kernel
theorem dX7_bars_19 : decode cX7_bars 19 = .ok (.aload_n 0, 1) := by decide +kernel
theorem dX7_bars_20 : decode cX7_bars 20 = .ok (.getfield 12, 3) := by decide +kernel
theorem dX7_bars_23 : decode cX7_bars 23 = .ok (.getfield 113, 3) := by decide +kernel
theorem dX7_bars_26 : decode cX7_bars 26 = .ok (.iload_n 2, 1) := by decide +kernel
theorem dX7_bars_27 : decode cX7_bars 27 = .ok (.iaload, 1) := by decide +kernel
theorem dX7_bars_28 : decode cX7_bars 28 = .ok (.iconst (-1), 1) := by decide +kernel
theorem dX7_bars_29 : decode cX7_bars 29 = .ok (.if_icmp .eq 19, 3) := by decide +kernel
theorem dX7_bars_32 : decode cX7_bars 32 = .ok (.aload_n 0, 1) := by decide +kernel
theorem dX7_bars_33 : decode cX7_bars 33 = .ok (.iload_n 1, 1) := by decide +kernel
theorem dX7_bars_34 : decode cX7_bars 34 = .ok (.iload_n 2, 1) := by decide +kernel
theorem dX7_bars_35 : decode cX7_bars 35 = .ok (.invokevirtual 163, 3) := by decide +kernel
theorem dX7_bars_38 : decode cX7_bars 38 = .ok (.ifCond .eq 10, 3) := by decide +kernel
theorem dX7_bars_41 : decode cX7_bars 41 = .ok (.bipush 100, 2) := by decide +kernel
theorem dX7_bars_43 : decode cX7_bars 43 = .ok (.iload_n 1, 1) := by decide +kernel
theorem dX7_bars_44 : decode cX7_bars 44 = .ok (.imul, 1) := by decide +kernel
theorem dX7_bars_45 : decode cX7_bars 45 = .ok (.iload_n 2, 1) := by decide +kernel
theorem dX7_bars_46 : decode cX7_bars 46 = .ok (.iadd, 1) := by decide +kernel
theorem dX7_bars_47 : decode cX7_bars 47 = .ok (.ireturn, 1) := by decide +kernel
theorem dX7_bars_48 : decode cX7_bars 48 = .ok (.iinc 2 1, 3) := by decide +kernel
theorem dX7_bars_51 : decode cX7_bars 51 = .ok (.goto (-37), 3) := by decide +kernel
theorem dX7_bars_54 : decode cX7_bars 54 = .ok (.iinc 1 1, 3) := by decide +kernel
theorem dX7_bars_57 : decode cX7_bars 57 = .ok (.goto (-51), 3) := by decide +kernel
theorem dX7_bars_60 : decode cX7_bars 60 = .ok (.bipush (-5), 2) := by decide +kernel
theorem dX7_bars_62 : decode cX7_bars 62 = .ok (.ireturn, 1) := by decide +kernel
theorem dX7_isBarred_0 : decode cX7_isBarred 0 = .ok (.iload_n 1, 1) := by decide +kernel
theorem dX7_isBarred_1 : decode cX7_isBarred 1 = .ok (.i2l, 1) := by decide +kernel
theorem dX7_isBarred_2 : decode cX7_isBarred 2 = .ok (.lstore_n 3, 1) := by decide +kernel
theorem dX7_isBarred_3 : decode cX7_isBarred 3 = .ok (.iconst 0, 1) := by decide +kernel
theorem dX7_isBarred_4 : decode cX7_isBarred 4 = .ok (.istore 5, 2) := by decide +kernel
theorem dX7_isBarred_6 : decode cX7_isBarred 6 = .ok (.iload 5, 2) := by decide +kernel
theorem dX7_isBarred_8 : decode cX7_isBarred 8 = .ok (.aload_n 0, 1) := by decide +kernel
theorem dX7_isBarred_9 : decode cX7_isBarred 9 = .ok (.getfield 12, 3) := by decide +kernel
theorem dX7_isBarred_12 : decode cX7_isBarred 12 = .ok (.getfield 81, 3) := by decide +kernel
theorem dX7_isBarred_15 : decode cX7_isBarred 15 = .ok (.if_icmp .ge 27, 3) := by decide +kernel
theorem dX7_isBarred_18 : decode cX7_isBarred 18 = .ok (.lload_n 3, 1) := by decide +kernel
theorem dX7_isBarred_19 : decode cX7_isBarred 19 = .ok (.aload_n 0, 1) := by decide +kernel
theorem dX7_isBarred_20 : decode cX7_isBarred 20 = .ok (.getfield 42, 3) := by decide +kernel
theorem dX7_isBarred_23 : decode cX7_isBarred 23 = .ok (.getfield 104, 3) := by decide +kernel
theorem dX7_isBarred_26 : decode cX7_isBarred 26 = .ok (.iload 5, 2) := by decide +kernel
theorem dX7_isBarred_28 : decode cX7_isBarred 28 = .ok (.aaload, 1) := by decide +kernel
theorem dX7_isBarred_29 : decode cX7_isBarred 29 = .ok (.iload_n 2, 1) := by decide +kernel
theorem dX7_isBarred_30 : decode cX7_isBarred 30 = .ok (.iaload, 1) := by decide +kernel
theorem dX7_isBarred_31 : decode cX7_isBarred 31 = .ok (.i2l, 1) := by decide +kernel
theorem dX7_isBarred_32 : decode cX7_isBarred 32 = .ok (.invokestatic 167, 3) := by decide +kernel
theorem dX7_isBarred_35 : decode cX7_isBarred 35 = .ok (.lstore_n 3, 1) := by decide +kernel
theorem dX7_isBarred_36 : decode cX7_isBarred 36 = .ok (.iinc 5 1, 3) := by decide +kernel
theorem dX7_isBarred_39 : decode cX7_isBarred 39 = .ok (.goto (-33), 3) := by decide +kernel
theorem dX7_isBarred_42 : decode cX7_isBarred 42 = .ok (.lload_n 3, 1) := by decide +kernel
theorem dX7_isBarred_43 : decode cX7_isBarred 43 = .ok (.lconst 0, 1) := by decide +kernel
theorem dX7_isBarred_44 : decode cX7_isBarred 44 = .ok (.lcmp, 1) := by decide +kernel
theorem dX7_isBarred_45 : decode cX7_isBarred 45 = .ok (.ifCond .le 24, 3) := by decide +kernel
theorem dX7_isBarred_48 : decode cX7_isBarred 48 = .ok (.aload_n 0, 1) := by decide +kernel
theorem dX7_isBarred_49 : decode cX7_isBarred 49 = .ok (.getfield 12, 3) := by decide +kernel
theorem dX7_isBarred_52 : decode cX7_isBarred 52 = .ok (.getfield 113, 3) := by decide +kernel
theorem dX7_isBarred_55 : decode cX7_isBarred 55 = .ok (.iload_n 2, 1) := by decide +kernel
theorem dX7_isBarred_56 : decode cX7_isBarred 56 = .ok (.iaload, 1) := by decide +kernel
theorem dX7_isBarred_57 : decode cX7_isBarred 57 = .ok (.i2l, 1) := by decide +kernel
theorem dX7_isBarred_58 : decode cX7_isBarred 58 = .ok (.lload_n 3, 1) := by decide +kernel
theorem dX7_isBarred_59 : decode cX7_isBarred 59 = .ok (.lrem, 1) := by decide +kernel
theorem dX7_isBarred_60 : decode cX7_isBarred 60 = .ok (.lconst 0, 1) := by decide +kernel
theorem dX7_isBarred_61 : decode cX7_isBarred 61 = .ok (.lcmp, 1) := by decide +kernel
theorem dX7_isBarred_62 : decode cX7_isBarred 62 = .ok (.ifCond .eq 7, 3) := by decide +kernel
theorem dX7_isBarred_65 : decode cX7_isBarred 65 = .ok (.iconst 1, 1) := by decide +kernel
theorem dX7_isBarred_66 : decode cX7_isBarred 66 = .ok (.goto 4, 3) := by decide +kernel
theorem dX7_isBarred_69 : decode cX7_isBarred 69 = .ok (.iconst 0, 1) := by decide +kernel
theorem dX7_isBarred_70 : decode cX7_isBarred 70 = .ok (.ireturn, 1) := by decide +kernel
theorem dX7_hole_0 : decode cX7_hole 0 = .ok (.iload_n 1, 1) := by decide +kernel
theorem dX7_hole_1 : decode cX7_hole 1 = .ok (.iconst 0, 1) := by decide +kernel
theorem dX7_hole_2 : decode cX7_hole 2 = .ok (.iconst 1, 1) := by decide +kernel
theorem dX7_hole_3 : decode cX7_hole 3 = .ok (.invokestatic 73, 3) := by decide +kernel
theorem dX7_hole_6 : decode cX7_hole 6 = .ok (.ifCond .ne 5, 3) := by decide +kernel
theorem dX7_hole_9 : decode cX7_hole 9 = .ok (.iconst (-1), 1) := by decide +kernel
theorem dX7_hole_10 : decode cX7_hole 10 = .ok (.ireturn, 1) := by decide +kernel
theorem dX7_hole_11 : decode cX7_hole 11 = .ok (.aload_n 0, 1) := by decide +kernel
theorem dX7_hole_12 : decode cX7_hole 12 = .ok (.invokevirtual 95, 3) := by decide +kernel
theorem dX7_hole_15 : decode cX7_hole 15 = .ok (.bipush (-5), 2) := by decide +kernel
theorem dX7_hole_17 : decode cX7_hole 17 = .ok (.istore_n 2, 1) := by decide +kernel
theorem dX7_hole_18 : decode cX7_hole 18 = .ok (.bipush (-5), 2) := by decide +kernel
theorem dX7_hole_20 : decode cX7_hole 20 = .ok (.istore_n 3, 1) := by decide +kernel
theorem dX7_hole_21 : decode cX7_hole 21 = .ok (.iconst 0, 1) := by decide +kernel
theorem dX7_hole_22 : decode cX7_hole 22 = .ok (.istore 4, 2) := by decide +kernel
theorem dX7_hole_24 : decode cX7_hole 24 = .ok (.iload 4, 2) := by decide +kernel
theorem dX7_hole_26 : decode cX7_hole 26 = .ok (.iconst 3, 1) := by decide +kernel
theorem dX7_hole_27 : decode cX7_hole 27 = .ok (.if_icmp .ge 49, 3) := by decide +kernel
theorem dX7_hole_30 : decode cX7_hole 30 = .ok (.aload_n 0, 1) := by decide +kernel
theorem dX7_hole_31 : decode cX7_hole 31 = .ok (.getfield 12, 3) := by decide +kernel
theorem dX7_hole_34 : decode cX7_hole 34 = .ok (.getfield 113, 3) := by decide +kernel
theorem dX7_hole_37 : decode cX7_hole 37 = .ok (.iload 4, 2) := by decide +kernel
theorem dX7_hole_39 : decode cX7_hole 39 = .ok (.iaload, 1) := by decide +kernel
theorem dX7_hole_40 : decode cX7_hole 40 = .ok (.iconst (-1), 1) := by decide +kernel
theorem dX7_hole_41 : decode cX7_hole 41 = .ok (.if_icmp .ne 29, 3) := by decide +kernel
theorem dX7_hole_44 : decode cX7_hole 44 = .ok (.aload_n 0, 1) := by decide +kernel
theorem dX7_hole_45 : decode cX7_hole 45 = .ok (.iload 4, 2) := by decide +kernel
theorem dX7_hole_47 : decode cX7_hole 47 = .ok (.invokevirtual 171, 3) := by decide +kernel
theorem dX7_hole_50 : decode cX7_hole 50 = .ok (.istore 5, 2) := by decide +kernel
theorem dX7_hole_52 : decode cX7_hole 52 = .ok (.iload_n 2, 1) := by decide +kernel
theorem dX7_hole_53 : decode cX7_hole 53 = .ok (.bipush (-5), 2) := by decide +kernel
theorem dX7_hole_55 : decode cX7_hole 55 = .ok (.if_icmp .eq 9, 3) := by decide +kernel
theorem dX7_hole_58 : decode cX7_hole 58 = .ok (.iload 5, 2) := by decide +kernel
theorem dX7_hole_60 : decode cX7_hole 60 = .ok (.iload_n 3, 1) := by decide +kernel
theorem dX7_hole_61 : decode cX7_hole 61 = .ok (.if_icmp .ge 9, 3) := by decide +kernel
theorem dX7_hole_64 : decode cX7_hole 64 = .ok (.iload 4, 2) := by decide +kernel
theorem dX7_hole_66 : decode cX7_hole 66 = .ok (.istore_n 2, 1) := by decide +kernel
theorem dX7_hole_67 : decode cX7_hole 67 = .ok (.iload 5, 2) := by decide +kernel
theorem dX7_hole_69 : decode cX7_hole 69 = .ok (.istore_n 3, 1) := by decide +kernel
theorem dX7_hole_70 : decode cX7_hole 70 = .ok (.iinc 4 1, 3) := by decide +kernel
theorem dX7_hole_73 : decode cX7_hole 73 = .ok (.goto (-49), 3) := by decide +kernel
theorem dX7_hole_76 : decode cX7_hole 76 = .ok (.iload_n 1, 1) := by decide +kernel
theorem dX7_hole_77 : decode cX7_hole 77 = .ok (.ifCond .ne 7, 3) := by decide +kernel
theorem dX7_hole_80 : decode cX7_hole 80 = .ok (.iload_n 2, 1) := by decide +kernel
theorem dX7_hole_81 : decode cX7_hole 81 = .ok (.goto 4, 3) := by decide +kernel
theorem dX7_hole_84 : decode cX7_hole 84 = .ok (.iload_n 3, 1) := by decide +kernel
theorem dX7_hole_85 : decode cX7_hole 85 = .ok (.ireturn, 1) := by decide +kernel
theorem dX7_foundIfTold_0 : decode cX7_foundIfTold 0 = .ok (.aload_n 0, 1) := by decide +kernel
theorem dX7_foundIfTold_1 : decode cX7_foundIfTold 1 = .ok (.getfield 12, 3) := by decide +kernel
theorem dX7_foundIfTold_4 : decode cX7_foundIfTold 4 = .ok (.getfield 113, 3) := by decide +kernel
theorem dX7_foundIfTold_7 : decode cX7_foundIfTold 7 = .ok (.iconst 0, 1) := by decide +kernel
theorem dX7_foundIfTold_8 : decode cX7_foundIfTold 8 = .ok (.aload_n 0, 1) := by decide +kernel
theorem dX7_foundIfTold_9 : decode cX7_foundIfTold 9 = .ok (.getfield 55, 3) := by decide +kernel
theorem dX7_foundIfTold_12 : decode cX7_foundIfTold 12 = .ok (.iconst 0, 1) := by decide +kernel
theorem dX7_foundIfTold_13 : decode cX7_foundIfTold 13 = .ok (.iconst 3, 1) := by decide +kernel
theorem dX7_foundIfTold_14 : decode cX7_foundIfTold 14 = .ok (.invokestatic 174, 3) := by decide +kernel
theorem dX7_foundIfTold_17 : decode cX7_foundIfTold 17 = .ok (.aload_n 0, 1) := by decide +kernel
theorem dX7_foundIfTold_18 : decode cX7_foundIfTold 18 = .ok (.getfield 55, 3) := by decide +kernel
theorem dX7_foundIfTold_21 : decode cX7_foundIfTold 21 = .ok (.iload_n 1, 1) := by decide +kernel
theorem dX7_foundIfTold_22 : decode cX7_foundIfTold 22 = .ok (.aload_n 0, 1) := by decide +kernel
theorem dX7_foundIfTold_23 : decode cX7_foundIfTold 23 = .ok (.getfield 42, 3) := by decide +kernel
theorem dX7_foundIfTold_26 : decode cX7_foundIfTold 26 = .ok (.aload_n 0, 1) := by decide +kernel
theorem dX7_foundIfTold_27 : decode cX7_foundIfTold 27 = .ok (.getfield 12, 3) := by decide +kernel
theorem dX7_foundIfTold_30 : decode cX7_foundIfTold 30 = .ok (.getfield 92, 3) := by decide +kernel
theorem dX7_foundIfTold_33 : decode cX7_foundIfTold 33 = .ok (.iconst 0, 1) := by decide +kernel
theorem dX7_foundIfTold_34 : decode cX7_foundIfTold 34 = .ok (.aaload, 1) := by decide +kernel
theorem dX7_foundIfTold_35 : decode cX7_foundIfTold 35 = .ok (.iload_n 1, 1) := by decide +kernel
theorem dX7_foundIfTold_36 : decode cX7_foundIfTold 36 = .ok (.invokevirtual 144, 3) := by decide +kernel
theorem dX7_foundIfTold_39 : decode cX7_foundIfTold 39 = .ok (.iastore, 1) := by decide +kernel
theorem dX7_foundIfTold_40 : decode cX7_foundIfTold 40 = .ok (.aload_n 0, 1) := by decide +kernel
theorem dX7_foundIfTold_41 : decode cX7_foundIfTold 41 = .ok (.getfield 51, 3) := by decide +kernel
theorem dX7_foundIfTold_44 : decode cX7_foundIfTold 44 = .ok (.aload_n 0, 1) := by decide +kernel
theorem dX7_foundIfTold_45 : decode cX7_foundIfTold 45 = .ok (.getfield 42, 3) := by decide +kernel
theorem dX7_foundIfTold_48 : decode cX7_foundIfTold 48 = .ok (.getfield 133, 3) := by decide +kernel
theorem dX7_foundIfTold_51 : decode cX7_foundIfTold 51 = .ok (.aload_n 0, 1) := by decide +kernel
theorem dX7_foundIfTold_52 : decode cX7_foundIfTold 52 = .ok (.getfield 55, 3) := by decide +kernel
theorem dX7_foundIfTold_55 : decode cX7_foundIfTold 55 = .ok (.invokevirtual 180, 3) := by decide +kernel
theorem dX7_foundIfTold_58 : decode cX7_foundIfTold 58 = .ok (.aload_n 0, 1) := by decide +kernel
theorem dX7_foundIfTold_59 : decode cX7_foundIfTold 59 = .ok (.getfield 51, 3) := by decide +kernel
theorem dX7_foundIfTold_62 : decode cX7_foundIfTold 62 = .ok (.getfield 151, 3) := by decide +kernel
theorem dX7_foundIfTold_65 : decode cX7_foundIfTold 65 = .ok (.ireturn, 1) := by decide +kernel
theorem dX7_alike_0 : decode cX7_alike 0 = .ok (.aload_n 0, 1) := by decide +kernel
theorem dX7_alike_1 : decode cX7_alike 1 = .ok (.iload_n 1, 1) := by decide +kernel
theorem dX7_alike_2 : decode cX7_alike 2 = .ok (.bipush 10, 2) := by decide +kernel
theorem dX7_alike_4 : decode cX7_alike 4 = .ok (.isub, 1) := by decide +kernel
theorem dX7_alike_5 : decode cX7_alike 5 = .ok (.invokevirtual 89, 3) := by decide +kernel
theorem dX7_alike_8 : decode cX7_alike 8 = .ok (.istore_n 2, 1) := by decide +kernel
theorem dX7_alike_9 : decode cX7_alike 9 = .ok (.iload_n 2, 1) := by decide +kernel
theorem dX7_alike_10 : decode cX7_alike 10 = .ok (.ifCond .ne 11, 3) := by decide +kernel
theorem dX7_alike_13 : decode cX7_alike 13 = .ok (.iload_n 1, 1) := by decide +kernel
theorem dX7_alike_14 : decode cX7_alike 14 = .ok (.ifCond .eq 7, 3) := by decide +kernel
theorem dX7_alike_17 : decode cX7_alike 17 = .ok (.sipush (-1001), 3) := by decide +kernel
theorem dX7_alike_20 : decode cX7_alike 20 = .ok (.ireturn, 1) := by decide +kernel
theorem dX7_alike_21 : decode cX7_alike 21 = .ok (.aload_n 0, 1) := by decide +kernel
theorem dX7_alike_22 : decode cX7_alike 22 = .ok (.invokevirtual 95, 3) := by decide +kernel
theorem dX7_alike_25 : decode cX7_alike 25 = .ok (.aload_n 0, 1) := by decide +kernel
theorem dX7_alike_26 : decode cX7_alike 26 = .ok (.invokevirtual 184, 3) := by decide +kernel
theorem dX7_alike_29 : decode cX7_alike 29 = .ok (.aload_n 0, 1) := by decide +kernel
theorem dX7_alike_30 : decode cX7_alike 30 = .ok (.getfield 51, 3) := by decide +kernel
theorem dX7_alike_33 : decode cX7_alike 33 = .ok (.aload_n 0, 1) := by decide +kernel
theorem dX7_alike_34 : decode cX7_alike 34 = .ok (.getfield 42, 3) := by decide +kernel
theorem dX7_alike_37 : decode cX7_alike 37 = .ok (.getfield 133, 3) := by decide +kernel
theorem dX7_alike_40 : decode cX7_alike 40 = .ok (.aload_n 0, 1) := by decide +kernel
theorem dX7_alike_41 : decode cX7_alike 41 = .ok (.getfield 55, 3) := by decide +kernel
theorem dX7_alike_44 : decode cX7_alike 44 = .ok (.invokevirtual 180, 3) := by decide +kernel
theorem dX7_alike_47 : decode cX7_alike 47 = .ok (.aload_n 0, 1) := by decide +kernel
theorem dX7_alike_48 : decode cX7_alike 48 = .ok (.getfield 51, 3) := by decide +kernel
theorem dX7_alike_51 : decode cX7_alike 51 = .ok (.getfield 151, 3) := by decide +kernel
theorem dX7_alike_54 : decode cX7_alike 54 = .ok (.ifCond .ne 6, 3) := by decide +kernel
theorem dX7_alike_57 : decode cX7_alike 57 = .ok (.bipush (-5), 2) := by decide +kernel
theorem dX7_alike_59 : decode cX7_alike 59 = .ok (.ireturn, 1) := by decide +kernel
theorem dX7_alike_60 : decode cX7_alike 60 = .ok (.iload_n 2, 1) := by decide +kernel
theorem dX7_alike_61 : decode cX7_alike 61 = .ok (.ifCond .eq 18, 3) := by decide +kernel
theorem dX7_alike_64 : decode cX7_alike 64 = .ok (.aload_n 0, 1) := by decide +kernel
theorem dX7_alike_65 : decode cX7_alike 65 = .ok (.getfield 51, 3) := by decide +kernel
theorem dX7_alike_68 : decode cX7_alike 68 = .ok (.getfield 154, 3) := by decide +kernel
theorem dX7_alike_71 : decode cX7_alike 71 = .ok (.iload_n 1, 1) := by decide +kernel
theorem dX7_alike_72 : decode cX7_alike 72 = .ok (.bipush 10, 2) := by decide +kernel
theorem dX7_alike_74 : decode cX7_alike 74 = .ok (.isub, 1) := by decide +kernel
theorem dX7_alike_75 : decode cX7_alike 75 = .ok (.iaload, 1) := by decide +kernel
theorem dX7_alike_76 : decode cX7_alike 76 = .ok (.goto 10, 3) := by decide +kernel
theorem dX7_alike_79 : decode cX7_alike 79 = .ok (.aload_n 0, 1) := by decide +kernel
theorem dX7_alike_80 : decode cX7_alike 80 = .ok (.getfield 51, 3) := by decide +kernel
theorem dX7_alike_83 : decode cX7_alike 83 = .ok (.getfield 157, 3) := by decide +kernel
theorem dX7_alike_86 : decode cX7_alike 86 = .ok (.ireturn, 1) := by decide +kernel
theorem dX7_missed_0 : decode cX7_missed 0 = .ok (.aload_n 0, 1) := by decide +kernel
theorem dX7_missed_1 : decode cX7_missed 1 = .ok (.invokevirtual 95, 3) := by decide +kernel
theorem dX7_missed_4 : decode cX7_missed 4 = .ok (.aload_n 0, 1) := by decide +kernel
theorem dX7_missed_5 : decode cX7_missed 5 = .ok (.getfield 51, 3) := by decide +kernel
theorem dX7_missed_8 : decode cX7_missed 8 = .ok (.aload_n 0, 1) := by decide +kernel
theorem dX7_missed_9 : decode cX7_missed 9 = .ok (.getfield 42, 3) := by decide +kernel
theorem dX7_missed_12 : decode cX7_missed 12 = .ok (.getfield 133, 3) := by decide +kernel
theorem dX7_missed_15 : decode cX7_missed 15 = .ok (.aload_n 0, 1) := by decide +kernel
theorem dX7_missed_16 : decode cX7_missed 16 = .ok (.getfield 12, 3) := by decide +kernel
theorem dX7_missed_19 : decode cX7_missed 19 = .ok (.getfield 113, 3) := by decide +kernel
theorem dX7_missed_22 : decode cX7_missed 22 = .ok (.invokevirtual 187, 3) := by decide +kernel
theorem dX7_missed_25 : decode cX7_missed 25 = .ok (.istore_n 1, 1) := by decide +kernel
theorem dX7_missed_26 : decode cX7_missed 26 = .ok (.iload_n 1, 1) := by decide +kernel
theorem dX7_missed_27 : decode cX7_missed 27 = .ok (.ifCond .ge 8, 3) := by decide +kernel
theorem dX7_missed_30 : decode cX7_missed 30 = .ok (.bipush (-5), 2) := by decide +kernel
theorem dX7_missed_32 : decode cX7_missed 32 = .ok (.goto 4, 3) := by decide +kernel
theorem dX7_missed_35 : decode cX7_missed 35 = .ok (.iload_n 1, 1) := by decide +kernel
theorem dX7_missed_36 : decode cX7_missed 36 = .ok (.ireturn, 1) := by decide +kernel
theorem dX7_mix_0 : decode cX7_mix 0 = .ok (.aload_n 0, 1) := by decide +kernel
theorem dX7_mix_1 : decode cX7_mix 1 = .ok (.invokevirtual 95, 3) := by decide +kernel
theorem dX7_mix_4 : decode cX7_mix 4 = .ok (.aload_n 0, 1) := by decide +kernel
theorem dX7_mix_5 : decode cX7_mix 5 = .ok (.invokevirtual 184, 3) := by decide +kernel
theorem dX7_mix_8 : decode cX7_mix 8 = .ok (.iconst 0, 1) := by decide +kernel
theorem dX7_mix_9 : decode cX7_mix 9 = .ok (.istore_n 1, 1) := by decide +kernel
theorem dX7_mix_10 : decode cX7_mix 10 = .ok (.iload_n 1, 1) := by decide +kernel
theorem dX7_mix_11 : decode cX7_mix 11 = .ok (.iconst 3, 1) := by decide +kernel
theorem dX7_mix_12 : decode cX7_mix 12 = .ok (.if_icmp .ge 35, 3) := by decide +kernel
theorem dX7_mix_15 : decode cX7_mix 15 = .ok (.aload_n 0, 1) := by decide +kernel
theorem dX7_mix_16 : decode cX7_mix 16 = .ok (.getfield 55, 3) := by decide +kernel
theorem dX7_mix_19 : decode cX7_mix 19 = .ok (.iload_n 1, 1) := by decide +kernel
theorem dX7_mix_20 : decode cX7_mix 20 = .ok (.dup2, 1) := by decide +kernel
theorem dX7_mix_21 : decode cX7_mix 21 = .ok (.iaload, 1) := by decide +kernel
theorem dX7_mix_22 : decode cX7_mix 22 = .ok (.aload_n 0, 1) := by decide +kernel
theorem dX7_mix_23 : decode cX7_mix 23 = .ok (.getfield 42, 3) := by decide +kernel
theorem dX7_mix_26 : decode cX7_mix 26 = .ok (.aload_n 0, 1) := by decide +kernel
theorem dX7_mix_27 : decode cX7_mix 27 = .ok (.getfield 12, 3) := by decide +kernel
theorem dX7_mix_30 : decode cX7_mix 30 = .ok (.getfield 92, 3) := by decide +kernel
theorem dX7_mix_33 : decode cX7_mix 33 = .ok (.iconst 1, 1) := by decide +kernel
theorem dX7_mix_34 : decode cX7_mix 34 = .ok (.aaload, 1) := by decide +kernel
theorem dX7_mix_35 : decode cX7_mix 35 = .ok (.iload_n 1, 1) := by decide +kernel
theorem dX7_mix_36 : decode cX7_mix 36 = .ok (.invokevirtual 144, 3) := by decide +kernel
theorem dX7_mix_39 : decode cX7_mix 39 = .ok (.iadd, 1) := by decide +kernel
theorem dX7_mix_40 : decode cX7_mix 40 = .ok (.iastore, 1) := by decide +kernel
theorem dX7_mix_41 : decode cX7_mix 41 = .ok (.iinc 1 1, 3) := by decide +kernel
theorem dX7_mix_44 : decode cX7_mix 44 = .ok (.goto (-34), 3) := by decide +kernel
theorem dX7_mix_47 : decode cX7_mix 47 = .ok (.aload_n 0, 1) := by decide +kernel
theorem dX7_mix_48 : decode cX7_mix 48 = .ok (.getfield 51, 3) := by decide +kernel
theorem dX7_mix_51 : decode cX7_mix 51 = .ok (.iconst 2, 1) := by decide +kernel
theorem dX7_mix_52 : decode cX7_mix 52 = .ok (.aload_n 0, 1) := by decide +kernel
theorem dX7_mix_53 : decode cX7_mix 53 = .ok (.getfield 42, 3) := by decide +kernel
theorem dX7_mix_56 : decode cX7_mix 56 = .ok (.getfield 133, 3) := by decide +kernel
theorem dX7_mix_59 : decode cX7_mix 59 = .ok (.imul, 1) := by decide +kernel
theorem dX7_mix_60 : decode cX7_mix 60 = .ok (.aload_n 0, 1) := by decide +kernel
theorem dX7_mix_61 : decode cX7_mix 61 = .ok (.getfield 55, 3) := by decide +kernel
theorem dX7_mix_64 : decode cX7_mix 64 = .ok (.invokevirtual 180, 3) := by decide +kernel
theorem dX7_mix_67 : decode cX7_mix 67 = .ok (.aload_n 0, 1) := by decide +kernel
theorem dX7_mix_68 : decode cX7_mix 68 = .ok (.getfield 51, 3) := by decide +kernel
theorem dX7_mix_71 : decode cX7_mix 71 = .ok (.getfield 151, 3) := by decide +kernel
theorem dX7_mix_74 : decode cX7_mix 74 = .ok (.ifCond .ne 6, 3) := by decide +kernel
theorem dX7_mix_77 : decode cX7_mix 77 = .ok (.ldc 191, 2) := by decide +kernel
theorem dX7_mix_79 : decode cX7_mix 79 = .ok (.ireturn, 1) := by decide +kernel
theorem dX7_mix_80 : decode cX7_mix 80 = .ok (.aload_n 0, 1) := by decide +kernel
theorem dX7_mix_81 : decode cX7_mix 81 = .ok (.getfield 42, 3) := by decide +kernel
theorem dX7_mix_84 : decode cX7_mix 84 = .ok (.aload_n 0, 1) := by decide +kernel
theorem dX7_mix_85 : decode cX7_mix 85 = .ok (.getfield 12, 3) := by decide +kernel
theorem dX7_mix_88 : decode cX7_mix 88 = .ok (.getfield 92, 3) := by decide +kernel
theorem dX7_mix_91 : decode cX7_mix 91 = .ok (.iconst 0, 1) := by decide +kernel
theorem dX7_mix_92 : decode cX7_mix 92 = .ok (.aaload, 1) := by decide +kernel
theorem dX7_mix_93 : decode cX7_mix 93 = .ok (.invokevirtual 136, 3) := by decide +kernel
theorem dX7_mix_96 : decode cX7_mix 96 = .ok (.aload_n 0, 1) := by decide +kernel
theorem dX7_mix_97 : decode cX7_mix 97 = .ok (.getfield 42, 3) := by decide +kernel
theorem dX7_mix_100 : decode cX7_mix 100 = .ok (.aload_n 0, 1) := by decide +kernel
theorem dX7_mix_101 : decode cX7_mix 101 = .ok (.getfield 12, 3) := by decide +kernel
theorem dX7_mix_104 : decode cX7_mix 104 = .ok (.getfield 92, 3) := by decide +kernel
theorem dX7_mix_107 : decode cX7_mix 107 = .ok (.iconst 1, 1) := by decide +kernel
theorem dX7_mix_108 : decode cX7_mix 108 = .ok (.aaload, 1) := by decide +kernel
theorem dX7_mix_109 : decode cX7_mix 109 = .ok (.invokevirtual 136, 3) := by decide +kernel
theorem dX7_mix_112 : decode cX7_mix 112 = .ok (.iadd, 1) := by decide +kernel
theorem dX7_mix_113 : decode cX7_mix 113 = .ok (.aload_n 0, 1) := by decide +kernel
theorem dX7_mix_114 : decode cX7_mix 114 = .ok (.getfield 51, 3) := by decide +kernel
theorem dX7_mix_117 : decode cX7_mix 117 = .ok (.getfield 157, 3) := by decide +kernel
theorem dX7_mix_120 : decode cX7_mix 120 = .ok (.isub, 1) := by decide +kernel
theorem dX7_mix_121 : decode cX7_mix 121 = .ok (.ireturn, 1) := by decide +kernel
theorem dX7_prices_0 : decode cX7_prices 0 = .ok (.iload_n 1, 1) := by decide +kernel
theorem dX7_prices_1 : decode cX7_prices 1 = .ok (.iconst 1, 1) := by decide +kernel
theorem dX7_prices_2 : decode cX7_prices 2 = .ok (.isub, 1) := by decide +kernel
theorem dX7_prices_3 : decode cX7_prices 3 = .ok (.invokestatic 101, 3) := by decide +kernel
theorem dX7_prices_6 : decode cX7_prices 6 = .ok (.istore_n 2, 1) := by decide +kernel
theorem dX7_prices_7 : decode cX7_prices 7 = .ok (.iload_n 2, 1) := by decide +kernel
theorem dX7_prices_8 : decode cX7_prices 8 = .ok (.ifCond .ne 9, 3) := by decide +kernel
theorem dX7_prices_11 : decode cX7_prices 11 = .ok (.iload_n 1, 1) := by decide +kernel
theorem dX7_prices_12 : decode cX7_prices 12 = .ok (.ifCond .eq 5, 3) := by decide +kernel
theorem dX7_prices_15 : decode cX7_prices 15 = .ok (.iconst (-1), 1) := by decide +kernel
theorem dX7_prices_16 : decode cX7_prices 16 = .ok (.ireturn, 1) := by decide +kernel
theorem dX7_prices_17 : decode cX7_prices 17 = .ok (.aload_n 0, 1) := by decide +kernel
theorem dX7_prices_18 : decode cX7_prices 18 = .ok (.invokevirtual 95, 3) := by decide +kernel
theorem dX7_prices_21 : decode cX7_prices 21 = .ok (.aload_n 0, 1) := by decide +kernel
theorem dX7_prices_22 : decode cX7_prices 22 = .ok (.invokevirtual 184, 3) := by decide +kernel
theorem dX7_prices_25 : decode cX7_prices 25 = .ok (.aload_n 0, 1) := by decide +kernel
theorem dX7_prices_26 : decode cX7_prices 26 = .ok (.aload_n 0, 1) := by decide +kernel
theorem dX7_prices_27 : decode cX7_prices 27 = .ok (.getfield 55, 3) := by decide +kernel
theorem dX7_prices_30 : decode cX7_prices 30 = .ok (.invokevirtual 192, 3) := by decide +kernel
theorem dX7_prices_33 : decode cX7_prices 33 = .ok (.istore_n 3, 1) := by decide +kernel
theorem dX7_prices_34 : decode cX7_prices 34 = .ok (.iload_n 2, 1) := by decide +kernel
theorem dX7_prices_35 : decode cX7_prices 35 = .ok (.ifCond .eq 13, 3) := by decide +kernel
theorem dX7_prices_38 : decode cX7_prices 38 = .ok (.iload_n 3, 1) := by decide +kernel
theorem dX7_prices_39 : decode cX7_prices 39 = .ok (.iload_n 1, 1) := by decide +kernel
theorem dX7_prices_40 : decode cX7_prices 40 = .ok (.iconst 1, 1) := by decide +kernel
theorem dX7_prices_41 : decode cX7_prices 41 = .ok (.isub, 1) := by decide +kernel
theorem dX7_prices_42 : decode cX7_prices 42 = .ok (.invokestatic 195, 3) := by decide +kernel
theorem dX7_prices_45 : decode cX7_prices 45 = .ok (.goto 11, 3) := by decide +kernel
theorem dX7_prices_48 : decode cX7_prices 48 = .ok (.iload_n 3, 1) := by decide +kernel
theorem dX7_prices_49 : decode cX7_prices 49 = .ok (.aload_n 0, 1) := by decide +kernel
theorem dX7_prices_50 : decode cX7_prices 50 = .ok (.getfield 55, 3) := by decide +kernel
theorem dX7_prices_53 : decode cX7_prices 53 = .ok (.invokestatic 199, 3) := by decide +kernel
theorem dX7_prices_56 : decode cX7_prices 56 = .ok (.ireturn, 1) := by decide +kernel
theorem dX7_bestPrices_0 : decode cX7_bestPrices 0 = .ok (.iconst 0, 1) := by decide +kernel
theorem dX7_bestPrices_1 : decode cX7_bestPrices 1 = .ok (.istore_n 2, 1) := by decide +kernel
theorem dX7_bestPrices_2 : decode cX7_bestPrices 2 = .ok (.iconst 1, 1) := by decide +kernel
theorem dX7_bestPrices_3 : decode cX7_bestPrices 3 = .ok (.istore_n 3, 1) := by decide +kernel
theorem dX7_bestPrices_4 : decode cX7_bestPrices 4 = .ok (.iload_n 3, 1) := by decide +kernel
theorem dX7_bestPrices_5 : decode cX7_bestPrices 5 = .ok (.sipush 1000, 3) := by decide +kernel
theorem dX7_bestPrices_8 : decode cX7_bestPrices 8 = .ok (.if_icmp .ge 32, 3) := by decide +kernel
theorem dX7_bestPrices_11 : decode cX7_bestPrices 11 = .ok (.iload_n 3, 1) := by decide +kernel
theorem dX7_bestPrices_12 : decode cX7_bestPrices 12 = .ok (.aload_n 1, 1) := by decide +kernel
theorem dX7_bestPrices_13 : decode cX7_bestPrices 13 = .ok (.invokestatic 199, 3) := by decide +kernel
theorem dX7_bestPrices_16 : decode cX7_bestPrices 16 = .ok (.iload_n 2, 1) := by decide +kernel
theorem dX7_bestPrices_17 : decode cX7_bestPrices 17 = .ok (.aload_n 1, 1) := by decide +kernel
theorem dX7_bestPrices_18 : decode cX7_bestPrices 18 = .ok (.invokestatic 199, 3) := by decide +kernel
theorem dX7_bestPrices_21 : decode cX7_bestPrices 21 = .ok (.if_icmp .le 13, 3) := by decide +kernel
theorem dX7_bestPrices_24 : decode cX7_bestPrices 24 = .ok (.aload_n 0, 1) := by decide +kernel
theorem dX7_bestPrices_25 : decode cX7_bestPrices 25 = .ok (.iload_n 3, 1) := by decide +kernel
theorem dX7_bestPrices_26 : decode cX7_bestPrices 26 = .ok (.invokevirtual 202, 3) := by decide +kernel
theorem dX7_bestPrices_29 : decode cX7_bestPrices 29 = .ok (.ifCond .eq 5, 3) := by decide +kernel
theorem dX7_bestPrices_32 : decode cX7_bestPrices 32 = .ok (.iload_n 3, 1) := by decide +kernel
theorem dX7_bestPrices_33 : decode cX7_bestPrices 33 = .ok (.istore_n 2, 1) := by decide +kernel
theorem dX7_bestPrices_34 : decode cX7_bestPrices 34 = .ok (.iinc 3 1, 3) := by decide +kernel
theorem dX7_bestPrices_37 : decode cX7_bestPrices 37 = .ok (.goto (-33), 3) := by decide +kernel
theorem dX7_bestPrices_40 : decode cX7_bestPrices 40 = .ok (.iload_n 2, 1) := by decide +kernel
theorem dX7_bestPrices_41 : decode cX7_bestPrices 41 = .ok (.ireturn, 1) := by decide +kernel
theorem dX7_isFair_0 : decode cX7_isFair 0 = .ok (.iconst 0, 1) := by decide +kernel
theorem dX7_isFair_1 : decode cX7_isFair 1 = .ok (.istore_n 2, 1) := by decide +kernel
theorem dX7_isFair_2 : decode cX7_isFair 2 = .ok (.iload_n 2, 1) := by decide +kernel
theorem dX7_isFair_3 : decode cX7_isFair 3 = .ok (.aload_n 0, 1) := by decide +kernel
theorem dX7_isFair_4 : decode cX7_isFair 4 = .ok (.getfield 12, 3) := by decide +kernel
theorem dX7_isFair_7 : decode cX7_isFair 7 = .ok (.getfield 81, 3) := by decide +kernel
theorem dX7_isFair_10 : decode cX7_isFair 10 = .ok (.if_icmp .ge 36, 3) := by decide +kernel
theorem dX7_isFair_13 : decode cX7_isFair 13 = .ok (.iload_n 1, 1) := by decide +kernel
theorem dX7_isFair_14 : decode cX7_isFair 14 = .ok (.aload_n 0, 1) := by decide +kernel
theorem dX7_isFair_15 : decode cX7_isFair 15 = .ok (.getfield 42, 3) := by decide +kernel
theorem dX7_isFair_18 : decode cX7_isFair 18 = .ok (.getfield 104, 3) := by decide +kernel
theorem dX7_isFair_21 : decode cX7_isFair 21 = .ok (.iload_n 2, 1) := by decide +kernel
theorem dX7_isFair_22 : decode cX7_isFair 22 = .ok (.aaload, 1) := by decide +kernel
theorem dX7_isFair_23 : decode cX7_isFair 23 = .ok (.invokestatic 199, 3) := by decide +kernel
theorem dX7_isFair_26 : decode cX7_isFair 26 = .ok (.aload_n 0, 1) := by decide +kernel
theorem dX7_isFair_27 : decode cX7_isFair 27 = .ok (.getfield 42, 3) := by decide +kernel
theorem dX7_isFair_30 : decode cX7_isFair 30 = .ok (.getfield 98, 3) := by decide +kernel
theorem dX7_isFair_33 : decode cX7_isFair 33 = .ok (.iload_n 2, 1) := by decide +kernel
theorem dX7_isFair_34 : decode cX7_isFair 34 = .ok (.iaload, 1) := by decide +kernel
theorem dX7_isFair_35 : decode cX7_isFair 35 = .ok (.if_icmp .le 5, 3) := by decide +kernel
theorem dX7_isFair_38 : decode cX7_isFair 38 = .ok (.iconst 0, 1) := by decide +kernel
theorem dX7_isFair_39 : decode cX7_isFair 39 = .ok (.ireturn, 1) := by decide +kernel
theorem dX7_isFair_40 : decode cX7_isFair 40 = .ok (.iinc 2 1, 3) := by decide +kernel
theorem dX7_isFair_43 : decode cX7_isFair 43 = .ok (.goto (-41), 3) := by decide +kernel
theorem dX7_isFair_46 : decode cX7_isFair 46 = .ok (.iconst 1, 1) := by decide +kernel
theorem dX7_isFair_47 : decode cX7_isFair 47 = .ok (.ireturn, 1) := by decide +kernel
theorem dX7_pays_0 : decode cX7_pays 0 = .ok (.iconst 0, 1) := by decide +kernel
theorem dX7_pays_1 : decode cX7_pays 1 = .ok (.istore_n 2, 1) := by decide +kernel
theorem dX7_pays_2 : decode cX7_pays 2 = .ok (.iconst 0, 1) := by decide +kernel
theorem dX7_pays_3 : decode cX7_pays 3 = .ok (.istore_n 3, 1) := by decide +kernel
theorem dX7_pays_4 : decode cX7_pays 4 = .ok (.iload_n 3, 1) := by decide +kernel
theorem dX7_pays_5 : decode cX7_pays 5 = .ok (.iconst 3, 1) := by decide +kernel
theorem dX7_pays_6 : decode cX7_pays 6 = .ok (.if_icmp .ge 21, 3) := by decide +kernel
theorem dX7_pays_9 : decode cX7_pays 9 = .ok (.iload_n 2, 1) := by decide +kernel
theorem dX7_pays_10 : decode cX7_pays 10 = .ok (.iload_n 0, 1) := by decide +kernel
theorem dX7_pays_11 : decode cX7_pays 11 = .ok (.iload_n 3, 1) := by decide +kernel
theorem dX7_pays_12 : decode cX7_pays 12 = .ok (.invokestatic 195, 3) := by decide +kernel
theorem dX7_pays_15 : decode cX7_pays 15 = .ok (.aload_n 1, 1) := by decide +kernel
theorem dX7_pays_16 : decode cX7_pays 16 = .ok (.iload_n 3, 1) := by decide +kernel
theorem dX7_pays_17 : decode cX7_pays 17 = .ok (.iaload, 1) := by decide +kernel
theorem dX7_pays_18 : decode cX7_pays 18 = .ok (.imul, 1) := by decide +kernel
theorem dX7_pays_19 : decode cX7_pays 19 = .ok (.iadd, 1) := by decide +kernel
theorem dX7_pays_20 : decode cX7_pays 20 = .ok (.istore_n 2, 1) := by decide +kernel
theorem dX7_pays_21 : decode cX7_pays 21 = .ok (.iinc 3 1, 3) := by decide +kernel
theorem dX7_pays_24 : decode cX7_pays 24 = .ok (.goto (-20), 3) := by decide +kernel
theorem dX7_pays_27 : decode cX7_pays 27 = .ok (.iload_n 2, 1) := by decide +kernel
theorem dX7_pays_28 : decode cX7_pays 28 = .ok (.ireturn, 1) := by decide +kernel
theorem dX7_priceBy_0 : decode cX7_priceBy 0 = .ok (.iload_n 1, 1) := by decide +kernel
theorem dX7_priceBy_1 : decode cX7_priceBy 1 = .ok (.ifCond .ne 8, 3) := by decide +kernel
theorem dX7_priceBy_4 : decode cX7_priceBy 4 = .ok (.iload_n 0, 1) := by decide +kernel
theorem dX7_priceBy_5 : decode cX7_priceBy 5 = .ok (.bipush 100, 2) := by decide +kernel
theorem dX7_priceBy_7 : decode cX7_priceBy 7 = .ok (.idiv, 1) := by decide +kernel
theorem dX7_priceBy_8 : decode cX7_priceBy 8 = .ok (.ireturn, 1) := by decide +kernel
theorem dX7_priceBy_9 : decode cX7_priceBy 9 = .ok (.iload_n 1, 1) := by decide +kernel
theorem dX7_priceBy_10 : decode cX7_priceBy 10 = .ok (.iconst 1, 1) := by decide +kernel
theorem dX7_priceBy_11 : decode cX7_priceBy 11 = .ok (.if_icmp .ne 13, 3) := by decide +kernel
theorem dX7_priceBy_14 : decode cX7_priceBy 14 = .ok (.iload_n 0, 1) := by decide +kernel
theorem dX7_priceBy_15 : decode cX7_priceBy 15 = .ok (.bipush 10, 2) := by decide +kernel
theorem dX7_priceBy_17 : decode cX7_priceBy 17 = .ok (.idiv, 1) := by decide +kernel
theorem dX7_priceBy_18 : decode cX7_priceBy 18 = .ok (.bipush 10, 2) := by decide +kernel
theorem dX7_priceBy_20 : decode cX7_priceBy 20 = .ok (.irem, 1) := by decide +kernel
theorem dX7_priceBy_21 : decode cX7_priceBy 21 = .ok (.goto 7, 3) := by decide +kernel
theorem dX7_priceBy_24 : decode cX7_priceBy 24 = .ok (.iload_n 0, 1) := by decide +kernel
theorem dX7_priceBy_25 : decode cX7_priceBy 25 = .ok (.bipush 10, 2) := by decide +kernel
theorem dX7_priceBy_27 : decode cX7_priceBy 27 = .ok (.irem, 1) := by decide +kernel
theorem dX7_priceBy_28 : decode cX7_priceBy 28 = .ok (.ireturn, 1) := by decide +kernel
theorem dX7_hid_0 : decode cX7_hid 0 = .ok (.aload_n 0, 1) := by decide +kernel
theorem dX7_hid_1 : decode cX7_hid 1 = .ok (.invokevirtual 95, 3) := by decide +kernel
theorem dX7_hid_4 : decode cX7_hid 4 = .ok (.iconst 0, 1) := by decide +kernel
theorem dX7_hid_5 : decode cX7_hid 5 = .ok (.istore_n 1, 1) := by decide +kernel
theorem dX7_hid_6 : decode cX7_hid 6 = .ok (.iload_n 1, 1) := by decide +kernel
theorem dX7_hid_7 : decode cX7_hid 7 = .ok (.aload_n 0, 1) := by decide +kernel
theorem dX7_hid_8 : decode cX7_hid 8 = .ok (.getfield 12, 3) := by decide +kernel
theorem dX7_hid_11 : decode cX7_hid 11 = .ok (.getfield 81, 3) := by decide +kernel
theorem dX7_hid_14 : decode cX7_hid 14 = .ok (.if_icmp .ge 48, 3) := by decide +kernel
theorem dX7_hid_17 : decode cX7_hid 17 = .ok (.iconst 1, 1) := by decide +kernel
theorem dX7_hid_18 : decode cX7_hid 18 = .ok (.istore_n 2, 1) := by decide +kernel
theorem dX7_hid_19 : decode cX7_hid 19 = .ok (.iload_n 2, 1) := by decide +kernel
theorem dX7_hid_20 : decode cX7_hid 20 = .ok (.aload_n 0, 1) := by decide +kernel
theorem dX7_hid_21 : decode cX7_hid 21 = .ok (.getfield 12, 3) := by decide +kernel
theorem dX7_hid_24 : decode cX7_hid 24 = .ok (.getfield 92, 3) := by decide +kernel
theorem dX7_hid_27 : decode cX7_hid 27 = .ok (.iconst 0, 1) := by decide +kernel
theorem dX7_hid_28 : decode cX7_hid 28 = .ok (.aaload, 1) := by decide +kernel
theorem dX7_hid_29 : decode cX7_hid 29 = .ok (.iload_n 1, 1) := by decide +kernel
theorem dX7_hid_30 : decode cX7_hid 30 = .ok (.iaload, 1) := by decide +kernel
theorem dX7_hid_31 : decode cX7_hid 31 = .ok (.if_icmp .gt 25, 3) := by decide +kernel
theorem dX7_hid_34 : decode cX7_hid 34 = .ok (.aload_n 0, 1) := by decide +kernel
theorem dX7_hid_35 : decode cX7_hid 35 = .ok (.iload_n 1, 1) := by decide +kernel
theorem dX7_hid_36 : decode cX7_hid 36 = .ok (.iload_n 2, 1) := by decide +kernel
theorem dX7_hid_37 : decode cX7_hid 37 = .ok (.invokevirtual 205, 3) := by decide +kernel
theorem dX7_hid_40 : decode cX7_hid 40 = .ok (.ifCond .eq 10, 3) := by decide +kernel
theorem dX7_hid_43 : decode cX7_hid 43 = .ok (.bipush 100, 2) := by decide +kernel
theorem dX7_hid_45 : decode cX7_hid 45 = .ok (.iload_n 1, 1) := by decide +kernel
theorem dX7_hid_46 : decode cX7_hid 46 = .ok (.imul, 1) := by decide +kernel
theorem dX7_hid_47 : decode cX7_hid 47 = .ok (.iload_n 2, 1) := by decide +kernel
theorem dX7_hid_48 : decode cX7_hid 48 = .ok (.iadd, 1) := by decide +kernel
theorem dX7_hid_49 : decode cX7_hid 49 = .ok (.ireturn, 1) := by decide +kernel
theorem dX7_hid_50 : decode cX7_hid 50 = .ok (.iinc 2 1, 3) := by decide +kernel
theorem dX7_hid_53 : decode cX7_hid 53 = .ok (.goto (-34), 3) := by decide +kernel
theorem dX7_hid_56 : decode cX7_hid 56 = .ok (.iinc 1 1, 3) := by decide +kernel
theorem dX7_hid_59 : decode cX7_hid 59 = .ok (.goto (-53), 3) := by decide +kernel
theorem dX7_hid_62 : decode cX7_hid 62 = .ok (.bipush (-5), 2) := by decide +kernel
theorem dX7_hid_64 : decode cX7_hid 64 = .ok (.ireturn, 1) := by decide +kernel
theorem dX7_isToldWithout_0 : decode cX7_isToldWithout 0 = .ok (.iconst 0, 1) := by decide +kernel
theorem dX7_isToldWithout_1 : decode cX7_isToldWithout 1 = .ok (.istore_n 3, 1) := by decide +kernel
theorem dX7_isToldWithout_2 : decode cX7_isToldWithout 2 = .ok (.iload_n 3, 1) := by decide +kernel
theorem dX7_isToldWithout_3 : decode cX7_isToldWithout 3 = .ok (.iconst 3, 1) := by decide +kernel
theorem dX7_isToldWithout_4 : decode cX7_isToldWithout 4 = .ok (.if_icmp .ge 71, 3) := by decide +kernel
theorem dX7_isToldWithout_7 : decode cX7_isToldWithout 7 = .ok (.aload_n 0, 1) := by decide +kernel
theorem dX7_isToldWithout_8 : decode cX7_isToldWithout 8 = .ok (.getfield 42, 3) := by decide +kernel
theorem dX7_isToldWithout_11 : decode cX7_isToldWithout 11 = .ok (.aload_n 0, 1) := by decide +kernel
theorem dX7_isToldWithout_12 : decode cX7_isToldWithout 12 = .ok (.getfield 12, 3) := by decide +kernel
theorem dX7_isToldWithout_15 : decode cX7_isToldWithout 15 = .ok (.getfield 92, 3) := by decide +kernel
theorem dX7_isToldWithout_18 : decode cX7_isToldWithout 18 = .ok (.iconst 0, 1) := by decide +kernel
theorem dX7_isToldWithout_19 : decode cX7_isToldWithout 19 = .ok (.aaload, 1) := by decide +kernel
theorem dX7_isToldWithout_20 : decode cX7_isToldWithout 20 = .ok (.iload_n 3, 1) := by decide +kernel
theorem dX7_isToldWithout_21 : decode cX7_isToldWithout 21 = .ok (.invokevirtual 144, 3) := by decide +kernel
theorem dX7_isToldWithout_24 : decode cX7_isToldWithout 24 = .ok (.iload_n 2, 1) := by decide +kernel
theorem dX7_isToldWithout_25 : decode cX7_isToldWithout 25 = .ok (.aload_n 0, 1) := by decide +kernel
theorem dX7_isToldWithout_26 : decode cX7_isToldWithout 26 = .ok (.getfield 42, 3) := by decide +kernel
theorem dX7_isToldWithout_29 : decode cX7_isToldWithout 29 = .ok (.getfield 104, 3) := by decide +kernel
theorem dX7_isToldWithout_32 : decode cX7_isToldWithout 32 = .ok (.iload_n 1, 1) := by decide +kernel
theorem dX7_isToldWithout_33 : decode cX7_isToldWithout 33 = .ok (.aaload, 1) := by decide +kernel
theorem dX7_isToldWithout_34 : decode cX7_isToldWithout 34 = .ok (.iload_n 3, 1) := by decide +kernel
theorem dX7_isToldWithout_35 : decode cX7_isToldWithout 35 = .ok (.iaload, 1) := by decide +kernel
theorem dX7_isToldWithout_36 : decode cX7_isToldWithout 36 = .ok (.imul, 1) := by decide +kernel
theorem dX7_isToldWithout_37 : decode cX7_isToldWithout 37 = .ok (.isub, 1) := by decide +kernel
theorem dX7_isToldWithout_38 : decode cX7_isToldWithout 38 = .ok (.istore 4, 2) := by decide +kernel
theorem dX7_isToldWithout_40 : decode cX7_isToldWithout 40 = .ok (.aload_n 0, 1) := by decide +kernel
theorem dX7_isToldWithout_41 : decode cX7_isToldWithout 41 = .ok (.getfield 12, 3) := by decide +kernel
theorem dX7_isToldWithout_44 : decode cX7_isToldWithout 44 = .ok (.getfield 113, 3) := by decide +kernel
theorem dX7_isToldWithout_47 : decode cX7_isToldWithout 47 = .ok (.iload_n 3, 1) := by decide +kernel
theorem dX7_isToldWithout_48 : decode cX7_isToldWithout 48 = .ok (.iaload, 1) := by decide +kernel
theorem dX7_isToldWithout_49 : decode cX7_isToldWithout 49 = .ok (.iconst (-1), 1) := by decide +kernel
theorem dX7_isToldWithout_50 : decode cX7_isToldWithout 50 = .ok (.if_icmp .eq 19, 3) := by decide +kernel
theorem dX7_isToldWithout_53 : decode cX7_isToldWithout 53 = .ok (.aload_n 0, 1) := by decide +kernel
theorem dX7_isToldWithout_54 : decode cX7_isToldWithout 54 = .ok (.getfield 12, 3) := by decide +kernel
theorem dX7_isToldWithout_57 : decode cX7_isToldWithout 57 = .ok (.getfield 113, 3) := by decide +kernel
theorem dX7_isToldWithout_60 : decode cX7_isToldWithout 60 = .ok (.iload_n 3, 1) := by decide +kernel
theorem dX7_isToldWithout_61 : decode cX7_isToldWithout 61 = .ok (.iaload, 1) := by decide +kernel
theorem dX7_isToldWithout_62 : decode cX7_isToldWithout 62 = .ok (.iload 4, 2) := by decide +kernel
theorem dX7_isToldWithout_64 : decode cX7_isToldWithout 64 = .ok (.if_icmp .eq 5, 3) := by decide +kernel
theorem dX7_isToldWithout_67 : decode cX7_isToldWithout 67 = .ok (.iconst 0, 1) := by decide +kernel
theorem dX7_isToldWithout_68 : decode cX7_isToldWithout 68 = .ok (.ireturn, 1) := by decide +kernel
theorem dX7_isToldWithout_69 : decode cX7_isToldWithout 69 = .ok (.iinc 3 1, 3) := by decide +kernel
theorem dX7_isToldWithout_72 : decode cX7_isToldWithout 72 = .ok (.goto (-70), 3) := by decide +kernel
theorem dX7_isToldWithout_75 : decode cX7_isToldWithout 75 = .ok (.iconst 1, 1) := by decide +kernel
theorem dX7_isToldWithout_76 : decode cX7_isToldWithout 76 = .ok (.ireturn, 1) := by decide +kernel
theorem dX7_months_0 : decode cX7_months 0 = .ok (.iconst 0, 1) := by decide +kernel
theorem dX7_months_1 : decode cX7_months 1 = .ok (.istore_n 1, 1) := by decide +kernel
theorem dX7_months_2 : decode cX7_months 2 = .ok (.iconst 0, 1) := by decide +kernel
theorem dX7_months_3 : decode cX7_months 3 = .ok (.istore_n 2, 1) := by decide +kernel
theorem dX7_months_4 : decode cX7_months 4 = .ok (.iload_n 2, 1) := by decide +kernel
theorem dX7_months_5 : decode cX7_months 5 = .ok (.bipush 12, 2) := by decide +kernel
theorem dX7_months_7 : decode cX7_months 7 = .ok (.if_icmp .ge 40, 3) := by decide +kernel
theorem dX7_months_10 : decode cX7_months 10 = .ok (.aload_n 0, 1) := by decide +kernel
theorem dX7_months_11 : decode cX7_months 11 = .ok (.getfield 42, 3) := by decide +kernel
theorem dX7_months_14 : decode cX7_months 14 = .ok (.aload_n 0, 1) := by decide +kernel
theorem dX7_months_15 : decode cX7_months 15 = .ok (.getfield 12, 3) := by decide +kernel
theorem dX7_months_18 : decode cX7_months 18 = .ok (.aload_n 0, 1) := by decide +kernel
theorem dX7_months_19 : decode cX7_months 19 = .ok (.invokevirtual 208, 3) := by decide +kernel
theorem dX7_months_22 : decode cX7_months 22 = .ok (.iload_n 2, 1) := by decide +kernel
theorem dX7_months_23 : decode cX7_months 23 = .ok (.invokevirtual 212, 3) := by decide +kernel
theorem dX7_months_26 : decode cX7_months 26 = .ok (.aload_n 0, 1) := by decide +kernel
theorem dX7_months_27 : decode cX7_months 27 = .ok (.iconst 0, 1) := by decide +kernel
theorem dX7_months_28 : decode cX7_months 28 = .ok (.iconst 0, 1) := by decide +kernel
theorem dX7_months_29 : decode cX7_months 29 = .ok (.invokevirtual 205, 3) := by decide +kernel
theorem dX7_months_32 : decode cX7_months 32 = .ok (.ifCond .eq 9, 3) := by decide +kernel
theorem dX7_months_35 : decode cX7_months 35 = .ok (.iload_n 1, 1) := by decide +kernel
theorem dX7_months_36 : decode cX7_months 36 = .ok (.iconst 1, 1) := by decide +kernel
theorem dX7_months_37 : decode cX7_months 37 = .ok (.iload_n 2, 1) := by decide +kernel
theorem dX7_months_38 : decode cX7_months 38 = .ok (.ishl, 1) := by decide +kernel
theorem dX7_months_39 : decode cX7_months 39 = .ok (.ior, 1) := by decide +kernel
theorem dX7_months_40 : decode cX7_months 40 = .ok (.istore_n 1, 1) := by decide +kernel
theorem dX7_months_41 : decode cX7_months 41 = .ok (.iinc 2 1, 3) := by decide +kernel
theorem dX7_months_44 : decode cX7_months 44 = .ok (.goto (-40), 3) := by decide +kernel
theorem dX7_months_47 : decode cX7_months 47 = .ok (.iload_n 1, 1) := by decide +kernel
theorem dX7_months_48 : decode cX7_months 48 = .ok (.ireturn, 1) := by decide +kernel
theorem dX7_odds_0 : decode cX7_odds 0 = .ok (.aload_n 0, 1) := by decide +kernel
theorem dX7_odds_1 : decode cX7_odds 1 = .ok (.aload_n 0, 1) := by decide +kernel
theorem dX7_odds_2 : decode cX7_odds 2 = .ok (.getfield 51, 3) := by decide +kernel
theorem dX7_odds_5 : decode cX7_odds 5 = .ok (.getfield 215, 3) := by decide +kernel
theorem dX7_odds_8 : decode cX7_odds 8 = .ok (.iload_n 1, 1) := by decide +kernel
theorem dX7_odds_9 : decode cX7_odds 9 = .ok (.iload_n 2, 1) := by decide +kernel
theorem dX7_odds_10 : decode cX7_odds 10 = .ok (.invokevirtual 218, 3) := by decide +kernel
theorem dX7_odds_13 : decode cX7_odds 13 = .ok (.lreturn, 1) := by decide +kernel
theorem dX7_mean_0 : decode cX7_mean 0 = .ok (.aload_n 0, 1) := by decide +kernel
theorem dX7_mean_1 : decode cX7_mean 1 = .ok (.aload_n 0, 1) := by decide +kernel
theorem dX7_mean_2 : decode cX7_mean 2 = .ok (.getfield 51, 3) := by decide +kernel
theorem dX7_mean_5 : decode cX7_mean 5 = .ok (.getfield 222, 3) := by decide +kernel
theorem dX7_mean_8 : decode cX7_mean 8 = .ok (.iload_n 1, 1) := by decide +kernel
theorem dX7_mean_9 : decode cX7_mean 9 = .ok (.iload_n 2, 1) := by decide +kernel
theorem dX7_mean_10 : decode cX7_mean 10 = .ok (.invokevirtual 218, 3) := by decide +kernel
theorem dX7_mean_13 : decode cX7_mean 13 = .ok (.lreturn, 1) := by decide +kernel
theorem dX7_sharePerFittingHerd_0 : decode cX7_sharePerFittingHerd 0 = .ok (.aload_n 0, 1) := by decide +kernel
theorem dX7_sharePerFittingHerd_1 : decode cX7_sharePerFittingHerd 1 = .ok (.iload_n 2, 1) := by decide +kernel
theorem dX7_sharePerFittingHerd_2 : decode cX7_sharePerFittingHerd 2 = .ok (.invokevirtual 89, 3) := by decide +kernel
theorem dX7_sharePerFittingHerd_5 : decode cX7_sharePerFittingHerd 5 = .ok (.ifCond .eq 12, 3) := by decide +kernel
theorem dX7_sharePerFittingHerd_8 : decode cX7_sharePerFittingHerd 8 = .ok (.iload_n 3, 1) := by decide +kernel
theorem dX7_sharePerFittingHerd_9 : decode cX7_sharePerFittingHerd 9 = .ok (.iconst 0, 1) := by decide +kernel
theorem dX7_sharePerFittingHerd_10 : decode cX7_sharePerFittingHerd 10 = .ok (.iconst 1, 1) := by decide +kernel
theorem dX7_sharePerFittingHerd_11 : decode cX7_sharePerFittingHerd 11 = .ok (.invokestatic 73, 3) := by decide +kernel
theorem dX7_sharePerFittingHerd_14 : decode cX7_sharePerFittingHerd 14 = .ok (.ifCond .ne 7, 3) := by decide +kernel
theorem dX7_sharePerFittingHerd_17 : decode cX7_sharePerFittingHerd 17 = .ok (.ldc2_w 225, 3) := by decide +kernel
theorem dX7_sharePerFittingHerd_20 : decode cX7_sharePerFittingHerd 20 = .ok (.lreturn, 1) := by decide +kernel
theorem dX7_sharePerFittingHerd_21 : decode cX7_sharePerFittingHerd 21 = .ok (.aload_n 0, 1) := by decide +kernel
theorem dX7_sharePerFittingHerd_22 : decode cX7_sharePerFittingHerd 22 = .ok (.invokevirtual 148, 3) := by decide +kernel
theorem dX7_sharePerFittingHerd_25 : decode cX7_sharePerFittingHerd 25 = .ok (.aload_n 0, 1) := by decide +kernel
theorem dX7_sharePerFittingHerd_26 : decode cX7_sharePerFittingHerd 26 = .ok (.getfield 51, 3) := by decide +kernel
theorem dX7_sharePerFittingHerd_29 : decode cX7_sharePerFittingHerd 29 = .ok (.getfield 151, 3) := by decide +kernel
theorem dX7_sharePerFittingHerd_32 : decode cX7_sharePerFittingHerd 32 = .ok (.i2l, 1) := by decide +kernel
theorem dX7_sharePerFittingHerd_33 : decode cX7_sharePerFittingHerd 33 = .ok (.aload_n 1, 1) := by decide +kernel
theorem dX7_sharePerFittingHerd_34 : decode cX7_sharePerFittingHerd 34 = .ok (.iload_n 2, 1) := by decide +kernel
theorem dX7_sharePerFittingHerd_35 : decode cX7_sharePerFittingHerd 35 = .ok (.iaload, 1) := by decide +kernel
theorem dX7_sharePerFittingHerd_36 : decode cX7_sharePerFittingHerd 36 = .ok (.i2l, 1) := by decide +kernel
theorem dX7_sharePerFittingHerd_37 : decode cX7_sharePerFittingHerd 37 = .ok (.invokestatic 167, 3) := by decide +kernel
theorem dX7_sharePerFittingHerd_40 : decode cX7_sharePerFittingHerd 40 = .ok (.lstore 4, 2) := by decide +kernel
theorem dX7_sharePerFittingHerd_42 : decode cX7_sharePerFittingHerd 42 = .ok (.aload_n 0, 1) := by decide +kernel
theorem dX7_sharePerFittingHerd_43 : decode cX7_sharePerFittingHerd 43 = .ok (.getfield 51, 3) := by decide +kernel
theorem dX7_sharePerFittingHerd_46 : decode cX7_sharePerFittingHerd 46 = .ok (.getfield 151, 3) := by decide +kernel
theorem dX7_sharePerFittingHerd_49 : decode cX7_sharePerFittingHerd 49 = .ok (.ifCond .eq 10, 3) := by decide +kernel
theorem dX7_sharePerFittingHerd_52 : decode cX7_sharePerFittingHerd 52 = .ok (.lload 4, 2) := by decide +kernel
theorem dX7_sharePerFittingHerd_54 : decode cX7_sharePerFittingHerd 54 = .ok (.lconst 0, 1) := by decide +kernel
theorem dX7_sharePerFittingHerd_55 : decode cX7_sharePerFittingHerd 55 = .ok (.lcmp, 1) := by decide +kernel
theorem dX7_sharePerFittingHerd_56 : decode cX7_sharePerFittingHerd 56 = .ok (.ifCond .gt 7, 3) := by decide +kernel
theorem dX7_sharePerFittingHerd_59 : decode cX7_sharePerFittingHerd 59 = .ok (.ldc2_w 225, 3) := by decide +kernel
theorem dX7_sharePerFittingHerd_62 : decode cX7_sharePerFittingHerd 62 = .ok (.lreturn, 1) := by decide +kernel
theorem dX7_sharePerFittingHerd_63 : decode cX7_sharePerFittingHerd 63 = .ok (.iload_n 3, 1) := by decide +kernel
theorem dX7_sharePerFittingHerd_64 : decode cX7_sharePerFittingHerd 64 = .ok (.ifCond .ne 9, 3) := by decide +kernel
theorem dX7_sharePerFittingHerd_67 : decode cX7_sharePerFittingHerd 67 = .ok (.aload_n 1, 1) := by decide +kernel
theorem dX7_sharePerFittingHerd_68 : decode cX7_sharePerFittingHerd 68 = .ok (.iload_n 2, 1) := by decide +kernel
theorem dX7_sharePerFittingHerd_69 : decode cX7_sharePerFittingHerd 69 = .ok (.iaload, 1) := by decide +kernel
theorem dX7_sharePerFittingHerd_70 : decode cX7_sharePerFittingHerd 70 = .ok (.goto 10, 3) := by decide +kernel
theorem dX7_sharePerFittingHerd_73 : decode cX7_sharePerFittingHerd 73 = .ok (.aload_n 0, 1) := by decide +kernel
theorem dX7_sharePerFittingHerd_74 : decode cX7_sharePerFittingHerd 74 = .ok (.getfield 51, 3) := by decide +kernel
theorem dX7_sharePerFittingHerd_77 : decode cX7_sharePerFittingHerd 77 = .ok (.getfield 151, 3) := by decide +kernel
theorem dX7_sharePerFittingHerd_80 : decode cX7_sharePerFittingHerd 80 = .ok (.i2l, 1) := by decide +kernel
theorem dX7_sharePerFittingHerd_81 : decode cX7_sharePerFittingHerd 81 = .ok (.lload 4, 2) := by decide +kernel
theorem dX7_sharePerFittingHerd_83 : decode cX7_sharePerFittingHerd 83 = .ok (.ldiv, 1) := by decide +kernel
theorem dX7_sharePerFittingHerd_84 : decode cX7_sharePerFittingHerd 84 = .ok (.lreturn, 1) := by decide +kernel
theorem dX7_book_0 : decode cX7_book 0 = .ok (.iload_n 1, 1) := by decide +kernel
theorem dX7_book_1 : decode cX7_book 1 = .ok (.iconst (-1), 1) := by decide +kernel
theorem dX7_book_2 : decode cX7_book 2 = .ok (.if_icmp .ne 13, 3) := by decide +kernel
theorem dX7_book_5 : decode cX7_book 5 = .ok (.aload_n 0, 1) := by decide +kernel
theorem dX7_book_6 : decode cX7_book 6 = .ok (.getfield 12, 3) := by decide +kernel
theorem dX7_book_9 : decode cX7_book 9 = .ok (.iconst 0, 1) := by decide +kernel
theorem dX7_book_10 : decode cX7_book 10 = .ok (.putfield 227, 3) := by decide +kernel
theorem dX7_book_13 : decode cX7_book 13 = .ok (.iconst 0, 1) := by decide +kernel
theorem dX7_book_14 : decode cX7_book 14 = .ok (.ireturn, 1) := by decide +kernel
theorem dX7_book_15 : decode cX7_book 15 = .ok (.iload_n 1, 1) := by decide +kernel
theorem dX7_book_16 : decode cX7_book 16 = .ok (.invokestatic 101, 3) := by decide +kernel
theorem dX7_book_19 : decode cX7_book 19 = .ok (.ifCond .ne 5, 3) := by decide +kernel
theorem dX7_book_22 : decode cX7_book 22 = .ok (.iconst (-1), 1) := by decide +kernel
theorem dX7_book_23 : decode cX7_book 23 = .ok (.ireturn, 1) := by decide +kernel
theorem dX7_book_24 : decode cX7_book 24 = .ok (.iload_n 2, 1) := by decide +kernel
theorem dX7_book_25 : decode cX7_book 25 = .ok (.iconst 0, 1) := by decide +kernel
theorem dX7_book_26 : decode cX7_book 26 = .ok (.sipush 999, 3) := by decide +kernel
theorem dX7_book_29 : decode cX7_book 29 = .ok (.invokestatic 73, 3) := by decide +kernel
theorem dX7_book_32 : decode cX7_book 32 = .ok (.ifCond .ne 6, 3) := by decide +kernel
theorem dX7_book_35 : decode cX7_book 35 = .ok (.bipush (-2), 2) := by decide +kernel
theorem dX7_book_37 : decode cX7_book 37 = .ok (.ireturn, 1) := by decide +kernel
theorem dX7_book_38 : decode cX7_book 38 = .ok (.aload_n 0, 1) := by decide +kernel
theorem dX7_book_39 : decode cX7_book 39 = .ok (.getfield 12, 3) := by decide +kernel
theorem dX7_book_42 : decode cX7_book 42 = .ok (.getfield 227, 3) := by decide +kernel
theorem dX7_book_45 : decode cX7_book 45 = .ok (.bipush 12, 2) := by decide +kernel
theorem dX7_book_47 : decode cX7_book 47 = .ok (.if_icmp .lt 6, 3) := by decide +kernel
theorem dX7_book_50 : decode cX7_book 50 = .ok (.bipush (-4), 2) := by decide +kernel
theorem dX7_book_52 : decode cX7_book 52 = .ok (.ireturn, 1) := by decide +kernel
theorem dX7_book_53 : decode cX7_book 53 = .ok (.aload_n 0, 1) := by decide +kernel
theorem dX7_book_54 : decode cX7_book 54 = .ok (.getfield 12, 3) := by decide +kernel
theorem dX7_book_57 : decode cX7_book 57 = .ok (.getfield 230, 3) := by decide +kernel
theorem dX7_book_60 : decode cX7_book 60 = .ok (.aload_n 0, 1) := by decide +kernel
theorem dX7_book_61 : decode cX7_book 61 = .ok (.getfield 12, 3) := by decide +kernel
theorem dX7_book_64 : decode cX7_book 64 = .ok (.getfield 227, 3) := by decide +kernel
theorem dX7_book_67 : decode cX7_book 67 = .ok (.iload_n 1, 1) := by decide +kernel
theorem dX7_book_68 : decode cX7_book 68 = .ok (.iastore, 1) := by decide +kernel
theorem dX7_book_69 : decode cX7_book 69 = .ok (.aload_n 0, 1) := by decide +kernel
theorem dX7_book_70 : decode cX7_book 70 = .ok (.getfield 12, 3) := by decide +kernel
theorem dX7_book_73 : decode cX7_book 73 = .ok (.getfield 233, 3) := by decide +kernel
theorem dX7_book_76 : decode cX7_book 76 = .ok (.aload_n 0, 1) := by decide +kernel
theorem dX7_book_77 : decode cX7_book 77 = .ok (.getfield 12, 3) := by decide +kernel
theorem dX7_book_80 : decode cX7_book 80 = .ok (.getfield 227, 3) := by decide +kernel
theorem dX7_book_83 : decode cX7_book 83 = .ok (.iload_n 2, 1) := by decide +kernel
theorem dX7_book_84 : decode cX7_book 84 = .ok (.iastore, 1) := by decide +kernel
theorem dX7_book_85 : decode cX7_book 85 = .ok (.aload_n 0, 1) := by decide +kernel
theorem dX7_book_86 : decode cX7_book 86 = .ok (.getfield 12, 3) := by decide +kernel
theorem dX7_book_89 : decode cX7_book 89 = .ok (.dup, 1) := by decide +kernel
theorem dX7_book_90 : decode cX7_book 90 = .ok (.getfield 227, 3) := by decide +kernel
theorem dX7_book_93 : decode cX7_book 93 = .ok (.iconst 1, 1) := by decide +kernel
theorem dX7_book_94 : decode cX7_book 94 = .ok (.iadd, 1) := by decide +kernel
theorem dX7_book_95 : decode cX7_book 95 = .ok (.putfield 227, 3) := by decide +kernel
theorem dX7_book_98 : decode cX7_book 98 = .ok (.aload_n 0, 1) := by decide +kernel
theorem dX7_book_99 : decode cX7_book 99 = .ok (.getfield 12, 3) := by decide +kernel
theorem dX7_book_102 : decode cX7_book 102 = .ok (.getfield 227, 3) := by decide +kernel
theorem dX7_book_105 : decode cX7_book 105 = .ok (.ireturn, 1) := by decide +kernel
theorem dX7_looked_0 : decode cX7_looked 0 = .ok (.aload_n 0, 1) := by decide +kernel
theorem dX7_looked_1 : decode cX7_looked 1 = .ok (.invokevirtual 95, 3) := by decide +kernel
theorem dX7_looked_4 : decode cX7_looked 4 = .ok (.iconst 0, 1) := by decide +kernel
theorem dX7_looked_5 : decode cX7_looked 5 = .ok (.istore_n 1, 1) := by decide +kernel
theorem dX7_looked_6 : decode cX7_looked 6 = .ok (.iload_n 1, 1) := by decide +kernel
theorem dX7_looked_7 : decode cX7_looked 7 = .ok (.aload_n 0, 1) := by decide +kernel
theorem dX7_looked_8 : decode cX7_looked 8 = .ok (.getfield 12, 3) := by decide +kernel
theorem dX7_looked_11 : decode cX7_looked 11 = .ok (.getfield 227, 3) := by decide +kernel
theorem dX7_looked_14 : decode cX7_looked 14 = .ok (.if_icmp .ge 48, 3) := by decide +kernel
theorem dX7_looked_17 : decode cX7_looked 17 = .ok (.aload_n 0, 1) := by decide +kernel
theorem dX7_looked_18 : decode cX7_looked 18 = .ok (.getfield 12, 3) := by decide +kernel
theorem dX7_looked_21 : decode cX7_looked 21 = .ok (.getfield 233, 3) := by decide +kernel
theorem dX7_looked_24 : decode cX7_looked 24 = .ok (.iload_n 1, 1) := by decide +kernel
theorem dX7_looked_25 : decode cX7_looked 25 = .ok (.iaload, 1) := by decide +kernel
theorem dX7_looked_26 : decode cX7_looked 26 = .ok (.aload_n 0, 1) := by decide +kernel
theorem dX7_looked_27 : decode cX7_looked 27 = .ok (.getfield 42, 3) := by decide +kernel
theorem dX7_looked_30 : decode cX7_looked 30 = .ok (.aload_n 0, 1) := by decide +kernel
theorem dX7_looked_31 : decode cX7_looked 31 = .ok (.getfield 12, 3) := by decide +kernel
theorem dX7_looked_34 : decode cX7_looked 34 = .ok (.getfield 92, 3) := by decide +kernel
theorem dX7_looked_37 : decode cX7_looked 37 = .ok (.iconst 0, 1) := by decide +kernel
theorem dX7_looked_38 : decode cX7_looked 38 = .ok (.aaload, 1) := by decide +kernel
theorem dX7_looked_39 : decode cX7_looked 39 = .ok (.aload_n 0, 1) := by decide +kernel
theorem dX7_looked_40 : decode cX7_looked 40 = .ok (.getfield 12, 3) := by decide +kernel
theorem dX7_looked_43 : decode cX7_looked 43 = .ok (.getfield 230, 3) := by decide +kernel
theorem dX7_looked_46 : decode cX7_looked 46 = .ok (.iload_n 1, 1) := by decide +kernel
theorem dX7_looked_47 : decode cX7_looked 47 = .ok (.iaload, 1) := by decide +kernel
theorem dX7_looked_48 : decode cX7_looked 48 = .ok (.invokevirtual 144, 3) := by decide +kernel
theorem dX7_looked_51 : decode cX7_looked 51 = .ok (.if_icmp .eq 5, 3) := by decide +kernel
theorem dX7_looked_54 : decode cX7_looked 54 = .ok (.iload_n 1, 1) := by decide +kernel
theorem dX7_looked_55 : decode cX7_looked 55 = .ok (.ireturn, 1) := by decide +kernel
theorem dX7_looked_56 : decode cX7_looked 56 = .ok (.iinc 1 1, 3) := by decide +kernel
theorem dX7_looked_59 : decode cX7_looked 59 = .ok (.goto (-53), 3) := by decide +kernel
theorem dX7_looked_62 : decode cX7_looked 62 = .ok (.bipush (-5), 2) := by decide +kernel
theorem dX7_looked_64 : decode cX7_looked 64 = .ok (.ireturn, 1) := by decide +kernel
theorem dX7_judge_0 : decode cX7_judge 0 = .ok (.iload_n 1, 1) := by decide +kernel
theorem dX7_judge_1 : decode cX7_judge 1 = .ok (.invokestatic 236, 3) := by decide +kernel
theorem dX7_judge_4 : decode cX7_judge 4 = .ok (.ifCond .ne 5, 3) := by decide +kernel
theorem dX7_judge_7 : decode cX7_judge 7 = .ok (.iconst (-1), 1) := by decide +kernel
theorem dX7_judge_8 : decode cX7_judge 8 = .ok (.ireturn, 1) := by decide +kernel
theorem dX7_judge_9 : decode cX7_judge 9 = .ok (.aload_n 0, 1) := by decide +kernel
theorem dX7_judge_10 : decode cX7_judge 10 = .ok (.getfield 68, 3) := by decide +kernel
theorem dX7_judge_13 : decode cX7_judge 13 = .ok (.iload_n 1, 1) := by decide +kernel
theorem dX7_judge_14 : decode cX7_judge 14 = .ok (.aaload, 1) := by decide +kernel
theorem dX7_judge_15 : decode cX7_judge 15 = .ok (.astore_n 3, 1) := by decide +kernel
theorem dX7_judge_16 : decode cX7_judge 16 = .ok (.aload_n 3, 1) := by decide +kernel
theorem dX7_judge_17 : decode cX7_judge 17 = .ok (.invokevirtual 239, 3) := by decide +kernel
theorem dX7_judge_20 : decode cX7_judge 20 = .ok (.ifCond .ne 13, 3) := by decide +kernel
theorem dX7_judge_23 : decode cX7_judge 23 = .ok (.aload_n 3, 1) := by decide +kernel
theorem dX7_judge_24 : decode cX7_judge 24 = .ok (.getfield 243, 3) := by decide +kernel
theorem dX7_judge_27 : decode cX7_judge 27 = .ok (.ifCond .eq 6, 3) := by decide +kernel
theorem dX7_judge_30 : decode cX7_judge 30 = .ok (.bipush (-12), 2) := by decide +kernel
theorem dX7_judge_32 : decode cX7_judge 32 = .ok (.ireturn, 1) := by decide +kernel
theorem dX7_judge_33 : decode cX7_judge 33 = .ok (.iconst 0, 1) := by decide +kernel
theorem dX7_judge_34 : decode cX7_judge 34 = .ok (.istore 4, 2) := by decide +kernel
theorem dX7_judge_36 : decode cX7_judge 36 = .ok (.iload 4, 2) := by decide +kernel
theorem dX7_judge_38 : decode cX7_judge 38 = .ok (.aload_n 0, 1) := by decide +kernel
theorem dX7_judge_39 : decode cX7_judge 39 = .ok (.getfield 12, 3) := by decide +kernel
theorem dX7_judge_42 : decode cX7_judge 42 = .ok (.getfield 81, 3) := by decide +kernel
theorem dX7_judge_45 : decode cX7_judge 45 = .ok (.if_icmp .ge 55, 3) := by decide +kernel
theorem dX7_judge_48 : decode cX7_judge 48 = .ok (.aload_n 3, 1) := by decide +kernel
theorem dX7_judge_49 : decode cX7_judge 49 = .ok (.iload_n 2, 1) := by decide +kernel
theorem dX7_judge_50 : decode cX7_judge 50 = .ok (.iload 4, 2) := by decide +kernel
theorem dX7_judge_52 : decode cX7_judge 52 = .ok (.iadd, 1) := by decide +kernel
theorem dX7_judge_53 : decode cX7_judge 53 = .ok (.invokevirtual 246, 3) := by decide +kernel
theorem dX7_judge_56 : decode cX7_judge 56 = .ok (.ifCond .ne 9, 3) := by decide +kernel
theorem dX7_judge_59 : decode cX7_judge 59 = .ok (.bipush 100, 2) := by decide +kernel
theorem dX7_judge_61 : decode cX7_judge 61 = .ok (.iload 4, 2) := by decide +kernel
theorem dX7_judge_63 : decode cX7_judge 63 = .ok (.iadd, 1) := by decide +kernel
theorem dX7_judge_64 : decode cX7_judge 64 = .ok (.ireturn, 1) := by decide +kernel
theorem dX7_judge_65 : decode cX7_judge 65 = .ok (.aload_n 3, 1) := by decide +kernel
theorem dX7_judge_66 : decode cX7_judge 66 = .ok (.getfield 249, 3) := by decide +kernel
theorem dX7_judge_69 : decode cX7_judge 69 = .ok (.iload_n 2, 1) := by decide +kernel
theorem dX7_judge_70 : decode cX7_judge 70 = .ok (.iload 4, 2) := by decide +kernel
theorem dX7_judge_72 : decode cX7_judge 72 = .ok (.iadd, 1) := by decide +kernel
theorem dX7_judge_73 : decode cX7_judge 73 = .ok (.laload, 1) := by decide +kernel
theorem dX7_judge_74 : decode cX7_judge 74 = .ok (.aload_n 0, 1) := by decide +kernel
theorem dX7_judge_75 : decode cX7_judge 75 = .ok (.getfield 12, 3) := by decide +kernel
theorem dX7_judge_78 : decode cX7_judge 78 = .ok (.getfield 92, 3) := by decide +kernel
theorem dX7_judge_81 : decode cX7_judge 81 = .ok (.iconst 0, 1) := by decide +kernel
theorem dX7_judge_82 : decode cX7_judge 82 = .ok (.aaload, 1) := by decide +kernel
theorem dX7_judge_83 : decode cX7_judge 83 = .ok (.iload 4, 2) := by decide +kernel
theorem dX7_judge_85 : decode cX7_judge 85 = .ok (.iaload, 1) := by decide +kernel
theorem dX7_judge_86 : decode cX7_judge 86 = .ok (.i2l, 1) := by decide +kernel
theorem dX7_judge_87 : decode cX7_judge 87 = .ok (.lcmp, 1) := by decide +kernel
theorem dX7_judge_88 : decode cX7_judge 88 = .ok (.ifCond .eq 6, 3) := by decide +kernel
theorem dX7_judge_91 : decode cX7_judge 91 = .ok (.iload 4, 2) := by decide +kernel
theorem dX7_judge_93 : decode cX7_judge 93 = .ok (.ireturn, 1) := by decide +kernel
theorem dX7_judge_94 : decode cX7_judge 94 = .ok (.iinc 4 1, 3) := by decide +kernel
theorem dX7_judge_97 : decode cX7_judge 97 = .ok (.goto (-61), 3) := by decide +kernel
theorem dX7_judge_100 : decode cX7_judge 100 = .ok (.bipush (-5), 2) := by decide +kernel
theorem dX7_judge_102 : decode cX7_judge 102 = .ok (.ireturn, 1) := by decide +kernel
theorem dX7_image_0 : decode cX7_image 0 = .ok (.aload_n 0, 1) := by decide +kernel
theorem dX7_image_1 : decode cX7_image 1 = .ok (.getfield 18, 3) := by decide +kernel
theorem dX7_image_4 : decode cX7_image 4 = .ok (.aload_n 0, 1) := by decide +kernel
theorem dX7_image_5 : decode cX7_image 5 = .ok (.getfield 12, 3) := by decide +kernel
theorem dX7_image_8 : decode cX7_image 8 = .ok (.invokevirtual 253, 3) := by decide +kernel
theorem dX7_image_11 : decode cX7_image 11 = .ok (.aload_n 0, 1) := by decide +kernel
theorem dX7_image_12 : decode cX7_image 12 = .ok (.iconst 1, 1) := by decide +kernel
theorem dX7_image_13 : decode cX7_image 13 = .ok (.putfield 257, 3) := by decide +kernel
theorem dX7_image_16 : decode cX7_image 16 = .ok (.aload_n 0, 1) := by decide +kernel
theorem dX7_image_17 : decode cX7_image 17 = .ok (.getfield 12, 3) := by decide +kernel
theorem dX7_image_20 : decode cX7_image 20 = .ok (.getfield 81, 3) := by decide +kernel
theorem dX7_image_23 : decode cX7_image 23 = .ok (.ireturn, 1) := by decide +kernel
theorem dX7_undo_0 : decode cX7_undo 0 = .ok (.aload_n 0, 1) := by decide +kernel
theorem dX7_undo_1 : decode cX7_undo 1 = .ok (.getfield 257, 3) := by decide +kernel
theorem dX7_undo_4 : decode cX7_undo 4 = .ok (.ifCond .ne 6, 3) := by decide +kernel
theorem dX7_undo_7 : decode cX7_undo 7 = .ok (.bipush (-3), 2) := by decide +kernel
theorem dX7_undo_9 : decode cX7_undo 9 = .ok (.ireturn, 1) := by decide +kernel
theorem dX7_undo_10 : decode cX7_undo 10 = .ok (.aload_n 0, 1) := by decide +kernel
theorem dX7_undo_11 : decode cX7_undo 11 = .ok (.getfield 12, 3) := by decide +kernel
theorem dX7_undo_14 : decode cX7_undo 14 = .ok (.aload_n 0, 1) := by decide +kernel
theorem dX7_undo_15 : decode cX7_undo 15 = .ok (.getfield 18, 3) := by decide +kernel
theorem dX7_undo_18 : decode cX7_undo 18 = .ok (.invokevirtual 253, 3) := by decide +kernel
theorem dX7_undo_21 : decode cX7_undo 21 = .ok (.aload_n 0, 1) := by decide +kernel
theorem dX7_undo_22 : decode cX7_undo 22 = .ok (.getfield 12, 3) := by decide +kernel
theorem dX7_undo_25 : decode cX7_undo 25 = .ok (.getfield 81, 3) := by decide +kernel
theorem dX7_undo_28 : decode cX7_undo 28 = .ok (.ireturn, 1) := by decide +kernel
theorem dX7_act_0 : decode cX7_act 0 = .ok (.aload_n 0, 1) := by decide +kernel
theorem dX7_act_1 : decode cX7_act 1 = .ok (.getfield 62, 3) := by decide +kernel
theorem dX7_act_4 : decode cX7_act 4 = .ok (.invokevirtual 261, 3) := by decide +kernel
theorem dX7_act_7 : decode cX7_act 7 = .ok (.aload_n 0, 1) := by decide +kernel
theorem dX7_act_8 : decode cX7_act 8 = .ok (.iload_n 1, 1) := by decide +kernel
theorem dX7_act_9 : decode cX7_act 9 = .ok (.invokevirtual 89, 3) := by decide +kernel
theorem dX7_act_12 : decode cX7_act 12 = .ok (.ifCond .eq 12, 3) := by decide +kernel
theorem dX7_act_15 : decode cX7_act 15 = .ok (.iload_n 2, 1) := by decide +kernel
theorem dX7_act_16 : decode cX7_act 16 = .ok (.iconst 0, 1) := by decide +kernel
theorem dX7_act_17 : decode cX7_act 17 = .ok (.iconst 2, 1) := by decide +kernel
theorem dX7_act_18 : decode cX7_act 18 = .ok (.invokestatic 73, 3) := by decide +kernel
theorem dX7_act_21 : decode cX7_act 21 = .ok (.ifCond .ne 5, 3) := by decide +kernel
theorem dX7_act_24 : decode cX7_act 24 = .ok (.iconst 0, 1) := by decide +kernel
theorem dX7_act_25 : decode cX7_act 25 = .ok (.ireturn, 1) := by decide +kernel
theorem dX7_act_26 : decode cX7_act 26 = .ok (.aload_n 0, 1) := by decide +kernel
theorem dX7_act_27 : decode cX7_act 27 = .ok (.getfield 62, 3) := by decide +kernel
theorem dX7_act_30 : decode cX7_act 30 = .ok (.aload_n 0, 1) := by decide +kernel
theorem dX7_act_31 : decode cX7_act 31 = .ok (.getfield 12, 3) := by decide +kernel
theorem dX7_act_34 : decode cX7_act 34 = .ok (.getfield 85, 3) := by decide +kernel
theorem dX7_act_37 : decode cX7_act 37 = .ok (.iload_n 1, 1) := by decide +kernel
theorem dX7_act_38 : decode cX7_act 38 = .ok (.aaload, 1) := by decide +kernel
theorem dX7_act_39 : decode cX7_act 39 = .ok (.iload_n 1, 1) := by decide +kernel
theorem dX7_act_40 : decode cX7_act 40 = .ok (.iload_n 2, 1) := by decide +kernel
theorem dX7_act_41 : decode cX7_act 41 = .ok (.iload_n 3, 1) := by decide +kernel
theorem dX7_act_42 : decode cX7_act 42 = .ok (.invokevirtual 264, 3) := by decide +kernel
theorem dX7_act_45 : decode cX7_act 45 = .ok (.ireturn, 1) := by decide +kernel
theorem dX7_trace_0 : decode cX7_trace 0 = .ok (.iload_n 1, 1) := by decide +kernel
theorem dX7_trace_1 : decode cX7_trace 1 = .ok (.iconst 0, 1) := by decide +kernel
theorem dX7_trace_2 : decode cX7_trace 2 = .ok (.aload_n 0, 1) := by decide +kernel
theorem dX7_trace_3 : decode cX7_trace 3 = .ok (.getfield 62, 3) := by decide +kernel
theorem dX7_trace_6 : decode cX7_trace 6 = .ok (.getfield 268, 3) := by decide +kernel
theorem dX7_trace_9 : decode cX7_trace 9 = .ok (.bipush 20, 2) := by decide +kernel
theorem dX7_trace_11 : decode cX7_trace 11 = .ok (.invokestatic 271, 3) := by decide +kernel
theorem dX7_trace_14 : decode cX7_trace 14 = .ok (.iconst 1, 1) := by decide +kernel
theorem dX7_trace_15 : decode cX7_trace 15 = .ok (.isub, 1) := by decide +kernel
theorem dX7_trace_16 : decode cX7_trace 16 = .ok (.invokestatic 73, 3) := by decide +kernel
theorem dX7_trace_19 : decode cX7_trace 19 = .ok (.ifCond .eq 15, 3) := by decide +kernel
theorem dX7_trace_22 : decode cX7_trace 22 = .ok (.aload_n 0, 1) := by decide +kernel
theorem dX7_trace_23 : decode cX7_trace 23 = .ok (.getfield 62, 3) := by decide +kernel
theorem dX7_trace_26 : decode cX7_trace 26 = .ok (.getfield 276, 3) := by decide +kernel
theorem dX7_trace_29 : decode cX7_trace 29 = .ok (.iload_n 1, 1) := by decide +kernel
theorem dX7_trace_30 : decode cX7_trace 30 = .ok (.iaload, 1) := by decide +kernel
theorem dX7_trace_31 : decode cX7_trace 31 = .ok (.goto 4, 3) := by decide +kernel
theorem dX7_trace_34 : decode cX7_trace 34 = .ok (.iconst (-1), 1) := by decide +kernel
theorem dX7_trace_35 : decode cX7_trace 35 = .ok (.ireturn, 1) := by decide +kernel
theorem dX7_taken_0 : decode cX7_taken 0 = .ok (.iload_n 2, 1) := by decide +kernel
theorem dX7_taken_1 : decode cX7_taken 1 = .ok (.iconst 0, 1) := by decide +kernel
theorem dX7_taken_2 : decode cX7_taken 2 = .ok (.bipush 6, 2) := by decide +kernel
theorem dX7_taken_4 : decode cX7_taken 4 = .ok (.invokestatic 73, 3) := by decide +kernel
theorem dX7_taken_7 : decode cX7_taken 7 = .ok (.ifCond .ne 6, 3) := by decide +kernel
theorem dX7_taken_10 : decode cX7_taken 10 = .ok (.bipush (-2), 2) := by decide +kernel
theorem dX7_taken_12 : decode cX7_taken 12 = .ok (.ireturn, 1) := by decide +kernel
theorem dX7_taken_13 : decode cX7_taken 13 = .ok (.aload_n 0, 1) := by decide +kernel
theorem dX7_taken_14 : decode cX7_taken 14 = .ok (.iload_n 1, 1) := by decide +kernel
theorem dX7_taken_15 : decode cX7_taken 15 = .ok (.invokevirtual 89, 3) := by decide +kernel
theorem dX7_taken_18 : decode cX7_taken 18 = .ok (.ifCond .ne 6, 3) := by decide +kernel
theorem dX7_taken_21 : decode cX7_taken 21 = .ok (.bipush (-11), 2) := by decide +kernel
theorem dX7_taken_23 : decode cX7_taken 23 = .ok (.ireturn, 1) := by decide +kernel
theorem dX7_taken_24 : decode cX7_taken 24 = .ok (.aload_n 0, 1) := by decide +kernel
theorem dX7_taken_25 : decode cX7_taken 25 = .ok (.getfield 12, 3) := by decide +kernel
theorem dX7_taken_28 : decode cX7_taken 28 = .ok (.getfield 85, 3) := by decide +kernel
theorem dX7_taken_31 : decode cX7_taken 31 = .ok (.iload_n 1, 1) := by decide +kernel
theorem dX7_taken_32 : decode cX7_taken 32 = .ok (.aaload, 1) := by decide +kernel
theorem dX7_taken_33 : decode cX7_taken 33 = .ok (.iconst 0, 1) := by decide +kernel
theorem dX7_taken_34 : decode cX7_taken 34 = .ok (.iaload, 1) := by decide +kernel
theorem dX7_taken_35 : decode cX7_taken 35 = .ok (.istore_n 3, 1) := by decide +kernel
theorem dX7_taken_36 : decode cX7_taken 36 = .ok (.iload_n 3, 1) := by decide +kernel
theorem dX7_taken_37 : decode cX7_taken 37 = .ok (.iload_n 2, 1) := by decide +kernel
theorem dX7_taken_38 : decode cX7_taken 38 = .ok (.invokestatic 279, 3) := by decide +kernel
theorem dX7_taken_41 : decode cX7_taken 41 = .ok (.ifCond .eq 7, 3) := by decide +kernel
theorem dX7_taken_44 : decode cX7_taken 44 = .ok (.iload_n 3, 1) := by decide +kernel
theorem dX7_taken_45 : decode cX7_taken 45 = .ok (.goto 5, 3) := by decide +kernel
theorem dX7_taken_48 : decode cX7_taken 48 = .ok (.bipush (-12), 2) := by decide +kernel
theorem dX7_taken_50 : decode cX7_taken 50 = .ok (.ireturn, 1) := by decide +kernel
theorem dX7_count_0 : decode cX7_count 0 = .ok (.iload_n 1, 1) := by decide +kernel
theorem dX7_count_1 : decode cX7_count 1 = .ok (.tableswitch 72 0 4 #[35, 43, 48, 56, 64], 35) := by decide +kernel
theorem dX7_count_36 : decode cX7_count 36 = .ok (.aload_n 0, 1) := by decide +kernel
theorem dX7_count_37 : decode cX7_count 37 = .ok (.getfield 12, 3) := by decide +kernel
theorem dX7_count_40 : decode cX7_count 40 = .ok (.getfield 81, 3) := by decide +kernel
theorem dX7_count_43 : decode cX7_count 43 = .ok (.ireturn, 1) := by decide +kernel
theorem dX7_count_44 : decode cX7_count 44 = .ok (.aload_n 0, 1) := by decide +kernel
theorem dX7_count_45 : decode cX7_count 45 = .ok (.getfield 123, 3) := by decide +kernel
theorem dX7_count_48 : decode cX7_count 48 = .ok (.ireturn, 1) := by decide +kernel
theorem dX7_count_49 : decode cX7_count 49 = .ok (.aload_n 0, 1) := by decide +kernel
theorem dX7_count_50 : decode cX7_count 50 = .ok (.getfield 12, 3) := by decide +kernel
theorem dX7_count_53 : decode cX7_count 53 = .ok (.getfield 227, 3) := by decide +kernel
theorem dX7_count_56 : decode cX7_count 56 = .ok (.ireturn, 1) := by decide +kernel
theorem dX7_count_57 : decode cX7_count 57 = .ok (.aload_n 0, 1) := by decide +kernel
theorem dX7_count_58 : decode cX7_count 58 = .ok (.getfield 24, 3) := by decide +kernel
theorem dX7_count_61 : decode cX7_count 61 = .ok (.getfield 116, 3) := by decide +kernel
theorem dX7_count_64 : decode cX7_count 64 = .ok (.ireturn, 1) := by decide +kernel
theorem dX7_count_65 : decode cX7_count 65 = .ok (.aload_n 0, 1) := by decide +kernel
theorem dX7_count_66 : decode cX7_count 66 = .ok (.getfield 62, 3) := by decide +kernel
theorem dX7_count_69 : decode cX7_count 69 = .ok (.getfield 268, 3) := by decide +kernel
theorem dX7_count_72 : decode cX7_count 72 = .ok (.ireturn, 1) := by decide +kernel
theorem dX7_count_73 : decode cX7_count 73 = .ok (.bipush (-2), 2) := by decide +kernel
theorem dX7_count_75 : decode cX7_count 75 = .ok (.ireturn, 1) := by decide +kernel
theorem dX7_tape_0 : decode cX7_tape 0 = .ok (.iload_n 1, 1) := by decide +kernel
theorem dX7_tape_1 : decode cX7_tape 1 = .ok (.invokestatic 236, 3) := by decide +kernel
theorem dX7_tape_4 : decode cX7_tape 4 = .ok (.ifCond .ne 5, 3) := by decide +kernel
theorem dX7_tape_7 : decode cX7_tape 7 = .ok (.iconst (-1), 1) := by decide +kernel
theorem dX7_tape_8 : decode cX7_tape 8 = .ok (.ireturn, 1) := by decide +kernel
theorem dX7_tape_9 : decode cX7_tape 9 = .ok (.iload_n 2, 1) := by decide +kernel
theorem dX7_tape_10 : decode cX7_tape 10 = .ok (.iconst (-1), 1) := by decide +kernel
theorem dX7_tape_11 : decode cX7_tape 11 = .ok (.iconst 4, 1) := by decide +kernel
theorem dX7_tape_12 : decode cX7_tape 12 = .ok (.invokestatic 73, 3) := by decide +kernel
theorem dX7_tape_15 : decode cX7_tape 15 = .ok (.ifCond .ne 6, 3) := by decide +kernel
theorem dX7_tape_18 : decode cX7_tape 18 = .ok (.bipush (-2), 2) := by decide +kernel
theorem dX7_tape_20 : decode cX7_tape 20 = .ok (.ireturn, 1) := by decide +kernel
theorem dX7_tape_21 : decode cX7_tape 21 = .ok (.iload_n 2, 1) := by decide +kernel
theorem dX7_tape_22 : decode cX7_tape 22 = .ok (.iconst (-1), 1) := by decide +kernel
theorem dX7_tape_23 : decode cX7_tape 23 = .ok (.if_icmp .eq 12, 3) := by decide +kernel
theorem dX7_tape_26 : decode cX7_tape 26 = .ok (.iload_n 3, 1) := by decide +kernel
theorem dX7_tape_27 : decode cX7_tape 27 = .ok (.bipush 60, 2) := by decide +kernel
theorem dX7_tape_29 : decode cX7_tape 29 = .ok (.if_icmp .le 6, 3) := by decide +kernel
theorem dX7_tape_32 : decode cX7_tape 32 = .ok (.bipush (-2), 2) := by decide +kernel
theorem dX7_tape_34 : decode cX7_tape 34 = .ok (.ireturn, 1) := by decide +kernel
theorem dX7_tape_35 : decode cX7_tape 35 = .ok (.iload_n 2, 1) := by decide +kernel
theorem dX7_tape_36 : decode cX7_tape 36 = .ok (.iconst (-1), 1) := by decide +kernel
theorem dX7_tape_37 : decode cX7_tape 37 = .ok (.if_icmp .eq 10, 3) := by decide +kernel
theorem dX7_tape_40 : decode cX7_tape 40 = .ok (.iload_n 3, 1) := by decide +kernel
theorem dX7_tape_41 : decode cX7_tape 41 = .ok (.ifCond .ge 6, 3) := by decide +kernel
theorem dX7_tape_44 : decode cX7_tape 44 = .ok (.bipush (-14), 2) := by decide +kernel
theorem dX7_tape_46 : decode cX7_tape 46 = .ok (.ireturn, 1) := by decide +kernel
theorem dX7_tape_47 : decode cX7_tape 47 = .ok (.aload_n 0, 1) := by decide +kernel
theorem dX7_tape_48 : decode cX7_tape 48 = .ok (.getfield 68, 3) := by decide +kernel
theorem dX7_tape_51 : decode cX7_tape 51 = .ok (.iload_n 1, 1) := by decide +kernel
theorem dX7_tape_52 : decode cX7_tape 52 = .ok (.aaload, 1) := by decide +kernel
theorem dX7_tape_53 : decode cX7_tape 53 = .ok (.iload_n 2, 1) := by decide +kernel
theorem dX7_tape_54 : decode cX7_tape 54 = .ok (.iload_n 3, 1) := by decide +kernel
theorem dX7_tape_55 : decode cX7_tape 55 = .ok (.invokevirtual 282, 3) := by decide +kernel
theorem dX7_tape_58 : decode cX7_tape 58 = .ok (.iconst 1, 1) := by decide +kernel
theorem dX7_tape_59 : decode cX7_tape 59 = .ok (.ireturn, 1) := by decide +kernel
theorem dX7_item_0 : decode cX7_item 0 = .ok (.iload_n 1, 1) := by decide +kernel
theorem dX7_item_1 : decode cX7_item 1 = .ok (.invokestatic 236, 3) := by decide +kernel
theorem dX7_item_4 : decode cX7_item 4 = .ok (.ifCond .ne 5, 3) := by decide +kernel
theorem dX7_item_7 : decode cX7_item 7 = .ok (.iconst (-1), 1) := by decide +kernel
theorem dX7_item_8 : decode cX7_item 8 = .ok (.ireturn, 1) := by decide +kernel
theorem dX7_item_9 : decode cX7_item 9 = .ok (.aload_n 0, 1) := by decide +kernel
theorem dX7_item_10 : decode cX7_item 10 = .ok (.getfield 68, 3) := by decide +kernel
end
section
theorem dX7_item_13 : decode cX7_item 13 = .ok (.iload_n 1, 1) := by decide +kernel
theorem dX7_item_14 : decode cX7_item 14 = .ok (.aaload, 1) := by decide +kernel
theorem dX7_item_15 : decode cX7_item 15 = .ok (.invokevirtual 239, 3) := by decide +kernel
theorem dX7_item_18 : decode cX7_item 18 = .ok (.ifCond .eq 6, 3) := by decide +kernel
theorem dX7_item_21 : decode cX7_item 21 = .ok (.bipush (-11), 2) := by decide +kernel
theorem dX7_item_23 : decode cX7_item 23 = .ok (.ireturn, 1) := by decide +kernel
theorem dX7_item_24 : decode cX7_item 24 = .ok (.aload_n 0, 1) := by decide +kernel
theorem dX7_item_25 : decode cX7_item 25 = .ok (.getfield 68, 3) := by decide +kernel
theorem dX7_item_28 : decode cX7_item 28 = .ok (.iload_n 1, 1) := by decide +kernel
theorem dX7_item_29 : decode cX7_item 29 = .ok (.aaload, 1) := by decide +kernel
theorem dX7_item_30 : decode cX7_item 30 = .ok (.iload_n 2, 1) := by decide +kernel
theorem dX7_item_31 : decode cX7_item 31 = .ok (.invokevirtual 246, 3) := by decide +kernel
theorem dX7_item_34 : decode cX7_item 34 = .ok (.ifCond .ne 6, 3) := by decide +kernel
theorem dX7_item_37 : decode cX7_item 37 = .ok (.bipush (-13), 2) := by decide +kernel
theorem dX7_item_39 : decode cX7_item 39 = .ok (.ireturn, 1) := by decide +kernel
theorem dX7_item_40 : decode cX7_item 40 = .ok (.aload_n 0, 1) := by decide +kernel
theorem dX7_item_41 : decode cX7_item 41 = .ok (.getfield 68, 3) := by decide +kernel
theorem dX7_item_44 : decode cX7_item 44 = .ok (.iload_n 1, 1) := by decide +kernel
theorem dX7_item_45 : decode cX7_item 45 = .ok (.aaload, 1) := by decide +kernel
theorem dX7_item_46 : decode cX7_item 46 = .ok (.iload_n 2, 1) := by decide +kernel
theorem dX7_item_47 : decode cX7_item 47 = .ok (.lload_n 3, 1) := by decide +kernel
theorem dX7_item_48 : decode cX7_item 48 = .ok (.invokevirtual 285, 3) := by decide +kernel
theorem dX7_item_51 : decode cX7_item 51 = .ok (.iconst 1, 1) := by decide +kernel
theorem dX7_item_52 : decode cX7_item 52 = .ok (.ireturn, 1) := by decide +kernel
theorem dX7_read_0 : decode cX7_read 0 = .ok (.iload_n 1, 1) := by decide +kernel
theorem dX7_read_1 : decode cX7_read 1 = .ok (.invokestatic 236, 3) := by decide +kernel
theorem dX7_read_4 : decode cX7_read 4 = .ok (.ifCond .eq 30, 3) := by decide +kernel
theorem dX7_read_7 : decode cX7_read 7 = .ok (.aload_n 0, 1) := by decide +kernel
theorem dX7_read_8 : decode cX7_read 8 = .ok (.getfield 68, 3) := by decide +kernel
theorem dX7_read_11 : decode cX7_read 11 = .ok (.iload_n 1, 1) := by decide +kernel
theorem dX7_read_12 : decode cX7_read 12 = .ok (.aaload, 1) := by decide +kernel
theorem dX7_read_13 : decode cX7_read 13 = .ok (.iload_n 2, 1) := by decide +kernel
theorem dX7_read_14 : decode cX7_read 14 = .ok (.invokevirtual 246, 3) := by decide +kernel
theorem dX7_read_17 : decode cX7_read 17 = .ok (.ifCond .eq 17, 3) := by decide +kernel
theorem dX7_read_20 : decode cX7_read 20 = .ok (.aload_n 0, 1) := by decide +kernel
theorem dX7_read_21 : decode cX7_read 21 = .ok (.getfield 68, 3) := by decide +kernel
theorem dX7_read_24 : decode cX7_read 24 = .ok (.iload_n 1, 1) := by decide +kernel
theorem dX7_read_25 : decode cX7_read 25 = .ok (.aaload, 1) := by decide +kernel
theorem dX7_read_26 : decode cX7_read 26 = .ok (.getfield 249, 3) := by decide +kernel
theorem dX7_read_29 : decode cX7_read 29 = .ok (.iload_n 2, 1) := by decide +kernel
theorem dX7_read_30 : decode cX7_read 30 = .ok (.laload, 1) := by decide +kernel
theorem dX7_read_31 : decode cX7_read 31 = .ok (.goto 6, 3) := by decide +kernel
theorem dX7_read_34 : decode cX7_read 34 = .ok (.ldc2_w 225, 3) := by decide +kernel
theorem dX7_read_37 : decode cX7_read 37 = .ok (.lreturn, 1) := by decide +kernel
theorem dX7_shift_0 : decode cX7_shift 0 = .ok (.iload_n 1, 1) := by decide +kernel
theorem dX7_shift_1 : decode cX7_shift 1 = .ok (.invokestatic 236, 3) := by decide +kernel
theorem dX7_shift_4 : decode cX7_shift 4 = .ok (.ifCond .eq 10, 3) := by decide +kernel
theorem dX7_shift_7 : decode cX7_shift 7 = .ok (.iload_n 3, 1) := by decide +kernel
theorem dX7_shift_8 : decode cX7_shift 8 = .ok (.invokestatic 236, 3) := by decide +kernel
theorem dX7_shift_11 : decode cX7_shift 11 = .ok (.ifCond .ne 5, 3) := by decide +kernel
theorem dX7_shift_14 : decode cX7_shift 14 = .ok (.iconst (-1), 1) := by decide +kernel
theorem dX7_shift_15 : decode cX7_shift 15 = .ok (.ireturn, 1) := by decide +kernel
theorem dX7_shift_16 : decode cX7_shift 16 = .ok (.aload_n 0, 1) := by decide +kernel
theorem dX7_shift_17 : decode cX7_shift 17 = .ok (.getfield 68, 3) := by decide +kernel
theorem dX7_shift_20 : decode cX7_shift 20 = .ok (.iload_n 1, 1) := by decide +kernel
theorem dX7_shift_21 : decode cX7_shift 21 = .ok (.aaload, 1) := by decide +kernel
theorem dX7_shift_22 : decode cX7_shift 22 = .ok (.astore 6, 2) := by decide +kernel
theorem dX7_shift_24 : decode cX7_shift 24 = .ok (.aload_n 0, 1) := by decide +kernel
theorem dX7_shift_25 : decode cX7_shift 25 = .ok (.getfield 68, 3) := by decide +kernel
theorem dX7_shift_28 : decode cX7_shift 28 = .ok (.iload_n 3, 1) := by decide +kernel
theorem dX7_shift_29 : decode cX7_shift 29 = .ok (.aaload, 1) := by decide +kernel
theorem dX7_shift_30 : decode cX7_shift 30 = .ok (.astore 7, 2) := by decide +kernel
theorem dX7_shift_32 : decode cX7_shift 32 = .ok (.aload 6, 2) := by decide +kernel
theorem dX7_shift_34 : decode cX7_shift 34 = .ok (.invokevirtual 239, 3) := by decide +kernel
theorem dX7_shift_37 : decode cX7_shift 37 = .ok (.ifCond .ne 11, 3) := by decide +kernel
theorem dX7_shift_40 : decode cX7_shift 40 = .ok (.aload 7, 2) := by decide +kernel
theorem dX7_shift_42 : decode cX7_shift 42 = .ok (.invokevirtual 239, 3) := by decide +kernel
theorem dX7_shift_45 : decode cX7_shift 45 = .ok (.ifCond .eq 6, 3) := by decide +kernel
theorem dX7_shift_48 : decode cX7_shift 48 = .ok (.bipush (-11), 2) := by decide +kernel
theorem dX7_shift_50 : decode cX7_shift 50 = .ok (.ireturn, 1) := by decide +kernel
theorem dX7_shift_51 : decode cX7_shift 51 = .ok (.aload 6, 2) := by decide +kernel
theorem dX7_shift_53 : decode cX7_shift 53 = .ok (.getfield 243, 3) := by decide +kernel
theorem dX7_shift_56 : decode cX7_shift 56 = .ok (.aload 7, 2) := by decide +kernel
theorem dX7_shift_58 : decode cX7_shift 58 = .ok (.getfield 243, 3) := by decide +kernel
theorem dX7_shift_61 : decode cX7_shift 61 = .ok (.if_icmp .eq 6, 3) := by decide +kernel
theorem dX7_shift_64 : decode cX7_shift 64 = .ok (.bipush (-12), 2) := by decide +kernel
theorem dX7_shift_66 : decode cX7_shift 66 = .ok (.ireturn, 1) := by decide +kernel
theorem dX7_shift_67 : decode cX7_shift 67 = .ok (.aload 6, 2) := by decide +kernel
theorem dX7_shift_69 : decode cX7_shift 69 = .ok (.iload_n 2, 1) := by decide +kernel
theorem dX7_shift_70 : decode cX7_shift 70 = .ok (.iload 5, 2) := by decide +kernel
theorem dX7_shift_72 : decode cX7_shift 72 = .ok (.invokevirtual 289, 3) := by decide +kernel
theorem dX7_shift_75 : decode cX7_shift 75 = .ok (.ifCond .eq 15, 3) := by decide +kernel
theorem dX7_shift_78 : decode cX7_shift 78 = .ok (.aload 7, 2) := by decide +kernel
theorem dX7_shift_80 : decode cX7_shift 80 = .ok (.iload 4, 2) := by decide +kernel
theorem dX7_shift_82 : decode cX7_shift 82 = .ok (.iload 5, 2) := by decide +kernel
theorem dX7_shift_84 : decode cX7_shift 84 = .ok (.invokevirtual 289, 3) := by decide +kernel
theorem dX7_shift_87 : decode cX7_shift 87 = .ok (.ifCond .ne 6, 3) := by decide +kernel
theorem dX7_shift_90 : decode cX7_shift 90 = .ok (.bipush (-13), 2) := by decide +kernel
theorem dX7_shift_92 : decode cX7_shift 92 = .ok (.ireturn, 1) := by decide +kernel
theorem dX7_shift_93 : decode cX7_shift 93 = .ok (.aload 6, 2) := by decide +kernel
theorem dX7_shift_95 : decode cX7_shift 95 = .ok (.getfield 249, 3) := by decide +kernel
theorem dX7_shift_98 : decode cX7_shift 98 = .ok (.iload_n 2, 1) := by decide +kernel
theorem dX7_shift_99 : decode cX7_shift 99 = .ok (.aload 7, 2) := by decide +kernel
theorem dX7_shift_101 : decode cX7_shift 101 = .ok (.getfield 249, 3) := by decide +kernel
theorem dX7_shift_104 : decode cX7_shift 104 = .ok (.iload 4, 2) := by decide +kernel
theorem dX7_shift_106 : decode cX7_shift 106 = .ok (.iload 5, 2) := by decide +kernel
theorem dX7_shift_108 : decode cX7_shift 108 = .ok (.invokestatic 174, 3) := by decide +kernel
theorem dX7_shift_111 : decode cX7_shift 111 = .ok (.iload 5, 2) := by decide +kernel
theorem dX7_shift_113 : decode cX7_shift 113 = .ok (.ireturn, 1) := by decide +kernel
theorem dX7_within_0 : decode cX7_within 0 = .ok (.iload_n 0, 1) := by decide +kernel
theorem dX7_within_1 : decode cX7_within 1 = .ok (.iload_n 1, 1) := by decide +kernel
theorem dX7_within_2 : decode cX7_within 2 = .ok (.if_icmp .lt 12, 3) := by decide +kernel
theorem dX7_within_5 : decode cX7_within 5 = .ok (.iload_n 0, 1) := by decide +kernel
theorem dX7_within_6 : decode cX7_within 6 = .ok (.iload_n 2, 1) := by decide +kernel
theorem dX7_within_7 : decode cX7_within 7 = .ok (.if_icmp .gt 7, 3) := by decide +kernel
theorem dX7_within_10 : decode cX7_within 10 = .ok (.iconst 1, 1) := by decide +kernel
theorem dX7_within_11 : decode cX7_within 11 = .ok (.goto 4, 3) := by decide +kernel
theorem dX7_within_14 : decode cX7_within 14 = .ok (.iconst 0, 1) := by decide +kernel
theorem dX7_within_15 : decode cX7_within 15 = .ok (.ireturn, 1) := by decide +kernel
theorem dX7_isDigit_0 : decode cX7_isDigit 0 = .ok (.iload_n 0, 1) := by decide +kernel
theorem dX7_isDigit_1 : decode cX7_isDigit 1 = .ok (.iconst 0, 1) := by decide +kernel
theorem dX7_isDigit_2 : decode cX7_isDigit 2 = .ok (.bipush 9, 2) := by decide +kernel
theorem dX7_isDigit_4 : decode cX7_isDigit 4 = .ok (.invokestatic 73, 3) := by decide +kernel
theorem dX7_isDigit_7 : decode cX7_isDigit 7 = .ok (.ireturn, 1) := by decide +kernel
theorem dX7_isHole_0 : decode cX7_isHole 0 = .ok (.iload_n 0, 1) := by decide +kernel
theorem dX7_isHole_1 : decode cX7_isHole 1 = .ok (.iconst 0, 1) := by decide +kernel
theorem dX7_isHole_2 : decode cX7_isHole 2 = .ok (.iconst 2, 1) := by decide +kernel
theorem dX7_isHole_3 : decode cX7_isHole 3 = .ok (.invokestatic 73, 3) := by decide +kernel
theorem dX7_isHole_6 : decode cX7_isHole 6 = .ok (.ireturn, 1) := by decide +kernel
theorem dX7_isTape_0 : decode cX7_isTape 0 = .ok (.iload_n 0, 1) := by decide +kernel
theorem dX7_isTape_1 : decode cX7_isTape 1 = .ok (.iconst 0, 1) := by decide +kernel
theorem dX7_isTape_2 : decode cX7_isTape 2 = .ok (.iconst 5, 1) := by decide +kernel
theorem dX7_isTape_3 : decode cX7_isTape 3 = .ok (.invokestatic 73, 3) := by decide +kernel
theorem dX7_isTape_6 : decode cX7_isTape 6 = .ok (.ireturn, 1) := by decide +kernel
theorem dX7_isSort_0 : decode cX7_isSort 0 = .ok (.iload_n 1, 1) := by decide +kernel
theorem dX7_isSort_1 : decode cX7_isSort 1 = .ok (.iconst 0, 1) := by decide +kernel
theorem dX7_isSort_2 : decode cX7_isSort 2 = .ok (.aload_n 0, 1) := by decide +kernel
theorem dX7_isSort_3 : decode cX7_isSort 3 = .ok (.getfield 12, 3) := by decide +kernel
theorem dX7_isSort_6 : decode cX7_isSort 6 = .ok (.getfield 81, 3) := by decide +kernel
theorem dX7_isSort_9 : decode cX7_isSort 9 = .ok (.iconst 1, 1) := by decide +kernel
theorem dX7_isSort_10 : decode cX7_isSort 10 = .ok (.isub, 1) := by decide +kernel
theorem dX7_isSort_11 : decode cX7_isSort 11 = .ok (.invokestatic 73, 3) := by decide +kernel
theorem dX7_isSort_14 : decode cX7_isSort 14 = .ok (.ireturn, 1) := by decide +kernel
theorem dX7_isKindOf_0 : decode cX7_isKindOf 0 = .ok (.iload_n 1, 1) := by decide +kernel
theorem dX7_isKindOf_1 : decode cX7_isKindOf 1 = .ok (.ifCond .eq 17, 3) := by decide +kernel
theorem dX7_isKindOf_4 : decode cX7_isKindOf 4 = .ok (.iload_n 1, 1) := by decide +kernel
theorem dX7_isKindOf_5 : decode cX7_isKindOf 5 = .ok (.iload_n 0, 1) := by decide +kernel
theorem dX7_isKindOf_6 : decode cX7_isKindOf 6 = .ok (.if_icmp .eq 12, 3) := by decide +kernel
theorem dX7_isKindOf_9 : decode cX7_isKindOf 9 = .ok (.iload_n 1, 1) := by decide +kernel
theorem dX7_isKindOf_10 : decode cX7_isKindOf 10 = .ok (.getstatic 292, 3) := by decide +kernel
theorem dX7_isKindOf_13 : decode cX7_isKindOf 13 = .ok (.iload_n 0, 1) := by decide +kernel
theorem dX7_isKindOf_14 : decode cX7_isKindOf 14 = .ok (.iaload, 1) := by decide +kernel
theorem dX7_isKindOf_15 : decode cX7_isKindOf 15 = .ok (.if_icmp .ne 7, 3) := by decide +kernel
theorem dX7_isKindOf_18 : decode cX7_isKindOf 18 = .ok (.iconst 1, 1) := by decide +kernel
theorem dX7_isKindOf_19 : decode cX7_isKindOf 19 = .ok (.goto 4, 3) := by decide +kernel
theorem dX7_isKindOf_22 : decode cX7_isKindOf 22 = .ok (.iconst 0, 1) := by decide +kernel
theorem dX7_isKindOf_23 : decode cX7_isKindOf 23 = .ok (.ireturn, 1) := by decide +kernel
theorem dX7_commonDivisor_0 : decode cX7_commonDivisor 0 = .ok (.lload_n 0, 1) := by decide +kernel
theorem dX7_commonDivisor_1 : decode cX7_commonDivisor 1 = .ok (.lstore 4, 2) := by decide +kernel
theorem dX7_commonDivisor_3 : decode cX7_commonDivisor 3 = .ok (.lload_n 2, 1) := by decide +kernel
theorem dX7_commonDivisor_4 : decode cX7_commonDivisor 4 = .ok (.lstore 6, 2) := by decide +kernel
theorem dX7_commonDivisor_6 : decode cX7_commonDivisor 6 = .ok (.iconst 0, 1) := by decide +kernel
theorem dX7_commonDivisor_7 : decode cX7_commonDivisor 7 = .ok (.istore 8, 2) := by decide +kernel
theorem dX7_commonDivisor_9 : decode cX7_commonDivisor 9 = .ok (.iload 8, 2) := by decide +kernel
theorem dX7_commonDivisor_11 : decode cX7_commonDivisor 11 = .ok (.ldc_w 295, 3) := by decide +kernel
theorem dX7_commonDivisor_14 : decode cX7_commonDivisor 14 = .ok (.if_icmp .ge 31, 3) := by decide +kernel
theorem dX7_commonDivisor_17 : decode cX7_commonDivisor 17 = .ok (.lload 6, 2) := by decide +kernel
theorem dX7_commonDivisor_19 : decode cX7_commonDivisor 19 = .ok (.lconst 0, 1) := by decide +kernel
theorem dX7_commonDivisor_20 : decode cX7_commonDivisor 20 = .ok (.lcmp, 1) := by decide +kernel
theorem dX7_commonDivisor_21 : decode cX7_commonDivisor 21 = .ok (.ifCond .eq 24, 3) := by decide +kernel
theorem dX7_commonDivisor_24 : decode cX7_commonDivisor 24 = .ok (.lload 4, 2) := by decide +kernel
theorem dX7_commonDivisor_26 : decode cX7_commonDivisor 26 = .ok (.lload 6, 2) := by decide +kernel
theorem dX7_commonDivisor_28 : decode cX7_commonDivisor 28 = .ok (.lrem, 1) := by decide +kernel
theorem dX7_commonDivisor_29 : decode cX7_commonDivisor 29 = .ok (.lstore 9, 2) := by decide +kernel
theorem dX7_commonDivisor_31 : decode cX7_commonDivisor 31 = .ok (.lload 6, 2) := by decide +kernel
theorem dX7_commonDivisor_33 : decode cX7_commonDivisor 33 = .ok (.lstore 4, 2) := by decide +kernel
theorem dX7_commonDivisor_35 : decode cX7_commonDivisor 35 = .ok (.lload 9, 2) := by decide +kernel
theorem dX7_commonDivisor_37 : decode cX7_commonDivisor 37 = .ok (.lstore 6, 2) := by decide +kernel
theorem dX7_commonDivisor_39 : decode cX7_commonDivisor 39 = .ok (.iinc 8 1, 3) := by decide +kernel
theorem dX7_commonDivisor_42 : decode cX7_commonDivisor 42 = .ok (.goto (-33), 3) := by decide +kernel
theorem dX7_commonDivisor_45 : decode cX7_commonDivisor 45 = .ok (.lload 4, 2) := by decide +kernel
theorem dX7_commonDivisor_47 : decode cX7_commonDivisor 47 = .ok (.lreturn, 1) := by decide +kernel
theorem dX7_holdingFence_0 : decode cX7_holdingFence 0 = .ok (.aload_n 0, 1) := by decide +kernel
theorem dX7_holdingFence_1 : decode cX7_holdingFence 1 = .ok (.getfield 12, 3) := by decide +kernel
theorem dX7_holdingFence_4 : decode cX7_holdingFence 4 = .ok (.getfield 130, 3) := by decide +kernel
theorem dX7_holdingFence_7 : decode cX7_holdingFence 7 = .ok (.iconst 0, 1) := by decide +kernel
theorem dX7_holdingFence_8 : decode cX7_holdingFence 8 = .ok (.iconst 5, 1) := by decide +kernel
theorem dX7_holdingFence_9 : decode cX7_holdingFence 9 = .ok (.invokestatic 73, 3) := by decide +kernel
theorem dX7_holdingFence_12 : decode cX7_holdingFence 12 = .ok (.ifCond .eq 18, 3) := by decide +kernel
theorem dX7_holdingFence_15 : decode cX7_holdingFence 15 = .ok (.aload_n 0, 1) := by decide +kernel
theorem dX7_holdingFence_16 : decode cX7_holdingFence 16 = .ok (.getfield 35, 3) := by decide +kernel
theorem dX7_holdingFence_19 : decode cX7_holdingFence 19 = .ok (.aload_n 0, 1) := by decide +kernel
theorem dX7_holdingFence_20 : decode cX7_holdingFence 20 = .ok (.getfield 12, 3) := by decide +kernel
theorem dX7_holdingFence_23 : decode cX7_holdingFence 23 = .ok (.getfield 130, 3) := by decide +kernel
theorem dX7_holdingFence_26 : decode cX7_holdingFence 26 = .ok (.aaload, 1) := by decide +kernel
theorem dX7_holdingFence_27 : decode cX7_holdingFence 27 = .ok (.goto 7, 3) := by decide +kernel
theorem dX7_holdingFence_30 : decode cX7_holdingFence 30 = .ok (.aload_n 0, 1) := by decide +kernel
theorem dX7_holdingFence_31 : decode cX7_holdingFence 31 = .ok (.getfield 31, 3) := by decide +kernel
theorem dX7_holdingFence_34 : decode cX7_holdingFence 34 = .ok (.areturn, 1) := by decide +kernel
theorem dX7_look_0 : decode cX7_look 0 = .ok (.aload_n 0, 1) := by decide +kernel
theorem dX7_look_1 : decode cX7_look 1 = .ok (.getfield 42, 3) := by decide +kernel
theorem dX7_look_4 : decode cX7_look 4 = .ok (.aload_n 0, 1) := by decide +kernel
theorem dX7_look_5 : decode cX7_look 5 = .ok (.getfield 12, 3) := by decide +kernel
theorem dX7_look_8 : decode cX7_look 8 = .ok (.aload_n 0, 1) := by decide +kernel
theorem dX7_look_9 : decode cX7_look 9 = .ok (.invokevirtual 208, 3) := by decide +kernel
theorem dX7_look_12 : decode cX7_look 12 = .ok (.aload_n 0, 1) := by decide +kernel
theorem dX7_look_13 : decode cX7_look 13 = .ok (.getfield 12, 3) := by decide +kernel
theorem dX7_look_16 : decode cX7_look 16 = .ok (.getfield 110, 3) := by decide +kernel
theorem dX7_look_19 : decode cX7_look 19 = .ok (.invokevirtual 212, 3) := by decide +kernel
theorem dX7_look_22 : decode cX7_look 22 = .ok (.return_, 1) := by decide +kernel
theorem dX7_searchFitting_0 : decode cX7_searchFitting 0 = .ok (.aload_n 0, 1) := by decide +kernel
theorem dX7_searchFitting_1 : decode cX7_searchFitting 1 = .ok (.invokevirtual 95, 3) := by decide +kernel
theorem dX7_searchFitting_4 : decode cX7_searchFitting 4 = .ok (.aload_n 0, 1) := by decide +kernel
theorem dX7_searchFitting_5 : decode cX7_searchFitting 5 = .ok (.getfield 51, 3) := by decide +kernel
theorem dX7_searchFitting_8 : decode cX7_searchFitting 8 = .ok (.aload_n 0, 1) := by decide +kernel
theorem dX7_searchFitting_9 : decode cX7_searchFitting 9 = .ok (.getfield 42, 3) := by decide +kernel
theorem dX7_searchFitting_12 : decode cX7_searchFitting 12 = .ok (.getfield 133, 3) := by decide +kernel
theorem dX7_searchFitting_15 : decode cX7_searchFitting 15 = .ok (.aload_n 0, 1) := by decide +kernel
theorem dX7_searchFitting_16 : decode cX7_searchFitting 16 = .ok (.getfield 12, 3) := by decide +kernel
theorem dX7_searchFitting_19 : decode cX7_searchFitting 19 = .ok (.getfield 113, 3) := by decide +kernel
theorem dX7_searchFitting_22 : decode cX7_searchFitting 22 = .ok (.invokevirtual 180, 3) := by decide +kernel
theorem dX7_searchFitting_25 : decode cX7_searchFitting 25 = .ok (.return_, 1) := by decide +kernel
theorem dX7_wantCountsOfHerd_0 : decode cX7_wantCountsOfHerd 0 = .ok (.iconst 0, 1) := by decide +kernel
theorem dX7_wantCountsOfHerd_1 : decode cX7_wantCountsOfHerd 1 = .ok (.istore_n 1, 1) := by decide +kernel
theorem dX7_wantCountsOfHerd_2 : decode cX7_wantCountsOfHerd 2 = .ok (.iload_n 1, 1) := by decide +kernel
theorem dX7_wantCountsOfHerd_3 : decode cX7_wantCountsOfHerd 3 = .ok (.iconst 3, 1) := by decide +kernel
theorem dX7_wantCountsOfHerd_4 : decode cX7_wantCountsOfHerd 4 = .ok (.if_icmp .ge 32, 3) := by decide +kernel
theorem dX7_wantCountsOfHerd_7 : decode cX7_wantCountsOfHerd 7 = .ok (.aload_n 0, 1) := by decide +kernel
theorem dX7_wantCountsOfHerd_8 : decode cX7_wantCountsOfHerd 8 = .ok (.getfield 55, 3) := by decide +kernel
theorem dX7_wantCountsOfHerd_11 : decode cX7_wantCountsOfHerd 11 = .ok (.iload_n 1, 1) := by decide +kernel
theorem dX7_wantCountsOfHerd_12 : decode cX7_wantCountsOfHerd 12 = .ok (.aload_n 0, 1) := by decide +kernel
theorem dX7_wantCountsOfHerd_13 : decode cX7_wantCountsOfHerd 13 = .ok (.getfield 42, 3) := by decide +kernel
theorem dX7_wantCountsOfHerd_16 : decode cX7_wantCountsOfHerd 16 = .ok (.aload_n 0, 1) := by decide +kernel
theorem dX7_wantCountsOfHerd_17 : decode cX7_wantCountsOfHerd 17 = .ok (.getfield 12, 3) := by decide +kernel
theorem dX7_wantCountsOfHerd_20 : decode cX7_wantCountsOfHerd 20 = .ok (.getfield 92, 3) := by decide +kernel
theorem dX7_wantCountsOfHerd_23 : decode cX7_wantCountsOfHerd 23 = .ok (.iconst 0, 1) := by decide +kernel
theorem dX7_wantCountsOfHerd_24 : decode cX7_wantCountsOfHerd 24 = .ok (.aaload, 1) := by decide +kernel
theorem dX7_wantCountsOfHerd_25 : decode cX7_wantCountsOfHerd 25 = .ok (.iload_n 1, 1) := by decide +kernel
theorem dX7_wantCountsOfHerd_26 : decode cX7_wantCountsOfHerd 26 = .ok (.invokevirtual 144, 3) := by decide +kernel
theorem dX7_wantCountsOfHerd_29 : decode cX7_wantCountsOfHerd 29 = .ok (.iastore, 1) := by decide +kernel
theorem dX7_wantCountsOfHerd_30 : decode cX7_wantCountsOfHerd 30 = .ok (.iinc 1 1, 3) := by decide +kernel
theorem dX7_wantCountsOfHerd_33 : decode cX7_wantCountsOfHerd 33 = .ok (.goto (-31), 3) := by decide +kernel
theorem dX7_wantCountsOfHerd_36 : decode cX7_wantCountsOfHerd 36 = .ok (.return_, 1) := by decide +kernel
theorem dX8_init_0 : decode cX8_init 0 = .ok (.aload_n 0, 1) := by decide +kernel
theorem dX8_init_1 : decode cX8_init 1 = .ok (.invokespecial 1, 3) := by decide +kernel
theorem dX8_init_4 : decode cX8_init 4 = .ok (.aload_n 0, 1) := by decide +kernel
theorem dX8_init_5 : decode cX8_init 5 = .ok (.iconst 0, 1) := by decide +kernel
theorem dX8_init_6 : decode cX8_init 6 = .ok (.putfield 7, 3) := by decide +kernel
theorem dX8_init_9 : decode cX8_init 9 = .ok (.aload_n 0, 1) := by decide +kernel
theorem dX8_init_10 : decode cX8_init 10 = .ok (.iconst 0, 1) := by decide +kernel
theorem dX8_init_11 : decode cX8_init 11 = .ok (.putfield 13, 3) := by decide +kernel
theorem dX8_init_14 : decode cX8_init 14 = .ok (.aload_n 0, 1) := by decide +kernel
theorem dX8_init_15 : decode cX8_init 15 = .ok (.iconst 5, 1) := by decide +kernel
theorem dX8_init_16 : decode cX8_init 16 = .ok (.newarray .int, 2) := by decide +kernel
theorem dX8_init_18 : decode cX8_init 18 = .ok (.putfield 16, 3) := by decide +kernel
theorem dX8_init_21 : decode cX8_init 21 = .ok (.aload_n 0, 1) := by decide +kernel
theorem dX8_init_22 : decode cX8_init 22 = .ok (.iconst 5, 1) := by decide +kernel
theorem dX8_init_23 : decode cX8_init 23 = .ok (.newarray .int, 2) := by decide +kernel
theorem dX8_init_25 : decode cX8_init 25 = .ok (.putfield 20, 3) := by decide +kernel
theorem dX8_init_28 : decode cX8_init 28 = .ok (.aload_n 0, 1) := by decide +kernel
theorem dX8_init_29 : decode cX8_init 29 = .ok (.bipush 15, 2) := by decide +kernel
theorem dX8_init_31 : decode cX8_init 31 = .ok (.newarray .int, 2) := by decide +kernel
theorem dX8_init_33 : decode cX8_init 33 = .ok (.putfield 23, 3) := by decide +kernel
theorem dX8_init_36 : decode cX8_init 36 = .ok (.aload_n 0, 1) := by decide +kernel
theorem dX8_init_37 : decode cX8_init 37 = .ok (.iconst 5, 1) := by decide +kernel
theorem dX8_init_38 : decode cX8_init 38 = .ok (.newarray .int, 2) := by decide +kernel
theorem dX8_init_40 : decode cX8_init 40 = .ok (.putfield 26, 3) := by decide +kernel
theorem dX8_init_43 : decode cX8_init 43 = .ok (.aload_n 0, 1) := by decide +kernel
theorem dX8_init_44 : decode cX8_init 44 = .ok (.iconst 5, 1) := by decide +kernel
theorem dX8_init_45 : decode cX8_init 45 = .ok (.newarray .int, 2) := by decide +kernel
theorem dX8_init_47 : decode cX8_init 47 = .ok (.putfield 29, 3) := by decide +kernel
theorem dX8_init_50 : decode cX8_init 50 = .ok (.aload_n 0, 1) := by decide +kernel
theorem dX8_init_51 : decode cX8_init 51 = .ok (.iconst 5, 1) := by decide +kernel
theorem dX8_init_52 : decode cX8_init 52 = .ok (.newarray .int, 2) := by decide +kernel
theorem dX8_init_54 : decode cX8_init 54 = .ok (.putfield 32, 3) := by decide +kernel
theorem dX8_init_57 : decode cX8_init 57 = .ok (.aload_n 0, 1) := by decide +kernel
theorem dX8_init_58 : decode cX8_init 58 = .ok (.bipush 15, 2) := by decide +kernel
theorem dX8_init_60 : decode cX8_init 60 = .ok (.newarray .int, 2) := by decide +kernel
theorem dX8_init_62 : decode cX8_init 62 = .ok (.putfield 35, 3) := by decide +kernel
theorem dX8_init_65 : decode cX8_init 65 = .ok (.aload_n 0, 1) := by decide +kernel
theorem dX8_init_66 : decode cX8_init 66 = .ok (.iconst 3, 1) := by decide +kernel
theorem dX8_init_67 : decode cX8_init 67 = .ok (.newarray .int, 2) := by decide +kernel
theorem dX8_init_69 : decode cX8_init 69 = .ok (.dup, 1) := by decide +kernel
theorem dX8_init_70 : decode cX8_init 70 = .ok (.iconst 0, 1) := by decide +kernel
theorem dX8_init_71 : decode cX8_init 71 = .ok (.iconst (-1), 1) := by decide +kernel
theorem dX8_init_72 : decode cX8_init 72 = .ok (.iastore, 1) := by decide +kernel
theorem dX8_init_73 : decode cX8_init 73 = .ok (.dup, 1) := by decide +kernel
theorem dX8_init_74 : decode cX8_init 74 = .ok (.iconst 1, 1) := by decide +kernel
theorem dX8_init_75 : decode cX8_init 75 = .ok (.iconst (-1), 1) := by decide +kernel
theorem dX8_init_76 : decode cX8_init 76 = .ok (.iastore, 1) := by decide +kernel
theorem dX8_init_77 : decode cX8_init 77 = .ok (.dup, 1) := by decide +kernel
theorem dX8_init_78 : decode cX8_init 78 = .ok (.iconst 2, 1) := by decide +kernel
theorem dX8_init_79 : decode cX8_init 79 = .ok (.iconst (-1), 1) := by decide +kernel
theorem dX8_init_80 : decode cX8_init 80 = .ok (.iastore, 1) := by decide +kernel
theorem dX8_init_81 : decode cX8_init 81 = .ok (.putfield 38, 3) := by decide +kernel
theorem dX8_init_84 : decode cX8_init 84 = .ok (.aload_n 0, 1) := by decide +kernel
theorem dX8_init_85 : decode cX8_init 85 = .ok (.iconst 0, 1) := by decide +kernel
theorem dX8_init_86 : decode cX8_init 86 = .ok (.putfield 41, 3) := by decide +kernel
theorem dX8_init_89 : decode cX8_init 89 = .ok (.aload_n 0, 1) := by decide +kernel
theorem dX8_init_90 : decode cX8_init 90 = .ok (.iconst (-1), 1) := by decide +kernel
theorem dX8_init_91 : decode cX8_init 91 = .ok (.putfield 44, 3) := by decide +kernel
theorem dX8_init_94 : decode cX8_init 94 = .ok (.aload_n 0, 1) := by decide +kernel
theorem dX8_init_95 : decode cX8_init 95 = .ok (.iconst 0, 1) := by decide +kernel
theorem dX8_init_96 : decode cX8_init 96 = .ok (.putfield 47, 3) := by decide +kernel
theorem dX8_init_99 : decode cX8_init 99 = .ok (.aload_n 0, 1) := by decide +kernel
theorem dX8_init_100 : decode cX8_init 100 = .ok (.iconst 0, 1) := by decide +kernel
theorem dX8_init_101 : decode cX8_init 101 = .ok (.putfield 50, 3) := by decide +kernel
theorem dX8_init_104 : decode cX8_init 104 = .ok (.aload_n 0, 1) := by decide +kernel
theorem dX8_init_105 : decode cX8_init 105 = .ok (.iconst 0, 1) := by decide +kernel
theorem dX8_init_106 : decode cX8_init 106 = .ok (.putfield 53, 3) := by decide +kernel
theorem dX8_init_109 : decode cX8_init 109 = .ok (.aload_n 0, 1) := by decide +kernel
theorem dX8_init_110 : decode cX8_init 110 = .ok (.bipush 100, 2) := by decide +kernel
theorem dX8_init_112 : decode cX8_init 112 = .ok (.newarray .int, 2) := by decide +kernel
theorem dX8_init_114 : decode cX8_init 114 = .ok (.putfield 56, 3) := by decide +kernel
theorem dX8_init_117 : decode cX8_init 117 = .ok (.aload_n 0, 1) := by decide +kernel
theorem dX8_init_118 : decode cX8_init 118 = .ok (.bipush 6, 2) := by decide +kernel
theorem dX8_init_120 : decode cX8_init 120 = .ok (.newarray .int, 2) := by decide +kernel
theorem dX8_init_122 : decode cX8_init 122 = .ok (.putfield 59, 3) := by decide +kernel
theorem dX8_init_125 : decode cX8_init 125 = .ok (.aload_n 0, 1) := by decide +kernel
theorem dX8_init_126 : decode cX8_init 126 = .ok (.bipush 60, 2) := by decide +kernel
theorem dX8_init_128 : decode cX8_init 128 = .ok (.newarray .int, 2) := by decide +kernel
theorem dX8_init_130 : decode cX8_init 130 = .ok (.putfield 62, 3) := by decide +kernel
theorem dX8_init_133 : decode cX8_init 133 = .ok (.aload_n 0, 1) := by decide +kernel
theorem dX8_init_134 : decode cX8_init 134 = .ok (.bipush 60, 2) := by decide +kernel
theorem dX8_init_136 : decode cX8_init 136 = .ok (.newarray .int, 2) := by decide +kernel
theorem dX8_init_138 : decode cX8_init 138 = .ok (.putfield 65, 3) := by decide +kernel
theorem dX8_init_141 : decode cX8_init 141 = .ok (.aload_n 0, 1) := by decide +kernel
theorem dX8_init_142 : decode cX8_init 142 = .ok (.bipush 60, 2) := by decide +kernel
theorem dX8_init_144 : decode cX8_init 144 = .ok (.newarray .int, 2) := by decide +kernel
theorem dX8_init_146 : decode cX8_init 146 = .ok (.putfield 68, 3) := by decide +kernel
theorem dX8_init_149 : decode cX8_init 149 = .ok (.aload_n 0, 1) := by decide +kernel
theorem dX8_init_150 : decode cX8_init 150 = .ok (.bipush 60, 2) := by decide +kernel
theorem dX8_init_152 : decode cX8_init 152 = .ok (.newarray .int, 2) := by decide +kernel
theorem dX8_init_154 : decode cX8_init 154 = .ok (.putfield 71, 3) := by decide +kernel
theorem dX8_init_157 : decode cX8_init 157 = .ok (.aload_n 0, 1) := by decide +kernel
theorem dX8_init_158 : decode cX8_init 158 = .ok (.sipush 600, 3) := by decide +kernel
theorem dX8_init_161 : decode cX8_init 161 = .ok (.newarray .int, 2) := by decide +kernel
theorem dX8_init_163 : decode cX8_init 163 = .ok (.putfield 74, 3) := by decide +kernel
theorem dX8_init_166 : decode cX8_init 166 = .ok (.aload_n 0, 1) := by decide +kernel
theorem dX8_init_167 : decode cX8_init 167 = .ok (.bipush 101, 2) := by decide +kernel
theorem dX8_init_169 : decode cX8_init 169 = .ok (.newarray .int, 2) := by decide +kernel
theorem dX8_init_171 : decode cX8_init 171 = .ok (.putfield 77, 3) := by decide +kernel
theorem dX8_init_174 : decode cX8_init 174 = .ok (.aload_n 0, 1) := by decide +kernel
theorem dX8_init_175 : decode cX8_init 175 = .ok (.iconst 0, 1) := by decide +kernel
theorem dX8_init_176 : decode cX8_init 176 = .ok (.putfield 80, 3) := by decide +kernel
theorem dX8_init_179 : decode cX8_init 179 = .ok (.aload_n 0, 1) := by decide +kernel
theorem dX8_init_180 : decode cX8_init 180 = .ok (.iconst 0, 1) := by decide +kernel
theorem dX8_init_181 : decode cX8_init 181 = .ok (.putfield 83, 3) := by decide +kernel
theorem dX8_init_184 : decode cX8_init 184 = .ok (.aload_n 0, 1) := by decide +kernel
theorem dX8_init_185 : decode cX8_init 185 = .ok (.iconst 0, 1) := by decide +kernel
theorem dX8_init_186 : decode cX8_init 186 = .ok (.putfield 86, 3) := by decide +kernel
theorem dX8_init_189 : decode cX8_init 189 = .ok (.aload_n 0, 1) := by decide +kernel
theorem dX8_init_190 : decode cX8_init 190 = .ok (.bipush 10, 2) := by decide +kernel
theorem dX8_init_192 : decode cX8_init 192 = .ok (.newarray .int, 2) := by decide +kernel
theorem dX8_init_194 : decode cX8_init 194 = .ok (.dup, 1) := by decide +kernel
theorem dX8_init_195 : decode cX8_init 195 = .ok (.iconst 0, 1) := by decide +kernel
theorem dX8_init_196 : decode cX8_init 196 = .ok (.bipush 111, 2) := by decide +kernel
theorem dX8_init_198 : decode cX8_init 198 = .ok (.iastore, 1) := by decide +kernel
theorem dX8_init_199 : decode cX8_init 199 = .ok (.dup, 1) := by decide +kernel
theorem dX8_init_200 : decode cX8_init 200 = .ok (.iconst 1, 1) := by decide +kernel
theorem dX8_init_201 : decode cX8_init 201 = .ok (.bipush 119, 2) := by decide +kernel
theorem dX8_init_203 : decode cX8_init 203 = .ok (.iastore, 1) := by decide +kernel
theorem dX8_init_204 : decode cX8_init 204 = .ok (.dup, 1) := by decide +kernel
theorem dX8_init_205 : decode cX8_init 205 = .ok (.iconst 2, 1) := by decide +kernel
theorem dX8_init_206 : decode cX8_init 206 = .ok (.bipush 101, 2) := by decide +kernel
theorem dX8_init_208 : decode cX8_init 208 = .ok (.iastore, 1) := by decide +kernel
theorem dX8_init_209 : decode cX8_init 209 = .ok (.dup, 1) := by decide +kernel
theorem dX8_init_210 : decode cX8_init 210 = .ok (.iconst 3, 1) := by decide +kernel
theorem dX8_init_211 : decode cX8_init 211 = .ok (.bipush 115, 2) := by decide +kernel
theorem dX8_init_213 : decode cX8_init 213 = .ok (.iastore, 1) := by decide +kernel
theorem dX8_init_214 : decode cX8_init 214 = .ok (.dup, 1) := by decide +kernel
theorem dX8_init_215 : decode cX8_init 215 = .ok (.iconst 4, 1) := by decide +kernel
theorem dX8_init_216 : decode cX8_init 216 = .ok (.bipush 101, 2) := by decide +kernel
theorem dX8_init_218 : decode cX8_init 218 = .ok (.iastore, 1) := by decide +kernel
theorem dX8_init_219 : decode cX8_init 219 = .ok (.dup, 1) := by decide +kernel
theorem dX8_init_220 : decode cX8_init 220 = .ok (.iconst 5, 1) := by decide +kernel
theorem dX8_init_221 : decode cX8_init 221 = .ok (.bipush 101, 2) := by decide +kernel
theorem dX8_init_223 : decode cX8_init 223 = .ok (.iastore, 1) := by decide +kernel
theorem dX8_init_224 : decode cX8_init 224 = .ok (.dup, 1) := by decide +kernel
theorem dX8_init_225 : decode cX8_init 225 = .ok (.bipush 6, 2) := by decide +kernel
theorem dX8_init_227 : decode cX8_init 227 = .ok (.bipush 109, 2) := by decide +kernel
theorem dX8_init_229 : decode cX8_init 229 = .ok (.iastore, 1) := by decide +kernel
theorem dX8_init_230 : decode cX8_init 230 = .ok (.dup, 1) := by decide +kernel
theorem dX8_init_231 : decode cX8_init 231 = .ok (.bipush 7, 2) := by decide +kernel
theorem dX8_init_233 : decode cX8_init 233 = .ok (.bipush 111, 2) := by decide +kernel
theorem dX8_init_235 : decode cX8_init 235 = .ok (.iastore, 1) := by decide +kernel
theorem dX8_init_236 : decode cX8_init 236 = .ok (.dup, 1) := by decide +kernel
theorem dX8_init_237 : decode cX8_init 237 = .ok (.bipush 8, 2) := by decide +kernel
theorem dX8_init_239 : decode cX8_init 239 = .ok (.bipush 115, 2) := by decide +kernel
theorem dX8_init_241 : decode cX8_init 241 = .ok (.iastore, 1) := by decide +kernel
theorem dX8_init_242 : decode cX8_init 242 = .ok (.dup, 1) := by decide +kernel
theorem dX8_init_243 : decode cX8_init 243 = .ok (.bipush 9, 2) := by decide +kernel
theorem dX8_init_245 : decode cX8_init 245 = .ok (.bipush 116, 2) := by decide +kernel
theorem dX8_init_247 : decode cX8_init 247 = .ok (.iastore, 1) := by decide +kernel
theorem dX8_init_248 : decode cX8_init 248 = .ok (.putfield 89, 3) := by decide +kernel
theorem dX8_init_251 : decode cX8_init 251 = .ok (.aload_n 0, 1) := by decide +kernel
theorem dX8_init_252 : decode cX8_init 252 = .ok (.bipush 100, 2) := by decide +kernel
theorem dX8_init_254 : decode cX8_init 254 = .ok (.newarray .boolean, 2) := by decide +kernel
theorem dX8_init_256 : decode cX8_init 256 = .ok (.putfield 92, 3) := by decide +kernel
theorem dX8_init_259 : decode cX8_init 259 = .ok (.aload_n 0, 1) := by decide +kernel
theorem dX8_init_260 : decode cX8_init 260 = .ok (.bipush 15, 2) := by decide +kernel
theorem dX8_init_262 : decode cX8_init 262 = .ok (.newarray .int, 2) := by decide +kernel
theorem dX8_init_264 : decode cX8_init 264 = .ok (.putfield 96, 3) := by decide +kernel
theorem dX8_init_267 : decode cX8_init 267 = .ok (.aload_n 0, 1) := by decide +kernel
theorem dX8_init_268 : decode cX8_init 268 = .ok (.iconst 5, 1) := by decide +kernel
theorem dX8_init_269 : decode cX8_init 269 = .ok (.newarray .int, 2) := by decide +kernel
theorem dX8_init_271 : decode cX8_init 271 = .ok (.putfield 99, 3) := by decide +kernel
theorem dX8_init_274 : decode cX8_init 274 = .ok (.aload_n 0, 1) := by decide +kernel
theorem dX8_init_275 : decode cX8_init 275 = .ok (.iconst 5, 1) := by decide +kernel
theorem dX8_init_276 : decode cX8_init 276 = .ok (.newarray .int, 2) := by decide +kernel
theorem dX8_init_278 : decode cX8_init 278 = .ok (.putfield 102, 3) := by decide +kernel
theorem dX8_init_281 : decode cX8_init 281 = .ok (.aload_n 0, 1) := by decide +kernel
theorem dX8_init_282 : decode cX8_init 282 = .ok (.iconst 5, 1) := by decide +kernel
theorem dX8_init_283 : decode cX8_init 283 = .ok (.newarray .int, 2) := by decide +kernel
theorem dX8_init_285 : decode cX8_init 285 = .ok (.putfield 105, 3) := by decide +kernel
theorem dX8_init_288 : decode cX8_init 288 = .ok (.aload_n 0, 1) := by decide +kernel
theorem dX8_init_289 : decode cX8_init 289 = .ok (.iconst 5, 1) := by decide +kernel
theorem dX8_init_290 : decode cX8_init 290 = .ok (.newarray .int, 2) := by decide +kernel
theorem dX8_init_292 : decode cX8_init 292 = .ok (.putfield 108, 3) := by decide +kernel
theorem dX8_init_295 : decode cX8_init 295 = .ok (.aload_n 0, 1) := by decide +kernel
theorem dX8_init_296 : decode cX8_init 296 = .ok (.iconst 0, 1) := by decide +kernel
theorem dX8_init_297 : decode cX8_init 297 = .ok (.putfield 111, 3) := by decide +kernel
theorem dX8_init_300 : decode cX8_init 300 = .ok (.aload_n 0, 1) := by decide +kernel
theorem dX8_init_301 : decode cX8_init 301 = .ok (.iconst 0, 1) := by decide +kernel
theorem dX8_init_302 : decode cX8_init 302 = .ok (.putfield 114, 3) := by decide +kernel
theorem dX8_init_305 : decode cX8_init 305 = .ok (.aload_n 0, 1) := by decide +kernel
theorem dX8_init_306 : decode cX8_init 306 = .ok (.iconst 0, 1) := by decide +kernel
theorem dX8_init_307 : decode cX8_init 307 = .ok (.putfield 117, 3) := by decide +kernel
theorem dX8_init_310 : decode cX8_init 310 = .ok (.aload_n 0, 1) := by decide +kernel
theorem dX8_init_311 : decode cX8_init 311 = .ok (.iconst 0, 1) := by decide +kernel
theorem dX8_init_312 : decode cX8_init 312 = .ok (.putfield 120, 3) := by decide +kernel
theorem dX8_init_315 : decode cX8_init 315 = .ok (.aload_n 0, 1) := by decide +kernel
theorem dX8_init_316 : decode cX8_init 316 = .ok (.iconst 3, 1) := by decide +kernel
theorem dX8_init_317 : decode cX8_init 317 = .ok (.newarray .int, 2) := by decide +kernel
theorem dX8_init_319 : decode cX8_init 319 = .ok (.putfield 123, 3) := by decide +kernel
theorem dX8_init_322 : decode cX8_init 322 = .ok (.aload_n 0, 1) := by decide +kernel
theorem dX8_init_323 : decode cX8_init 323 = .ok (.iconst 0, 1) := by decide +kernel
theorem dX8_init_324 : decode cX8_init 324 = .ok (.putfield 126, 3) := by decide +kernel
theorem dX8_init_327 : decode cX8_init 327 = .ok (.aload_n 0, 1) := by decide +kernel
theorem dX8_init_328 : decode cX8_init 328 = .ok (.bipush 12, 2) := by decide +kernel
theorem dX8_init_330 : decode cX8_init 330 = .ok (.newarray .int, 2) := by decide +kernel
theorem dX8_init_332 : decode cX8_init 332 = .ok (.putfield 129, 3) := by decide +kernel
theorem dX8_init_335 : decode cX8_init 335 = .ok (.aload_n 0, 1) := by decide +kernel
theorem dX8_init_336 : decode cX8_init 336 = .ok (.bipush 12, 2) := by decide +kernel
theorem dX8_init_338 : decode cX8_init 338 = .ok (.newarray .int, 2) := by decide +kernel
theorem dX8_init_340 : decode cX8_init 340 = .ok (.putfield 132, 3) := by decide +kernel
theorem dX8_init_343 : decode cX8_init 343 = .ok (.aload_n 0, 1) := by decide +kernel
theorem dX8_init_344 : decode cX8_init 344 = .ok (.iconst 0, 1) := by decide +kernel
theorem dX8_init_345 : decode cX8_init 345 = .ok (.putfield 135, 3) := by decide +kernel
theorem dX8_init_348 : decode cX8_init 348 = .ok (.aload_n 0, 1) := by decide +kernel
theorem dX8_init_349 : decode cX8_init 349 = .ok (.iconst (-1), 1) := by decide +kernel
theorem dX8_init_350 : decode cX8_init 350 = .ok (.putfield 139, 3) := by decide +kernel
theorem dX8_init_353 : decode cX8_init 353 = .ok (.aload_n 0, 1) := by decide +kernel
theorem dX8_init_354 : decode cX8_init 354 = .ok (.iconst 0, 1) := by decide +kernel
theorem dX8_init_355 : decode cX8_init 355 = .ok (.putfield 142, 3) := by decide +kernel
theorem dX8_init_358 : decode cX8_init 358 = .ok (.aload_n 0, 1) := by decide +kernel
theorem dX8_init_359 : decode cX8_init 359 = .ok (.iconst 0, 1) := by decide +kernel
theorem dX8_init_360 : decode cX8_init 360 = .ok (.putfield 145, 3) := by decide +kernel
theorem dX8_init_363 : decode cX8_init 363 = .ok (.aload_n 0, 1) := by decide +kernel
theorem dX8_init_364 : decode cX8_init 364 = .ok (.iconst 0, 1) := by decide +kernel
theorem dX8_init_365 : decode cX8_init 365 = .ok (.putfield 148, 3) := by decide +kernel
theorem dX8_init_368 : decode cX8_init 368 = .ok (.aload_n 0, 1) := by decide +kernel
theorem dX8_init_369 : decode cX8_init 369 = .ok (.iconst 5, 1) := by decide +kernel
theorem dX8_init_370 : decode cX8_init 370 = .ok (.newarray .int, 2) := by decide +kernel
theorem dX8_init_372 : decode cX8_init 372 = .ok (.putfield 151, 3) := by decide +kernel
theorem dX8_init_375 : decode cX8_init 375 = .ok (.aload_n 0, 1) := by decide +kernel
theorem dX8_init_376 : decode cX8_init 376 = .ok (.iconst 5, 1) := by decide +kernel
theorem dX8_init_377 : decode cX8_init 377 = .ok (.newarray .int, 2) := by decide +kernel
theorem dX8_init_379 : decode cX8_init 379 = .ok (.putfield 154, 3) := by decide +kernel
theorem dX8_init_382 : decode cX8_init 382 = .ok (.aload_n 0, 1) := by decide +kernel
theorem dX8_init_383 : decode cX8_init 383 = .ok (.bipush 15, 2) := by decide +kernel
theorem dX8_init_385 : decode cX8_init 385 = .ok (.newarray .int, 2) := by decide +kernel
theorem dX8_init_387 : decode cX8_init 387 = .ok (.putfield 157, 3) := by decide +kernel
theorem dX8_init_390 : decode cX8_init 390 = .ok (.aload_n 0, 1) := by decide +kernel
theorem dX8_init_391 : decode cX8_init 391 = .ok (.iconst 5, 1) := by decide +kernel
theorem dX8_init_392 : decode cX8_init 392 = .ok (.newarray .int, 2) := by decide +kernel
theorem dX8_init_394 : decode cX8_init 394 = .ok (.putfield 160, 3) := by decide +kernel
theorem dX8_init_397 : decode cX8_init 397 = .ok (.aload_n 0, 1) := by decide +kernel
theorem dX8_init_398 : decode cX8_init 398 = .ok (.iconst 5, 1) := by decide +kernel
theorem dX8_init_399 : decode cX8_init 399 = .ok (.newarray .int, 2) := by decide +kernel
theorem dX8_init_401 : decode cX8_init 401 = .ok (.putfield 163, 3) := by decide +kernel
theorem dX8_init_404 : decode cX8_init 404 = .ok (.aload_n 0, 1) := by decide +kernel
theorem dX8_init_405 : decode cX8_init 405 = .ok (.iconst 5, 1) := by decide +kernel
theorem dX8_init_406 : decode cX8_init 406 = .ok (.newarray .int, 2) := by decide +kernel
theorem dX8_init_408 : decode cX8_init 408 = .ok (.putfield 166, 3) := by decide +kernel
theorem dX8_init_411 : decode cX8_init 411 = .ok (.aload_n 0, 1) := by decide +kernel
theorem dX8_init_412 : decode cX8_init 412 = .ok (.bipush 15, 2) := by decide +kernel
theorem dX8_init_414 : decode cX8_init 414 = .ok (.newarray .int, 2) := by decide +kernel
theorem dX8_init_416 : decode cX8_init 416 = .ok (.putfield 169, 3) := by decide +kernel
theorem dX8_init_419 : decode cX8_init 419 = .ok (.aload_n 0, 1) := by decide +kernel
theorem dX8_init_420 : decode cX8_init 420 = .ok (.iconst 3, 1) := by decide +kernel
theorem dX8_init_421 : decode cX8_init 421 = .ok (.newarray .int, 2) := by decide +kernel
theorem dX8_init_423 : decode cX8_init 423 = .ok (.putfield 172, 3) := by decide +kernel
theorem dX8_init_426 : decode cX8_init 426 = .ok (.aload_n 0, 1) := by decide +kernel
theorem dX8_init_427 : decode cX8_init 427 = .ok (.bipush 12, 2) := by decide +kernel
theorem dX8_init_429 : decode cX8_init 429 = .ok (.newarray .int, 2) := by decide +kernel
theorem dX8_init_431 : decode cX8_init 431 = .ok (.putfield 175, 3) := by decide +kernel
theorem dX8_init_434 : decode cX8_init 434 = .ok (.aload_n 0, 1) := by decide +kernel
theorem dX8_init_435 : decode cX8_init 435 = .ok (.bipush 12, 2) := by decide +kernel
theorem dX8_init_437 : decode cX8_init 437 = .ok (.newarray .int, 2) := by decide +kernel
theorem dX8_init_439 : decode cX8_init 439 = .ok (.putfield 178, 3) := by decide +kernel
theorem dX8_init_442 : decode cX8_init 442 = .ok (.aload_n 0, 1) := by decide +kernel
theorem dX8_init_443 : decode cX8_init 443 = .ok (.iconst 0, 1) := by decide +kernel
theorem dX8_init_444 : decode cX8_init 444 = .ok (.putfield 181, 3) := by decide +kernel
theorem dX8_init_447 : decode cX8_init 447 = .ok (.aload_n 0, 1) := by decide +kernel
theorem dX8_init_448 : decode cX8_init 448 = .ok (.bipush 20, 2) := by decide +kernel
theorem dX8_init_450 : decode cX8_init 450 = .ok (.newarray .int, 2) := by decide +kernel
theorem dX8_init_452 : decode cX8_init 452 = .ok (.putfield 184, 3) := by decide +kernel
theorem dX8_init_455 : decode cX8_init 455 = .ok (.aload_n 0, 1) := by decide +kernel
theorem dX8_init_456 : decode cX8_init 456 = .ok (.bipush 6, 2) := by decide +kernel
theorem dX8_init_458 : decode cX8_init 458 = .ok (.newarray .int, 2) := by decide +kernel
theorem dX8_init_460 : decode cX8_init 460 = .ok (.dup, 1) := by decide +kernel
theorem dX8_init_461 : decode cX8_init 461 = .ok (.iconst 0, 1) := by decide +kernel
theorem dX8_init_462 : decode cX8_init 462 = .ok (.iconst (-1), 1) := by decide +kernel
theorem dX8_init_463 : decode cX8_init 463 = .ok (.iastore, 1) := by decide +kernel
theorem dX8_init_464 : decode cX8_init 464 = .ok (.dup, 1) := by decide +kernel
theorem dX8_init_465 : decode cX8_init 465 = .ok (.iconst 1, 1) := by decide +kernel
theorem dX8_init_466 : decode cX8_init 466 = .ok (.iconst (-1), 1) := by decide +kernel
theorem dX8_init_467 : decode cX8_init 467 = .ok (.iastore, 1) := by decide +kernel
theorem dX8_init_468 : decode cX8_init 468 = .ok (.dup, 1) := by decide +kernel
theorem dX8_init_469 : decode cX8_init 469 = .ok (.iconst 2, 1) := by decide +kernel
theorem dX8_init_470 : decode cX8_init 470 = .ok (.iconst (-1), 1) := by decide +kernel
theorem dX8_init_471 : decode cX8_init 471 = .ok (.iastore, 1) := by decide +kernel
theorem dX8_init_472 : decode cX8_init 472 = .ok (.dup, 1) := by decide +kernel
theorem dX8_init_473 : decode cX8_init 473 = .ok (.iconst 3, 1) := by decide +kernel
theorem dX8_init_474 : decode cX8_init 474 = .ok (.iconst (-1), 1) := by decide +kernel
theorem dX8_init_475 : decode cX8_init 475 = .ok (.iastore, 1) := by decide +kernel
theorem dX8_init_476 : decode cX8_init 476 = .ok (.dup, 1) := by decide +kernel
theorem dX8_init_477 : decode cX8_init 477 = .ok (.iconst 4, 1) := by decide +kernel
theorem dX8_init_478 : decode cX8_init 478 = .ok (.iconst (-1), 1) := by decide +kernel
theorem dX8_init_479 : decode cX8_init 479 = .ok (.iastore, 1) := by decide +kernel
theorem dX8_init_480 : decode cX8_init 480 = .ok (.dup, 1) := by decide +kernel
theorem dX8_init_481 : decode cX8_init 481 = .ok (.iconst 5, 1) := by decide +kernel
theorem dX8_init_482 : decode cX8_init 482 = .ok (.iconst (-1), 1) := by decide +kernel
theorem dX8_init_483 : decode cX8_init 483 = .ok (.iastore, 1) := by decide +kernel
theorem dX8_init_484 : decode cX8_init 484 = .ok (.putfield 187, 3) := by decide +kernel
theorem dX8_init_487 : decode cX8_init 487 = .ok (.aload_n 0, 1) := by decide +kernel
theorem dX8_init_488 : decode cX8_init 488 = .ok (.bipush 6, 2) := by decide +kernel
theorem dX8_init_490 : decode cX8_init 490 = .ok (.newarray .int, 2) := by decide +kernel
theorem dX8_init_492 : decode cX8_init 492 = .ok (.putfield 190, 3) := by decide +kernel
theorem dX8_init_495 : decode cX8_init 495 = .ok (.aload_n 0, 1) := by decide +kernel
theorem dX8_init_496 : decode cX8_init 496 = .ok (.sipush 360, 3) := by decide +kernel
theorem dX8_init_499 : decode cX8_init 499 = .ok (.newarray .long, 2) := by decide +kernel
theorem dX8_init_501 : decode cX8_init 501 = .ok (.putfield 193, 3) := by decide +kernel
theorem dX8_init_504 : decode cX8_init 504 = .ok (.aload_n 0, 1) := by decide +kernel
theorem dX8_init_505 : decode cX8_init 505 = .ok (.bipush 60, 2) := by decide +kernel
theorem dX8_init_507 : decode cX8_init 507 = .ok (.newarray .long, 2) := by decide +kernel
theorem dX8_init_509 : decode cX8_init 509 = .ok (.putfield 197, 3) := by decide +kernel
theorem dX8_init_512 : decode cX8_init 512 = .ok (.return_, 1) := by decide +kernel
theorem dX8_in_0 : decode cX8_in 0 = .ok (.iload_n 1, 1) := by decide +kernel
theorem dX8_in_1 : decode cX8_in 1 = .ok (.iload_n 2, 1) := by decide +kernel
theorem dX8_in_2 : decode cX8_in 2 = .ok (.if_icmp .lt 12, 3) := by decide +kernel
theorem dX8_in_5 : decode cX8_in 5 = .ok (.iload_n 1, 1) := by decide +kernel
theorem dX8_in_6 : decode cX8_in 6 = .ok (.iload_n 3, 1) := by decide +kernel
theorem dX8_in_7 : decode cX8_in 7 = .ok (.if_icmp .gt 7, 3) := by decide +kernel
theorem dX8_in_10 : decode cX8_in 10 = .ok (.iconst 1, 1) := by decide +kernel
theorem dX8_in_11 : decode cX8_in 11 = .ok (.goto 4, 3) := by decide +kernel
theorem dX8_in_14 : decode cX8_in 14 = .ok (.iconst 0, 1) := by decide +kernel
theorem dX8_in_15 : decode cX8_in 15 = .ok (.ireturn, 1) := by decide +kernel
theorem dX8_isSort_0 : decode cX8_isSort 0 = .ok (.aload_n 0, 1) := by decide +kernel
theorem dX8_isSort_1 : decode cX8_isSort 1 = .ok (.iload_n 1, 1) := by decide +kernel
theorem dX8_isSort_2 : decode cX8_isSort 2 = .ok (.iconst 0, 1) := by decide +kernel
theorem dX8_isSort_3 : decode cX8_isSort 3 = .ok (.aload_n 0, 1) := by decide +kernel
theorem dX8_isSort_4 : decode cX8_isSort 4 = .ok (.getfield 7, 3) := by decide +kernel
theorem dX8_isSort_7 : decode cX8_isSort 7 = .ok (.iconst 1, 1) := by decide +kernel
theorem dX8_isSort_8 : decode cX8_isSort 8 = .ok (.isub, 1) := by decide +kernel
theorem dX8_isSort_9 : decode cX8_isSort 9 = .ok (.invokevirtual 200, 3) := by decide +kernel
theorem dX8_isSort_12 : decode cX8_isSort 12 = .ok (.ireturn, 1) := by decide +kernel
theorem dX8_isDigit9_0 : decode cX8_isDigit9 0 = .ok (.aload_n 0, 1) := by decide +kernel
theorem dX8_isDigit9_1 : decode cX8_isDigit9 1 = .ok (.iload_n 1, 1) := by decide +kernel
theorem dX8_isDigit9_2 : decode cX8_isDigit9 2 = .ok (.iconst 0, 1) := by decide +kernel
theorem dX8_isDigit9_3 : decode cX8_isDigit9 3 = .ok (.bipush 9, 2) := by decide +kernel
theorem dX8_isDigit9_5 : decode cX8_isDigit9 5 = .ok (.invokevirtual 200, 3) := by decide +kernel
theorem dX8_isDigit9_8 : decode cX8_isDigit9 8 = .ok (.ireturn, 1) := by decide +kernel
theorem dX8_sort_0 : decode cX8_sort 0 = .ok (.aload_n 0, 1) := by decide +kernel
theorem dX8_sort_1 : decode cX8_sort 1 = .ok (.iload_n 1, 1) := by decide +kernel
theorem dX8_sort_2 : decode cX8_sort 2 = .ok (.iconst 0, 1) := by decide +kernel
theorem dX8_sort_3 : decode cX8_sort 3 = .ok (.bipush 6, 2) := by decide +kernel
theorem dX8_sort_5 : decode cX8_sort 5 = .ok (.invokevirtual 200, 3) := by decide +kernel
theorem dX8_sort_8 : decode cX8_sort 8 = .ok (.ifCond .ne 5, 3) := by decide +kernel
theorem dX8_sort_11 : decode cX8_sort 11 = .ok (.iconst (-1), 1) := by decide +kernel
theorem dX8_sort_12 : decode cX8_sort 12 = .ok (.ireturn, 1) := by decide +kernel
theorem dX8_sort_13 : decode cX8_sort 13 = .ok (.aload_n 0, 1) := by decide +kernel
theorem dX8_sort_14 : decode cX8_sort 14 = .ok (.iload_n 2, 1) := by decide +kernel
theorem dX8_sort_15 : decode cX8_sort 15 = .ok (.invokevirtual 204, 3) := by decide +kernel
theorem dX8_sort_18 : decode cX8_sort 18 = .ok (.ifCond .eq 41, 3) := by decide +kernel
theorem dX8_sort_21 : decode cX8_sort 21 = .ok (.aload_n 0, 1) := by decide +kernel
theorem dX8_sort_22 : decode cX8_sort 22 = .ok (.iload_n 3, 1) := by decide +kernel
theorem dX8_sort_23 : decode cX8_sort 23 = .ok (.invokevirtual 204, 3) := by decide +kernel
theorem dX8_sort_26 : decode cX8_sort 26 = .ok (.ifCond .eq 33, 3) := by decide +kernel
theorem dX8_sort_29 : decode cX8_sort 29 = .ok (.aload_n 0, 1) := by decide +kernel
theorem dX8_sort_30 : decode cX8_sort 30 = .ok (.iload 4, 2) := by decide +kernel
theorem dX8_sort_32 : decode cX8_sort 32 = .ok (.invokevirtual 204, 3) := by decide +kernel
theorem dX8_sort_35 : decode cX8_sort 35 = .ok (.ifCond .eq 24, 3) := by decide +kernel
theorem dX8_sort_38 : decode cX8_sort 38 = .ok (.aload_n 0, 1) := by decide +kernel
theorem dX8_sort_39 : decode cX8_sort 39 = .ok (.iload 5, 2) := by decide +kernel
theorem dX8_sort_41 : decode cX8_sort 41 = .ok (.invokevirtual 204, 3) := by decide +kernel
theorem dX8_sort_44 : decode cX8_sort 44 = .ok (.ifCond .eq 15, 3) := by decide +kernel
theorem dX8_sort_47 : decode cX8_sort 47 = .ok (.aload_n 0, 1) := by decide +kernel
theorem dX8_sort_48 : decode cX8_sort 48 = .ok (.iload 6, 2) := by decide +kernel
theorem dX8_sort_50 : decode cX8_sort 50 = .ok (.iconst 0, 1) := by decide +kernel
theorem dX8_sort_51 : decode cX8_sort 51 = .ok (.bipush 99, 2) := by decide +kernel
theorem dX8_sort_53 : decode cX8_sort 53 = .ok (.invokevirtual 200, 3) := by decide +kernel
theorem dX8_sort_56 : decode cX8_sort 56 = .ok (.ifCond .ne 6, 3) := by decide +kernel
theorem dX8_sort_59 : decode cX8_sort 59 = .ok (.bipush (-2), 2) := by decide +kernel
theorem dX8_sort_61 : decode cX8_sort 61 = .ok (.ireturn, 1) := by decide +kernel
theorem dX8_sort_62 : decode cX8_sort 62 = .ok (.aload_n 0, 1) := by decide +kernel
theorem dX8_sort_63 : decode cX8_sort 63 = .ok (.getfield 7, 3) := by decide +kernel
theorem dX8_sort_66 : decode cX8_sort 66 = .ok (.iconst 5, 1) := by decide +kernel
theorem dX8_sort_67 : decode cX8_sort 67 = .ok (.if_icmp .ne 6, 3) := by decide +kernel
theorem dX8_sort_70 : decode cX8_sort 70 = .ok (.bipush (-4), 2) := by decide +kernel
theorem dX8_sort_72 : decode cX8_sort 72 = .ok (.ireturn, 1) := by decide +kernel
theorem dX8_sort_73 : decode cX8_sort 73 = .ok (.aload_n 0, 1) := by decide +kernel
theorem dX8_sort_74 : decode cX8_sort 74 = .ok (.getfield 16, 3) := by decide +kernel
theorem dX8_sort_77 : decode cX8_sort 77 = .ok (.aload_n 0, 1) := by decide +kernel
theorem dX8_sort_78 : decode cX8_sort 78 = .ok (.getfield 7, 3) := by decide +kernel
theorem dX8_sort_81 : decode cX8_sort 81 = .ok (.iload_n 1, 1) := by decide +kernel
theorem dX8_sort_82 : decode cX8_sort 82 = .ok (.iastore, 1) := by decide +kernel
theorem dX8_sort_83 : decode cX8_sort 83 = .ok (.aload_n 0, 1) := by decide +kernel
theorem dX8_sort_84 : decode cX8_sort 84 = .ok (.getfield 20, 3) := by decide +kernel
theorem dX8_sort_87 : decode cX8_sort 87 = .ok (.aload_n 0, 1) := by decide +kernel
theorem dX8_sort_88 : decode cX8_sort 88 = .ok (.getfield 7, 3) := by decide +kernel
theorem dX8_sort_91 : decode cX8_sort 91 = .ok (.iload_n 2, 1) := by decide +kernel
theorem dX8_sort_92 : decode cX8_sort 92 = .ok (.iastore, 1) := by decide +kernel
theorem dX8_sort_93 : decode cX8_sort 93 = .ok (.aload_n 0, 1) := by decide +kernel
theorem dX8_sort_94 : decode cX8_sort 94 = .ok (.getfield 23, 3) := by decide +kernel
theorem dX8_sort_97 : decode cX8_sort 97 = .ok (.iconst 3, 1) := by decide +kernel
theorem dX8_sort_98 : decode cX8_sort 98 = .ok (.aload_n 0, 1) := by decide +kernel
theorem dX8_sort_99 : decode cX8_sort 99 = .ok (.getfield 7, 3) := by decide +kernel
theorem dX8_sort_102 : decode cX8_sort 102 = .ok (.imul, 1) := by decide +kernel
theorem dX8_sort_103 : decode cX8_sort 103 = .ok (.iload_n 3, 1) := by decide +kernel
theorem dX8_sort_104 : decode cX8_sort 104 = .ok (.iastore, 1) := by decide +kernel
theorem dX8_sort_105 : decode cX8_sort 105 = .ok (.aload_n 0, 1) := by decide +kernel
theorem dX8_sort_106 : decode cX8_sort 106 = .ok (.getfield 23, 3) := by decide +kernel
theorem dX8_sort_109 : decode cX8_sort 109 = .ok (.iconst 3, 1) := by decide +kernel
theorem dX8_sort_110 : decode cX8_sort 110 = .ok (.aload_n 0, 1) := by decide +kernel
theorem dX8_sort_111 : decode cX8_sort 111 = .ok (.getfield 7, 3) := by decide +kernel
theorem dX8_sort_114 : decode cX8_sort 114 = .ok (.imul, 1) := by decide +kernel
theorem dX8_sort_115 : decode cX8_sort 115 = .ok (.iconst 1, 1) := by decide +kernel
theorem dX8_sort_116 : decode cX8_sort 116 = .ok (.iadd, 1) := by decide +kernel
theorem dX8_sort_117 : decode cX8_sort 117 = .ok (.iload 4, 2) := by decide +kernel
theorem dX8_sort_119 : decode cX8_sort 119 = .ok (.iastore, 1) := by decide +kernel
theorem dX8_sort_120 : decode cX8_sort 120 = .ok (.aload_n 0, 1) := by decide +kernel
theorem dX8_sort_121 : decode cX8_sort 121 = .ok (.getfield 23, 3) := by decide +kernel
theorem dX8_sort_124 : decode cX8_sort 124 = .ok (.iconst 3, 1) := by decide +kernel
theorem dX8_sort_125 : decode cX8_sort 125 = .ok (.aload_n 0, 1) := by decide +kernel
theorem dX8_sort_126 : decode cX8_sort 126 = .ok (.getfield 7, 3) := by decide +kernel
theorem dX8_sort_129 : decode cX8_sort 129 = .ok (.imul, 1) := by decide +kernel
theorem dX8_sort_130 : decode cX8_sort 130 = .ok (.iconst 2, 1) := by decide +kernel
theorem dX8_sort_131 : decode cX8_sort 131 = .ok (.iadd, 1) := by decide +kernel
theorem dX8_sort_132 : decode cX8_sort 132 = .ok (.iload 5, 2) := by decide +kernel
theorem dX8_sort_134 : decode cX8_sort 134 = .ok (.iastore, 1) := by decide +kernel
theorem dX8_sort_135 : decode cX8_sort 135 = .ok (.aload_n 0, 1) := by decide +kernel
theorem dX8_sort_136 : decode cX8_sort 136 = .ok (.getfield 26, 3) := by decide +kernel
theorem dX8_sort_139 : decode cX8_sort 139 = .ok (.aload_n 0, 1) := by decide +kernel
theorem dX8_sort_140 : decode cX8_sort 140 = .ok (.getfield 7, 3) := by decide +kernel
theorem dX8_sort_143 : decode cX8_sort 143 = .ok (.iload 6, 2) := by decide +kernel
theorem dX8_sort_145 : decode cX8_sort 145 = .ok (.iastore, 1) := by decide +kernel
theorem dX8_sort_146 : decode cX8_sort 146 = .ok (.aload_n 0, 1) := by decide +kernel
theorem dX8_sort_147 : decode cX8_sort 147 = .ok (.getfield 29, 3) := by decide +kernel
theorem dX8_sort_150 : decode cX8_sort 150 = .ok (.aload_n 0, 1) := by decide +kernel
theorem dX8_sort_151 : decode cX8_sort 151 = .ok (.getfield 7, 3) := by decide +kernel
theorem dX8_sort_154 : decode cX8_sort 154 = .ok (.iconst 0, 1) := by decide +kernel
theorem dX8_sort_155 : decode cX8_sort 155 = .ok (.iastore, 1) := by decide +kernel
theorem dX8_sort_156 : decode cX8_sort 156 = .ok (.aload_n 0, 1) := by decide +kernel
theorem dX8_sort_157 : decode cX8_sort 157 = .ok (.getfield 32, 3) := by decide +kernel
theorem dX8_sort_160 : decode cX8_sort 160 = .ok (.aload_n 0, 1) := by decide +kernel
theorem dX8_sort_161 : decode cX8_sort 161 = .ok (.getfield 7, 3) := by decide +kernel
theorem dX8_sort_164 : decode cX8_sort 164 = .ok (.iconst 0, 1) := by decide +kernel
theorem dX8_sort_165 : decode cX8_sort 165 = .ok (.iastore, 1) := by decide +kernel
theorem dX8_sort_166 : decode cX8_sort 166 = .ok (.iconst 0, 1) := by decide +kernel
theorem dX8_sort_167 : decode cX8_sort 167 = .ok (.istore 7, 2) := by decide +kernel
theorem dX8_sort_169 : decode cX8_sort 169 = .ok (.iload 7, 2) := by decide +kernel
theorem dX8_sort_171 : decode cX8_sort 171 = .ok (.iconst 3, 1) := by decide +kernel
theorem dX8_sort_172 : decode cX8_sort 172 = .ok (.if_icmp .ge 24, 3) := by decide +kernel
theorem dX8_sort_175 : decode cX8_sort 175 = .ok (.aload_n 0, 1) := by decide +kernel
theorem dX8_sort_176 : decode cX8_sort 176 = .ok (.getfield 35, 3) := by decide +kernel
theorem dX8_sort_179 : decode cX8_sort 179 = .ok (.iconst 3, 1) := by decide +kernel
theorem dX8_sort_180 : decode cX8_sort 180 = .ok (.aload_n 0, 1) := by decide +kernel
theorem dX8_sort_181 : decode cX8_sort 181 = .ok (.getfield 7, 3) := by decide +kernel
theorem dX8_sort_184 : decode cX8_sort 184 = .ok (.imul, 1) := by decide +kernel
theorem dX8_sort_185 : decode cX8_sort 185 = .ok (.iload 7, 2) := by decide +kernel
theorem dX8_sort_187 : decode cX8_sort 187 = .ok (.iadd, 1) := by decide +kernel
theorem dX8_sort_188 : decode cX8_sort 188 = .ok (.iconst 0, 1) := by decide +kernel
theorem dX8_sort_189 : decode cX8_sort 189 = .ok (.iastore, 1) := by decide +kernel
theorem dX8_sort_190 : decode cX8_sort 190 = .ok (.iinc 7 1, 3) := by decide +kernel
theorem dX8_sort_193 : decode cX8_sort 193 = .ok (.goto (-24), 3) := by decide +kernel
theorem dX8_sort_196 : decode cX8_sort 196 = .ok (.aload_n 0, 1) := by decide +kernel
theorem dX8_sort_197 : decode cX8_sort 197 = .ok (.dup, 1) := by decide +kernel
theorem dX8_sort_198 : decode cX8_sort 198 = .ok (.getfield 7, 3) := by decide +kernel
theorem dX8_sort_201 : decode cX8_sort 201 = .ok (.iconst 1, 1) := by decide +kernel
theorem dX8_sort_202 : decode cX8_sort 202 = .ok (.iadd, 1) := by decide +kernel
theorem dX8_sort_203 : decode cX8_sort 203 = .ok (.putfield 7, 3) := by decide +kernel
theorem dX8_sort_206 : decode cX8_sort 206 = .ok (.aload_n 0, 1) := by decide +kernel
theorem dX8_sort_207 : decode cX8_sort 207 = .ok (.getfield 7, 3) := by decide +kernel
theorem dX8_sort_210 : decode cX8_sort 210 = .ok (.iconst 1, 1) := by decide +kernel
theorem dX8_sort_211 : decode cX8_sort 211 = .ok (.isub, 1) := by decide +kernel
theorem dX8_sort_212 : decode cX8_sort 212 = .ok (.ireturn, 1) := by decide +kernel
theorem dX8_herd_0 : decode cX8_herd 0 = .ok (.aload_n 0, 1) := by decide +kernel
theorem dX8_herd_1 : decode cX8_herd 1 = .ok (.iload_n 1, 1) := by decide +kernel
theorem dX8_herd_2 : decode cX8_herd 2 = .ok (.invokevirtual 208, 3) := by decide +kernel
theorem dX8_herd_5 : decode cX8_herd 5 = .ok (.ifCond .eq 13, 3) := by decide +kernel
theorem dX8_herd_8 : decode cX8_herd 8 = .ok (.aload_n 0, 1) := by decide +kernel
theorem dX8_herd_9 : decode cX8_herd 9 = .ok (.iload_n 2, 1) := by decide +kernel
theorem dX8_herd_10 : decode cX8_herd 10 = .ok (.iconst 0, 1) := by decide +kernel
theorem dX8_herd_11 : decode cX8_herd 11 = .ok (.iconst 1, 1) := by decide +kernel
theorem dX8_herd_12 : decode cX8_herd 12 = .ok (.invokevirtual 200, 3) := by decide +kernel
theorem dX8_herd_15 : decode cX8_herd 15 = .ok (.ifCond .ne 5, 3) := by decide +kernel
theorem dX8_herd_18 : decode cX8_herd 18 = .ok (.iconst (-1), 1) := by decide +kernel
theorem dX8_herd_19 : decode cX8_herd 19 = .ok (.ireturn, 1) := by decide +kernel
theorem dX8_herd_20 : decode cX8_herd 20 = .ok (.aload_n 0, 1) := by decide +kernel
theorem dX8_herd_21 : decode cX8_herd 21 = .ok (.iload_n 3, 1) := by decide +kernel
theorem dX8_herd_22 : decode cX8_herd 22 = .ok (.iconst 0, 1) := by decide +kernel
theorem dX8_herd_23 : decode cX8_herd 23 = .ok (.bipush 12, 2) := by decide +kernel
theorem dX8_herd_25 : decode cX8_herd 25 = .ok (.invokevirtual 200, 3) := by decide +kernel
theorem dX8_herd_28 : decode cX8_herd 28 = .ok (.ifCond .ne 6, 3) := by decide +kernel
theorem dX8_herd_31 : decode cX8_herd 31 = .ok (.bipush (-2), 2) := by decide +kernel
theorem dX8_herd_33 : decode cX8_herd 33 = .ok (.ireturn, 1) := by decide +kernel
theorem dX8_herd_34 : decode cX8_herd 34 = .ok (.iload_n 2, 1) := by decide +kernel
theorem dX8_herd_35 : decode cX8_herd 35 = .ok (.ifCond .ne 12, 3) := by decide +kernel
theorem dX8_herd_38 : decode cX8_herd 38 = .ok (.aload_n 0, 1) := by decide +kernel
theorem dX8_herd_39 : decode cX8_herd 39 = .ok (.getfield 29, 3) := by decide +kernel
theorem dX8_herd_42 : decode cX8_herd 42 = .ok (.iload_n 1, 1) := by decide +kernel
theorem dX8_herd_43 : decode cX8_herd 43 = .ok (.iaload, 1) := by decide +kernel
theorem dX8_herd_44 : decode cX8_herd 44 = .ok (.goto 9, 3) := by decide +kernel
theorem dX8_herd_47 : decode cX8_herd 47 = .ok (.aload_n 0, 1) := by decide +kernel
theorem dX8_herd_48 : decode cX8_herd 48 = .ok (.getfield 32, 3) := by decide +kernel
theorem dX8_herd_51 : decode cX8_herd 51 = .ok (.iload_n 1, 1) := by decide +kernel
theorem dX8_herd_52 : decode cX8_herd 52 = .ok (.iaload, 1) := by decide +kernel
theorem dX8_herd_53 : decode cX8_herd 53 = .ok (.istore 4, 2) := by decide +kernel
theorem dX8_herd_55 : decode cX8_herd 55 = .ok (.iload_n 2, 1) := by decide +kernel
theorem dX8_herd_56 : decode cX8_herd 56 = .ok (.ifCond .ne 13, 3) := by decide +kernel
theorem dX8_herd_59 : decode cX8_herd 59 = .ok (.aload_n 0, 1) := by decide +kernel
theorem dX8_herd_60 : decode cX8_herd 60 = .ok (.getfield 29, 3) := by decide +kernel
theorem dX8_herd_63 : decode cX8_herd 63 = .ok (.iload_n 1, 1) := by decide +kernel
theorem dX8_herd_64 : decode cX8_herd 64 = .ok (.iload_n 3, 1) := by decide +kernel
theorem dX8_herd_65 : decode cX8_herd 65 = .ok (.iastore, 1) := by decide +kernel
theorem dX8_herd_66 : decode cX8_herd 66 = .ok (.goto 10, 3) := by decide +kernel
theorem dX8_herd_69 : decode cX8_herd 69 = .ok (.aload_n 0, 1) := by decide +kernel
theorem dX8_herd_70 : decode cX8_herd 70 = .ok (.getfield 32, 3) := by decide +kernel
theorem dX8_herd_73 : decode cX8_herd 73 = .ok (.iload_n 1, 1) := by decide +kernel
theorem dX8_herd_74 : decode cX8_herd 74 = .ok (.iload_n 3, 1) := by decide +kernel
theorem dX8_herd_75 : decode cX8_herd 75 = .ok (.iastore, 1) := by decide +kernel
theorem dX8_herd_76 : decode cX8_herd 76 = .ok (.iload 4, 2) := by decide +kernel
theorem dX8_herd_78 : decode cX8_herd 78 = .ok (.ireturn, 1) := by decide +kernel
theorem dX8_row_0 : decode cX8_row 0 = .ok (.aload_n 0, 1) := by decide +kernel
theorem dX8_row_1 : decode cX8_row 1 = .ok (.iload_n 1, 1) := by decide +kernel
theorem dX8_row_2 : decode cX8_row 2 = .ok (.invokevirtual 208, 3) := by decide +kernel
theorem dX8_row_5 : decode cX8_row 5 = .ok (.ifCond .eq 13, 3) := by decide +kernel
theorem dX8_row_8 : decode cX8_row 8 = .ok (.aload_n 0, 1) := by decide +kernel
theorem dX8_row_9 : decode cX8_row 9 = .ok (.iload_n 2, 1) := by decide +kernel
theorem dX8_row_10 : decode cX8_row 10 = .ok (.iconst 0, 1) := by decide +kernel
theorem dX8_row_11 : decode cX8_row 11 = .ok (.iconst 2, 1) := by decide +kernel
theorem dX8_row_12 : decode cX8_row 12 = .ok (.invokevirtual 200, 3) := by decide +kernel
theorem dX8_row_15 : decode cX8_row 15 = .ok (.ifCond .ne 5, 3) := by decide +kernel
theorem dX8_row_18 : decode cX8_row 18 = .ok (.iconst (-1), 1) := by decide +kernel
theorem dX8_row_19 : decode cX8_row 19 = .ok (.ireturn, 1) := by decide +kernel
theorem dX8_row_20 : decode cX8_row 20 = .ok (.aload_n 0, 1) := by decide +kernel
theorem dX8_row_21 : decode cX8_row 21 = .ok (.iload_n 3, 1) := by decide +kernel
theorem dX8_row_22 : decode cX8_row 22 = .ok (.invokevirtual 204, 3) := by decide +kernel
theorem dX8_row_25 : decode cX8_row 25 = .ok (.ifCond .ne 6, 3) := by decide +kernel
theorem dX8_row_28 : decode cX8_row 28 = .ok (.bipush (-2), 2) := by decide +kernel
theorem dX8_row_30 : decode cX8_row 30 = .ok (.ireturn, 1) := by decide +kernel
theorem dX8_row_31 : decode cX8_row 31 = .ok (.aload_n 0, 1) := by decide +kernel
theorem dX8_row_32 : decode cX8_row 32 = .ok (.getfield 16, 3) := by decide +kernel
theorem dX8_row_35 : decode cX8_row 35 = .ok (.iload_n 1, 1) := by decide +kernel
theorem dX8_row_36 : decode cX8_row 36 = .ok (.iaload, 1) := by decide +kernel
theorem dX8_row_37 : decode cX8_row 37 = .ok (.bipush 6, 2) := by decide +kernel
theorem dX8_row_39 : decode cX8_row 39 = .ok (.if_icmp .eq 6, 3) := by decide +kernel
theorem dX8_row_42 : decode cX8_row 42 = .ok (.bipush (-3), 2) := by decide +kernel
theorem dX8_row_44 : decode cX8_row 44 = .ok (.ireturn, 1) := by decide +kernel
theorem dX8_row_45 : decode cX8_row 45 = .ok (.aload_n 0, 1) := by decide +kernel
theorem dX8_row_46 : decode cX8_row 46 = .ok (.getfield 35, 3) := by decide +kernel
theorem dX8_row_49 : decode cX8_row 49 = .ok (.iconst 3, 1) := by decide +kernel
theorem dX8_row_50 : decode cX8_row 50 = .ok (.iload_n 1, 1) := by decide +kernel
theorem dX8_row_51 : decode cX8_row 51 = .ok (.imul, 1) := by decide +kernel
theorem dX8_row_52 : decode cX8_row 52 = .ok (.iload_n 2, 1) := by decide +kernel
theorem dX8_row_53 : decode cX8_row 53 = .ok (.iadd, 1) := by decide +kernel
theorem dX8_row_54 : decode cX8_row 54 = .ok (.iaload, 1) := by decide +kernel
theorem dX8_row_55 : decode cX8_row 55 = .ok (.istore 4, 2) := by decide +kernel
theorem dX8_row_57 : decode cX8_row 57 = .ok (.aload_n 0, 1) := by decide +kernel
theorem dX8_row_58 : decode cX8_row 58 = .ok (.getfield 35, 3) := by decide +kernel
theorem dX8_row_61 : decode cX8_row 61 = .ok (.iconst 3, 1) := by decide +kernel
theorem dX8_row_62 : decode cX8_row 62 = .ok (.iload_n 1, 1) := by decide +kernel
theorem dX8_row_63 : decode cX8_row 63 = .ok (.imul, 1) := by decide +kernel
theorem dX8_row_64 : decode cX8_row 64 = .ok (.iload_n 2, 1) := by decide +kernel
theorem dX8_row_65 : decode cX8_row 65 = .ok (.iadd, 1) := by decide +kernel
theorem dX8_row_66 : decode cX8_row 66 = .ok (.iload_n 3, 1) := by decide +kernel
theorem dX8_row_67 : decode cX8_row 67 = .ok (.iastore, 1) := by decide +kernel
theorem dX8_row_68 : decode cX8_row 68 = .ok (.iload 4, 2) := by decide +kernel
theorem dX8_row_70 : decode cX8_row 70 = .ok (.ireturn, 1) := by decide +kernel
theorem dX8_month_0 : decode cX8_month 0 = .ok (.aload_n 0, 1) := by decide +kernel
theorem dX8_month_1 : decode cX8_month 1 = .ok (.iload_n 1, 1) := by decide +kernel
theorem dX8_month_2 : decode cX8_month 2 = .ok (.iconst 0, 1) := by decide +kernel
theorem dX8_month_3 : decode cX8_month 3 = .ok (.bipush 11, 2) := by decide +kernel
theorem dX8_month_5 : decode cX8_month 5 = .ok (.invokevirtual 200, 3) := by decide +kernel
theorem dX8_month_8 : decode cX8_month 8 = .ok (.ifCond .ne 6, 3) := by decide +kernel
theorem dX8_month_11 : decode cX8_month 11 = .ok (.bipush (-2), 2) := by decide +kernel
theorem dX8_month_13 : decode cX8_month 13 = .ok (.ireturn, 1) := by decide +kernel
theorem dX8_month_14 : decode cX8_month 14 = .ok (.aload_n 0, 1) := by decide +kernel
theorem dX8_month_15 : decode cX8_month 15 = .ok (.getfield 13, 3) := by decide +kernel
theorem dX8_month_18 : decode cX8_month 18 = .ok (.istore_n 2, 1) := by decide +kernel
theorem dX8_month_19 : decode cX8_month 19 = .ok (.aload_n 0, 1) := by decide +kernel
theorem dX8_month_20 : decode cX8_month 20 = .ok (.iload_n 1, 1) := by decide +kernel
theorem dX8_month_21 : decode cX8_month 21 = .ok (.putfield 13, 3) := by decide +kernel
theorem dX8_month_24 : decode cX8_month 24 = .ok (.iload_n 2, 1) := by decide +kernel
theorem dX8_month_25 : decode cX8_month 25 = .ok (.ireturn, 1) := by decide +kernel
theorem dX8_tell_0 : decode cX8_tell 0 = .ok (.aload_n 0, 1) := by decide +kernel
theorem dX8_tell_1 : decode cX8_tell 1 = .ok (.iload_n 1, 1) := by decide +kernel
theorem dX8_tell_2 : decode cX8_tell 2 = .ok (.iconst 0, 1) := by decide +kernel
theorem dX8_tell_3 : decode cX8_tell 3 = .ok (.iconst 2, 1) := by decide +kernel
theorem dX8_tell_4 : decode cX8_tell 4 = .ok (.invokevirtual 200, 3) := by decide +kernel
theorem dX8_tell_7 : decode cX8_tell 7 = .ok (.ifCond .ne 5, 3) := by decide +kernel
theorem dX8_tell_10 : decode cX8_tell 10 = .ok (.iconst (-1), 1) := by decide +kernel
theorem dX8_tell_11 : decode cX8_tell 11 = .ok (.ireturn, 1) := by decide +kernel
theorem dX8_tell_12 : decode cX8_tell 12 = .ok (.aload_n 0, 1) := by decide +kernel
theorem dX8_tell_13 : decode cX8_tell 13 = .ok (.iload_n 2, 1) := by decide +kernel
theorem dX8_tell_14 : decode cX8_tell 14 = .ok (.iconst (-1), 1) := by decide +kernel
theorem dX8_tell_15 : decode cX8_tell 15 = .ok (.sipush 999, 3) := by decide +kernel
theorem dX8_tell_18 : decode cX8_tell 18 = .ok (.invokevirtual 200, 3) := by decide +kernel
theorem dX8_tell_21 : decode cX8_tell 21 = .ok (.ifCond .ne 6, 3) := by decide +kernel
theorem dX8_tell_24 : decode cX8_tell 24 = .ok (.bipush (-2), 2) := by decide +kernel
theorem dX8_tell_26 : decode cX8_tell 26 = .ok (.ireturn, 1) := by decide +kernel
theorem dX8_tell_27 : decode cX8_tell 27 = .ok (.aload_n 0, 1) := by decide +kernel
theorem dX8_tell_28 : decode cX8_tell 28 = .ok (.getfield 38, 3) := by decide +kernel
theorem dX8_tell_31 : decode cX8_tell 31 = .ok (.iload_n 1, 1) := by decide +kernel
theorem dX8_tell_32 : decode cX8_tell 32 = .ok (.iload_n 2, 1) := by decide +kernel
theorem dX8_tell_33 : decode cX8_tell 33 = .ok (.iastore, 1) := by decide +kernel
theorem dX8_tell_34 : decode cX8_tell 34 = .ok (.iconst 1, 1) := by decide +kernel
theorem dX8_tell_35 : decode cX8_tell 35 = .ok (.ireturn, 1) := by decide +kernel
theorem dX8_feed_0 : decode cX8_feed 0 = .ok (.aload_n 0, 1) := by decide +kernel
theorem dX8_feed_1 : decode cX8_feed 1 = .ok (.iload_n 1, 1) := by decide +kernel
theorem dX8_feed_2 : decode cX8_feed 2 = .ok (.iconst 0, 1) := by decide +kernel
theorem dX8_feed_3 : decode cX8_feed 3 = .ok (.bipush 127, 2) := by decide +kernel
theorem dX8_feed_5 : decode cX8_feed 5 = .ok (.invokevirtual 200, 3) := by decide +kernel
theorem dX8_feed_8 : decode cX8_feed 8 = .ok (.ifCond .ne 6, 3) := by decide +kernel
theorem dX8_feed_11 : decode cX8_feed 11 = .ok (.bipush (-2), 2) := by decide +kernel
theorem dX8_feed_13 : decode cX8_feed 13 = .ok (.ireturn, 1) := by decide +kernel
theorem dX8_feed_14 : decode cX8_feed 14 = .ok (.aload_n 0, 1) := by decide +kernel
theorem dX8_feed_15 : decode cX8_feed 15 = .ok (.getfield 47, 3) := by decide +kernel
theorem dX8_feed_18 : decode cX8_feed 18 = .ok (.bipush 100, 2) := by decide +kernel
theorem dX8_feed_20 : decode cX8_feed 20 = .ok (.if_icmp .ne 6, 3) := by decide +kernel
theorem dX8_feed_23 : decode cX8_feed 23 = .ok (.bipush (-4), 2) := by decide +kernel
theorem dX8_feed_25 : decode cX8_feed 25 = .ok (.ireturn, 1) := by decide +kernel
theorem dX8_feed_26 : decode cX8_feed 26 = .ok (.aload_n 0, 1) := by decide +kernel
theorem dX8_feed_27 : decode cX8_feed 27 = .ok (.getfield 56, 3) := by decide +kernel
theorem dX8_feed_30 : decode cX8_feed 30 = .ok (.aload_n 0, 1) := by decide +kernel
theorem dX8_feed_31 : decode cX8_feed 31 = .ok (.getfield 47, 3) := by decide +kernel
theorem dX8_feed_34 : decode cX8_feed 34 = .ok (.iload_n 1, 1) := by decide +kernel
theorem dX8_feed_35 : decode cX8_feed 35 = .ok (.iastore, 1) := by decide +kernel
theorem dX8_feed_36 : decode cX8_feed 36 = .ok (.aload_n 0, 1) := by decide +kernel
theorem dX8_feed_37 : decode cX8_feed 37 = .ok (.dup, 1) := by decide +kernel
theorem dX8_feed_38 : decode cX8_feed 38 = .ok (.getfield 47, 3) := by decide +kernel
theorem dX8_feed_41 : decode cX8_feed 41 = .ok (.iconst 1, 1) := by decide +kernel
theorem dX8_feed_42 : decode cX8_feed 42 = .ok (.iadd, 1) := by decide +kernel
theorem dX8_feed_43 : decode cX8_feed 43 = .ok (.putfield 47, 3) := by decide +kernel
theorem dX8_feed_46 : decode cX8_feed 46 = .ok (.aload_n 0, 1) := by decide +kernel
theorem dX8_feed_47 : decode cX8_feed 47 = .ok (.getfield 47, 3) := by decide +kernel
theorem dX8_feed_50 : decode cX8_feed 50 = .ok (.ireturn, 1) := by decide +kernel
theorem dX8_next_0 : decode cX8_next 0 = .ok (.aload_n 0, 1) := by decide +kernel
theorem dX8_next_1 : decode cX8_next 1 = .ok (.getfield 50, 3) := by decide +kernel
theorem dX8_next_4 : decode cX8_next 4 = .ok (.aload_n 0, 1) := by decide +kernel
theorem dX8_next_5 : decode cX8_next 5 = .ok (.getfield 47, 3) := by decide +kernel
theorem dX8_next_8 : decode cX8_next 8 = .ok (.if_icmp .ge 15, 3) := by decide +kernel
theorem dX8_next_11 : decode cX8_next 11 = .ok (.aload_n 0, 1) := by decide +kernel
theorem dX8_next_12 : decode cX8_next 12 = .ok (.getfield 56, 3) := by decide +kernel
theorem dX8_next_15 : decode cX8_next 15 = .ok (.aload_n 0, 1) := by decide +kernel
theorem dX8_next_16 : decode cX8_next 16 = .ok (.getfield 50, 3) := by decide +kernel
theorem dX8_next_19 : decode cX8_next 19 = .ok (.iaload, 1) := by decide +kernel
theorem dX8_next_20 : decode cX8_next 20 = .ok (.goto 4, 3) := by decide +kernel
theorem dX8_next_23 : decode cX8_next 23 = .ok (.iconst (-1), 1) := by decide +kernel
theorem dX8_next_24 : decode cX8_next 24 = .ok (.ireturn, 1) := by decide +kernel
theorem dX8_takes_0 : decode cX8_takes 0 = .ok (.aload_n 0, 1) := by decide +kernel
theorem dX8_takes_1 : decode cX8_takes 1 = .ok (.invokevirtual 211, 3) := by decide +kernel
theorem dX8_takes_4 : decode cX8_takes 4 = .ok (.iload_n 1, 1) := by decide +kernel
theorem dX8_takes_5 : decode cX8_takes 5 = .ok (.if_icmp .eq 5, 3) := by decide +kernel
theorem dX8_takes_8 : decode cX8_takes 8 = .ok (.iconst 0, 1) := by decide +kernel
theorem dX8_takes_9 : decode cX8_takes 9 = .ok (.ireturn, 1) := by decide +kernel
theorem dX8_takes_10 : decode cX8_takes 10 = .ok (.aload_n 0, 1) := by decide +kernel
theorem dX8_takes_11 : decode cX8_takes 11 = .ok (.dup, 1) := by decide +kernel
theorem dX8_takes_12 : decode cX8_takes 12 = .ok (.getfield 50, 3) := by decide +kernel
theorem dX8_takes_15 : decode cX8_takes 15 = .ok (.iconst 1, 1) := by decide +kernel
theorem dX8_takes_16 : decode cX8_takes 16 = .ok (.iadd, 1) := by decide +kernel
theorem dX8_takes_17 : decode cX8_takes 17 = .ok (.putfield 50, 3) := by decide +kernel
theorem dX8_takes_20 : decode cX8_takes 20 = .ok (.iconst 1, 1) := by decide +kernel
theorem dX8_takes_21 : decode cX8_takes 21 = .ok (.ireturn, 1) := by decide +kernel
theorem dX8_takesWord_0 : decode cX8_takesWord 0 = .ok (.iconst 0, 1) := by decide +kernel
theorem dX8_takesWord_1 : decode cX8_takesWord 1 = .ok (.istore_n 3, 1) := by decide +kernel
theorem dX8_takesWord_2 : decode cX8_takesWord 2 = .ok (.iload_n 3, 1) := by decide +kernel
theorem dX8_takesWord_3 : decode cX8_takesWord 3 = .ok (.iload_n 2, 1) := by decide +kernel
theorem dX8_takesWord_4 : decode cX8_takesWord 4 = .ok (.if_icmp .ge 26, 3) := by decide +kernel
theorem dX8_takesWord_7 : decode cX8_takesWord 7 = .ok (.aload_n 0, 1) := by decide +kernel
theorem dX8_takesWord_8 : decode cX8_takesWord 8 = .ok (.aload_n 0, 1) := by decide +kernel
theorem dX8_takesWord_9 : decode cX8_takesWord 9 = .ok (.getfield 89, 3) := by decide +kernel
theorem dX8_takesWord_12 : decode cX8_takesWord 12 = .ok (.iload_n 1, 1) := by decide +kernel
theorem dX8_takesWord_13 : decode cX8_takesWord 13 = .ok (.iload_n 3, 1) := by decide +kernel
theorem dX8_takesWord_14 : decode cX8_takesWord 14 = .ok (.iadd, 1) := by decide +kernel
theorem dX8_takesWord_15 : decode cX8_takesWord 15 = .ok (.iaload, 1) := by decide +kernel
theorem dX8_takesWord_16 : decode cX8_takesWord 16 = .ok (.invokevirtual 215, 3) := by decide +kernel
theorem dX8_takesWord_19 : decode cX8_takesWord 19 = .ok (.ifCond .ne 5, 3) := by decide +kernel
theorem dX8_takesWord_22 : decode cX8_takesWord 22 = .ok (.iconst 0, 1) := by decide +kernel
theorem dX8_takesWord_23 : decode cX8_takesWord 23 = .ok (.ireturn, 1) := by decide +kernel
theorem dX8_takesWord_24 : decode cX8_takesWord 24 = .ok (.iinc 3 1, 3) := by decide +kernel
theorem dX8_takesWord_27 : decode cX8_takesWord 27 = .ok (.goto (-25), 3) := by decide +kernel
theorem dX8_takesWord_30 : decode cX8_takesWord 30 = .ok (.aload_n 0, 1) := by decide +kernel
theorem dX8_takesWord_31 : decode cX8_takesWord 31 = .ok (.bipush 32, 2) := by decide +kernel
theorem dX8_takesWord_33 : decode cX8_takesWord 33 = .ok (.invokevirtual 215, 3) := by decide +kernel
theorem dX8_takesWord_36 : decode cX8_takesWord 36 = .ok (.ireturn, 1) := by decide +kernel
theorem dX8_isDigit_0 : decode cX8_isDigit 0 = .ok (.aload_n 0, 1) := by decide +kernel
theorem dX8_isDigit_1 : decode cX8_isDigit 1 = .ok (.aload_n 0, 1) := by decide +kernel
theorem dX8_isDigit_2 : decode cX8_isDigit 2 = .ok (.invokevirtual 211, 3) := by decide +kernel
theorem dX8_isDigit_5 : decode cX8_isDigit 5 = .ok (.bipush 48, 2) := by decide +kernel
theorem dX8_isDigit_7 : decode cX8_isDigit 7 = .ok (.bipush 57, 2) := by decide +kernel
theorem dX8_isDigit_9 : decode cX8_isDigit 9 = .ok (.invokevirtual 200, 3) := by decide +kernel
theorem dX8_isDigit_12 : decode cX8_isDigit 12 = .ok (.ireturn, 1) := by decide +kernel
theorem dX8_takesNumber_0 : decode cX8_takesNumber 0 = .ok (.aload_n 0, 1) := by decide +kernel
theorem dX8_takesNumber_1 : decode cX8_takesNumber 1 = .ok (.invokevirtual 218, 3) := by decide +kernel
theorem dX8_takesNumber_4 : decode cX8_takesNumber 4 = .ok (.ifCond .ne 5, 3) := by decide +kernel
theorem dX8_takesNumber_7 : decode cX8_takesNumber 7 = .ok (.iconst 0, 1) := by decide +kernel
theorem dX8_takesNumber_8 : decode cX8_takesNumber 8 = .ok (.ireturn, 1) := by decide +kernel
theorem dX8_takesNumber_9 : decode cX8_takesNumber 9 = .ok (.aload_n 0, 1) := by decide +kernel
theorem dX8_takesNumber_10 : decode cX8_takesNumber 10 = .ok (.iconst 0, 1) := by decide +kernel
theorem dX8_takesNumber_11 : decode cX8_takesNumber 11 = .ok (.putfield 53, 3) := by decide +kernel
theorem dX8_takesNumber_14 : decode cX8_takesNumber 14 = .ok (.iconst 0, 1) := by decide +kernel
theorem dX8_takesNumber_15 : decode cX8_takesNumber 15 = .ok (.istore_n 1, 1) := by decide +kernel
theorem dX8_takesNumber_16 : decode cX8_takesNumber 16 = .ok (.iload_n 1, 1) := by decide +kernel
theorem dX8_takesNumber_17 : decode cX8_takesNumber 17 = .ok (.iconst 2, 1) := by decide +kernel
theorem dX8_takesNumber_18 : decode cX8_takesNumber 18 = .ok (.if_icmp .ge 45, 3) := by decide +kernel
theorem dX8_takesNumber_21 : decode cX8_takesNumber 21 = .ok (.aload_n 0, 1) := by decide +kernel
theorem dX8_takesNumber_22 : decode cX8_takesNumber 22 = .ok (.invokevirtual 218, 3) := by decide +kernel
theorem dX8_takesNumber_25 : decode cX8_takesNumber 25 = .ok (.ifCond .eq 38, 3) := by decide +kernel
theorem dX8_takesNumber_28 : decode cX8_takesNumber 28 = .ok (.aload_n 0, 1) := by decide +kernel
theorem dX8_takesNumber_29 : decode cX8_takesNumber 29 = .ok (.bipush 10, 2) := by decide +kernel
theorem dX8_takesNumber_31 : decode cX8_takesNumber 31 = .ok (.aload_n 0, 1) := by decide +kernel
theorem dX8_takesNumber_32 : decode cX8_takesNumber 32 = .ok (.getfield 53, 3) := by decide +kernel
theorem dX8_takesNumber_35 : decode cX8_takesNumber 35 = .ok (.imul, 1) := by decide +kernel
theorem dX8_takesNumber_36 : decode cX8_takesNumber 36 = .ok (.aload_n 0, 1) := by decide +kernel
theorem dX8_takesNumber_37 : decode cX8_takesNumber 37 = .ok (.invokevirtual 211, 3) := by decide +kernel
theorem dX8_takesNumber_40 : decode cX8_takesNumber 40 = .ok (.iadd, 1) := by decide +kernel
theorem dX8_takesNumber_41 : decode cX8_takesNumber 41 = .ok (.bipush 48, 2) := by decide +kernel
theorem dX8_takesNumber_43 : decode cX8_takesNumber 43 = .ok (.isub, 1) := by decide +kernel
theorem dX8_takesNumber_44 : decode cX8_takesNumber 44 = .ok (.putfield 53, 3) := by decide +kernel
theorem dX8_takesNumber_47 : decode cX8_takesNumber 47 = .ok (.aload_n 0, 1) := by decide +kernel
theorem dX8_takesNumber_48 : decode cX8_takesNumber 48 = .ok (.dup, 1) := by decide +kernel
theorem dX8_takesNumber_49 : decode cX8_takesNumber 49 = .ok (.getfield 50, 3) := by decide +kernel
theorem dX8_takesNumber_52 : decode cX8_takesNumber 52 = .ok (.iconst 1, 1) := by decide +kernel
theorem dX8_takesNumber_53 : decode cX8_takesNumber 53 = .ok (.iadd, 1) := by decide +kernel
theorem dX8_takesNumber_54 : decode cX8_takesNumber 54 = .ok (.putfield 50, 3) := by decide +kernel
theorem dX8_takesNumber_57 : decode cX8_takesNumber 57 = .ok (.iinc 1 1, 3) := by decide +kernel
theorem dX8_takesNumber_60 : decode cX8_takesNumber 60 = .ok (.goto (-44), 3) := by decide +kernel
theorem dX8_takesNumber_63 : decode cX8_takesNumber 63 = .ok (.iconst 1, 1) := by decide +kernel
theorem dX8_takesNumber_64 : decode cX8_takesNumber 64 = .ok (.ireturn, 1) := by decide +kernel
theorem dX8_emits_0 : decode cX8_emits 0 = .ok (.aload_n 0, 1) := by decide +kernel
theorem dX8_emits_1 : decode cX8_emits 1 = .ok (.getfield 74, 3) := by decide +kernel
theorem dX8_emits_4 : decode cX8_emits 4 = .ok (.aload_n 0, 1) := by decide +kernel
theorem dX8_emits_5 : decode cX8_emits 5 = .ok (.getfield 80, 3) := by decide +kernel
theorem dX8_emits_8 : decode cX8_emits 8 = .ok (.iload_n 1, 1) := by decide +kernel
theorem dX8_emits_9 : decode cX8_emits 9 = .ok (.iastore, 1) := by decide +kernel
theorem dX8_emits_10 : decode cX8_emits 10 = .ok (.aload_n 0, 1) := by decide +kernel
theorem dX8_emits_11 : decode cX8_emits 11 = .ok (.dup, 1) := by decide +kernel
theorem dX8_emits_12 : decode cX8_emits 12 = .ok (.getfield 80, 3) := by decide +kernel
theorem dX8_emits_15 : decode cX8_emits 15 = .ok (.iconst 1, 1) := by decide +kernel
theorem dX8_emits_16 : decode cX8_emits 16 = .ok (.iadd, 1) := by decide +kernel
theorem dX8_emits_17 : decode cX8_emits 17 = .ok (.putfield 80, 3) := by decide +kernel
theorem dX8_emits_20 : decode cX8_emits 20 = .ok (.return_, 1) := by decide +kernel
theorem dX8_whole_0 : decode cX8_whole 0 = .ok (.aload_n 0, 1) := by decide +kernel
theorem dX8_whole_1 : decode cX8_whole 1 = .ok (.getfield 83, 3) := by decide +kernel
theorem dX8_whole_4 : decode cX8_whole 4 = .ok (.ifCond .le 48, 3) := by decide +kernel
theorem dX8_whole_7 : decode cX8_whole 7 = .ok (.aload_n 0, 1) := by decide +kernel
theorem dX8_whole_8 : decode cX8_whole 8 = .ok (.getfield 77, 3) := by decide +kernel
theorem dX8_whole_11 : decode cX8_whole 11 = .ok (.aload_n 0, 1) := by decide +kernel
theorem dX8_whole_12 : decode cX8_whole 12 = .ok (.getfield 83, 3) := by decide +kernel
theorem dX8_whole_15 : decode cX8_whole 15 = .ok (.iconst 1, 1) := by decide +kernel
theorem dX8_whole_16 : decode cX8_whole 16 = .ok (.isub, 1) := by decide +kernel
theorem dX8_whole_17 : decode cX8_whole 17 = .ok (.iaload, 1) := by decide +kernel
theorem dX8_whole_18 : decode cX8_whole 18 = .ok (.bipush 33, 2) := by decide +kernel
theorem dX8_whole_20 : decode cX8_whole 20 = .ok (.if_icmp .ne 32, 3) := by decide +kernel
theorem dX8_whole_23 : decode cX8_whole 23 = .ok (.aload_n 0, 1) := by decide +kernel
theorem dX8_whole_24 : decode cX8_whole 24 = .ok (.bipush (-33), 2) := by decide +kernel
theorem dX8_whole_26 : decode cX8_whole 26 = .ok (.invokevirtual 222, 3) := by decide +kernel
theorem dX8_whole_29 : decode cX8_whole 29 = .ok (.aload_n 0, 1) := by decide +kernel
theorem dX8_whole_30 : decode cX8_whole 30 = .ok (.dup, 1) := by decide +kernel
theorem dX8_whole_31 : decode cX8_whole 31 = .ok (.getfield 83, 3) := by decide +kernel
theorem dX8_whole_34 : decode cX8_whole 34 = .ok (.iconst 1, 1) := by decide +kernel
theorem dX8_whole_35 : decode cX8_whole 35 = .ok (.isub, 1) := by decide +kernel
theorem dX8_whole_36 : decode cX8_whole 36 = .ok (.putfield 83, 3) := by decide +kernel
theorem dX8_whole_39 : decode cX8_whole 39 = .ok (.aload_n 0, 1) := by decide +kernel
theorem dX8_whole_40 : decode cX8_whole 40 = .ok (.dup, 1) := by decide +kernel
theorem dX8_whole_41 : decode cX8_whole 41 = .ok (.getfield 86, 3) := by decide +kernel
theorem dX8_whole_44 : decode cX8_whole 44 = .ok (.iconst 1, 1) := by decide +kernel
theorem dX8_whole_45 : decode cX8_whole 45 = .ok (.isub, 1) := by decide +kernel
theorem dX8_whole_46 : decode cX8_whole 46 = .ok (.putfield 86, 3) := by decide +kernel
theorem dX8_whole_49 : decode cX8_whole 49 = .ok (.goto (-49), 3) := by decide +kernel
theorem dX8_whole_52 : decode cX8_whole 52 = .ok (.return_, 1) := by decide +kernel
theorem dX8_settle_0 : decode cX8_settle 0 = .ok (.aload_n 0, 1) := by decide +kernel
theorem dX8_settle_1 : decode cX8_settle 1 = .ok (.getfield 83, 3) := by decide +kernel
theorem dX8_settle_4 : decode cX8_settle 4 = .ok (.ifCond .le 68, 3) := by decide +kernel
theorem dX8_settle_7 : decode cX8_settle 7 = .ok (.aload_n 0, 1) := by decide +kernel
theorem dX8_settle_8 : decode cX8_settle 8 = .ok (.getfield 77, 3) := by decide +kernel
theorem dX8_settle_11 : decode cX8_settle 11 = .ok (.aload_n 0, 1) := by decide +kernel
theorem dX8_settle_12 : decode cX8_settle 12 = .ok (.getfield 83, 3) := by decide +kernel
theorem dX8_settle_15 : decode cX8_settle 15 = .ok (.iconst 1, 1) := by decide +kernel
theorem dX8_settle_16 : decode cX8_settle 16 = .ok (.isub, 1) := by decide +kernel
theorem dX8_settle_17 : decode cX8_settle 17 = .ok (.iaload, 1) := by decide +kernel
theorem dX8_settle_18 : decode cX8_settle 18 = .ok (.bipush 38, 2) := by decide +kernel
theorem dX8_settle_20 : decode cX8_settle 20 = .ok (.if_icmp .eq 25, 3) := by decide +kernel
theorem dX8_settle_23 : decode cX8_settle 23 = .ok (.aload_n 0, 1) := by decide +kernel
theorem dX8_settle_24 : decode cX8_settle 24 = .ok (.getfield 77, 3) := by decide +kernel
theorem dX8_settle_27 : decode cX8_settle 27 = .ok (.aload_n 0, 1) := by decide +kernel
theorem dX8_settle_28 : decode cX8_settle 28 = .ok (.getfield 83, 3) := by decide +kernel
theorem dX8_settle_31 : decode cX8_settle 31 = .ok (.iconst 1, 1) := by decide +kernel
theorem dX8_settle_32 : decode cX8_settle 32 = .ok (.isub, 1) := by decide +kernel
theorem dX8_settle_33 : decode cX8_settle 33 = .ok (.iaload, 1) := by decide +kernel
theorem dX8_settle_34 : decode cX8_settle 34 = .ok (.bipush 124, 2) := by decide +kernel
theorem dX8_settle_36 : decode cX8_settle 36 = .ok (.if_icmp .ne 36, 3) := by decide +kernel
theorem dX8_settle_39 : decode cX8_settle 39 = .ok (.iload_n 1, 1) := by decide +kernel
theorem dX8_settle_40 : decode cX8_settle 40 = .ok (.bipush 38, 2) := by decide +kernel
theorem dX8_settle_42 : decode cX8_settle 42 = .ok (.if_icmp .eq 30, 3) := by decide +kernel
theorem dX8_settle_45 : decode cX8_settle 45 = .ok (.aload_n 0, 1) := by decide +kernel
theorem dX8_settle_46 : decode cX8_settle 46 = .ok (.dup, 1) := by decide +kernel
theorem dX8_settle_47 : decode cX8_settle 47 = .ok (.getfield 83, 3) := by decide +kernel
theorem dX8_settle_50 : decode cX8_settle 50 = .ok (.iconst 1, 1) := by decide +kernel
theorem dX8_settle_51 : decode cX8_settle 51 = .ok (.isub, 1) := by decide +kernel
theorem dX8_settle_52 : decode cX8_settle 52 = .ok (.putfield 83, 3) := by decide +kernel
theorem dX8_settle_55 : decode cX8_settle 55 = .ok (.aload_n 0, 1) := by decide +kernel
theorem dX8_settle_56 : decode cX8_settle 56 = .ok (.aload_n 0, 1) := by decide +kernel
theorem dX8_settle_57 : decode cX8_settle 57 = .ok (.getfield 77, 3) := by decide +kernel
theorem dX8_settle_60 : decode cX8_settle 60 = .ok (.aload_n 0, 1) := by decide +kernel
theorem dX8_settle_61 : decode cX8_settle 61 = .ok (.getfield 83, 3) := by decide +kernel
theorem dX8_settle_64 : decode cX8_settle 64 = .ok (.iaload, 1) := by decide +kernel
theorem dX8_settle_65 : decode cX8_settle 65 = .ok (.ineg, 1) := by decide +kernel
theorem dX8_settle_66 : decode cX8_settle 66 = .ok (.invokevirtual 222, 3) := by decide +kernel
theorem dX8_settle_69 : decode cX8_settle 69 = .ok (.goto (-69), 3) := by decide +kernel
theorem dX8_settle_72 : decode cX8_settle 72 = .ok (.return_, 1) := by decide +kernel
theorem dX8_place_0 : decode cX8_place 0 = .ok (.iload_n 1, 1) := by decide +kernel
theorem dX8_place_1 : decode cX8_place 1 = .ok (.tableswitch 95 102 118 #[89, 95, 93, 95, 95, 85, 95, 91, 95, 95, 95, 95, 95, 83, 95, 95, 87], 83) := by decide +kernel
theorem dX8_place_84 : decode cX8_place 84 = .ok (.iconst 0, 1) := by decide +kernel
theorem dX8_place_85 : decode cX8_place 85 = .ok (.ireturn, 1) := by decide +kernel
theorem dX8_place_86 : decode cX8_place 86 = .ok (.iconst 1, 1) := by decide +kernel
theorem dX8_place_87 : decode cX8_place 87 = .ok (.ireturn, 1) := by decide +kernel
theorem dX8_place_88 : decode cX8_place 88 = .ok (.iconst 2, 1) := by decide +kernel
theorem dX8_place_89 : decode cX8_place 89 = .ok (.ireturn, 1) := by decide +kernel
theorem dX8_place_90 : decode cX8_place 90 = .ok (.iconst 3, 1) := by decide +kernel
theorem dX8_place_91 : decode cX8_place 91 = .ok (.ireturn, 1) := by decide +kernel
theorem dX8_place_92 : decode cX8_place 92 = .ok (.iconst 4, 1) := by decide +kernel
theorem dX8_place_93 : decode cX8_place 93 = .ok (.ireturn, 1) := by decide +kernel
theorem dX8_place_94 : decode cX8_place 94 = .ok (.iconst 5, 1) := by decide +kernel
theorem dX8_place_95 : decode cX8_place 95 = .ok (.ireturn, 1) := by decide +kernel
theorem dX8_place_96 : decode cX8_place 96 = .ok (.iconst (-1), 1) := by decide +kernel
theorem dX8_place_97 : decode cX8_place 97 = .ok (.ireturn, 1) := by decide +kernel
theorem dX8_takesTest_0 : decode cX8_takesTest 0 = .ok (.aload_n 0, 1) := by decide +kernel
theorem dX8_takesTest_1 : decode cX8_takesTest 1 = .ok (.aload_n 0, 1) := by decide +kernel
theorem dX8_takesTest_2 : decode cX8_takesTest 2 = .ok (.invokevirtual 211, 3) := by decide +kernel
theorem dX8_takesTest_5 : decode cX8_takesTest 5 = .ok (.invokevirtual 226, 3) := by decide +kernel
theorem dX8_takesTest_8 : decode cX8_takesTest 8 = .ok (.istore_n 1, 1) := by decide +kernel
theorem dX8_takesTest_9 : decode cX8_takesTest 9 = .ok (.iload_n 1, 1) := by decide +kernel
theorem dX8_takesTest_10 : decode cX8_takesTest 10 = .ok (.ifCond .ge 5, 3) := by decide +kernel
theorem dX8_takesTest_13 : decode cX8_takesTest 13 = .ok (.iconst 0, 1) := by decide +kernel
theorem dX8_takesTest_14 : decode cX8_takesTest 14 = .ok (.ireturn, 1) := by decide +kernel
theorem dX8_takesTest_15 : decode cX8_takesTest 15 = .ok (.aload_n 0, 1) := by decide +kernel
theorem dX8_takesTest_16 : decode cX8_takesTest 16 = .ok (.dup, 1) := by decide +kernel
theorem dX8_takesTest_17 : decode cX8_takesTest 17 = .ok (.getfield 50, 3) := by decide +kernel
theorem dX8_takesTest_20 : decode cX8_takesTest 20 = .ok (.iconst 1, 1) := by decide +kernel
theorem dX8_takesTest_21 : decode cX8_takesTest 21 = .ok (.iadd, 1) := by decide +kernel
theorem dX8_takesTest_22 : decode cX8_takesTest 22 = .ok (.putfield 50, 3) := by decide +kernel
theorem dX8_takesTest_25 : decode cX8_takesTest 25 = .ok (.aload_n 0, 1) := by decide +kernel
theorem dX8_takesTest_26 : decode cX8_takesTest 26 = .ok (.invokevirtual 211, 3) := by decide +kernel
theorem dX8_takesTest_29 : decode cX8_takesTest 29 = .ok (.istore_n 2, 1) := by decide +kernel
theorem dX8_takesTest_30 : decode cX8_takesTest 30 = .ok (.aload_n 0, 1) := by decide +kernel
theorem dX8_takesTest_31 : decode cX8_takesTest 31 = .ok (.iload_n 2, 1) := by decide +kernel
theorem dX8_takesTest_32 : decode cX8_takesTest 32 = .ok (.bipush 60, 2) := by decide +kernel
theorem dX8_takesTest_34 : decode cX8_takesTest 34 = .ok (.bipush 62, 2) := by decide +kernel
theorem dX8_takesTest_36 : decode cX8_takesTest 36 = .ok (.invokevirtual 200, 3) := by decide +kernel
theorem dX8_takesTest_39 : decode cX8_takesTest 39 = .ok (.ifCond .ne 5, 3) := by decide +kernel
theorem dX8_takesTest_42 : decode cX8_takesTest 42 = .ok (.iconst 0, 1) := by decide +kernel
theorem dX8_takesTest_43 : decode cX8_takesTest 43 = .ok (.ireturn, 1) := by decide +kernel
theorem dX8_takesTest_44 : decode cX8_takesTest 44 = .ok (.aload_n 0, 1) := by decide +kernel
theorem dX8_takesTest_45 : decode cX8_takesTest 45 = .ok (.dup, 1) := by decide +kernel
theorem dX8_takesTest_46 : decode cX8_takesTest 46 = .ok (.getfield 50, 3) := by decide +kernel
theorem dX8_takesTest_49 : decode cX8_takesTest 49 = .ok (.iconst 1, 1) := by decide +kernel
theorem dX8_takesTest_50 : decode cX8_takesTest 50 = .ok (.iadd, 1) := by decide +kernel
theorem dX8_takesTest_51 : decode cX8_takesTest 51 = .ok (.putfield 50, 3) := by decide +kernel
theorem dX8_takesTest_54 : decode cX8_takesTest 54 = .ok (.aload_n 0, 1) := by decide +kernel
theorem dX8_takesTest_55 : decode cX8_takesTest 55 = .ok (.invokevirtual 230, 3) := by decide +kernel
theorem dX8_takesTest_58 : decode cX8_takesTest 58 = .ok (.ifCond .ne 5, 3) := by decide +kernel
theorem dX8_takesTest_61 : decode cX8_takesTest 61 = .ok (.iconst 0, 1) := by decide +kernel
theorem dX8_takesTest_62 : decode cX8_takesTest 62 = .ok (.ireturn, 1) := by decide +kernel
theorem dX8_takesTest_63 : decode cX8_takesTest 63 = .ok (.aload_n 0, 1) := by decide +kernel
theorem dX8_takesTest_64 : decode cX8_takesTest 64 = .ok (.sipush 1000, 3) := by decide +kernel
theorem dX8_takesTest_67 : decode cX8_takesTest 67 = .ok (.iload_n 1, 1) := by decide +kernel
theorem dX8_takesTest_68 : decode cX8_takesTest 68 = .ok (.imul, 1) := by decide +kernel
theorem dX8_takesTest_69 : decode cX8_takesTest 69 = .ok (.bipush 100, 2) := by decide +kernel
theorem dX8_takesTest_71 : decode cX8_takesTest 71 = .ok (.iload_n 2, 1) := by decide +kernel
theorem dX8_takesTest_72 : decode cX8_takesTest 72 = .ok (.bipush 60, 2) := by decide +kernel
theorem dX8_takesTest_74 : decode cX8_takesTest 74 = .ok (.isub, 1) := by decide +kernel
theorem dX8_takesTest_75 : decode cX8_takesTest 75 = .ok (.imul, 1) := by decide +kernel
theorem dX8_takesTest_76 : decode cX8_takesTest 76 = .ok (.iadd, 1) := by decide +kernel
theorem dX8_takesTest_77 : decode cX8_takesTest 77 = .ok (.aload_n 0, 1) := by decide +kernel
theorem dX8_takesTest_78 : decode cX8_takesTest 78 = .ok (.getfield 53, 3) := by decide +kernel
theorem dX8_takesTest_81 : decode cX8_takesTest 81 = .ok (.iadd, 1) := by decide +kernel
theorem dX8_takesTest_82 : decode cX8_takesTest 82 = .ok (.invokevirtual 222, 3) := by decide +kernel
theorem dX8_takesTest_85 : decode cX8_takesTest 85 = .ok (.aload_n 0, 1) := by decide +kernel
theorem dX8_takesTest_86 : decode cX8_takesTest 86 = .ok (.invokevirtual 233, 3) := by decide +kernel
theorem dX8_takesTest_89 : decode cX8_takesTest 89 = .ok (.iconst 1, 1) := by decide +kernel
theorem dX8_takesTest_90 : decode cX8_takesTest 90 = .ok (.ireturn, 1) := by decide +kernel
theorem dX8_takesE_0 : decode cX8_takesE 0 = .ok (.aload_n 0, 1) := by decide +kernel
theorem dX8_takesE_1 : decode cX8_takesE 1 = .ok (.iconst 0, 1) := by decide +kernel
theorem dX8_takesE_2 : decode cX8_takesE 2 = .ok (.putfield 83, 3) := by decide +kernel
theorem dX8_takesE_5 : decode cX8_takesE 5 = .ok (.aload_n 0, 1) := by decide +kernel
theorem dX8_takesE_6 : decode cX8_takesE 6 = .ok (.iconst 0, 1) := by decide +kernel
theorem dX8_takesE_7 : decode cX8_takesE 7 = .ok (.putfield 86, 3) := by decide +kernel
theorem dX8_takesE_10 : decode cX8_takesE 10 = .ok (.aload_n 0, 1) := by decide +kernel
theorem dX8_takesE_11 : decode cX8_takesE 11 = .ok (.getfield 68, 3) := by decide +kernel
theorem dX8_takesE_14 : decode cX8_takesE 14 = .ok (.iload_n 1, 1) := by decide +kernel
theorem dX8_takesE_15 : decode cX8_takesE 15 = .ok (.aload_n 0, 1) := by decide +kernel
theorem dX8_takesE_16 : decode cX8_takesE 16 = .ok (.getfield 80, 3) := by decide +kernel
theorem dX8_takesE_19 : decode cX8_takesE 19 = .ok (.iastore, 1) := by decide +kernel
theorem dX8_takesE_20 : decode cX8_takesE 20 = .ok (.iconst 1, 1) := by decide +kernel
theorem dX8_takesE_21 : decode cX8_takesE 21 = .ok (.istore_n 2, 1) := by decide +kernel
theorem dX8_takesE_22 : decode cX8_takesE 22 = .ok (.aload_n 0, 1) := by decide +kernel
theorem dX8_takesE_23 : decode cX8_takesE 23 = .ok (.invokevirtual 211, 3) := by decide +kernel
theorem dX8_takesE_26 : decode cX8_takesE 26 = .ok (.istore_n 3, 1) := by decide +kernel
theorem dX8_takesE_27 : decode cX8_takesE 27 = .ok (.iload_n 2, 1) := by decide +kernel
theorem dX8_takesE_28 : decode cX8_takesE 28 = .ok (.ifCond .eq 82, 3) := by decide +kernel
theorem dX8_takesE_31 : decode cX8_takesE 31 = .ok (.iload_n 3, 1) := by decide +kernel
theorem dX8_takesE_32 : decode cX8_takesE 32 = .ok (.bipush 33, 2) := by decide +kernel
theorem dX8_takesE_34 : decode cX8_takesE 34 = .ok (.if_icmp .eq 9, 3) := by decide +kernel
theorem dX8_takesE_37 : decode cX8_takesE 37 = .ok (.iload_n 3, 1) := by decide +kernel
theorem dX8_takesE_38 : decode cX8_takesE 38 = .ok (.bipush 40, 2) := by decide +kernel
theorem dX8_takesE_40 : decode cX8_takesE 40 = .ok (.if_icmp .ne 56, 3) := by decide +kernel
theorem dX8_takesE_43 : decode cX8_takesE 43 = .ok (.aload_n 0, 1) := by decide +kernel
theorem dX8_takesE_44 : decode cX8_takesE 44 = .ok (.getfield 86, 3) := by decide +kernel
theorem dX8_takesE_47 : decode cX8_takesE 47 = .ok (.iconst 4, 1) := by decide +kernel
theorem dX8_takesE_48 : decode cX8_takesE 48 = .ok (.if_icmp .ne 5, 3) := by decide +kernel
theorem dX8_takesE_51 : decode cX8_takesE 51 = .ok (.iconst 0, 1) := by decide +kernel
theorem dX8_takesE_52 : decode cX8_takesE 52 = .ok (.ireturn, 1) := by decide +kernel
theorem dX8_takesE_53 : decode cX8_takesE 53 = .ok (.aload_n 0, 1) := by decide +kernel
theorem dX8_takesE_54 : decode cX8_takesE 54 = .ok (.dup, 1) := by decide +kernel
theorem dX8_takesE_55 : decode cX8_takesE 55 = .ok (.getfield 86, 3) := by decide +kernel
theorem dX8_takesE_58 : decode cX8_takesE 58 = .ok (.iconst 1, 1) := by decide +kernel
theorem dX8_takesE_59 : decode cX8_takesE 59 = .ok (.iadd, 1) := by decide +kernel
theorem dX8_takesE_60 : decode cX8_takesE 60 = .ok (.putfield 86, 3) := by decide +kernel
theorem dX8_takesE_63 : decode cX8_takesE 63 = .ok (.aload_n 0, 1) := by decide +kernel
theorem dX8_takesE_64 : decode cX8_takesE 64 = .ok (.getfield 77, 3) := by decide +kernel
theorem dX8_takesE_67 : decode cX8_takesE 67 = .ok (.aload_n 0, 1) := by decide +kernel
theorem dX8_takesE_68 : decode cX8_takesE 68 = .ok (.getfield 83, 3) := by decide +kernel
theorem dX8_takesE_71 : decode cX8_takesE 71 = .ok (.iload_n 3, 1) := by decide +kernel
theorem dX8_takesE_72 : decode cX8_takesE 72 = .ok (.iastore, 1) := by decide +kernel
theorem dX8_takesE_73 : decode cX8_takesE 73 = .ok (.aload_n 0, 1) := by decide +kernel
theorem dX8_takesE_74 : decode cX8_takesE 74 = .ok (.dup, 1) := by decide +kernel
theorem dX8_takesE_75 : decode cX8_takesE 75 = .ok (.getfield 83, 3) := by decide +kernel
theorem dX8_takesE_78 : decode cX8_takesE 78 = .ok (.iconst 1, 1) := by decide +kernel
theorem dX8_takesE_79 : decode cX8_takesE 79 = .ok (.iadd, 1) := by decide +kernel
theorem dX8_takesE_80 : decode cX8_takesE 80 = .ok (.putfield 83, 3) := by decide +kernel
theorem dX8_takesE_83 : decode cX8_takesE 83 = .ok (.aload_n 0, 1) := by decide +kernel
theorem dX8_takesE_84 : decode cX8_takesE 84 = .ok (.dup, 1) := by decide +kernel
theorem dX8_takesE_85 : decode cX8_takesE 85 = .ok (.getfield 50, 3) := by decide +kernel
theorem dX8_takesE_88 : decode cX8_takesE 88 = .ok (.iconst 1, 1) := by decide +kernel
theorem dX8_takesE_89 : decode cX8_takesE 89 = .ok (.iadd, 1) := by decide +kernel
theorem dX8_takesE_90 : decode cX8_takesE 90 = .ok (.putfield 50, 3) := by decide +kernel
theorem dX8_takesE_93 : decode cX8_takesE 93 = .ok (.goto (-71), 3) := by decide +kernel
theorem dX8_takesE_96 : decode cX8_takesE 96 = .ok (.aload_n 0, 1) := by decide +kernel
theorem dX8_takesE_97 : decode cX8_takesE 97 = .ok (.invokevirtual 236, 3) := by decide +kernel
theorem dX8_takesE_100 : decode cX8_takesE 100 = .ok (.ifCond .eq 8, 3) := by decide +kernel
theorem dX8_takesE_103 : decode cX8_takesE 103 = .ok (.iconst 0, 1) := by decide +kernel
theorem dX8_takesE_104 : decode cX8_takesE 104 = .ok (.istore_n 2, 1) := by decide +kernel
theorem dX8_takesE_105 : decode cX8_takesE 105 = .ok (.goto (-83), 3) := by decide +kernel
theorem dX8_takesE_108 : decode cX8_takesE 108 = .ok (.iconst 0, 1) := by decide +kernel
theorem dX8_takesE_109 : decode cX8_takesE 109 = .ok (.ireturn, 1) := by decide +kernel
theorem dX8_takesE_110 : decode cX8_takesE 110 = .ok (.iload_n 3, 1) := by decide +kernel
theorem dX8_takesE_111 : decode cX8_takesE 111 = .ok (.bipush 38, 2) := by decide +kernel
theorem dX8_takesE_113 : decode cX8_takesE 113 = .ok (.if_icmp .eq 9, 3) := by decide +kernel
theorem dX8_takesE_116 : decode cX8_takesE 116 = .ok (.iload_n 3, 1) := by decide +kernel
theorem dX8_takesE_117 : decode cX8_takesE 117 = .ok (.bipush 124, 2) := by decide +kernel
theorem dX8_takesE_119 : decode cX8_takesE 119 = .ok (.if_icmp .ne 43, 3) := by decide +kernel
theorem dX8_takesE_122 : decode cX8_takesE 122 = .ok (.aload_n 0, 1) := by decide +kernel
theorem dX8_takesE_123 : decode cX8_takesE 123 = .ok (.iload_n 3, 1) := by decide +kernel
theorem dX8_takesE_124 : decode cX8_takesE 124 = .ok (.invokevirtual 239, 3) := by decide +kernel
theorem dX8_takesE_127 : decode cX8_takesE 127 = .ok (.aload_n 0, 1) := by decide +kernel
theorem dX8_takesE_128 : decode cX8_takesE 128 = .ok (.getfield 77, 3) := by decide +kernel
theorem dX8_takesE_131 : decode cX8_takesE 131 = .ok (.aload_n 0, 1) := by decide +kernel
theorem dX8_takesE_132 : decode cX8_takesE 132 = .ok (.getfield 83, 3) := by decide +kernel
theorem dX8_takesE_135 : decode cX8_takesE 135 = .ok (.iload_n 3, 1) := by decide +kernel
theorem dX8_takesE_136 : decode cX8_takesE 136 = .ok (.iastore, 1) := by decide +kernel
theorem dX8_takesE_137 : decode cX8_takesE 137 = .ok (.aload_n 0, 1) := by decide +kernel
theorem dX8_takesE_138 : decode cX8_takesE 138 = .ok (.dup, 1) := by decide +kernel
theorem dX8_takesE_139 : decode cX8_takesE 139 = .ok (.getfield 83, 3) := by decide +kernel
theorem dX8_takesE_142 : decode cX8_takesE 142 = .ok (.iconst 1, 1) := by decide +kernel
theorem dX8_takesE_143 : decode cX8_takesE 143 = .ok (.iadd, 1) := by decide +kernel
theorem dX8_takesE_144 : decode cX8_takesE 144 = .ok (.putfield 83, 3) := by decide +kernel
theorem dX8_takesE_147 : decode cX8_takesE 147 = .ok (.iconst 1, 1) := by decide +kernel
theorem dX8_takesE_148 : decode cX8_takesE 148 = .ok (.istore_n 2, 1) := by decide +kernel
theorem dX8_takesE_149 : decode cX8_takesE 149 = .ok (.aload_n 0, 1) := by decide +kernel
theorem dX8_takesE_150 : decode cX8_takesE 150 = .ok (.dup, 1) := by decide +kernel
theorem dX8_takesE_151 : decode cX8_takesE 151 = .ok (.getfield 50, 3) := by decide +kernel
theorem dX8_takesE_154 : decode cX8_takesE 154 = .ok (.iconst 1, 1) := by decide +kernel
theorem dX8_takesE_155 : decode cX8_takesE 155 = .ok (.iadd, 1) := by decide +kernel
theorem dX8_takesE_156 : decode cX8_takesE 156 = .ok (.putfield 50, 3) := by decide +kernel
theorem dX8_takesE_159 : decode cX8_takesE 159 = .ok (.goto (-137), 3) := by decide +kernel
theorem dX8_takesE_162 : decode cX8_takesE 162 = .ok (.aload_n 0, 1) := by decide +kernel
theorem dX8_takesE_163 : decode cX8_takesE 163 = .ok (.bipush 124, 2) := by decide +kernel
theorem dX8_takesE_165 : decode cX8_takesE 165 = .ok (.invokevirtual 239, 3) := by decide +kernel
theorem dX8_takesE_168 : decode cX8_takesE 168 = .ok (.aload_n 0, 1) := by decide +kernel
theorem dX8_takesE_169 : decode cX8_takesE 169 = .ok (.getfield 71, 3) := by decide +kernel
theorem dX8_takesE_172 : decode cX8_takesE 172 = .ok (.iload_n 1, 1) := by decide +kernel
theorem dX8_takesE_173 : decode cX8_takesE 173 = .ok (.aload_n 0, 1) := by decide +kernel
theorem dX8_takesE_174 : decode cX8_takesE 174 = .ok (.getfield 80, 3) := by decide +kernel
theorem dX8_takesE_177 : decode cX8_takesE 177 = .ok (.iastore, 1) := by decide +kernel
theorem dX8_takesE_178 : decode cX8_takesE 178 = .ok (.aload_n 0, 1) := by decide +kernel
theorem dX8_takesE_179 : decode cX8_takesE 179 = .ok (.getfield 83, 3) := by decide +kernel
theorem dX8_takesE_182 : decode cX8_takesE 182 = .ok (.ifCond .ne 5, 3) := by decide +kernel
theorem dX8_takesE_185 : decode cX8_takesE 185 = .ok (.iconst 1, 1) := by decide +kernel
theorem dX8_takesE_186 : decode cX8_takesE 186 = .ok (.ireturn, 1) := by decide +kernel
theorem dX8_takesE_187 : decode cX8_takesE 187 = .ok (.iload_n 3, 1) := by decide +kernel
theorem dX8_takesE_188 : decode cX8_takesE 188 = .ok (.bipush 41, 2) := by decide +kernel
theorem dX8_takesE_190 : decode cX8_takesE 190 = .ok (.if_icmp .eq 5, 3) := by decide +kernel
theorem dX8_takesE_193 : decode cX8_takesE 193 = .ok (.iconst 0, 1) := by decide +kernel
theorem dX8_takesE_194 : decode cX8_takesE 194 = .ok (.ireturn, 1) := by decide +kernel
theorem dX8_takesE_195 : decode cX8_takesE 195 = .ok (.aload_n 0, 1) := by decide +kernel
theorem dX8_takesE_196 : decode cX8_takesE 196 = .ok (.dup, 1) := by decide +kernel
theorem dX8_takesE_197 : decode cX8_takesE 197 = .ok (.getfield 83, 3) := by decide +kernel
theorem dX8_takesE_200 : decode cX8_takesE 200 = .ok (.iconst 1, 1) := by decide +kernel
theorem dX8_takesE_201 : decode cX8_takesE 201 = .ok (.isub, 1) := by decide +kernel
theorem dX8_takesE_202 : decode cX8_takesE 202 = .ok (.putfield 83, 3) := by decide +kernel
theorem dX8_takesE_205 : decode cX8_takesE 205 = .ok (.aload_n 0, 1) := by decide +kernel
theorem dX8_takesE_206 : decode cX8_takesE 206 = .ok (.dup, 1) := by decide +kernel
theorem dX8_takesE_207 : decode cX8_takesE 207 = .ok (.getfield 86, 3) := by decide +kernel
theorem dX8_takesE_210 : decode cX8_takesE 210 = .ok (.iconst 1, 1) := by decide +kernel
theorem dX8_takesE_211 : decode cX8_takesE 211 = .ok (.isub, 1) := by decide +kernel
theorem dX8_takesE_212 : decode cX8_takesE 212 = .ok (.putfield 86, 3) := by decide +kernel
theorem dX8_takesE_215 : decode cX8_takesE 215 = .ok (.aload_n 0, 1) := by decide +kernel
theorem dX8_takesE_216 : decode cX8_takesE 216 = .ok (.dup, 1) := by decide +kernel
theorem dX8_takesE_217 : decode cX8_takesE 217 = .ok (.getfield 50, 3) := by decide +kernel
theorem dX8_takesE_220 : decode cX8_takesE 220 = .ok (.iconst 1, 1) := by decide +kernel
theorem dX8_takesE_221 : decode cX8_takesE 221 = .ok (.iadd, 1) := by decide +kernel
theorem dX8_takesE_222 : decode cX8_takesE 222 = .ok (.putfield 50, 3) := by decide +kernel
theorem dX8_takesE_225 : decode cX8_takesE 225 = .ok (.aload_n 0, 1) := by decide +kernel
theorem dX8_takesE_226 : decode cX8_takesE 226 = .ok (.invokevirtual 233, 3) := by decide +kernel
theorem dX8_takesE_229 : decode cX8_takesE 229 = .ok (.goto (-207), 3) := by decide +kernel
theorem dX8_takesHead_0 : decode cX8_takesHead 0 = .ok (.aload_n 0, 1) := by decide +kernel
theorem dX8_takesHead_1 : decode cX8_takesHead 1 = .ok (.invokevirtual 211, 3) := by decide +kernel
theorem dX8_takesHead_4 : decode cX8_takesHead 4 = .ok (.lookupswitch 56 #[(111, 28), (115, 42)], 28) := by decide +kernel
theorem dX8_takesHead_32 : decode cX8_takesHead 32 = .ok (.aload_n 0, 1) := by decide +kernel
theorem dX8_takesHead_33 : decode cX8_takesHead 33 = .ok (.getfield 62, 3) := by decide +kernel
theorem dX8_takesHead_36 : decode cX8_takesHead 36 = .ok (.iload_n 1, 1) := by decide +kernel
theorem dX8_takesHead_37 : decode cX8_takesHead 37 = .ok (.iconst 0, 1) := by decide +kernel
theorem dX8_takesHead_38 : decode cX8_takesHead 38 = .ok (.iastore, 1) := by decide +kernel
theorem dX8_takesHead_39 : decode cX8_takesHead 39 = .ok (.aload_n 0, 1) := by decide +kernel
theorem dX8_takesHead_40 : decode cX8_takesHead 40 = .ok (.iconst 0, 1) := by decide +kernel
theorem dX8_takesHead_41 : decode cX8_takesHead 41 = .ok (.iconst 3, 1) := by decide +kernel
theorem dX8_takesHead_42 : decode cX8_takesHead 42 = .ok (.invokevirtual 242, 3) := by decide +kernel
theorem dX8_takesHead_45 : decode cX8_takesHead 45 = .ok (.ireturn, 1) := by decide +kernel
theorem dX8_takesHead_46 : decode cX8_takesHead 46 = .ok (.aload_n 0, 1) := by decide +kernel
theorem dX8_takesHead_47 : decode cX8_takesHead 47 = .ok (.getfield 62, 3) := by decide +kernel
theorem dX8_takesHead_50 : decode cX8_takesHead 50 = .ok (.iload_n 1, 1) := by decide +kernel
theorem dX8_takesHead_51 : decode cX8_takesHead 51 = .ok (.iconst 1, 1) := by decide +kernel
theorem dX8_takesHead_52 : decode cX8_takesHead 52 = .ok (.iastore, 1) := by decide +kernel
theorem dX8_takesHead_53 : decode cX8_takesHead 53 = .ok (.aload_n 0, 1) := by decide +kernel
theorem dX8_takesHead_54 : decode cX8_takesHead 54 = .ok (.iconst 3, 1) := by decide +kernel
theorem dX8_takesHead_55 : decode cX8_takesHead 55 = .ok (.iconst 3, 1) := by decide +kernel
theorem dX8_takesHead_56 : decode cX8_takesHead 56 = .ok (.invokevirtual 242, 3) := by decide +kernel
theorem dX8_takesHead_59 : decode cX8_takesHead 59 = .ok (.ireturn, 1) := by decide +kernel
theorem dX8_takesHead_60 : decode cX8_takesHead 60 = .ok (.aload_n 0, 1) := by decide +kernel
theorem dX8_takesHead_61 : decode cX8_takesHead 61 = .ok (.getfield 62, 3) := by decide +kernel
theorem dX8_takesHead_64 : decode cX8_takesHead 64 = .ok (.iload_n 1, 1) := by decide +kernel
theorem dX8_takesHead_65 : decode cX8_takesHead 65 = .ok (.iconst 2, 1) := by decide +kernel
theorem dX8_takesHead_66 : decode cX8_takesHead 66 = .ok (.iastore, 1) := by decide +kernel
theorem dX8_takesHead_67 : decode cX8_takesHead 67 = .ok (.aload_n 0, 1) := by decide +kernel
theorem dX8_takesHead_68 : decode cX8_takesHead 68 = .ok (.bipush 6, 2) := by decide +kernel
theorem dX8_takesHead_70 : decode cX8_takesHead 70 = .ok (.iconst 4, 1) := by decide +kernel
theorem dX8_takesHead_71 : decode cX8_takesHead 71 = .ok (.invokevirtual 242, 3) := by decide +kernel
theorem dX8_takesHead_74 : decode cX8_takesHead 74 = .ok (.ireturn, 1) := by decide +kernel
theorem dX8_takesClause_0 : decode cX8_takesClause 0 = .ok (.aload_n 0, 1) := by decide +kernel
theorem dX8_takesClause_1 : decode cX8_takesClause 1 = .ok (.iload_n 1, 1) := by decide +kernel
theorem dX8_takesClause_2 : decode cX8_takesClause 2 = .ok (.invokevirtual 246, 3) := by decide +kernel
theorem dX8_takesClause_5 : decode cX8_takesClause 5 = .ok (.ifCond .eq 10, 3) := by decide +kernel
theorem dX8_takesClause_8 : decode cX8_takesClause 8 = .ok (.aload_n 0, 1) := by decide +kernel
theorem dX8_takesClause_9 : decode cX8_takesClause 9 = .ok (.invokevirtual 230, 3) := by decide +kernel
theorem dX8_takesClause_12 : decode cX8_takesClause 12 = .ok (.ifCond .ne 5, 3) := by decide +kernel
theorem dX8_takesClause_15 : decode cX8_takesClause 15 = .ok (.iconst 0, 1) := by decide +kernel
theorem dX8_takesClause_16 : decode cX8_takesClause 16 = .ok (.ireturn, 1) := by decide +kernel
theorem dX8_takesClause_17 : decode cX8_takesClause 17 = .ok (.aload_n 0, 1) := by decide +kernel
theorem dX8_takesClause_18 : decode cX8_takesClause 18 = .ok (.getfield 65, 3) := by decide +kernel
theorem dX8_takesClause_21 : decode cX8_takesClause 21 = .ok (.iload_n 1, 1) := by decide +kernel
theorem dX8_takesClause_22 : decode cX8_takesClause 22 = .ok (.aload_n 0, 1) := by decide +kernel
theorem dX8_takesClause_23 : decode cX8_takesClause 23 = .ok (.getfield 53, 3) := by decide +kernel
theorem dX8_takesClause_26 : decode cX8_takesClause 26 = .ok (.iastore, 1) := by decide +kernel
theorem dX8_takesClause_27 : decode cX8_takesClause 27 = .ok (.aload_n 0, 1) := by decide +kernel
theorem dX8_takesClause_28 : decode cX8_takesClause 28 = .ok (.getfield 62, 3) := by decide +kernel
theorem dX8_takesClause_31 : decode cX8_takesClause 31 = .ok (.iload_n 1, 1) := by decide +kernel
theorem dX8_takesClause_32 : decode cX8_takesClause 32 = .ok (.iaload, 1) := by decide +kernel
theorem dX8_takesClause_33 : decode cX8_takesClause 33 = .ok (.iconst 2, 1) := by decide +kernel
theorem dX8_takesClause_34 : decode cX8_takesClause 34 = .ok (.if_icmp .eq 20, 3) := by decide +kernel
theorem dX8_takesClause_37 : decode cX8_takesClause 37 = .ok (.aload_n 0, 1) := by decide +kernel
theorem dX8_takesClause_38 : decode cX8_takesClause 38 = .ok (.bipush 32, 2) := by decide +kernel
theorem dX8_takesClause_40 : decode cX8_takesClause 40 = .ok (.invokevirtual 215, 3) := by decide +kernel
theorem dX8_takesClause_43 : decode cX8_takesClause 43 = .ok (.ifCond .eq 15, 3) := by decide +kernel
theorem dX8_takesClause_46 : decode cX8_takesClause 46 = .ok (.aload_n 0, 1) := by decide +kernel
theorem dX8_takesClause_47 : decode cX8_takesClause 47 = .ok (.iload_n 1, 1) := by decide +kernel
theorem dX8_takesClause_48 : decode cX8_takesClause 48 = .ok (.invokevirtual 249, 3) := by decide +kernel
theorem dX8_takesClause_51 : decode cX8_takesClause 51 = .ok (.ifCond .eq 7, 3) := by decide +kernel
theorem dX8_takesClause_54 : decode cX8_takesClause 54 = .ok (.iconst 1, 1) := by decide +kernel
theorem dX8_takesClause_55 : decode cX8_takesClause 55 = .ok (.goto 4, 3) := by decide +kernel
theorem dX8_takesClause_58 : decode cX8_takesClause 58 = .ok (.iconst 0, 1) := by decide +kernel
theorem dX8_takesClause_59 : decode cX8_takesClause 59 = .ok (.ireturn, 1) := by decide +kernel
theorem dX8_goesText_0 : decode cX8_goesText 0 = .ok (.aload_n 0, 1) := by decide +kernel
theorem dX8_goesText_1 : decode cX8_goesText 1 = .ok (.iconst 0, 1) := by decide +kernel
theorem dX8_goesText_2 : decode cX8_goesText 2 = .ok (.putfield 50, 3) := by decide +kernel
theorem dX8_goesText_5 : decode cX8_goesText 5 = .ok (.aload_n 0, 1) := by decide +kernel
theorem dX8_goesText_6 : decode cX8_goesText 6 = .ok (.bipush 100, 2) := by decide +kernel
theorem dX8_goesText_8 : decode cX8_goesText 8 = .ok (.iload_n 1, 1) := by decide +kernel
theorem dX8_goesText_9 : decode cX8_goesText 9 = .ok (.imul, 1) := by decide +kernel
theorem dX8_goesText_10 : decode cX8_goesText 10 = .ok (.putfield 80, 3) := by decide +kernel
theorem dX8_goesText_13 : decode cX8_goesText 13 = .ok (.iconst 0, 1) := by decide +kernel
theorem dX8_goesText_14 : decode cX8_goesText 14 = .ok (.istore_n 2, 1) := by decide +kernel
theorem dX8_goesText_15 : decode cX8_goesText 15 = .ok (.aload_n 0, 1) := by decide +kernel
theorem dX8_goesText_16 : decode cX8_goesText 16 = .ok (.bipush 10, 2) := by decide +kernel
theorem dX8_goesText_18 : decode cX8_goesText 18 = .ok (.iload_n 1, 1) := by decide +kernel
theorem dX8_goesText_19 : decode cX8_goesText 19 = .ok (.imul, 1) := by decide +kernel
theorem dX8_goesText_20 : decode cX8_goesText 20 = .ok (.iload_n 2, 1) := by decide +kernel
theorem dX8_goesText_21 : decode cX8_goesText 21 = .ok (.iadd, 1) := by decide +kernel
theorem dX8_goesText_22 : decode cX8_goesText 22 = .ok (.invokevirtual 252, 3) := by decide +kernel
theorem dX8_goesText_25 : decode cX8_goesText 25 = .ok (.ifCond .ne 5, 3) := by decide +kernel
theorem dX8_goesText_28 : decode cX8_goesText 28 = .ok (.iconst 0, 1) := by decide +kernel
theorem dX8_goesText_29 : decode cX8_goesText 29 = .ok (.ireturn, 1) := by decide +kernel
theorem dX8_goesText_30 : decode cX8_goesText 30 = .ok (.iinc 2 1, 3) := by decide +kernel
theorem dX8_goesText_33 : decode cX8_goesText 33 = .ok (.aload_n 0, 1) := by decide +kernel
theorem dX8_goesText_34 : decode cX8_goesText 34 = .ok (.getfield 59, 3) := by decide +kernel
theorem dX8_goesText_37 : decode cX8_goesText 37 = .ok (.iload_n 1, 1) := by decide +kernel
theorem dX8_goesText_38 : decode cX8_goesText 38 = .ok (.iload_n 2, 1) := by decide +kernel
theorem dX8_goesText_39 : decode cX8_goesText 39 = .ok (.iastore, 1) := by decide +kernel
theorem dX8_goesText_40 : decode cX8_goesText 40 = .ok (.aload_n 0, 1) := by decide +kernel
theorem dX8_goesText_41 : decode cX8_goesText 41 = .ok (.getfield 50, 3) := by decide +kernel
theorem dX8_goesText_44 : decode cX8_goesText 44 = .ok (.aload_n 0, 1) := by decide +kernel
theorem dX8_goesText_45 : decode cX8_goesText 45 = .ok (.getfield 47, 3) := by decide +kernel
theorem dX8_goesText_48 : decode cX8_goesText 48 = .ok (.if_icmp .ne 5, 3) := by decide +kernel
theorem dX8_goesText_51 : decode cX8_goesText 51 = .ok (.iconst 1, 1) := by decide +kernel
theorem dX8_goesText_52 : decode cX8_goesText 52 = .ok (.ireturn, 1) := by decide +kernel
theorem dX8_goesText_53 : decode cX8_goesText 53 = .ok (.iload_n 2, 1) := by decide +kernel
theorem dX8_goesText_54 : decode cX8_goesText 54 = .ok (.bipush 10, 2) := by decide +kernel
theorem dX8_goesText_56 : decode cX8_goesText 56 = .ok (.if_icmp .eq 12, 3) := by decide +kernel
theorem dX8_goesText_59 : decode cX8_goesText 59 = .ok (.aload_n 0, 1) := by decide +kernel
theorem dX8_goesText_60 : decode cX8_goesText 60 = .ok (.bipush 59, 2) := by decide +kernel
theorem dX8_goesText_62 : decode cX8_goesText 62 = .ok (.invokevirtual 215, 3) := by decide +kernel
theorem dX8_goesText_65 : decode cX8_goesText 65 = .ok (.ifCond .ne (-50), 3) := by decide +kernel
theorem dX8_goesText_68 : decode cX8_goesText 68 = .ok (.iconst 0, 1) := by decide +kernel
theorem dX8_goesText_69 : decode cX8_goesText 69 = .ok (.ireturn, 1) := by decide +kernel
theorem dX8_fence_0 : decode cX8_fence 0 = .ok (.aload_n 0, 1) := by decide +kernel
theorem dX8_fence_1 : decode cX8_fence 1 = .ok (.getfield 41, 3) := by decide +kernel
theorem dX8_fence_4 : decode cX8_fence 4 = .ok (.bipush 6, 2) := by decide +kernel
theorem dX8_fence_6 : decode cX8_fence 6 = .ok (.if_icmp .ne 6, 3) := by decide +kernel
theorem dX8_fence_9 : decode cX8_fence 9 = .ok (.bipush (-4), 2) := by decide +kernel
theorem dX8_fence_11 : decode cX8_fence 11 = .ok (.ireturn, 1) := by decide +kernel
theorem dX8_fence_12 : decode cX8_fence 12 = .ok (.aload_n 0, 1) := by decide +kernel
theorem dX8_fence_13 : decode cX8_fence 13 = .ok (.aload_n 0, 1) := by decide +kernel
theorem dX8_fence_14 : decode cX8_fence 14 = .ok (.getfield 41, 3) := by decide +kernel
theorem dX8_fence_17 : decode cX8_fence 17 = .ok (.invokevirtual 255, 3) := by decide +kernel
theorem dX8_fence_20 : decode cX8_fence 20 = .ok (.istore_n 1, 1) := by decide +kernel
theorem dX8_fence_21 : decode cX8_fence 21 = .ok (.aload_n 0, 1) := by decide +kernel
theorem dX8_fence_22 : decode cX8_fence 22 = .ok (.iconst 0, 1) := by decide +kernel
theorem dX8_fence_23 : decode cX8_fence 23 = .ok (.putfield 47, 3) := by decide +kernel
theorem dX8_fence_26 : decode cX8_fence 26 = .ok (.iload_n 1, 1) := by decide +kernel
theorem dX8_fence_27 : decode cX8_fence 27 = .ok (.ifCond .ne 11, 3) := by decide +kernel
theorem dX8_fence_30 : decode cX8_fence 30 = .ok (.bipush (-10), 2) := by decide +kernel
theorem dX8_fence_32 : decode cX8_fence 32 = .ok (.aload_n 0, 1) := by decide +kernel
theorem dX8_fence_33 : decode cX8_fence 33 = .ok (.getfield 50, 3) := by decide +kernel
theorem dX8_fence_36 : decode cX8_fence 36 = .ok (.isub, 1) := by decide +kernel
theorem dX8_fence_37 : decode cX8_fence 37 = .ok (.ireturn, 1) := by decide +kernel
theorem dX8_fence_38 : decode cX8_fence 38 = .ok (.aload_n 0, 1) := by decide +kernel
theorem dX8_fence_39 : decode cX8_fence 39 = .ok (.aload_n 0, 1) := by decide +kernel
theorem dX8_fence_40 : decode cX8_fence 40 = .ok (.getfield 41, 3) := by decide +kernel
theorem dX8_fence_43 : decode cX8_fence 43 = .ok (.putfield 44, 3) := by decide +kernel
theorem dX8_fence_46 : decode cX8_fence 46 = .ok (.aload_n 0, 1) := by decide +kernel
theorem dX8_fence_47 : decode cX8_fence 47 = .ok (.dup, 1) := by decide +kernel
theorem dX8_fence_48 : decode cX8_fence 48 = .ok (.getfield 41, 3) := by decide +kernel
theorem dX8_fence_51 : decode cX8_fence 51 = .ok (.iconst 1, 1) := by decide +kernel
theorem dX8_fence_52 : decode cX8_fence 52 = .ok (.iadd, 1) := by decide +kernel
theorem dX8_fence_53 : decode cX8_fence 53 = .ok (.putfield 41, 3) := by decide +kernel
theorem dX8_fence_56 : decode cX8_fence 56 = .ok (.aload_n 0, 1) := by decide +kernel
theorem dX8_fence_57 : decode cX8_fence 57 = .ok (.getfield 44, 3) := by decide +kernel
theorem dX8_fence_60 : decode cX8_fence 60 = .ok (.ireturn, 1) := by decide +kernel
theorem dX8_begin_0 : decode cX8_begin 0 = .ok (.aload_n 0, 1) := by decide +kernel
theorem dX8_begin_1 : decode cX8_begin 1 = .ok (.getfield 44, 3) := by decide +kernel
theorem dX8_begin_4 : decode cX8_begin 4 = .ok (.ifCond .ge 7, 3) := by decide +kernel
theorem dX8_begin_7 : decode cX8_begin 7 = .ok (.iconst 0, 1) := by decide +kernel
theorem dX8_begin_8 : decode cX8_begin 8 = .ok (.goto 10, 3) := by decide +kernel
theorem dX8_begin_11 : decode cX8_begin 11 = .ok (.bipush 10, 2) := by decide +kernel
theorem dX8_begin_13 : decode cX8_begin 13 = .ok (.aload_n 0, 1) := by decide +kernel
theorem dX8_begin_14 : decode cX8_begin 14 = .ok (.getfield 44, 3) := by decide +kernel
theorem dX8_begin_17 : decode cX8_begin 17 = .ok (.imul, 1) := by decide +kernel
theorem dX8_begin_18 : decode cX8_begin 18 = .ok (.ireturn, 1) := by decide +kernel
theorem dX8_behind_0 : decode cX8_behind 0 = .ok (.aload_n 0, 1) := by decide +kernel
theorem dX8_behind_1 : decode cX8_behind 1 = .ok (.getfield 44, 3) := by decide +kernel
theorem dX8_behind_4 : decode cX8_behind 4 = .ok (.ifCond .ge 7, 3) := by decide +kernel
theorem dX8_behind_7 : decode cX8_behind 7 = .ok (.iconst 0, 1) := by decide +kernel
theorem dX8_behind_8 : decode cX8_behind 8 = .ok (.goto 20, 3) := by decide +kernel
theorem dX8_behind_11 : decode cX8_behind 11 = .ok (.bipush 10, 2) := by decide +kernel
theorem dX8_behind_13 : decode cX8_behind 13 = .ok (.aload_n 0, 1) := by decide +kernel
theorem dX8_behind_14 : decode cX8_behind 14 = .ok (.getfield 44, 3) := by decide +kernel
theorem dX8_behind_17 : decode cX8_behind 17 = .ok (.imul, 1) := by decide +kernel
theorem dX8_behind_18 : decode cX8_behind 18 = .ok (.aload_n 0, 1) := by decide +kernel
theorem dX8_behind_19 : decode cX8_behind 19 = .ok (.getfield 59, 3) := by decide +kernel
theorem dX8_behind_22 : decode cX8_behind 22 = .ok (.aload_n 0, 1) := by decide +kernel
theorem dX8_behind_23 : decode cX8_behind 23 = .ok (.getfield 44, 3) := by decide +kernel
theorem dX8_behind_26 : decode cX8_behind 26 = .ok (.iaload, 1) := by decide +kernel
theorem dX8_behind_27 : decode cX8_behind 27 = .ok (.iadd, 1) := by decide +kernel
theorem dX8_behind_28 : decode cX8_behind 28 = .ok (.ireturn, 1) := by decide +kernel
theorem dX8_mostNow_0 : decode cX8_mostNow 0 = .ok (.bipush 8, 2) := by decide +kernel
theorem dX8_mostNow_2 : decode cX8_mostNow 2 = .ok (.istore_n 1, 1) := by decide +kernel
theorem dX8_mostNow_3 : decode cX8_mostNow 3 = .ok (.aload_n 0, 1) := by decide +kernel
theorem dX8_mostNow_4 : decode cX8_mostNow 4 = .ok (.invokevirtual 258, 3) := by decide +kernel
theorem dX8_mostNow_7 : decode cX8_mostNow 7 = .ok (.istore_n 2, 1) := by decide +kernel
theorem dX8_mostNow_8 : decode cX8_mostNow 8 = .ok (.iload_n 2, 1) := by decide +kernel
theorem dX8_mostNow_9 : decode cX8_mostNow 9 = .ok (.aload_n 0, 1) := by decide +kernel
theorem dX8_mostNow_10 : decode cX8_mostNow 10 = .ok (.invokevirtual 261, 3) := by decide +kernel
theorem dX8_mostNow_13 : decode cX8_mostNow 13 = .ok (.if_icmp .ge 30, 3) := by decide +kernel
theorem dX8_mostNow_16 : decode cX8_mostNow 16 = .ok (.aload_n 0, 1) := by decide +kernel
theorem dX8_mostNow_17 : decode cX8_mostNow 17 = .ok (.getfield 62, 3) := by decide +kernel
theorem dX8_mostNow_20 : decode cX8_mostNow 20 = .ok (.iload_n 2, 1) := by decide +kernel
theorem dX8_mostNow_21 : decode cX8_mostNow 21 = .ok (.iaload, 1) := by decide +kernel
theorem dX8_mostNow_22 : decode cX8_mostNow 22 = .ok (.iconst 2, 1) := by decide +kernel
theorem dX8_mostNow_23 : decode cX8_mostNow 23 = .ok (.if_icmp .ne 12, 3) := by decide +kernel
theorem dX8_mostNow_26 : decode cX8_mostNow 26 = .ok (.aload_n 0, 1) := by decide +kernel
theorem dX8_mostNow_27 : decode cX8_mostNow 27 = .ok (.getfield 65, 3) := by decide +kernel
theorem dX8_mostNow_30 : decode cX8_mostNow 30 = .ok (.iload_n 2, 1) := by decide +kernel
theorem dX8_mostNow_31 : decode cX8_mostNow 31 = .ok (.iaload, 1) := by decide +kernel
theorem dX8_mostNow_32 : decode cX8_mostNow 32 = .ok (.goto 4, 3) := by decide +kernel
theorem dX8_mostNow_35 : decode cX8_mostNow 35 = .ok (.iload_n 1, 1) := by decide +kernel
theorem dX8_mostNow_36 : decode cX8_mostNow 36 = .ok (.istore_n 1, 1) := by decide +kernel
theorem dX8_mostNow_37 : decode cX8_mostNow 37 = .ok (.iinc 2 1, 3) := by decide +kernel
theorem dX8_mostNow_40 : decode cX8_mostNow 40 = .ok (.goto (-32), 3) := by decide +kernel
theorem dX8_mostNow_43 : decode cX8_mostNow 43 = .ok (.iload_n 1, 1) := by decide +kernel
theorem dX8_mostNow_44 : decode cX8_mostNow 44 = .ok (.bipush 9, 2) := by decide +kernel
theorem dX8_mostNow_46 : decode cX8_mostNow 46 = .ok (.if_icmp .le 8, 3) := by decide +kernel
theorem dX8_mostNow_49 : decode cX8_mostNow 49 = .ok (.bipush 9, 2) := by decide +kernel
theorem dX8_mostNow_51 : decode cX8_mostNow 51 = .ok (.goto 4, 3) := by decide +kernel
theorem dX8_mostNow_54 : decode cX8_mostNow 54 = .ok (.iload_n 1, 1) := by decide +kernel
theorem dX8_mostNow_55 : decode cX8_mostNow 55 = .ok (.ireturn, 1) := by decide +kernel
theorem dX8_factOf_0 : decode cX8_factOf 0 = .ok (.iload_n 1, 1) := by decide +kernel
theorem dX8_factOf_1 : decode cX8_factOf 1 = .ok (.tableswitch 65 0 4 #[35, 37, 44, 51, 60], 35) := by decide +kernel
theorem dX8_factOf_36 : decode cX8_factOf 36 = .ok (.iload_n 2, 1) := by decide +kernel
theorem dX8_factOf_37 : decode cX8_factOf 37 = .ok (.ireturn, 1) := by decide +kernel
theorem dX8_factOf_38 : decode cX8_factOf 38 = .ok (.aload_n 0, 1) := by decide +kernel
theorem dX8_factOf_39 : decode cX8_factOf 39 = .ok (.getfield 16, 3) := by decide +kernel
theorem dX8_factOf_42 : decode cX8_factOf 42 = .ok (.iload_n 2, 1) := by decide +kernel
theorem dX8_factOf_43 : decode cX8_factOf 43 = .ok (.iaload, 1) := by decide +kernel
theorem dX8_factOf_44 : decode cX8_factOf 44 = .ok (.ireturn, 1) := by decide +kernel
theorem dX8_factOf_45 : decode cX8_factOf 45 = .ok (.aload_n 0, 1) := by decide +kernel
theorem dX8_factOf_46 : decode cX8_factOf 46 = .ok (.getfield 20, 3) := by decide +kernel
theorem dX8_factOf_49 : decode cX8_factOf 49 = .ok (.iload_n 2, 1) := by decide +kernel
theorem dX8_factOf_50 : decode cX8_factOf 50 = .ok (.iaload, 1) := by decide +kernel
theorem dX8_factOf_51 : decode cX8_factOf 51 = .ok (.ireturn, 1) := by decide +kernel
theorem dX8_factOf_52 : decode cX8_factOf 52 = .ok (.aload_n 0, 1) := by decide +kernel
theorem dX8_factOf_53 : decode cX8_factOf 53 = .ok (.getfield 23, 3) := by decide +kernel
theorem dX8_factOf_56 : decode cX8_factOf 56 = .ok (.iconst 3, 1) := by decide +kernel
theorem dX8_factOf_57 : decode cX8_factOf 57 = .ok (.iload_n 2, 1) := by decide +kernel
theorem dX8_factOf_58 : decode cX8_factOf 58 = .ok (.imul, 1) := by decide +kernel
theorem dX8_factOf_59 : decode cX8_factOf 59 = .ok (.iaload, 1) := by decide +kernel
theorem dX8_factOf_60 : decode cX8_factOf 60 = .ok (.ireturn, 1) := by decide +kernel
theorem dX8_factOf_61 : decode cX8_factOf 61 = .ok (.aload_n 0, 1) := by decide +kernel
theorem dX8_factOf_62 : decode cX8_factOf 62 = .ok (.getfield 13, 3) := by decide +kernel
theorem dX8_factOf_65 : decode cX8_factOf 65 = .ok (.ireturn, 1) := by decide +kernel
theorem dX8_factOf_66 : decode cX8_factOf 66 = .ok (.iload_n 3, 1) := by decide +kernel
theorem dX8_factOf_67 : decode cX8_factOf 67 = .ok (.ireturn, 1) := by decide +kernel
theorem dX8_holds_0 : decode cX8_holds 0 = .ok (.iconst 0, 1) := by decide +kernel
theorem dX8_holds_1 : decode cX8_holds 1 = .ok (.istore 4, 2) := by decide +kernel
theorem dX8_holds_3 : decode cX8_holds 3 = .ok (.aload_n 0, 1) := by decide +kernel
theorem dX8_holds_4 : decode cX8_holds 4 = .ok (.getfield 68, 3) := by decide +kernel
theorem dX8_holds_7 : decode cX8_holds 7 = .ok (.iload_n 1, 1) := by decide +kernel
theorem dX8_holds_8 : decode cX8_holds 8 = .ok (.iaload, 1) := by decide +kernel
theorem dX8_holds_9 : decode cX8_holds 9 = .ok (.istore 5, 2) := by decide +kernel
theorem dX8_holds_11 : decode cX8_holds 11 = .ok (.iload 5, 2) := by decide +kernel
theorem dX8_holds_13 : decode cX8_holds 13 = .ok (.aload_n 0, 1) := by decide +kernel
theorem dX8_holds_14 : decode cX8_holds 14 = .ok (.getfield 71, 3) := by decide +kernel
theorem dX8_holds_17 : decode cX8_holds 17 = .ok (.iload_n 1, 1) := by decide +kernel
theorem dX8_holds_18 : decode cX8_holds 18 = .ok (.iaload, 1) := by decide +kernel
theorem dX8_holds_19 : decode cX8_holds 19 = .ok (.if_icmp .ge 234, 3) := by decide +kernel
theorem dX8_holds_22 : decode cX8_holds 22 = .ok (.aload_n 0, 1) := by decide +kernel
theorem dX8_holds_23 : decode cX8_holds 23 = .ok (.getfield 74, 3) := by decide +kernel
theorem dX8_holds_26 : decode cX8_holds 26 = .ok (.iload 5, 2) := by decide +kernel
theorem dX8_holds_28 : decode cX8_holds 28 = .ok (.iaload, 1) := by decide +kernel
theorem dX8_holds_29 : decode cX8_holds 29 = .ok (.istore 6, 2) := by decide +kernel
theorem dX8_holds_31 : decode cX8_holds 31 = .ok (.iload 6, 2) := by decide +kernel
theorem dX8_holds_33 : decode cX8_holds 33 = .ok (.bipush (-33), 2) := by decide +kernel
theorem dX8_holds_35 : decode cX8_holds 35 = .ok (.if_icmp .ne 32, 3) := by decide +kernel
theorem dX8_holds_38 : decode cX8_holds 38 = .ok (.aload_n 0, 1) := by decide +kernel
theorem dX8_holds_39 : decode cX8_holds 39 = .ok (.getfield 92, 3) := by decide +kernel
theorem dX8_holds_42 : decode cX8_holds 42 = .ok (.iload 4, 2) := by decide +kernel
theorem dX8_holds_44 : decode cX8_holds 44 = .ok (.iconst 1, 1) := by decide +kernel
theorem dX8_holds_45 : decode cX8_holds 45 = .ok (.isub, 1) := by decide +kernel
theorem dX8_holds_46 : decode cX8_holds 46 = .ok (.aload_n 0, 1) := by decide +kernel
theorem dX8_holds_47 : decode cX8_holds 47 = .ok (.getfield 92, 3) := by decide +kernel
theorem dX8_holds_50 : decode cX8_holds 50 = .ok (.iload 4, 2) := by decide +kernel
theorem dX8_holds_52 : decode cX8_holds 52 = .ok (.iconst 1, 1) := by decide +kernel
theorem dX8_holds_53 : decode cX8_holds 53 = .ok (.isub, 1) := by decide +kernel
theorem dX8_holds_54 : decode cX8_holds 54 = .ok (.baload, 1) := by decide +kernel
theorem dX8_holds_55 : decode cX8_holds 55 = .ok (.ifCond .ne 7, 3) := by decide +kernel
theorem dX8_holds_58 : decode cX8_holds 58 = .ok (.iconst 1, 1) := by decide +kernel
theorem dX8_holds_59 : decode cX8_holds 59 = .ok (.goto 4, 3) := by decide +kernel
theorem dX8_holds_62 : decode cX8_holds 62 = .ok (.iconst 0, 1) := by decide +kernel
theorem dX8_holds_63 : decode cX8_holds 63 = .ok (.bastore, 1) := by decide +kernel
theorem dX8_holds_64 : decode cX8_holds 64 = .ok (.goto 183, 3) := by decide +kernel
theorem dX8_holds_67 : decode cX8_holds 67 = .ok (.iload 6, 2) := by decide +kernel
theorem dX8_holds_69 : decode cX8_holds 69 = .ok (.ifCond .ge 82, 3) := by decide +kernel
theorem dX8_holds_72 : decode cX8_holds 72 = .ok (.iinc 4 (-1), 3) := by decide +kernel
theorem dX8_holds_75 : decode cX8_holds 75 = .ok (.aload_n 0, 1) := by decide +kernel
theorem dX8_holds_76 : decode cX8_holds 76 = .ok (.getfield 92, 3) := by decide +kernel
theorem dX8_holds_79 : decode cX8_holds 79 = .ok (.iload 4, 2) := by decide +kernel
theorem dX8_holds_81 : decode cX8_holds 81 = .ok (.iconst 1, 1) := by decide +kernel
theorem dX8_holds_82 : decode cX8_holds 82 = .ok (.isub, 1) := by decide +kernel
end
section
theorem dX8_holds_83 : decode cX8_holds 83 = .ok (.iload 6, 2) := by decide +kernel
theorem dX8_holds_85 : decode cX8_holds 85 = .ok (.bipush (-38), 2) := by decide +kernel
theorem dX8_holds_87 : decode cX8_holds 87 = .ok (.if_icmp .ne 33, 3) := by decide +kernel
theorem dX8_holds_90 : decode cX8_holds 90 = .ok (.aload_n 0, 1) := by decide +kernel
theorem dX8_holds_91 : decode cX8_holds 91 = .ok (.getfield 92, 3) := by decide +kernel
theorem dX8_holds_94 : decode cX8_holds 94 = .ok (.iload 4, 2) := by decide +kernel
theorem dX8_holds_96 : decode cX8_holds 96 = .ok (.iconst 1, 1) := by decide +kernel
theorem dX8_holds_97 : decode cX8_holds 97 = .ok (.isub, 1) := by decide +kernel
theorem dX8_holds_98 : decode cX8_holds 98 = .ok (.baload, 1) := by decide +kernel
theorem dX8_holds_99 : decode cX8_holds 99 = .ok (.ifCond .eq 17, 3) := by decide +kernel
theorem dX8_holds_102 : decode cX8_holds 102 = .ok (.aload_n 0, 1) := by decide +kernel
theorem dX8_holds_103 : decode cX8_holds 103 = .ok (.getfield 92, 3) := by decide +kernel
theorem dX8_holds_106 : decode cX8_holds 106 = .ok (.iload 4, 2) := by decide +kernel
theorem dX8_holds_108 : decode cX8_holds 108 = .ok (.baload, 1) := by decide +kernel
theorem dX8_holds_109 : decode cX8_holds 109 = .ok (.ifCond .eq 7, 3) := by decide +kernel
theorem dX8_holds_112 : decode cX8_holds 112 = .ok (.iconst 1, 1) := by decide +kernel
theorem dX8_holds_113 : decode cX8_holds 113 = .ok (.goto 34, 3) := by decide +kernel
theorem dX8_holds_116 : decode cX8_holds 116 = .ok (.iconst 0, 1) := by decide +kernel
theorem dX8_holds_117 : decode cX8_holds 117 = .ok (.goto 30, 3) := by decide +kernel
theorem dX8_holds_120 : decode cX8_holds 120 = .ok (.aload_n 0, 1) := by decide +kernel
theorem dX8_holds_121 : decode cX8_holds 121 = .ok (.getfield 92, 3) := by decide +kernel
theorem dX8_holds_124 : decode cX8_holds 124 = .ok (.iload 4, 2) := by decide +kernel
theorem dX8_holds_126 : decode cX8_holds 126 = .ok (.iconst 1, 1) := by decide +kernel
theorem dX8_holds_127 : decode cX8_holds 127 = .ok (.isub, 1) := by decide +kernel
theorem dX8_holds_128 : decode cX8_holds 128 = .ok (.baload, 1) := by decide +kernel
theorem dX8_holds_129 : decode cX8_holds 129 = .ok (.ifCond .ne 13, 3) := by decide +kernel
theorem dX8_holds_132 : decode cX8_holds 132 = .ok (.aload_n 0, 1) := by decide +kernel
theorem dX8_holds_133 : decode cX8_holds 133 = .ok (.getfield 92, 3) := by decide +kernel
theorem dX8_holds_136 : decode cX8_holds 136 = .ok (.iload 4, 2) := by decide +kernel
theorem dX8_holds_138 : decode cX8_holds 138 = .ok (.baload, 1) := by decide +kernel
theorem dX8_holds_139 : decode cX8_holds 139 = .ok (.ifCond .eq 7, 3) := by decide +kernel
theorem dX8_holds_142 : decode cX8_holds 142 = .ok (.iconst 1, 1) := by decide +kernel
theorem dX8_holds_143 : decode cX8_holds 143 = .ok (.goto 4, 3) := by decide +kernel
theorem dX8_holds_146 : decode cX8_holds 146 = .ok (.iconst 0, 1) := by decide +kernel
theorem dX8_holds_147 : decode cX8_holds 147 = .ok (.bastore, 1) := by decide +kernel
theorem dX8_holds_148 : decode cX8_holds 148 = .ok (.goto 99, 3) := by decide +kernel
theorem dX8_holds_151 : decode cX8_holds 151 = .ok (.aload_n 0, 1) := by decide +kernel
theorem dX8_holds_152 : decode cX8_holds 152 = .ok (.iload 6, 2) := by decide +kernel
theorem dX8_holds_154 : decode cX8_holds 154 = .ok (.sipush 1000, 3) := by decide +kernel
theorem dX8_holds_157 : decode cX8_holds 157 = .ok (.idiv, 1) := by decide +kernel
theorem dX8_holds_158 : decode cX8_holds 158 = .ok (.iload_n 2, 1) := by decide +kernel
theorem dX8_holds_159 : decode cX8_holds 159 = .ok (.iload_n 3, 1) := by decide +kernel
theorem dX8_holds_160 : decode cX8_holds 160 = .ok (.invokevirtual 264, 3) := by decide +kernel
theorem dX8_holds_163 : decode cX8_holds 163 = .ok (.istore 7, 2) := by decide +kernel
theorem dX8_holds_165 : decode cX8_holds 165 = .ok (.iload 6, 2) := by decide +kernel
theorem dX8_holds_167 : decode cX8_holds 167 = .ok (.bipush 100, 2) := by decide +kernel
theorem dX8_holds_169 : decode cX8_holds 169 = .ok (.idiv, 1) := by decide +kernel
theorem dX8_holds_170 : decode cX8_holds 170 = .ok (.bipush 10, 2) := by decide +kernel
theorem dX8_holds_172 : decode cX8_holds 172 = .ok (.irem, 1) := by decide +kernel
theorem dX8_holds_173 : decode cX8_holds 173 = .ok (.istore 8, 2) := by decide +kernel
theorem dX8_holds_175 : decode cX8_holds 175 = .ok (.aload_n 0, 1) := by decide +kernel
theorem dX8_holds_176 : decode cX8_holds 176 = .ok (.getfield 92, 3) := by decide +kernel
theorem dX8_holds_179 : decode cX8_holds 179 = .ok (.iload 4, 2) := by decide +kernel
theorem dX8_holds_181 : decode cX8_holds 181 = .ok (.iload 8, 2) := by decide +kernel
theorem dX8_holds_183 : decode cX8_holds 183 = .ok (.ifCond .ne 21, 3) := by decide +kernel
theorem dX8_holds_186 : decode cX8_holds 186 = .ok (.iload 7, 2) := by decide +kernel
theorem dX8_holds_188 : decode cX8_holds 188 = .ok (.iload 6, 2) := by decide +kernel
theorem dX8_holds_190 : decode cX8_holds 190 = .ok (.bipush 100, 2) := by decide +kernel
theorem dX8_holds_192 : decode cX8_holds 192 = .ok (.irem, 1) := by decide +kernel
theorem dX8_holds_193 : decode cX8_holds 193 = .ok (.if_icmp .ge 7, 3) := by decide +kernel
theorem dX8_holds_196 : decode cX8_holds 196 = .ok (.iconst 1, 1) := by decide +kernel
theorem dX8_holds_197 : decode cX8_holds 197 = .ok (.goto 46, 3) := by decide +kernel
theorem dX8_holds_200 : decode cX8_holds 200 = .ok (.iconst 0, 1) := by decide +kernel
theorem dX8_holds_201 : decode cX8_holds 201 = .ok (.goto 42, 3) := by decide +kernel
theorem dX8_holds_204 : decode cX8_holds 204 = .ok (.iload 8, 2) := by decide +kernel
theorem dX8_holds_206 : decode cX8_holds 206 = .ok (.iconst 1, 1) := by decide +kernel
theorem dX8_holds_207 : decode cX8_holds 207 = .ok (.if_icmp .ne 21, 3) := by decide +kernel
theorem dX8_holds_210 : decode cX8_holds 210 = .ok (.iload 7, 2) := by decide +kernel
theorem dX8_holds_212 : decode cX8_holds 212 = .ok (.iload 6, 2) := by decide +kernel
theorem dX8_holds_214 : decode cX8_holds 214 = .ok (.bipush 100, 2) := by decide +kernel
theorem dX8_holds_216 : decode cX8_holds 216 = .ok (.irem, 1) := by decide +kernel
theorem dX8_holds_217 : decode cX8_holds 217 = .ok (.if_icmp .ne 7, 3) := by decide +kernel
theorem dX8_holds_220 : decode cX8_holds 220 = .ok (.iconst 1, 1) := by decide +kernel
theorem dX8_holds_221 : decode cX8_holds 221 = .ok (.goto 22, 3) := by decide +kernel
theorem dX8_holds_224 : decode cX8_holds 224 = .ok (.iconst 0, 1) := by decide +kernel
theorem dX8_holds_225 : decode cX8_holds 225 = .ok (.goto 18, 3) := by decide +kernel
theorem dX8_holds_228 : decode cX8_holds 228 = .ok (.iload 7, 2) := by decide +kernel
theorem dX8_holds_230 : decode cX8_holds 230 = .ok (.iload 6, 2) := by decide +kernel
theorem dX8_holds_232 : decode cX8_holds 232 = .ok (.bipush 100, 2) := by decide +kernel
theorem dX8_holds_234 : decode cX8_holds 234 = .ok (.irem, 1) := by decide +kernel
theorem dX8_holds_235 : decode cX8_holds 235 = .ok (.if_icmp .le 7, 3) := by decide +kernel
theorem dX8_holds_238 : decode cX8_holds 238 = .ok (.iconst 1, 1) := by decide +kernel
theorem dX8_holds_239 : decode cX8_holds 239 = .ok (.goto 4, 3) := by decide +kernel
theorem dX8_holds_242 : decode cX8_holds 242 = .ok (.iconst 0, 1) := by decide +kernel
theorem dX8_holds_243 : decode cX8_holds 243 = .ok (.bastore, 1) := by decide +kernel
theorem dX8_holds_244 : decode cX8_holds 244 = .ok (.iinc 4 1, 3) := by decide +kernel
theorem dX8_holds_247 : decode cX8_holds 247 = .ok (.iinc 5 1, 3) := by decide +kernel
theorem dX8_holds_250 : decode cX8_holds 250 = .ok (.goto (-239), 3) := by decide +kernel
theorem dX8_holds_253 : decode cX8_holds 253 = .ok (.aload_n 0, 1) := by decide +kernel
theorem dX8_holds_254 : decode cX8_holds 254 = .ok (.getfield 92, 3) := by decide +kernel
theorem dX8_holds_257 : decode cX8_holds 257 = .ok (.iconst 0, 1) := by decide +kernel
theorem dX8_holds_258 : decode cX8_holds 258 = .ok (.baload, 1) := by decide +kernel
theorem dX8_holds_259 : decode cX8_holds 259 = .ok (.ireturn, 1) := by decide +kernel
theorem dX8_sumOf_0 : decode cX8_sumOf 0 = .ok (.iconst 0, 1) := by decide +kernel
theorem dX8_sumOf_1 : decode cX8_sumOf 1 = .ok (.istore 4, 2) := by decide +kernel
theorem dX8_sumOf_3 : decode cX8_sumOf 3 = .ok (.aload_n 0, 1) := by decide +kernel
theorem dX8_sumOf_4 : decode cX8_sumOf 4 = .ok (.invokevirtual 258, 3) := by decide +kernel
theorem dX8_sumOf_7 : decode cX8_sumOf 7 = .ok (.istore 5, 2) := by decide +kernel
theorem dX8_sumOf_9 : decode cX8_sumOf 9 = .ok (.iload 5, 2) := by decide +kernel
theorem dX8_sumOf_11 : decode cX8_sumOf 11 = .ok (.aload_n 0, 1) := by decide +kernel
theorem dX8_sumOf_12 : decode cX8_sumOf 12 = .ok (.invokevirtual 261, 3) := by decide +kernel
theorem dX8_sumOf_15 : decode cX8_sumOf 15 = .ok (.if_icmp .ge 47, 3) := by decide +kernel
theorem dX8_sumOf_18 : decode cX8_sumOf 18 = .ok (.iload 4, 2) := by decide +kernel
theorem dX8_sumOf_20 : decode cX8_sumOf 20 = .ok (.aload_n 0, 1) := by decide +kernel
theorem dX8_sumOf_21 : decode cX8_sumOf 21 = .ok (.getfield 62, 3) := by decide +kernel
theorem dX8_sumOf_24 : decode cX8_sumOf 24 = .ok (.iload 5, 2) := by decide +kernel
theorem dX8_sumOf_26 : decode cX8_sumOf 26 = .ok (.iaload, 1) := by decide +kernel
theorem dX8_sumOf_27 : decode cX8_sumOf 27 = .ok (.iload_n 1, 1) := by decide +kernel
theorem dX8_sumOf_28 : decode cX8_sumOf 28 = .ok (.if_icmp .ne 24, 3) := by decide +kernel
theorem dX8_sumOf_31 : decode cX8_sumOf 31 = .ok (.aload_n 0, 1) := by decide +kernel
theorem dX8_sumOf_32 : decode cX8_sumOf 32 = .ok (.iload 5, 2) := by decide +kernel
theorem dX8_sumOf_34 : decode cX8_sumOf 34 = .ok (.iload_n 2, 1) := by decide +kernel
theorem dX8_sumOf_35 : decode cX8_sumOf 35 = .ok (.iload_n 3, 1) := by decide +kernel
theorem dX8_sumOf_36 : decode cX8_sumOf 36 = .ok (.invokevirtual 268, 3) := by decide +kernel
theorem dX8_sumOf_39 : decode cX8_sumOf 39 = .ok (.ifCond .eq 13, 3) := by decide +kernel
theorem dX8_sumOf_42 : decode cX8_sumOf 42 = .ok (.aload_n 0, 1) := by decide +kernel
theorem dX8_sumOf_43 : decode cX8_sumOf 43 = .ok (.getfield 65, 3) := by decide +kernel
theorem dX8_sumOf_46 : decode cX8_sumOf 46 = .ok (.iload 5, 2) := by decide +kernel
theorem dX8_sumOf_48 : decode cX8_sumOf 48 = .ok (.iaload, 1) := by decide +kernel
theorem dX8_sumOf_49 : decode cX8_sumOf 49 = .ok (.goto 4, 3) := by decide +kernel
theorem dX8_sumOf_52 : decode cX8_sumOf 52 = .ok (.iconst 0, 1) := by decide +kernel
theorem dX8_sumOf_53 : decode cX8_sumOf 53 = .ok (.iadd, 1) := by decide +kernel
theorem dX8_sumOf_54 : decode cX8_sumOf 54 = .ok (.istore 4, 2) := by decide +kernel
theorem dX8_sumOf_56 : decode cX8_sumOf 56 = .ok (.iinc 5 1, 3) := by decide +kernel
theorem dX8_sumOf_59 : decode cX8_sumOf 59 = .ok (.goto (-50), 3) := by decide +kernel
theorem dX8_sumOf_62 : decode cX8_sumOf 62 = .ok (.iload 4, 2) := by decide +kernel
theorem dX8_sumOf_64 : decode cX8_sumOf 64 = .ok (.ireturn, 1) := by decide +kernel
theorem dX8_showsOf_0 : decode cX8_showsOf 0 = .ok (.aload_n 0, 1) := by decide +kernel
theorem dX8_showsOf_1 : decode cX8_showsOf 1 = .ok (.getfield 23, 3) := by decide +kernel
theorem dX8_showsOf_4 : decode cX8_showsOf 4 = .ok (.iconst 3, 1) := by decide +kernel
theorem dX8_showsOf_5 : decode cX8_showsOf 5 = .ok (.iload_n 1, 1) := by decide +kernel
theorem dX8_showsOf_6 : decode cX8_showsOf 6 = .ok (.imul, 1) := by decide +kernel
theorem dX8_showsOf_7 : decode cX8_showsOf 7 = .ok (.iload_n 2, 1) := by decide +kernel
theorem dX8_showsOf_8 : decode cX8_showsOf 8 = .ok (.iadd, 1) := by decide +kernel
theorem dX8_showsOf_9 : decode cX8_showsOf 9 = .ok (.iaload, 1) := by decide +kernel
theorem dX8_showsOf_10 : decode cX8_showsOf 10 = .ok (.aload_n 0, 1) := by decide +kernel
theorem dX8_showsOf_11 : decode cX8_showsOf 11 = .ok (.iconst 1, 1) := by decide +kernel
theorem dX8_showsOf_12 : decode cX8_showsOf 12 = .ok (.iload_n 1, 1) := by decide +kernel
theorem dX8_showsOf_13 : decode cX8_showsOf 13 = .ok (.iload_n 2, 1) := by decide +kernel
theorem dX8_showsOf_14 : decode cX8_showsOf 14 = .ok (.invokevirtual 271, 3) := by decide +kernel
theorem dX8_showsOf_17 : decode cX8_showsOf 17 = .ok (.iadd, 1) := by decide +kernel
theorem dX8_showsOf_18 : decode cX8_showsOf 18 = .ok (.istore_n 3, 1) := by decide +kernel
theorem dX8_showsOf_19 : decode cX8_showsOf 19 = .ok (.aload_n 0, 1) := by decide +kernel
theorem dX8_showsOf_20 : decode cX8_showsOf 20 = .ok (.getfield 16, 3) := by decide +kernel
theorem dX8_showsOf_23 : decode cX8_showsOf 23 = .ok (.iload_n 1, 1) := by decide +kernel
theorem dX8_showsOf_24 : decode cX8_showsOf 24 = .ok (.iaload, 1) := by decide +kernel
theorem dX8_showsOf_25 : decode cX8_showsOf 25 = .ok (.tableswitch 196 1 6 #[39, 59, 78, 94, 125, 157], 39) := by decide +kernel
theorem dX8_showsOf_64 : decode cX8_showsOf 64 = .ok (.iload_n 2, 1) := by decide +kernel
theorem dX8_showsOf_65 : decode cX8_showsOf 65 = .ok (.iconst 1, 1) := by decide +kernel
theorem dX8_showsOf_66 : decode cX8_showsOf 66 = .ok (.if_icmp .ne 16, 3) := by decide +kernel
theorem dX8_showsOf_69 : decode cX8_showsOf 69 = .ok (.iload_n 3, 1) := by decide +kernel
theorem dX8_showsOf_70 : decode cX8_showsOf 70 = .ok (.aload_n 0, 1) := by decide +kernel
theorem dX8_showsOf_71 : decode cX8_showsOf 71 = .ok (.getfield 20, 3) := by decide +kernel
theorem dX8_showsOf_74 : decode cX8_showsOf 74 = .ok (.iload_n 1, 1) := by decide +kernel
theorem dX8_showsOf_75 : decode cX8_showsOf 75 = .ok (.iaload, 1) := by decide +kernel
theorem dX8_showsOf_76 : decode cX8_showsOf 76 = .ok (.iconst 2, 1) := by decide +kernel
theorem dX8_showsOf_77 : decode cX8_showsOf 77 = .ok (.irem, 1) := by decide +kernel
theorem dX8_showsOf_78 : decode cX8_showsOf 78 = .ok (.iadd, 1) := by decide +kernel
theorem dX8_showsOf_79 : decode cX8_showsOf 79 = .ok (.goto 4, 3) := by decide +kernel
theorem dX8_showsOf_82 : decode cX8_showsOf 82 = .ok (.iload_n 3, 1) := by decide +kernel
theorem dX8_showsOf_83 : decode cX8_showsOf 83 = .ok (.ireturn, 1) := by decide +kernel
theorem dX8_showsOf_84 : decode cX8_showsOf 84 = .ok (.iload_n 2, 1) := by decide +kernel
theorem dX8_showsOf_85 : decode cX8_showsOf 85 = .ok (.iconst 1, 1) := by decide +kernel
theorem dX8_showsOf_86 : decode cX8_showsOf 86 = .ok (.if_icmp .ne 15, 3) := by decide +kernel
theorem dX8_showsOf_89 : decode cX8_showsOf 89 = .ok (.aload_n 0, 1) := by decide +kernel
theorem dX8_showsOf_90 : decode cX8_showsOf 90 = .ok (.getfield 13, 3) := by decide +kernel
theorem dX8_showsOf_93 : decode cX8_showsOf 93 = .ok (.iconst 5, 1) := by decide +kernel
theorem dX8_showsOf_94 : decode cX8_showsOf 94 = .ok (.if_icmp .ge 7, 3) := by decide +kernel
theorem dX8_showsOf_97 : decode cX8_showsOf 97 = .ok (.iconst 0, 1) := by decide +kernel
theorem dX8_showsOf_98 : decode cX8_showsOf 98 = .ok (.goto 4, 3) := by decide +kernel
theorem dX8_showsOf_101 : decode cX8_showsOf 101 = .ok (.iload_n 3, 1) := by decide +kernel
theorem dX8_showsOf_102 : decode cX8_showsOf 102 = .ok (.ireturn, 1) := by decide +kernel
theorem dX8_showsOf_103 : decode cX8_showsOf 103 = .ok (.iload_n 2, 1) := by decide +kernel
theorem dX8_showsOf_104 : decode cX8_showsOf 104 = .ok (.ifCond .ne 13, 3) := by decide +kernel
theorem dX8_showsOf_107 : decode cX8_showsOf 107 = .ok (.iload_n 3, 1) := by decide +kernel
theorem dX8_showsOf_108 : decode cX8_showsOf 108 = .ok (.ifCond .le 9, 3) := by decide +kernel
theorem dX8_showsOf_111 : decode cX8_showsOf 111 = .ok (.iload_n 3, 1) := by decide +kernel
theorem dX8_showsOf_112 : decode cX8_showsOf 112 = .ok (.iconst 1, 1) := by decide +kernel
theorem dX8_showsOf_113 : decode cX8_showsOf 113 = .ok (.isub, 1) := by decide +kernel
theorem dX8_showsOf_114 : decode cX8_showsOf 114 = .ok (.goto 4, 3) := by decide +kernel
theorem dX8_showsOf_117 : decode cX8_showsOf 117 = .ok (.iload_n 3, 1) := by decide +kernel
theorem dX8_showsOf_118 : decode cX8_showsOf 118 = .ok (.ireturn, 1) := by decide +kernel
theorem dX8_showsOf_119 : decode cX8_showsOf 119 = .ok (.iload_n 2, 1) := by decide +kernel
theorem dX8_showsOf_120 : decode cX8_showsOf 120 = .ok (.iconst 1, 1) := by decide +kernel
theorem dX8_showsOf_121 : decode cX8_showsOf 121 = .ok (.if_icmp .ne 16, 3) := by decide +kernel
theorem dX8_showsOf_124 : decode cX8_showsOf 124 = .ok (.iload_n 3, 1) := by decide +kernel
theorem dX8_showsOf_125 : decode cX8_showsOf 125 = .ok (.aload_n 0, 1) := by decide +kernel
theorem dX8_showsOf_126 : decode cX8_showsOf 126 = .ok (.getfield 20, 3) := by decide +kernel
theorem dX8_showsOf_129 : decode cX8_showsOf 129 = .ok (.iload_n 1, 1) := by decide +kernel
theorem dX8_showsOf_130 : decode cX8_showsOf 130 = .ok (.iaload, 1) := by decide +kernel
theorem dX8_showsOf_131 : decode cX8_showsOf 131 = .ok (.iconst 2, 1) := by decide +kernel
theorem dX8_showsOf_132 : decode cX8_showsOf 132 = .ok (.irem, 1) := by decide +kernel
theorem dX8_showsOf_133 : decode cX8_showsOf 133 = .ok (.iadd, 1) := by decide +kernel
theorem dX8_showsOf_134 : decode cX8_showsOf 134 = .ok (.goto 15, 3) := by decide +kernel
theorem dX8_showsOf_137 : decode cX8_showsOf 137 = .ok (.iload_n 2, 1) := by decide +kernel
theorem dX8_showsOf_138 : decode cX8_showsOf 138 = .ok (.iconst 2, 1) := by decide +kernel
theorem dX8_showsOf_139 : decode cX8_showsOf 139 = .ok (.if_icmp .ne 9, 3) := by decide +kernel
theorem dX8_showsOf_142 : decode cX8_showsOf 142 = .ok (.iconst 2, 1) := by decide +kernel
theorem dX8_showsOf_143 : decode cX8_showsOf 143 = .ok (.iload_n 3, 1) := by decide +kernel
theorem dX8_showsOf_144 : decode cX8_showsOf 144 = .ok (.imul, 1) := by decide +kernel
theorem dX8_showsOf_145 : decode cX8_showsOf 145 = .ok (.goto 4, 3) := by decide +kernel
theorem dX8_showsOf_148 : decode cX8_showsOf 148 = .ok (.iload_n 3, 1) := by decide +kernel
theorem dX8_showsOf_149 : decode cX8_showsOf 149 = .ok (.ireturn, 1) := by decide +kernel
theorem dX8_showsOf_150 : decode cX8_showsOf 150 = .ok (.aload_n 0, 1) := by decide +kernel
theorem dX8_showsOf_151 : decode cX8_showsOf 151 = .ok (.getfield 13, 3) := by decide +kernel
theorem dX8_showsOf_154 : decode cX8_showsOf 154 = .ok (.aload_n 0, 1) := by decide +kernel
theorem dX8_showsOf_155 : decode cX8_showsOf 155 = .ok (.getfield 20, 3) := by decide +kernel
theorem dX8_showsOf_158 : decode cX8_showsOf 158 = .ok (.iload_n 1, 1) := by decide +kernel
theorem dX8_showsOf_159 : decode cX8_showsOf 159 = .ok (.iaload, 1) := by decide +kernel
theorem dX8_showsOf_160 : decode cX8_showsOf 160 = .ok (.if_icmp .eq 16, 3) := by decide +kernel
theorem dX8_showsOf_163 : decode cX8_showsOf 163 = .ok (.iload_n 2, 1) := by decide +kernel
theorem dX8_showsOf_164 : decode cX8_showsOf 164 = .ok (.iconst 1, 1) := by decide +kernel
theorem dX8_showsOf_165 : decode cX8_showsOf 165 = .ok (.if_icmp .ne 15, 3) := by decide +kernel
theorem dX8_showsOf_168 : decode cX8_showsOf 168 = .ok (.aload_n 0, 1) := by decide +kernel
theorem dX8_showsOf_169 : decode cX8_showsOf 169 = .ok (.getfield 13, 3) := by decide +kernel
theorem dX8_showsOf_172 : decode cX8_showsOf 172 = .ok (.iconst 5, 1) := by decide +kernel
theorem dX8_showsOf_173 : decode cX8_showsOf 173 = .ok (.if_icmp .ge 7, 3) := by decide +kernel
theorem dX8_showsOf_176 : decode cX8_showsOf 176 = .ok (.iconst 0, 1) := by decide +kernel
theorem dX8_showsOf_177 : decode cX8_showsOf 177 = .ok (.goto 4, 3) := by decide +kernel
theorem dX8_showsOf_180 : decode cX8_showsOf 180 = .ok (.iload_n 3, 1) := by decide +kernel
theorem dX8_showsOf_181 : decode cX8_showsOf 181 = .ok (.ireturn, 1) := by decide +kernel
theorem dX8_showsOf_182 : decode cX8_showsOf 182 = .ok (.iload_n 2, 1) := by decide +kernel
theorem dX8_showsOf_183 : decode cX8_showsOf 183 = .ok (.iconst 2, 1) := by decide +kernel
theorem dX8_showsOf_184 : decode cX8_showsOf 184 = .ok (.if_icmp .ne 21, 3) := by decide +kernel
theorem dX8_showsOf_187 : decode cX8_showsOf 187 = .ok (.aload_n 0, 1) := by decide +kernel
theorem dX8_showsOf_188 : decode cX8_showsOf 188 = .ok (.getfield 35, 3) := by decide +kernel
theorem dX8_showsOf_191 : decode cX8_showsOf 191 = .ok (.iconst 3, 1) := by decide +kernel
theorem dX8_showsOf_192 : decode cX8_showsOf 192 = .ok (.iload_n 1, 1) := by decide +kernel
theorem dX8_showsOf_193 : decode cX8_showsOf 193 = .ok (.imul, 1) := by decide +kernel
theorem dX8_showsOf_194 : decode cX8_showsOf 194 = .ok (.aload_n 0, 1) := by decide +kernel
theorem dX8_showsOf_195 : decode cX8_showsOf 195 = .ok (.getfield 13, 3) := by decide +kernel
theorem dX8_showsOf_198 : decode cX8_showsOf 198 = .ok (.iconst 3, 1) := by decide +kernel
theorem dX8_showsOf_199 : decode cX8_showsOf 199 = .ok (.irem, 1) := by decide +kernel
theorem dX8_showsOf_200 : decode cX8_showsOf 200 = .ok (.iadd, 1) := by decide +kernel
theorem dX8_showsOf_201 : decode cX8_showsOf 201 = .ok (.iaload, 1) := by decide +kernel
theorem dX8_showsOf_202 : decode cX8_showsOf 202 = .ok (.goto 18, 3) := by decide +kernel
theorem dX8_showsOf_205 : decode cX8_showsOf 205 = .ok (.iload_n 2, 1) := by decide +kernel
theorem dX8_showsOf_206 : decode cX8_showsOf 206 = .ok (.ifCond .ne 13, 3) := by decide +kernel
theorem dX8_showsOf_209 : decode cX8_showsOf 209 = .ok (.iload_n 3, 1) := by decide +kernel
theorem dX8_showsOf_210 : decode cX8_showsOf 210 = .ok (.ifCond .le 9, 3) := by decide +kernel
theorem dX8_showsOf_213 : decode cX8_showsOf 213 = .ok (.iload_n 3, 1) := by decide +kernel
theorem dX8_showsOf_214 : decode cX8_showsOf 214 = .ok (.iconst 1, 1) := by decide +kernel
theorem dX8_showsOf_215 : decode cX8_showsOf 215 = .ok (.isub, 1) := by decide +kernel
theorem dX8_showsOf_216 : decode cX8_showsOf 216 = .ok (.goto 4, 3) := by decide +kernel
theorem dX8_showsOf_219 : decode cX8_showsOf 219 = .ok (.iload_n 3, 1) := by decide +kernel
theorem dX8_showsOf_220 : decode cX8_showsOf 220 = .ok (.ireturn, 1) := by decide +kernel
theorem dX8_showsOf_221 : decode cX8_showsOf 221 = .ok (.iload_n 3, 1) := by decide +kernel
theorem dX8_showsOf_222 : decode cX8_showsOf 222 = .ok (.ireturn, 1) := by decide +kernel
theorem dX8_layShows_0 : decode cX8_layShows 0 = .ok (.iconst 0, 1) := by decide +kernel
theorem dX8_layShows_1 : decode cX8_layShows 1 = .ok (.istore_n 1, 1) := by decide +kernel
theorem dX8_layShows_2 : decode cX8_layShows 2 = .ok (.iload_n 1, 1) := by decide +kernel
theorem dX8_layShows_3 : decode cX8_layShows 3 = .ok (.aload_n 0, 1) := by decide +kernel
theorem dX8_layShows_4 : decode cX8_layShows 4 = .ok (.getfield 7, 3) := by decide +kernel
theorem dX8_layShows_7 : decode cX8_layShows 7 = .ok (.if_icmp .ge 59, 3) := by decide +kernel
theorem dX8_layShows_10 : decode cX8_layShows 10 = .ok (.aload_n 0, 1) := by decide +kernel
theorem dX8_layShows_11 : decode cX8_layShows 11 = .ok (.getfield 99, 3) := by decide +kernel
theorem dX8_layShows_14 : decode cX8_layShows 14 = .ok (.iload_n 1, 1) := by decide +kernel
theorem dX8_layShows_15 : decode cX8_layShows 15 = .ok (.aload_n 0, 1) := by decide +kernel
theorem dX8_layShows_16 : decode cX8_layShows 16 = .ok (.getfield 26, 3) := by decide +kernel
theorem dX8_layShows_19 : decode cX8_layShows 19 = .ok (.iload_n 1, 1) := by decide +kernel
theorem dX8_layShows_20 : decode cX8_layShows 20 = .ok (.iaload, 1) := by decide +kernel
theorem dX8_layShows_21 : decode cX8_layShows 21 = .ok (.aload_n 0, 1) := by decide +kernel
theorem dX8_layShows_22 : decode cX8_layShows 22 = .ok (.iconst 0, 1) := by decide +kernel
theorem dX8_layShows_23 : decode cX8_layShows 23 = .ok (.iload_n 1, 1) := by decide +kernel
theorem dX8_layShows_24 : decode cX8_layShows 24 = .ok (.bipush 9, 2) := by decide +kernel
theorem dX8_layShows_26 : decode cX8_layShows 26 = .ok (.invokevirtual 271, 3) := by decide +kernel
theorem dX8_layShows_29 : decode cX8_layShows 29 = .ok (.iadd, 1) := by decide +kernel
theorem dX8_layShows_30 : decode cX8_layShows 30 = .ok (.iastore, 1) := by decide +kernel
theorem dX8_layShows_31 : decode cX8_layShows 31 = .ok (.iconst 0, 1) := by decide +kernel
theorem dX8_layShows_32 : decode cX8_layShows 32 = .ok (.istore_n 2, 1) := by decide +kernel
theorem dX8_layShows_33 : decode cX8_layShows 33 = .ok (.iload_n 2, 1) := by decide +kernel
theorem dX8_layShows_34 : decode cX8_layShows 34 = .ok (.iconst 3, 1) := by decide +kernel
theorem dX8_layShows_35 : decode cX8_layShows 35 = .ok (.if_icmp .ge 25, 3) := by decide +kernel
theorem dX8_layShows_38 : decode cX8_layShows 38 = .ok (.aload_n 0, 1) := by decide +kernel
theorem dX8_layShows_39 : decode cX8_layShows 39 = .ok (.getfield 96, 3) := by decide +kernel
theorem dX8_layShows_42 : decode cX8_layShows 42 = .ok (.iconst 3, 1) := by decide +kernel
theorem dX8_layShows_43 : decode cX8_layShows 43 = .ok (.iload_n 1, 1) := by decide +kernel
theorem dX8_layShows_44 : decode cX8_layShows 44 = .ok (.imul, 1) := by decide +kernel
theorem dX8_layShows_45 : decode cX8_layShows 45 = .ok (.iload_n 2, 1) := by decide +kernel
theorem dX8_layShows_46 : decode cX8_layShows 46 = .ok (.iadd, 1) := by decide +kernel
theorem dX8_layShows_47 : decode cX8_layShows 47 = .ok (.aload_n 0, 1) := by decide +kernel
theorem dX8_layShows_48 : decode cX8_layShows 48 = .ok (.iload_n 1, 1) := by decide +kernel
theorem dX8_layShows_49 : decode cX8_layShows 49 = .ok (.iload_n 2, 1) := by decide +kernel
theorem dX8_layShows_50 : decode cX8_layShows 50 = .ok (.invokevirtual 274, 3) := by decide +kernel
theorem dX8_layShows_53 : decode cX8_layShows 53 = .ok (.iastore, 1) := by decide +kernel
theorem dX8_layShows_54 : decode cX8_layShows 54 = .ok (.iinc 2 1, 3) := by decide +kernel
theorem dX8_layShows_57 : decode cX8_layShows 57 = .ok (.goto (-24), 3) := by decide +kernel
theorem dX8_layShows_60 : decode cX8_layShows 60 = .ok (.iinc 1 1, 3) := by decide +kernel
theorem dX8_layShows_63 : decode cX8_layShows 63 = .ok (.goto (-61), 3) := by decide +kernel
theorem dX8_layShows_66 : decode cX8_layShows 66 = .ok (.return_, 1) := by decide +kernel
theorem dX8_ownCount_0 : decode cX8_ownCount 0 = .ok (.iconst 0, 1) := by decide +kernel
theorem dX8_ownCount_1 : decode cX8_ownCount 1 = .ok (.istore_n 2, 1) := by decide +kernel
theorem dX8_ownCount_2 : decode cX8_ownCount 2 = .ok (.iconst 0, 1) := by decide +kernel
theorem dX8_ownCount_3 : decode cX8_ownCount 3 = .ok (.istore_n 3, 1) := by decide +kernel
theorem dX8_ownCount_4 : decode cX8_ownCount 4 = .ok (.iload_n 3, 1) := by decide +kernel
theorem dX8_ownCount_5 : decode cX8_ownCount 5 = .ok (.aload_n 0, 1) := by decide +kernel
theorem dX8_ownCount_6 : decode cX8_ownCount 6 = .ok (.getfield 7, 3) := by decide +kernel
theorem dX8_ownCount_9 : decode cX8_ownCount 9 = .ok (.if_icmp .ge 29, 3) := by decide +kernel
theorem dX8_ownCount_12 : decode cX8_ownCount 12 = .ok (.iload_n 2, 1) := by decide +kernel
theorem dX8_ownCount_13 : decode cX8_ownCount 13 = .ok (.aload_n 0, 1) := by decide +kernel
theorem dX8_ownCount_14 : decode cX8_ownCount 14 = .ok (.getfield 29, 3) := by decide +kernel
theorem dX8_ownCount_17 : decode cX8_ownCount 17 = .ok (.iload_n 3, 1) := by decide +kernel
theorem dX8_ownCount_18 : decode cX8_ownCount 18 = .ok (.iaload, 1) := by decide +kernel
theorem dX8_ownCount_19 : decode cX8_ownCount 19 = .ok (.aload_n 0, 1) := by decide +kernel
theorem dX8_ownCount_20 : decode cX8_ownCount 20 = .ok (.getfield 96, 3) := by decide +kernel
theorem dX8_ownCount_23 : decode cX8_ownCount 23 = .ok (.iconst 3, 1) := by decide +kernel
theorem dX8_ownCount_24 : decode cX8_ownCount 24 = .ok (.iload_n 3, 1) := by decide +kernel
theorem dX8_ownCount_25 : decode cX8_ownCount 25 = .ok (.imul, 1) := by decide +kernel
theorem dX8_ownCount_26 : decode cX8_ownCount 26 = .ok (.iload_n 1, 1) := by decide +kernel
theorem dX8_ownCount_27 : decode cX8_ownCount 27 = .ok (.iadd, 1) := by decide +kernel
theorem dX8_ownCount_28 : decode cX8_ownCount 28 = .ok (.iaload, 1) := by decide +kernel
theorem dX8_ownCount_29 : decode cX8_ownCount 29 = .ok (.imul, 1) := by decide +kernel
theorem dX8_ownCount_30 : decode cX8_ownCount 30 = .ok (.iadd, 1) := by decide +kernel
theorem dX8_ownCount_31 : decode cX8_ownCount 31 = .ok (.istore_n 2, 1) := by decide +kernel
theorem dX8_ownCount_32 : decode cX8_ownCount 32 = .ok (.iinc 3 1, 3) := by decide +kernel
theorem dX8_ownCount_35 : decode cX8_ownCount 35 = .ok (.goto (-31), 3) := by decide +kernel
theorem dX8_ownCount_38 : decode cX8_ownCount 38 = .ok (.iload_n 2, 1) := by decide +kernel
theorem dX8_ownCount_39 : decode cX8_ownCount 39 = .ok (.ireturn, 1) := by decide +kernel
theorem dX8_secondCount_0 : decode cX8_secondCount 0 = .ok (.iconst 0, 1) := by decide +kernel
theorem dX8_secondCount_1 : decode cX8_secondCount 1 = .ok (.istore_n 2, 1) := by decide +kernel
theorem dX8_secondCount_2 : decode cX8_secondCount 2 = .ok (.iconst 0, 1) := by decide +kernel
theorem dX8_secondCount_3 : decode cX8_secondCount 3 = .ok (.istore_n 3, 1) := by decide +kernel
theorem dX8_secondCount_4 : decode cX8_secondCount 4 = .ok (.iload_n 3, 1) := by decide +kernel
theorem dX8_secondCount_5 : decode cX8_secondCount 5 = .ok (.aload_n 0, 1) := by decide +kernel
theorem dX8_secondCount_6 : decode cX8_secondCount 6 = .ok (.getfield 7, 3) := by decide +kernel
theorem dX8_secondCount_9 : decode cX8_secondCount 9 = .ok (.if_icmp .ge 29, 3) := by decide +kernel
theorem dX8_secondCount_12 : decode cX8_secondCount 12 = .ok (.iload_n 2, 1) := by decide +kernel
theorem dX8_secondCount_13 : decode cX8_secondCount 13 = .ok (.aload_n 0, 1) := by decide +kernel
theorem dX8_secondCount_14 : decode cX8_secondCount 14 = .ok (.getfield 32, 3) := by decide +kernel
theorem dX8_secondCount_17 : decode cX8_secondCount 17 = .ok (.iload_n 3, 1) := by decide +kernel
theorem dX8_secondCount_18 : decode cX8_secondCount 18 = .ok (.iaload, 1) := by decide +kernel
theorem dX8_secondCount_19 : decode cX8_secondCount 19 = .ok (.aload_n 0, 1) := by decide +kernel
theorem dX8_secondCount_20 : decode cX8_secondCount 20 = .ok (.getfield 96, 3) := by decide +kernel
theorem dX8_secondCount_23 : decode cX8_secondCount 23 = .ok (.iconst 3, 1) := by decide +kernel
theorem dX8_secondCount_24 : decode cX8_secondCount 24 = .ok (.iload_n 3, 1) := by decide +kernel
theorem dX8_secondCount_25 : decode cX8_secondCount 25 = .ok (.imul, 1) := by decide +kernel
theorem dX8_secondCount_26 : decode cX8_secondCount 26 = .ok (.iload_n 1, 1) := by decide +kernel
theorem dX8_secondCount_27 : decode cX8_secondCount 27 = .ok (.iadd, 1) := by decide +kernel
theorem dX8_secondCount_28 : decode cX8_secondCount 28 = .ok (.iaload, 1) := by decide +kernel
theorem dX8_secondCount_29 : decode cX8_secondCount 29 = .ok (.imul, 1) := by decide +kernel
theorem dX8_secondCount_30 : decode cX8_secondCount 30 = .ok (.iadd, 1) := by decide +kernel
theorem dX8_secondCount_31 : decode cX8_secondCount 31 = .ok (.istore_n 2, 1) := by decide +kernel
theorem dX8_secondCount_32 : decode cX8_secondCount 32 = .ok (.iinc 3 1, 3) := by decide +kernel
theorem dX8_secondCount_35 : decode cX8_secondCount 35 = .ok (.goto (-31), 3) := by decide +kernel
theorem dX8_secondCount_38 : decode cX8_secondCount 38 = .ok (.iload_n 2, 1) := by decide +kernel
theorem dX8_secondCount_39 : decode cX8_secondCount 39 = .ok (.ireturn, 1) := by decide +kernel
theorem dX8_ownToll_0 : decode cX8_ownToll 0 = .ok (.iconst 0, 1) := by decide +kernel
theorem dX8_ownToll_1 : decode cX8_ownToll 1 = .ok (.istore_n 1, 1) := by decide +kernel
theorem dX8_ownToll_2 : decode cX8_ownToll 2 = .ok (.iconst 0, 1) := by decide +kernel
theorem dX8_ownToll_3 : decode cX8_ownToll 3 = .ok (.istore_n 2, 1) := by decide +kernel
theorem dX8_ownToll_4 : decode cX8_ownToll 4 = .ok (.iload_n 2, 1) := by decide +kernel
theorem dX8_ownToll_5 : decode cX8_ownToll 5 = .ok (.aload_n 0, 1) := by decide +kernel
theorem dX8_ownToll_6 : decode cX8_ownToll 6 = .ok (.getfield 7, 3) := by decide +kernel
theorem dX8_ownToll_9 : decode cX8_ownToll 9 = .ok (.if_icmp .ge 25, 3) := by decide +kernel
theorem dX8_ownToll_12 : decode cX8_ownToll 12 = .ok (.iload_n 1, 1) := by decide +kernel
theorem dX8_ownToll_13 : decode cX8_ownToll 13 = .ok (.aload_n 0, 1) := by decide +kernel
theorem dX8_ownToll_14 : decode cX8_ownToll 14 = .ok (.getfield 29, 3) := by decide +kernel
theorem dX8_ownToll_17 : decode cX8_ownToll 17 = .ok (.iload_n 2, 1) := by decide +kernel
theorem dX8_ownToll_18 : decode cX8_ownToll 18 = .ok (.iaload, 1) := by decide +kernel
theorem dX8_ownToll_19 : decode cX8_ownToll 19 = .ok (.aload_n 0, 1) := by decide +kernel
theorem dX8_ownToll_20 : decode cX8_ownToll 20 = .ok (.getfield 99, 3) := by decide +kernel
theorem dX8_ownToll_23 : decode cX8_ownToll 23 = .ok (.iload_n 2, 1) := by decide +kernel
theorem dX8_ownToll_24 : decode cX8_ownToll 24 = .ok (.iaload, 1) := by decide +kernel
theorem dX8_ownToll_25 : decode cX8_ownToll 25 = .ok (.imul, 1) := by decide +kernel
theorem dX8_ownToll_26 : decode cX8_ownToll 26 = .ok (.iadd, 1) := by decide +kernel
theorem dX8_ownToll_27 : decode cX8_ownToll 27 = .ok (.istore_n 1, 1) := by decide +kernel
theorem dX8_ownToll_28 : decode cX8_ownToll 28 = .ok (.iinc 2 1, 3) := by decide +kernel
theorem dX8_ownToll_31 : decode cX8_ownToll 31 = .ok (.goto (-27), 3) := by decide +kernel
theorem dX8_ownToll_34 : decode cX8_ownToll 34 = .ok (.iload_n 1, 1) := by decide +kernel
theorem dX8_ownToll_35 : decode cX8_ownToll 35 = .ok (.ireturn, 1) := by decide +kernel
theorem dX8_secondToll_0 : decode cX8_secondToll 0 = .ok (.iconst 0, 1) := by decide +kernel
theorem dX8_secondToll_1 : decode cX8_secondToll 1 = .ok (.istore_n 1, 1) := by decide +kernel
theorem dX8_secondToll_2 : decode cX8_secondToll 2 = .ok (.iconst 0, 1) := by decide +kernel
theorem dX8_secondToll_3 : decode cX8_secondToll 3 = .ok (.istore_n 2, 1) := by decide +kernel
theorem dX8_secondToll_4 : decode cX8_secondToll 4 = .ok (.iload_n 2, 1) := by decide +kernel
theorem dX8_secondToll_5 : decode cX8_secondToll 5 = .ok (.aload_n 0, 1) := by decide +kernel
theorem dX8_secondToll_6 : decode cX8_secondToll 6 = .ok (.getfield 7, 3) := by decide +kernel
theorem dX8_secondToll_9 : decode cX8_secondToll 9 = .ok (.if_icmp .ge 25, 3) := by decide +kernel
theorem dX8_secondToll_12 : decode cX8_secondToll 12 = .ok (.iload_n 1, 1) := by decide +kernel
theorem dX8_secondToll_13 : decode cX8_secondToll 13 = .ok (.aload_n 0, 1) := by decide +kernel
theorem dX8_secondToll_14 : decode cX8_secondToll 14 = .ok (.getfield 32, 3) := by decide +kernel
theorem dX8_secondToll_17 : decode cX8_secondToll 17 = .ok (.iload_n 2, 1) := by decide +kernel
theorem dX8_secondToll_18 : decode cX8_secondToll 18 = .ok (.iaload, 1) := by decide +kernel
theorem dX8_secondToll_19 : decode cX8_secondToll 19 = .ok (.aload_n 0, 1) := by decide +kernel
theorem dX8_secondToll_20 : decode cX8_secondToll 20 = .ok (.getfield 99, 3) := by decide +kernel
theorem dX8_secondToll_23 : decode cX8_secondToll 23 = .ok (.iload_n 2, 1) := by decide +kernel
theorem dX8_secondToll_24 : decode cX8_secondToll 24 = .ok (.iaload, 1) := by decide +kernel
theorem dX8_secondToll_25 : decode cX8_secondToll 25 = .ok (.imul, 1) := by decide +kernel
theorem dX8_secondToll_26 : decode cX8_secondToll 26 = .ok (.iadd, 1) := by decide +kernel
theorem dX8_secondToll_27 : decode cX8_secondToll 27 = .ok (.istore_n 1, 1) := by decide +kernel
theorem dX8_secondToll_28 : decode cX8_secondToll 28 = .ok (.iinc 2 1, 3) := by decide +kernel
theorem dX8_secondToll_31 : decode cX8_secondToll 31 = .ok (.goto (-27), 3) := by decide +kernel
theorem dX8_secondToll_34 : decode cX8_secondToll 34 = .ok (.iload_n 1, 1) := by decide +kernel
theorem dX8_secondToll_35 : decode cX8_secondToll 35 = .ok (.ireturn, 1) := by decide +kernel
theorem dX8_of_0 : decode cX8_of 0 = .ok (.aload_n 0, 1) := by decide +kernel
theorem dX8_of_1 : decode cX8_of 1 = .ok (.iload_n 1, 1) := by decide +kernel
theorem dX8_of_2 : decode cX8_of 2 = .ok (.invokevirtual 208, 3) := by decide +kernel
theorem dX8_of_5 : decode cX8_of 5 = .ok (.ifCond .ne 5, 3) := by decide +kernel
theorem dX8_of_8 : decode cX8_of 8 = .ok (.iconst (-1), 1) := by decide +kernel
theorem dX8_of_9 : decode cX8_of 9 = .ok (.ireturn, 1) := by decide +kernel
theorem dX8_of_10 : decode cX8_of 10 = .ok (.aload_n 0, 1) := by decide +kernel
theorem dX8_of_11 : decode cX8_of 11 = .ok (.invokevirtual 278, 3) := by decide +kernel
theorem dX8_of_14 : decode cX8_of 14 = .ok (.aload_n 0, 1) := by decide +kernel
theorem dX8_of_15 : decode cX8_of 15 = .ok (.iload_n 2, 1) := by decide +kernel
theorem dX8_of_16 : decode cX8_of 16 = .ok (.bipush 10, 2) := by decide +kernel
theorem dX8_of_18 : decode cX8_of 18 = .ok (.bipush 12, 2) := by decide +kernel
theorem dX8_of_20 : decode cX8_of 20 = .ok (.invokevirtual 200, 3) := by decide +kernel
theorem dX8_of_23 : decode cX8_of 23 = .ok (.ifCond .eq 17, 3) := by decide +kernel
theorem dX8_of_26 : decode cX8_of 26 = .ok (.aload_n 0, 1) := by decide +kernel
theorem dX8_of_27 : decode cX8_of 27 = .ok (.getfield 96, 3) := by decide +kernel
theorem dX8_of_30 : decode cX8_of 30 = .ok (.iconst 3, 1) := by decide +kernel
theorem dX8_of_31 : decode cX8_of 31 = .ok (.iload_n 1, 1) := by decide +kernel
theorem dX8_of_32 : decode cX8_of 32 = .ok (.imul, 1) := by decide +kernel
theorem dX8_of_33 : decode cX8_of 33 = .ok (.iload_n 2, 1) := by decide +kernel
theorem dX8_of_34 : decode cX8_of 34 = .ok (.iadd, 1) := by decide +kernel
theorem dX8_of_35 : decode cX8_of 35 = .ok (.bipush 10, 2) := by decide +kernel
theorem dX8_of_37 : decode cX8_of 37 = .ok (.isub, 1) := by decide +kernel
theorem dX8_of_38 : decode cX8_of 38 = .ok (.iaload, 1) := by decide +kernel
theorem dX8_of_39 : decode cX8_of 39 = .ok (.ireturn, 1) := by decide +kernel
theorem dX8_of_40 : decode cX8_of 40 = .ok (.aload_n 0, 1) := by decide +kernel
theorem dX8_of_41 : decode cX8_of 41 = .ok (.iload_n 2, 1) := by decide +kernel
theorem dX8_of_42 : decode cX8_of 42 = .ok (.iconst 2, 1) := by decide +kernel
theorem dX8_of_43 : decode cX8_of 43 = .ok (.iconst 4, 1) := by decide +kernel
theorem dX8_of_44 : decode cX8_of 44 = .ok (.invokevirtual 200, 3) := by decide +kernel
theorem dX8_of_47 : decode cX8_of 47 = .ok (.ifCond .eq 16, 3) := by decide +kernel
theorem dX8_of_50 : decode cX8_of 50 = .ok (.aload_n 0, 1) := by decide +kernel
theorem dX8_of_51 : decode cX8_of 51 = .ok (.getfield 23, 3) := by decide +kernel
theorem dX8_of_54 : decode cX8_of 54 = .ok (.iconst 3, 1) := by decide +kernel
theorem dX8_of_55 : decode cX8_of 55 = .ok (.iload_n 1, 1) := by decide +kernel
theorem dX8_of_56 : decode cX8_of 56 = .ok (.imul, 1) := by decide +kernel
theorem dX8_of_57 : decode cX8_of 57 = .ok (.iload_n 2, 1) := by decide +kernel
theorem dX8_of_58 : decode cX8_of 58 = .ok (.iadd, 1) := by decide +kernel
theorem dX8_of_59 : decode cX8_of 59 = .ok (.iconst 2, 1) := by decide +kernel
theorem dX8_of_60 : decode cX8_of 60 = .ok (.isub, 1) := by decide +kernel
theorem dX8_of_61 : decode cX8_of 61 = .ok (.iaload, 1) := by decide +kernel
theorem dX8_of_62 : decode cX8_of 62 = .ok (.ireturn, 1) := by decide +kernel
theorem dX8_of_63 : decode cX8_of 63 = .ok (.iload_n 2, 1) := by decide +kernel
theorem dX8_of_64 : decode cX8_of 64 = .ok (.tableswitch 94 0 8 #[52, 59, 94, 94, 94, 66, 73, 80, 87], 52) := by decide +kernel
theorem dX8_of_116 : decode cX8_of 116 = .ok (.aload_n 0, 1) := by decide +kernel
theorem dX8_of_117 : decode cX8_of 117 = .ok (.getfield 16, 3) := by decide +kernel
theorem dX8_of_120 : decode cX8_of 120 = .ok (.iload_n 1, 1) := by decide +kernel
theorem dX8_of_121 : decode cX8_of 121 = .ok (.iaload, 1) := by decide +kernel
theorem dX8_of_122 : decode cX8_of 122 = .ok (.ireturn, 1) := by decide +kernel
theorem dX8_of_123 : decode cX8_of 123 = .ok (.aload_n 0, 1) := by decide +kernel
theorem dX8_of_124 : decode cX8_of 124 = .ok (.getfield 20, 3) := by decide +kernel
theorem dX8_of_127 : decode cX8_of 127 = .ok (.iload_n 1, 1) := by decide +kernel
theorem dX8_of_128 : decode cX8_of 128 = .ok (.iaload, 1) := by decide +kernel
theorem dX8_of_129 : decode cX8_of 129 = .ok (.ireturn, 1) := by decide +kernel
theorem dX8_of_130 : decode cX8_of 130 = .ok (.aload_n 0, 1) := by decide +kernel
theorem dX8_of_131 : decode cX8_of 131 = .ok (.getfield 26, 3) := by decide +kernel
theorem dX8_of_134 : decode cX8_of 134 = .ok (.iload_n 1, 1) := by decide +kernel
theorem dX8_of_135 : decode cX8_of 135 = .ok (.iaload, 1) := by decide +kernel
theorem dX8_of_136 : decode cX8_of 136 = .ok (.ireturn, 1) := by decide +kernel
theorem dX8_of_137 : decode cX8_of 137 = .ok (.aload_n 0, 1) := by decide +kernel
theorem dX8_of_138 : decode cX8_of 138 = .ok (.getfield 99, 3) := by decide +kernel
theorem dX8_of_141 : decode cX8_of 141 = .ok (.iload_n 1, 1) := by decide +kernel
theorem dX8_of_142 : decode cX8_of 142 = .ok (.iaload, 1) := by decide +kernel
theorem dX8_of_143 : decode cX8_of 143 = .ok (.ireturn, 1) := by decide +kernel
theorem dX8_of_144 : decode cX8_of 144 = .ok (.aload_n 0, 1) := by decide +kernel
theorem dX8_of_145 : decode cX8_of 145 = .ok (.getfield 29, 3) := by decide +kernel
theorem dX8_of_148 : decode cX8_of 148 = .ok (.iload_n 1, 1) := by decide +kernel
theorem dX8_of_149 : decode cX8_of 149 = .ok (.iaload, 1) := by decide +kernel
theorem dX8_of_150 : decode cX8_of 150 = .ok (.ireturn, 1) := by decide +kernel
theorem dX8_of_151 : decode cX8_of 151 = .ok (.aload_n 0, 1) := by decide +kernel
theorem dX8_of_152 : decode cX8_of 152 = .ok (.getfield 32, 3) := by decide +kernel
theorem dX8_of_155 : decode cX8_of 155 = .ok (.iload_n 1, 1) := by decide +kernel
theorem dX8_of_156 : decode cX8_of 156 = .ok (.iaload, 1) := by decide +kernel
theorem dX8_of_157 : decode cX8_of 157 = .ok (.ireturn, 1) := by decide +kernel
theorem dX8_of_158 : decode cX8_of 158 = .ok (.iconst (-1), 1) := by decide +kernel
theorem dX8_of_159 : decode cX8_of 159 = .ok (.ireturn, 1) := by decide +kernel
theorem dX8_told_0 : decode cX8_told 0 = .ok (.aload_n 0, 1) := by decide +kernel
theorem dX8_told_1 : decode cX8_told 1 = .ok (.invokevirtual 278, 3) := by decide +kernel
theorem dX8_told_4 : decode cX8_told 4 = .ok (.aload_n 0, 1) := by decide +kernel
theorem dX8_told_5 : decode cX8_told 5 = .ok (.iload_n 1, 1) := by decide +kernel
theorem dX8_told_6 : decode cX8_told 6 = .ok (.bipush 10, 2) := by decide +kernel
theorem dX8_told_8 : decode cX8_told 8 = .ok (.bipush 12, 2) := by decide +kernel
theorem dX8_told_10 : decode cX8_told 10 = .ok (.invokevirtual 200, 3) := by decide +kernel
theorem dX8_told_13 : decode cX8_told 13 = .ok (.ifCond .eq 12, 3) := by decide +kernel
theorem dX8_told_16 : decode cX8_told 16 = .ok (.aload_n 0, 1) := by decide +kernel
theorem dX8_told_17 : decode cX8_told 17 = .ok (.iload_n 1, 1) := by decide +kernel
theorem dX8_told_18 : decode cX8_told 18 = .ok (.bipush 10, 2) := by decide +kernel
theorem dX8_told_20 : decode cX8_told 20 = .ok (.isub, 1) := by decide +kernel
theorem dX8_told_21 : decode cX8_told 21 = .ok (.invokevirtual 281, 3) := by decide +kernel
theorem dX8_told_24 : decode cX8_told 24 = .ok (.ireturn, 1) := by decide +kernel
theorem dX8_told_25 : decode cX8_told 25 = .ok (.aload_n 0, 1) := by decide +kernel
theorem dX8_told_26 : decode cX8_told 26 = .ok (.iload_n 1, 1) := by decide +kernel
theorem dX8_told_27 : decode cX8_told 27 = .ok (.bipush 20, 2) := by decide +kernel
theorem dX8_told_29 : decode cX8_told 29 = .ok (.bipush 22, 2) := by decide +kernel
theorem dX8_told_31 : decode cX8_told 31 = .ok (.invokevirtual 200, 3) := by decide +kernel
theorem dX8_told_34 : decode cX8_told 34 = .ok (.ifCond .eq 12, 3) := by decide +kernel
theorem dX8_told_37 : decode cX8_told 37 = .ok (.aload_n 0, 1) := by decide +kernel
theorem dX8_told_38 : decode cX8_told 38 = .ok (.iload_n 1, 1) := by decide +kernel
theorem dX8_told_39 : decode cX8_told 39 = .ok (.bipush 20, 2) := by decide +kernel
theorem dX8_told_41 : decode cX8_told 41 = .ok (.isub, 1) := by decide +kernel
theorem dX8_told_42 : decode cX8_told 42 = .ok (.invokevirtual 284, 3) := by decide +kernel
theorem dX8_told_45 : decode cX8_told 45 = .ok (.ireturn, 1) := by decide +kernel
theorem dX8_told_46 : decode cX8_told 46 = .ok (.aload_n 0, 1) := by decide +kernel
theorem dX8_told_47 : decode cX8_told 47 = .ok (.iload_n 1, 1) := by decide +kernel
theorem dX8_told_48 : decode cX8_told 48 = .ok (.bipush 30, 2) := by decide +kernel
theorem dX8_told_50 : decode cX8_told 50 = .ok (.bipush 32, 2) := by decide +kernel
theorem dX8_told_52 : decode cX8_told 52 = .ok (.invokevirtual 200, 3) := by decide +kernel
theorem dX8_told_55 : decode cX8_told 55 = .ok (.ifCond .eq 30, 3) := by decide +kernel
theorem dX8_told_58 : decode cX8_told 58 = .ok (.aload_n 0, 1) := by decide +kernel
theorem dX8_told_59 : decode cX8_told 59 = .ok (.getfield 38, 3) := by decide +kernel
theorem dX8_told_62 : decode cX8_told 62 = .ok (.iload_n 1, 1) := by decide +kernel
theorem dX8_told_63 : decode cX8_told 63 = .ok (.bipush 30, 2) := by decide +kernel
theorem dX8_told_65 : decode cX8_told 65 = .ok (.isub, 1) := by decide +kernel
theorem dX8_told_66 : decode cX8_told 66 = .ok (.iaload, 1) := by decide +kernel
theorem dX8_told_67 : decode cX8_told 67 = .ok (.ifCond .ge 8, 3) := by decide +kernel
theorem dX8_told_70 : decode cX8_told 70 = .ok (.bipush (-5), 2) := by decide +kernel
theorem dX8_told_72 : decode cX8_told 72 = .ok (.goto 12, 3) := by decide +kernel
theorem dX8_told_75 : decode cX8_told 75 = .ok (.aload_n 0, 1) := by decide +kernel
theorem dX8_told_76 : decode cX8_told 76 = .ok (.getfield 38, 3) := by decide +kernel
theorem dX8_told_79 : decode cX8_told 79 = .ok (.iload_n 1, 1) := by decide +kernel
theorem dX8_told_80 : decode cX8_told 80 = .ok (.bipush 30, 2) := by decide +kernel
theorem dX8_told_82 : decode cX8_told 82 = .ok (.isub, 1) := by decide +kernel
theorem dX8_told_83 : decode cX8_told 83 = .ok (.iaload, 1) := by decide +kernel
theorem dX8_told_84 : decode cX8_told 84 = .ok (.ireturn, 1) := by decide +kernel
theorem dX8_told_85 : decode cX8_told 85 = .ok (.iload_n 1, 1) := by decide +kernel
theorem dX8_told_86 : decode cX8_told 86 = .ok (.tableswitch 50 0 3 #[30, 35, 40, 45], 30) := by decide +kernel
theorem dX8_told_116 : decode cX8_told 116 = .ok (.aload_n 0, 1) := by decide +kernel
theorem dX8_told_117 : decode cX8_told 117 = .ok (.invokevirtual 287, 3) := by decide +kernel
theorem dX8_told_120 : decode cX8_told 120 = .ok (.ireturn, 1) := by decide +kernel
theorem dX8_told_121 : decode cX8_told 121 = .ok (.aload_n 0, 1) := by decide +kernel
theorem dX8_told_122 : decode cX8_told 122 = .ok (.getfield 13, 3) := by decide +kernel
theorem dX8_told_125 : decode cX8_told 125 = .ok (.ireturn, 1) := by decide +kernel
theorem dX8_told_126 : decode cX8_told 126 = .ok (.aload_n 0, 1) := by decide +kernel
theorem dX8_told_127 : decode cX8_told 127 = .ok (.invokevirtual 290, 3) := by decide +kernel
theorem dX8_told_130 : decode cX8_told 130 = .ok (.ireturn, 1) := by decide +kernel
theorem dX8_told_131 : decode cX8_told 131 = .ok (.aload_n 0, 1) := by decide +kernel
theorem dX8_told_132 : decode cX8_told 132 = .ok (.invokevirtual 293, 3) := by decide +kernel
theorem dX8_told_135 : decode cX8_told 135 = .ok (.ireturn, 1) := by decide +kernel
theorem dX8_told_136 : decode cX8_told 136 = .ok (.sipush (-1001), 3) := by decide +kernel
theorem dX8_told_139 : decode cX8_told 139 = .ok (.ireturn, 1) := by decide +kernel
theorem dX8_firstHerd_0 : decode cX8_firstHerd 0 = .ok (.iconst 0, 1) := by decide +kernel
theorem dX8_firstHerd_1 : decode cX8_firstHerd 1 = .ok (.istore_n 1, 1) := by decide +kernel
theorem dX8_firstHerd_2 : decode cX8_firstHerd 2 = .ok (.iload_n 1, 1) := by decide +kernel
theorem dX8_firstHerd_3 : decode cX8_firstHerd 3 = .ok (.iconst 5, 1) := by decide +kernel
theorem dX8_firstHerd_4 : decode cX8_firstHerd 4 = .ok (.if_icmp .ge 16, 3) := by decide +kernel
theorem dX8_firstHerd_7 : decode cX8_firstHerd 7 = .ok (.aload_n 0, 1) := by decide +kernel
theorem dX8_firstHerd_8 : decode cX8_firstHerd 8 = .ok (.getfield 102, 3) := by decide +kernel
theorem dX8_firstHerd_11 : decode cX8_firstHerd 11 = .ok (.iload_n 1, 1) := by decide +kernel
theorem dX8_firstHerd_12 : decode cX8_firstHerd 12 = .ok (.iconst 0, 1) := by decide +kernel
theorem dX8_firstHerd_13 : decode cX8_firstHerd 13 = .ok (.iastore, 1) := by decide +kernel
theorem dX8_firstHerd_14 : decode cX8_firstHerd 14 = .ok (.iinc 1 1, 3) := by decide +kernel
theorem dX8_firstHerd_17 : decode cX8_firstHerd 17 = .ok (.goto (-15), 3) := by decide +kernel
theorem dX8_firstHerd_20 : decode cX8_firstHerd 20 = .ok (.aload_n 0, 1) := by decide +kernel
theorem dX8_firstHerd_21 : decode cX8_firstHerd 21 = .ok (.iconst 0, 1) := by decide +kernel
theorem dX8_firstHerd_22 : decode cX8_firstHerd 22 = .ok (.putfield 111, 3) := by decide +kernel
theorem dX8_firstHerd_25 : decode cX8_firstHerd 25 = .ok (.return_, 1) := by decide +kernel
theorem dX8_nextHerd_0 : decode cX8_nextHerd 0 = .ok (.aload_n 0, 1) := by decide +kernel
theorem dX8_nextHerd_1 : decode cX8_nextHerd 1 = .ok (.getfield 7, 3) := by decide +kernel
theorem dX8_nextHerd_4 : decode cX8_nextHerd 4 = .ok (.iconst 1, 1) := by decide +kernel
theorem dX8_nextHerd_5 : decode cX8_nextHerd 5 = .ok (.isub, 1) := by decide +kernel
theorem dX8_nextHerd_6 : decode cX8_nextHerd 6 = .ok (.istore_n 2, 1) := by decide +kernel
theorem dX8_nextHerd_7 : decode cX8_nextHerd 7 = .ok (.iload_n 2, 1) := by decide +kernel
theorem dX8_nextHerd_8 : decode cX8_nextHerd 8 = .ok (.ifCond .lt 61, 3) := by decide +kernel
theorem dX8_nextHerd_11 : decode cX8_nextHerd 11 = .ok (.aload_n 0, 1) := by decide +kernel
theorem dX8_nextHerd_12 : decode cX8_nextHerd 12 = .ok (.getfield 111, 3) := by decide +kernel
theorem dX8_nextHerd_15 : decode cX8_nextHerd 15 = .ok (.iload_n 1, 1) := by decide +kernel
theorem dX8_nextHerd_16 : decode cX8_nextHerd 16 = .ok (.if_icmp .ge 25, 3) := by decide +kernel
theorem dX8_nextHerd_19 : decode cX8_nextHerd 19 = .ok (.aload_n 0, 1) := by decide +kernel
theorem dX8_nextHerd_20 : decode cX8_nextHerd 20 = .ok (.getfield 102, 3) := by decide +kernel
theorem dX8_nextHerd_23 : decode cX8_nextHerd 23 = .ok (.iload_n 2, 1) := by decide +kernel
theorem dX8_nextHerd_24 : decode cX8_nextHerd 24 = .ok (.dup2, 1) := by decide +kernel
theorem dX8_nextHerd_25 : decode cX8_nextHerd 25 = .ok (.iaload, 1) := by decide +kernel
theorem dX8_nextHerd_26 : decode cX8_nextHerd 26 = .ok (.iconst 1, 1) := by decide +kernel
theorem dX8_nextHerd_27 : decode cX8_nextHerd 27 = .ok (.iadd, 1) := by decide +kernel
theorem dX8_nextHerd_28 : decode cX8_nextHerd 28 = .ok (.iastore, 1) := by decide +kernel
theorem dX8_nextHerd_29 : decode cX8_nextHerd 29 = .ok (.aload_n 0, 1) := by decide +kernel
theorem dX8_nextHerd_30 : decode cX8_nextHerd 30 = .ok (.dup, 1) := by decide +kernel
theorem dX8_nextHerd_31 : decode cX8_nextHerd 31 = .ok (.getfield 111, 3) := by decide +kernel
theorem dX8_nextHerd_34 : decode cX8_nextHerd 34 = .ok (.iconst 1, 1) := by decide +kernel
theorem dX8_nextHerd_35 : decode cX8_nextHerd 35 = .ok (.iadd, 1) := by decide +kernel
theorem dX8_nextHerd_36 : decode cX8_nextHerd 36 = .ok (.putfield 111, 3) := by decide +kernel
theorem dX8_nextHerd_39 : decode cX8_nextHerd 39 = .ok (.iconst 1, 1) := by decide +kernel
theorem dX8_nextHerd_40 : decode cX8_nextHerd 40 = .ok (.ireturn, 1) := by decide +kernel
theorem dX8_nextHerd_41 : decode cX8_nextHerd 41 = .ok (.aload_n 0, 1) := by decide +kernel
theorem dX8_nextHerd_42 : decode cX8_nextHerd 42 = .ok (.dup, 1) := by decide +kernel
theorem dX8_nextHerd_43 : decode cX8_nextHerd 43 = .ok (.getfield 111, 3) := by decide +kernel
theorem dX8_nextHerd_46 : decode cX8_nextHerd 46 = .ok (.aload_n 0, 1) := by decide +kernel
theorem dX8_nextHerd_47 : decode cX8_nextHerd 47 = .ok (.getfield 102, 3) := by decide +kernel
theorem dX8_nextHerd_50 : decode cX8_nextHerd 50 = .ok (.iload_n 2, 1) := by decide +kernel
theorem dX8_nextHerd_51 : decode cX8_nextHerd 51 = .ok (.iaload, 1) := by decide +kernel
theorem dX8_nextHerd_52 : decode cX8_nextHerd 52 = .ok (.isub, 1) := by decide +kernel
theorem dX8_nextHerd_53 : decode cX8_nextHerd 53 = .ok (.putfield 111, 3) := by decide +kernel
theorem dX8_nextHerd_56 : decode cX8_nextHerd 56 = .ok (.aload_n 0, 1) := by decide +kernel
theorem dX8_nextHerd_57 : decode cX8_nextHerd 57 = .ok (.getfield 102, 3) := by decide +kernel
theorem dX8_nextHerd_60 : decode cX8_nextHerd 60 = .ok (.iload_n 2, 1) := by decide +kernel
theorem dX8_nextHerd_61 : decode cX8_nextHerd 61 = .ok (.iconst 0, 1) := by decide +kernel
theorem dX8_nextHerd_62 : decode cX8_nextHerd 62 = .ok (.iastore, 1) := by decide +kernel
theorem dX8_nextHerd_63 : decode cX8_nextHerd 63 = .ok (.iinc 2 (-1), 3) := by decide +kernel
theorem dX8_nextHerd_66 : decode cX8_nextHerd 66 = .ok (.goto (-59), 3) := by decide +kernel
theorem dX8_nextHerd_69 : decode cX8_nextHerd 69 = .ok (.iconst 0, 1) := by decide +kernel
theorem dX8_nextHerd_70 : decode cX8_nextHerd 70 = .ok (.ireturn, 1) := by decide +kernel
theorem dX8_countNow_0 : decode cX8_countNow 0 = .ok (.iconst 0, 1) := by decide +kernel
theorem dX8_countNow_1 : decode cX8_countNow 1 = .ok (.istore_n 2, 1) := by decide +kernel
theorem dX8_countNow_2 : decode cX8_countNow 2 = .ok (.iconst 0, 1) := by decide +kernel
theorem dX8_countNow_3 : decode cX8_countNow 3 = .ok (.istore_n 3, 1) := by decide +kernel
theorem dX8_countNow_4 : decode cX8_countNow 4 = .ok (.iload_n 3, 1) := by decide +kernel
theorem dX8_countNow_5 : decode cX8_countNow 5 = .ok (.aload_n 0, 1) := by decide +kernel
theorem dX8_countNow_6 : decode cX8_countNow 6 = .ok (.getfield 7, 3) := by decide +kernel
theorem dX8_countNow_9 : decode cX8_countNow 9 = .ok (.if_icmp .ge 29, 3) := by decide +kernel
theorem dX8_countNow_12 : decode cX8_countNow 12 = .ok (.iload_n 2, 1) := by decide +kernel
theorem dX8_countNow_13 : decode cX8_countNow 13 = .ok (.aload_n 0, 1) := by decide +kernel
theorem dX8_countNow_14 : decode cX8_countNow 14 = .ok (.getfield 102, 3) := by decide +kernel
theorem dX8_countNow_17 : decode cX8_countNow 17 = .ok (.iload_n 3, 1) := by decide +kernel
theorem dX8_countNow_18 : decode cX8_countNow 18 = .ok (.iaload, 1) := by decide +kernel
theorem dX8_countNow_19 : decode cX8_countNow 19 = .ok (.aload_n 0, 1) := by decide +kernel
theorem dX8_countNow_20 : decode cX8_countNow 20 = .ok (.getfield 96, 3) := by decide +kernel
theorem dX8_countNow_23 : decode cX8_countNow 23 = .ok (.iconst 3, 1) := by decide +kernel
theorem dX8_countNow_24 : decode cX8_countNow 24 = .ok (.iload_n 3, 1) := by decide +kernel
theorem dX8_countNow_25 : decode cX8_countNow 25 = .ok (.imul, 1) := by decide +kernel
theorem dX8_countNow_26 : decode cX8_countNow 26 = .ok (.iload_n 1, 1) := by decide +kernel
theorem dX8_countNow_27 : decode cX8_countNow 27 = .ok (.iadd, 1) := by decide +kernel
theorem dX8_countNow_28 : decode cX8_countNow 28 = .ok (.iaload, 1) := by decide +kernel
theorem dX8_countNow_29 : decode cX8_countNow 29 = .ok (.imul, 1) := by decide +kernel
theorem dX8_countNow_30 : decode cX8_countNow 30 = .ok (.iadd, 1) := by decide +kernel
theorem dX8_countNow_31 : decode cX8_countNow 31 = .ok (.istore_n 2, 1) := by decide +kernel
theorem dX8_countNow_32 : decode cX8_countNow 32 = .ok (.iinc 3 1, 3) := by decide +kernel
theorem dX8_countNow_35 : decode cX8_countNow 35 = .ok (.goto (-31), 3) := by decide +kernel
theorem dX8_countNow_38 : decode cX8_countNow 38 = .ok (.iload_n 2, 1) := by decide +kernel
theorem dX8_countNow_39 : decode cX8_countNow 39 = .ok (.ireturn, 1) := by decide +kernel
theorem dX8_tollNow_0 : decode cX8_tollNow 0 = .ok (.iconst 0, 1) := by decide +kernel
theorem dX8_tollNow_1 : decode cX8_tollNow 1 = .ok (.istore_n 1, 1) := by decide +kernel
theorem dX8_tollNow_2 : decode cX8_tollNow 2 = .ok (.iconst 0, 1) := by decide +kernel
theorem dX8_tollNow_3 : decode cX8_tollNow 3 = .ok (.istore_n 2, 1) := by decide +kernel
theorem dX8_tollNow_4 : decode cX8_tollNow 4 = .ok (.iload_n 2, 1) := by decide +kernel
theorem dX8_tollNow_5 : decode cX8_tollNow 5 = .ok (.aload_n 0, 1) := by decide +kernel
theorem dX8_tollNow_6 : decode cX8_tollNow 6 = .ok (.getfield 7, 3) := by decide +kernel
theorem dX8_tollNow_9 : decode cX8_tollNow 9 = .ok (.if_icmp .ge 25, 3) := by decide +kernel
theorem dX8_tollNow_12 : decode cX8_tollNow 12 = .ok (.iload_n 1, 1) := by decide +kernel
theorem dX8_tollNow_13 : decode cX8_tollNow 13 = .ok (.aload_n 0, 1) := by decide +kernel
theorem dX8_tollNow_14 : decode cX8_tollNow 14 = .ok (.getfield 102, 3) := by decide +kernel
theorem dX8_tollNow_17 : decode cX8_tollNow 17 = .ok (.iload_n 2, 1) := by decide +kernel
theorem dX8_tollNow_18 : decode cX8_tollNow 18 = .ok (.iaload, 1) := by decide +kernel
theorem dX8_tollNow_19 : decode cX8_tollNow 19 = .ok (.aload_n 0, 1) := by decide +kernel
theorem dX8_tollNow_20 : decode cX8_tollNow 20 = .ok (.getfield 99, 3) := by decide +kernel
theorem dX8_tollNow_23 : decode cX8_tollNow 23 = .ok (.iload_n 2, 1) := by decide +kernel
theorem dX8_tollNow_24 : decode cX8_tollNow 24 = .ok (.iaload, 1) := by decide +kernel
theorem dX8_tollNow_25 : decode cX8_tollNow 25 = .ok (.imul, 1) := by decide +kernel
theorem dX8_tollNow_26 : decode cX8_tollNow 26 = .ok (.iadd, 1) := by decide +kernel
theorem dX8_tollNow_27 : decode cX8_tollNow 27 = .ok (.istore_n 1, 1) := by decide +kernel
theorem dX8_tollNow_28 : decode cX8_tollNow 28 = .ok (.iinc 2 1, 3) := by decide +kernel
theorem dX8_tollNow_31 : decode cX8_tollNow 31 = .ok (.goto (-27), 3) := by decide +kernel
theorem dX8_tollNow_34 : decode cX8_tollNow 34 = .ok (.iload_n 1, 1) := by decide +kernel
theorem dX8_tollNow_35 : decode cX8_tollNow 35 = .ok (.ireturn, 1) := by decide +kernel
theorem dX8_fitsNow_0 : decode cX8_fitsNow 0 = .ok (.iconst 0, 1) := by decide +kernel
theorem dX8_fitsNow_1 : decode cX8_fitsNow 1 = .ok (.istore_n 1, 1) := by decide +kernel
theorem dX8_fitsNow_2 : decode cX8_fitsNow 2 = .ok (.iload_n 1, 1) := by decide +kernel
theorem dX8_fitsNow_3 : decode cX8_fitsNow 3 = .ok (.iconst 3, 1) := by decide +kernel
theorem dX8_fitsNow_4 : decode cX8_fitsNow 4 = .ok (.if_icmp .ge 34, 3) := by decide +kernel
theorem dX8_fitsNow_7 : decode cX8_fitsNow 7 = .ok (.aload_n 0, 1) := by decide +kernel
theorem dX8_fitsNow_8 : decode cX8_fitsNow 8 = .ok (.getfield 38, 3) := by decide +kernel
theorem dX8_fitsNow_11 : decode cX8_fitsNow 11 = .ok (.iload_n 1, 1) := by decide +kernel
theorem dX8_fitsNow_12 : decode cX8_fitsNow 12 = .ok (.iaload, 1) := by decide +kernel
theorem dX8_fitsNow_13 : decode cX8_fitsNow 13 = .ok (.ifCond .lt 19, 3) := by decide +kernel
theorem dX8_fitsNow_16 : decode cX8_fitsNow 16 = .ok (.aload_n 0, 1) := by decide +kernel
theorem dX8_fitsNow_17 : decode cX8_fitsNow 17 = .ok (.iload_n 1, 1) := by decide +kernel
theorem dX8_fitsNow_18 : decode cX8_fitsNow 18 = .ok (.invokevirtual 296, 3) := by decide +kernel
theorem dX8_fitsNow_21 : decode cX8_fitsNow 21 = .ok (.aload_n 0, 1) := by decide +kernel
theorem dX8_fitsNow_22 : decode cX8_fitsNow 22 = .ok (.getfield 38, 3) := by decide +kernel
theorem dX8_fitsNow_25 : decode cX8_fitsNow 25 = .ok (.iload_n 1, 1) := by decide +kernel
theorem dX8_fitsNow_26 : decode cX8_fitsNow 26 = .ok (.iaload, 1) := by decide +kernel
theorem dX8_fitsNow_27 : decode cX8_fitsNow 27 = .ok (.if_icmp .eq 5, 3) := by decide +kernel
theorem dX8_fitsNow_30 : decode cX8_fitsNow 30 = .ok (.iconst 0, 1) := by decide +kernel
theorem dX8_fitsNow_31 : decode cX8_fitsNow 31 = .ok (.ireturn, 1) := by decide +kernel
theorem dX8_fitsNow_32 : decode cX8_fitsNow 32 = .ok (.iinc 1 1, 3) := by decide +kernel
theorem dX8_fitsNow_35 : decode cX8_fitsNow 35 = .ok (.goto (-33), 3) := by decide +kernel
theorem dX8_fitsNow_38 : decode cX8_fitsNow 38 = .ok (.iconst 1, 1) := by decide +kernel
theorem dX8_fitsNow_39 : decode cX8_fitsNow 39 = .ok (.ireturn, 1) := by decide +kernel
theorem dX8_takeNow_0 : decode cX8_takeNow 0 = .ok (.aload_n 0, 1) := by decide +kernel
theorem dX8_takeNow_1 : decode cX8_takeNow 1 = .ok (.invokevirtual 299, 3) := by decide +kernel
theorem dX8_takeNow_4 : decode cX8_takeNow 4 = .ok (.istore_n 1, 1) := by decide +kernel
theorem dX8_takeNow_5 : decode cX8_takeNow 5 = .ok (.aload_n 0, 1) := by decide +kernel
theorem dX8_takeNow_6 : decode cX8_takeNow 6 = .ok (.getfield 114, 3) := by decide +kernel
theorem dX8_takeNow_9 : decode cX8_takeNow 9 = .ok (.ifCond .eq 11, 3) := by decide +kernel
theorem dX8_takeNow_12 : decode cX8_takeNow 12 = .ok (.iload_n 1, 1) := by decide +kernel
theorem dX8_takeNow_13 : decode cX8_takeNow 13 = .ok (.aload_n 0, 1) := by decide +kernel
theorem dX8_takeNow_14 : decode cX8_takeNow 14 = .ok (.getfield 117, 3) := by decide +kernel
theorem dX8_takeNow_17 : decode cX8_takeNow 17 = .ok (.if_icmp .ge 33, 3) := by decide +kernel
theorem dX8_takeNow_20 : decode cX8_takeNow 20 = .ok (.aload_n 0, 1) := by decide +kernel
theorem dX8_takeNow_21 : decode cX8_takeNow 21 = .ok (.iload_n 1, 1) := by decide +kernel
theorem dX8_takeNow_22 : decode cX8_takeNow 22 = .ok (.putfield 117, 3) := by decide +kernel
theorem dX8_takeNow_25 : decode cX8_takeNow 25 = .ok (.iconst 0, 1) := by decide +kernel
theorem dX8_takeNow_26 : decode cX8_takeNow 26 = .ok (.istore_n 2, 1) := by decide +kernel
theorem dX8_takeNow_27 : decode cX8_takeNow 27 = .ok (.iload_n 2, 1) := by decide +kernel
theorem dX8_takeNow_28 : decode cX8_takeNow 28 = .ok (.iconst 5, 1) := by decide +kernel
theorem dX8_takeNow_29 : decode cX8_takeNow 29 = .ok (.if_icmp .ge 21, 3) := by decide +kernel
theorem dX8_takeNow_32 : decode cX8_takeNow 32 = .ok (.aload_n 0, 1) := by decide +kernel
theorem dX8_takeNow_33 : decode cX8_takeNow 33 = .ok (.getfield 105, 3) := by decide +kernel
theorem dX8_takeNow_36 : decode cX8_takeNow 36 = .ok (.iload_n 2, 1) := by decide +kernel
theorem dX8_takeNow_37 : decode cX8_takeNow 37 = .ok (.aload_n 0, 1) := by decide +kernel
theorem dX8_takeNow_38 : decode cX8_takeNow 38 = .ok (.getfield 102, 3) := by decide +kernel
theorem dX8_takeNow_41 : decode cX8_takeNow 41 = .ok (.iload_n 2, 1) := by decide +kernel
theorem dX8_takeNow_42 : decode cX8_takeNow 42 = .ok (.iaload, 1) := by decide +kernel
theorem dX8_takeNow_43 : decode cX8_takeNow 43 = .ok (.iastore, 1) := by decide +kernel
theorem dX8_takeNow_44 : decode cX8_takeNow 44 = .ok (.iinc 2 1, 3) := by decide +kernel
theorem dX8_takeNow_47 : decode cX8_takeNow 47 = .ok (.goto (-20), 3) := by decide +kernel
theorem dX8_takeNow_50 : decode cX8_takeNow 50 = .ok (.aload_n 0, 1) := by decide +kernel
theorem dX8_takeNow_51 : decode cX8_takeNow 51 = .ok (.aload_n 0, 1) := by decide +kernel
theorem dX8_takeNow_52 : decode cX8_takeNow 52 = .ok (.getfield 114, 3) := by decide +kernel
theorem dX8_takeNow_55 : decode cX8_takeNow 55 = .ok (.ifCond .eq 11, 3) := by decide +kernel
theorem dX8_takeNow_58 : decode cX8_takeNow 58 = .ok (.iload_n 1, 1) := by decide +kernel
theorem dX8_takeNow_59 : decode cX8_takeNow 59 = .ok (.aload_n 0, 1) := by decide +kernel
theorem dX8_takeNow_60 : decode cX8_takeNow 60 = .ok (.getfield 120, 3) := by decide +kernel
theorem dX8_takeNow_63 : decode cX8_takeNow 63 = .ok (.if_icmp .le 7, 3) := by decide +kernel
theorem dX8_takeNow_66 : decode cX8_takeNow 66 = .ok (.iload_n 1, 1) := by decide +kernel
theorem dX8_takeNow_67 : decode cX8_takeNow 67 = .ok (.goto 7, 3) := by decide +kernel
theorem dX8_takeNow_70 : decode cX8_takeNow 70 = .ok (.aload_n 0, 1) := by decide +kernel
theorem dX8_takeNow_71 : decode cX8_takeNow 71 = .ok (.getfield 120, 3) := by decide +kernel
theorem dX8_takeNow_74 : decode cX8_takeNow 74 = .ok (.putfield 120, 3) := by decide +kernel
theorem dX8_takeNow_77 : decode cX8_takeNow 77 = .ok (.aload_n 0, 1) := by decide +kernel
theorem dX8_takeNow_78 : decode cX8_takeNow 78 = .ok (.dup, 1) := by decide +kernel
theorem dX8_takeNow_79 : decode cX8_takeNow 79 = .ok (.getfield 114, 3) := by decide +kernel
theorem dX8_takeNow_82 : decode cX8_takeNow 82 = .ok (.iconst 1, 1) := by decide +kernel
theorem dX8_takeNow_83 : decode cX8_takeNow 83 = .ok (.iadd, 1) := by decide +kernel
theorem dX8_takeNow_84 : decode cX8_takeNow 84 = .ok (.putfield 114, 3) := by decide +kernel
theorem dX8_takeNow_87 : decode cX8_takeNow 87 = .ok (.iconst 0, 1) := by decide +kernel
theorem dX8_takeNow_88 : decode cX8_takeNow 88 = .ok (.istore_n 2, 1) := by decide +kernel
theorem dX8_takeNow_89 : decode cX8_takeNow 89 = .ok (.iload_n 2, 1) := by decide +kernel
theorem dX8_takeNow_90 : decode cX8_takeNow 90 = .ok (.iconst 5, 1) := by decide +kernel
theorem dX8_takeNow_91 : decode cX8_takeNow 91 = .ok (.if_icmp .ge 24, 3) := by decide +kernel
theorem dX8_takeNow_94 : decode cX8_takeNow 94 = .ok (.aload_n 0, 1) := by decide +kernel
theorem dX8_takeNow_95 : decode cX8_takeNow 95 = .ok (.getfield 108, 3) := by decide +kernel
theorem dX8_takeNow_98 : decode cX8_takeNow 98 = .ok (.iload_n 2, 1) := by decide +kernel
theorem dX8_takeNow_99 : decode cX8_takeNow 99 = .ok (.dup2, 1) := by decide +kernel
theorem dX8_takeNow_100 : decode cX8_takeNow 100 = .ok (.iaload, 1) := by decide +kernel
theorem dX8_takeNow_101 : decode cX8_takeNow 101 = .ok (.aload_n 0, 1) := by decide +kernel
theorem dX8_takeNow_102 : decode cX8_takeNow 102 = .ok (.getfield 102, 3) := by decide +kernel
theorem dX8_takeNow_105 : decode cX8_takeNow 105 = .ok (.iload_n 2, 1) := by decide +kernel
theorem dX8_takeNow_106 : decode cX8_takeNow 106 = .ok (.iaload, 1) := by decide +kernel
theorem dX8_takeNow_107 : decode cX8_takeNow 107 = .ok (.iadd, 1) := by decide +kernel
theorem dX8_takeNow_108 : decode cX8_takeNow 108 = .ok (.iastore, 1) := by decide +kernel
theorem dX8_takeNow_109 : decode cX8_takeNow 109 = .ok (.iinc 2 1, 3) := by decide +kernel
theorem dX8_takeNow_112 : decode cX8_takeNow 112 = .ok (.goto (-23), 3) := by decide +kernel
theorem dX8_takeNow_115 : decode cX8_takeNow 115 = .ok (.return_, 1) := by decide +kernel
theorem dX8_layFits_0 : decode cX8_layFits 0 = .ok (.aload_n 0, 1) := by decide +kernel
theorem dX8_layFits_1 : decode cX8_layFits 1 = .ok (.invokevirtual 278, 3) := by decide +kernel
theorem dX8_layFits_4 : decode cX8_layFits 4 = .ok (.aload_n 0, 1) := by decide +kernel
theorem dX8_layFits_5 : decode cX8_layFits 5 = .ok (.iconst 0, 1) := by decide +kernel
theorem dX8_layFits_6 : decode cX8_layFits 6 = .ok (.putfield 114, 3) := by decide +kernel
theorem dX8_layFits_9 : decode cX8_layFits 9 = .ok (.iconst 0, 1) := by decide +kernel
theorem dX8_layFits_10 : decode cX8_layFits 10 = .ok (.istore_n 1, 1) := by decide +kernel
theorem dX8_layFits_11 : decode cX8_layFits 11 = .ok (.iload_n 1, 1) := by decide +kernel
theorem dX8_layFits_12 : decode cX8_layFits 12 = .ok (.iconst 5, 1) := by decide +kernel
theorem dX8_layFits_13 : decode cX8_layFits 13 = .ok (.if_icmp .ge 16, 3) := by decide +kernel
theorem dX8_layFits_16 : decode cX8_layFits 16 = .ok (.aload_n 0, 1) := by decide +kernel
theorem dX8_layFits_17 : decode cX8_layFits 17 = .ok (.getfield 108, 3) := by decide +kernel
theorem dX8_layFits_20 : decode cX8_layFits 20 = .ok (.iload_n 1, 1) := by decide +kernel
theorem dX8_layFits_21 : decode cX8_layFits 21 = .ok (.iconst 0, 1) := by decide +kernel
theorem dX8_layFits_22 : decode cX8_layFits 22 = .ok (.iastore, 1) := by decide +kernel
theorem dX8_layFits_23 : decode cX8_layFits 23 = .ok (.iinc 1 1, 3) := by decide +kernel
theorem dX8_layFits_26 : decode cX8_layFits 26 = .ok (.goto (-15), 3) := by decide +kernel
theorem dX8_layFits_29 : decode cX8_layFits 29 = .ok (.aload_n 0, 1) := by decide +kernel
theorem dX8_layFits_30 : decode cX8_layFits 30 = .ok (.invokevirtual 302, 3) := by decide +kernel
theorem dX8_layFits_33 : decode cX8_layFits 33 = .ok (.iconst 1, 1) := by decide +kernel
theorem dX8_layFits_34 : decode cX8_layFits 34 = .ok (.istore_n 1, 1) := by decide +kernel
theorem dX8_layFits_35 : decode cX8_layFits 35 = .ok (.iload_n 1, 1) := by decide +kernel
theorem dX8_layFits_36 : decode cX8_layFits 36 = .ok (.ifCond .eq 26, 3) := by decide +kernel
theorem dX8_layFits_39 : decode cX8_layFits 39 = .ok (.aload_n 0, 1) := by decide +kernel
theorem dX8_layFits_40 : decode cX8_layFits 40 = .ok (.invokevirtual 305, 3) := by decide +kernel
theorem dX8_layFits_43 : decode cX8_layFits 43 = .ok (.ifCond .eq 7, 3) := by decide +kernel
theorem dX8_layFits_46 : decode cX8_layFits 46 = .ok (.aload_n 0, 1) := by decide +kernel
theorem dX8_layFits_47 : decode cX8_layFits 47 = .ok (.invokevirtual 308, 3) := by decide +kernel
theorem dX8_layFits_50 : decode cX8_layFits 50 = .ok (.aload_n 0, 1) := by decide +kernel
theorem dX8_layFits_51 : decode cX8_layFits 51 = .ok (.aload_n 0, 1) := by decide +kernel
theorem dX8_layFits_52 : decode cX8_layFits 52 = .ok (.invokevirtual 287, 3) := by decide +kernel
theorem dX8_layFits_55 : decode cX8_layFits 55 = .ok (.invokevirtual 311, 3) := by decide +kernel
theorem dX8_layFits_58 : decode cX8_layFits 58 = .ok (.istore_n 1, 1) := by decide +kernel
theorem dX8_layFits_59 : decode cX8_layFits 59 = .ok (.goto (-24), 3) := by decide +kernel
theorem dX8_layFits_62 : decode cX8_layFits 62 = .ok (.return_, 1) := by decide +kernel
theorem dX8_fits_0 : decode cX8_fits 0 = .ok (.aload_n 0, 1) := by decide +kernel
theorem dX8_fits_1 : decode cX8_fits 1 = .ok (.iload_n 1, 1) := by decide +kernel
theorem dX8_fits_2 : decode cX8_fits 2 = .ok (.iconst 0, 1) := by decide +kernel
theorem dX8_fits_3 : decode cX8_fits 3 = .ok (.iconst 2, 1) := by decide +kernel
theorem dX8_fits_4 : decode cX8_fits 4 = .ok (.invokevirtual 200, 3) := by decide +kernel
theorem dX8_fits_7 : decode cX8_fits 7 = .ok (.ifCond .ne 24, 3) := by decide +kernel
theorem dX8_fits_10 : decode cX8_fits 10 = .ok (.aload_n 0, 1) := by decide +kernel
theorem dX8_fits_11 : decode cX8_fits 11 = .ok (.iload_n 1, 1) := by decide +kernel
theorem dX8_fits_12 : decode cX8_fits 12 = .ok (.bipush 10, 2) := by decide +kernel
theorem dX8_fits_14 : decode cX8_fits 14 = .ok (.bipush 9, 2) := by decide +kernel
theorem dX8_fits_16 : decode cX8_fits 16 = .ok (.aload_n 0, 1) := by decide +kernel
theorem dX8_fits_17 : decode cX8_fits 17 = .ok (.getfield 7, 3) := by decide +kernel
theorem dX8_fits_20 : decode cX8_fits 20 = .ok (.iadd, 1) := by decide +kernel
theorem dX8_fits_21 : decode cX8_fits 21 = .ok (.invokevirtual 200, 3) := by decide +kernel
theorem dX8_fits_24 : decode cX8_fits 24 = .ok (.ifCond .ne 7, 3) := by decide +kernel
theorem dX8_fits_27 : decode cX8_fits 27 = .ok (.sipush (-1001), 3) := by decide +kernel
theorem dX8_fits_30 : decode cX8_fits 30 = .ok (.ireturn, 1) := by decide +kernel
theorem dX8_fits_31 : decode cX8_fits 31 = .ok (.aload_n 0, 1) := by decide +kernel
theorem dX8_fits_32 : decode cX8_fits 32 = .ok (.invokevirtual 314, 3) := by decide +kernel
theorem dX8_fits_35 : decode cX8_fits 35 = .ok (.iload_n 1, 1) := by decide +kernel
theorem dX8_fits_36 : decode cX8_fits 36 = .ok (.ifCond .ne 8, 3) := by decide +kernel
theorem dX8_fits_39 : decode cX8_fits 39 = .ok (.aload_n 0, 1) := by decide +kernel
theorem dX8_fits_40 : decode cX8_fits 40 = .ok (.getfield 114, 3) := by decide +kernel
theorem dX8_fits_43 : decode cX8_fits 43 = .ok (.ireturn, 1) := by decide +kernel
theorem dX8_fits_44 : decode cX8_fits 44 = .ok (.aload_n 0, 1) := by decide +kernel
theorem dX8_fits_45 : decode cX8_fits 45 = .ok (.getfield 114, 3) := by decide +kernel
theorem dX8_fits_48 : decode cX8_fits 48 = .ok (.ifCond .ne 8, 3) := by decide +kernel
theorem dX8_fits_51 : decode cX8_fits 51 = .ok (.bipush (-5), 2) := by decide +kernel
theorem dX8_fits_53 : decode cX8_fits 53 = .ok (.goto 36, 3) := by decide +kernel
theorem dX8_fits_56 : decode cX8_fits 56 = .ok (.iload_n 1, 1) := by decide +kernel
theorem dX8_fits_57 : decode cX8_fits 57 = .ok (.iconst 1, 1) := by decide +kernel
theorem dX8_fits_58 : decode cX8_fits 58 = .ok (.if_icmp .ne 10, 3) := by decide +kernel
theorem dX8_fits_61 : decode cX8_fits 61 = .ok (.aload_n 0, 1) := by decide +kernel
theorem dX8_fits_62 : decode cX8_fits 62 = .ok (.getfield 117, 3) := by decide +kernel
theorem dX8_fits_65 : decode cX8_fits 65 = .ok (.goto 24, 3) := by decide +kernel
theorem dX8_fits_68 : decode cX8_fits 68 = .ok (.iload_n 1, 1) := by decide +kernel
theorem dX8_fits_69 : decode cX8_fits 69 = .ok (.iconst 2, 1) := by decide +kernel
theorem dX8_fits_70 : decode cX8_fits 70 = .ok (.if_icmp .ne 10, 3) := by decide +kernel
theorem dX8_fits_73 : decode cX8_fits 73 = .ok (.aload_n 0, 1) := by decide +kernel
theorem dX8_fits_74 : decode cX8_fits 74 = .ok (.getfield 120, 3) := by decide +kernel
theorem dX8_fits_77 : decode cX8_fits 77 = .ok (.goto 12, 3) := by decide +kernel
theorem dX8_fits_80 : decode cX8_fits 80 = .ok (.aload_n 0, 1) := by decide +kernel
theorem dX8_fits_81 : decode cX8_fits 81 = .ok (.getfield 105, 3) := by decide +kernel
theorem dX8_fits_84 : decode cX8_fits 84 = .ok (.iload_n 1, 1) := by decide +kernel
theorem dX8_fits_85 : decode cX8_fits 85 = .ok (.bipush 10, 2) := by decide +kernel
theorem dX8_fits_87 : decode cX8_fits 87 = .ok (.isub, 1) := by decide +kernel
theorem dX8_fits_88 : decode cX8_fits 88 = .ok (.iaload, 1) := by decide +kernel
theorem dX8_fits_89 : decode cX8_fits 89 = .ok (.ireturn, 1) := by decide +kernel
theorem dX8_divisor_0 : decode cX8_divisor 0 = .ok (.iload_n 1, 1) := by decide +kernel
theorem dX8_divisor_1 : decode cX8_divisor 1 = .ok (.istore_n 3, 1) := by decide +kernel
theorem dX8_divisor_2 : decode cX8_divisor 2 = .ok (.iload_n 2, 1) := by decide +kernel
theorem dX8_divisor_3 : decode cX8_divisor 3 = .ok (.istore 4, 2) := by decide +kernel
theorem dX8_divisor_5 : decode cX8_divisor 5 = .ok (.iload 4, 2) := by decide +kernel
theorem dX8_divisor_7 : decode cX8_divisor 7 = .ok (.ifCond .eq 19, 3) := by decide +kernel
theorem dX8_divisor_10 : decode cX8_divisor 10 = .ok (.iload_n 3, 1) := by decide +kernel
theorem dX8_divisor_11 : decode cX8_divisor 11 = .ok (.iload 4, 2) := by decide +kernel
theorem dX8_divisor_13 : decode cX8_divisor 13 = .ok (.irem, 1) := by decide +kernel
theorem dX8_divisor_14 : decode cX8_divisor 14 = .ok (.istore 5, 2) := by decide +kernel
theorem dX8_divisor_16 : decode cX8_divisor 16 = .ok (.iload 4, 2) := by decide +kernel
theorem dX8_divisor_18 : decode cX8_divisor 18 = .ok (.istore_n 3, 1) := by decide +kernel
theorem dX8_divisor_19 : decode cX8_divisor 19 = .ok (.iload 5, 2) := by decide +kernel
theorem dX8_divisor_21 : decode cX8_divisor 21 = .ok (.istore 4, 2) := by decide +kernel
theorem dX8_divisor_23 : decode cX8_divisor 23 = .ok (.goto (-18), 3) := by decide +kernel
theorem dX8_divisor_26 : decode cX8_divisor 26 = .ok (.iload_n 3, 1) := by decide +kernel
theorem dX8_divisor_27 : decode cX8_divisor 27 = .ok (.ireturn, 1) := by decide +kernel
theorem dX8_bars_0 : decode cX8_bars 0 = .ok (.aload_n 0, 1) := by decide +kernel
theorem dX8_bars_1 : decode cX8_bars 1 = .ok (.invokevirtual 278, 3) := by decide +kernel
theorem dX8_bars_4 : decode cX8_bars 4 = .ok (.iconst 2, 1) := by decide +kernel
theorem dX8_bars_5 : decode cX8_bars 5 = .ok (.istore_n 1, 1) := by decide +kernel
theorem dX8_bars_6 : decode cX8_bars 6 = .ok (.iload_n 1, 1) := by decide +kernel
theorem dX8_bars_7 : decode cX8_bars 7 = .ok (.bipush 31, 2) := by decide +kernel
theorem dX8_bars_9 : decode cX8_bars 9 = .ok (.if_icmp .ge 86, 3) := by decide +kernel
theorem dX8_bars_12 : decode cX8_bars 12 = .ok (.iconst 0, 1) := by decide +kernel
theorem dX8_bars_13 : decode cX8_bars 13 = .ok (.istore_n 2, 1) := by decide +kernel
theorem dX8_bars_14 : decode cX8_bars 14 = .ok (.iload_n 2, 1) := by decide +kernel
theorem dX8_bars_15 : decode cX8_bars 15 = .ok (.iconst 3, 1) := by decide +kernel
theorem dX8_bars_16 : decode cX8_bars 16 = .ok (.if_icmp .ge 73, 3) := by decide +kernel
theorem dX8_bars_19 : decode cX8_bars 19 = .ok (.iload_n 1, 1) := by decide +kernel
theorem dX8_bars_20 : decode cX8_bars 20 = .ok (.istore_n 3, 1) := by decide +kernel
theorem dX8_bars_21 : decode cX8_bars 21 = .ok (.iconst 0, 1) := by decide +kernel
theorem dX8_bars_22 : decode cX8_bars 22 = .ok (.istore 4, 2) := by decide +kernel
theorem dX8_bars_24 : decode cX8_bars 24 = .ok (.iload 4, 2) := by decide +kernel
theorem dX8_bars_26 : decode cX8_bars 26 = .ok (.aload_n 0, 1) := by decide +kernel
theorem dX8_bars_27 : decode cX8_bars 27 = .ok (.getfield 7, 3) := by decide +kernel
theorem dX8_bars_30 : decode cX8_bars 30 = .ok (.if_icmp .ge 26, 3) := by decide +kernel
theorem dX8_bars_33 : decode cX8_bars 33 = .ok (.aload_n 0, 1) := by decide +kernel
theorem dX8_bars_34 : decode cX8_bars 34 = .ok (.iload_n 3, 1) := by decide +kernel
theorem dX8_bars_35 : decode cX8_bars 35 = .ok (.aload_n 0, 1) := by decide +kernel
theorem dX8_bars_36 : decode cX8_bars 36 = .ok (.getfield 96, 3) := by decide +kernel
theorem dX8_bars_39 : decode cX8_bars 39 = .ok (.iconst 3, 1) := by decide +kernel
theorem dX8_bars_40 : decode cX8_bars 40 = .ok (.iload 4, 2) := by decide +kernel
theorem dX8_bars_42 : decode cX8_bars 42 = .ok (.imul, 1) := by decide +kernel
theorem dX8_bars_43 : decode cX8_bars 43 = .ok (.iload_n 2, 1) := by decide +kernel
theorem dX8_bars_44 : decode cX8_bars 44 = .ok (.iadd, 1) := by decide +kernel
theorem dX8_bars_45 : decode cX8_bars 45 = .ok (.iaload, 1) := by decide +kernel
theorem dX8_bars_46 : decode cX8_bars 46 = .ok (.invokevirtual 317, 3) := by decide +kernel
theorem dX8_bars_49 : decode cX8_bars 49 = .ok (.istore_n 3, 1) := by decide +kernel
theorem dX8_bars_50 : decode cX8_bars 50 = .ok (.iinc 4 1, 3) := by decide +kernel
theorem dX8_bars_53 : decode cX8_bars 53 = .ok (.goto (-29), 3) := by decide +kernel
theorem dX8_bars_56 : decode cX8_bars 56 = .ok (.aload_n 0, 1) := by decide +kernel
theorem dX8_bars_57 : decode cX8_bars 57 = .ok (.getfield 38, 3) := by decide +kernel
theorem dX8_bars_60 : decode cX8_bars 60 = .ok (.iload_n 2, 1) := by decide +kernel
theorem dX8_bars_61 : decode cX8_bars 61 = .ok (.iaload, 1) := by decide +kernel
theorem dX8_bars_62 : decode cX8_bars 62 = .ok (.ifCond .lt 21, 3) := by decide +kernel
theorem dX8_bars_65 : decode cX8_bars 65 = .ok (.aload_n 0, 1) := by decide +kernel
theorem dX8_bars_66 : decode cX8_bars 66 = .ok (.getfield 38, 3) := by decide +kernel
theorem dX8_bars_69 : decode cX8_bars 69 = .ok (.iload_n 2, 1) := by decide +kernel
theorem dX8_bars_70 : decode cX8_bars 70 = .ok (.iaload, 1) := by decide +kernel
theorem dX8_bars_71 : decode cX8_bars 71 = .ok (.iload_n 3, 1) := by decide +kernel
theorem dX8_bars_72 : decode cX8_bars 72 = .ok (.irem, 1) := by decide +kernel
theorem dX8_bars_73 : decode cX8_bars 73 = .ok (.ifCond .eq 10, 3) := by decide +kernel
theorem dX8_bars_76 : decode cX8_bars 76 = .ok (.bipush 100, 2) := by decide +kernel
theorem dX8_bars_78 : decode cX8_bars 78 = .ok (.iload_n 1, 1) := by decide +kernel
theorem dX8_bars_79 : decode cX8_bars 79 = .ok (.imul, 1) := by decide +kernel
theorem dX8_bars_80 : decode cX8_bars 80 = .ok (.iload_n 2, 1) := by decide +kernel
theorem dX8_bars_81 : decode cX8_bars 81 = .ok (.iadd, 1) := by decide +kernel
theorem dX8_bars_82 : decode cX8_bars 82 = .ok (.ireturn, 1) := by decide +kernel
theorem dX8_bars_83 : decode cX8_bars 83 = .ok (.iinc 2 1, 3) := by decide +kernel
theorem dX8_bars_86 : decode cX8_bars 86 = .ok (.goto (-72), 3) := by decide +kernel
theorem dX8_bars_89 : decode cX8_bars 89 = .ok (.iinc 1 1, 3) := by decide +kernel
theorem dX8_bars_92 : decode cX8_bars 92 = .ok (.goto (-86), 3) := by decide +kernel
theorem dX8_bars_95 : decode cX8_bars 95 = .ok (.bipush (-5), 2) := by decide +kernel
theorem dX8_bars_97 : decode cX8_bars 97 = .ok (.ireturn, 1) := by decide +kernel
theorem dX8_hole_0 : decode cX8_hole 0 = .ok (.aload_n 0, 1) := by decide +kernel
theorem dX8_hole_1 : decode cX8_hole 1 = .ok (.iload_n 1, 1) := by decide +kernel
theorem dX8_hole_2 : decode cX8_hole 2 = .ok (.iconst 0, 1) := by decide +kernel
theorem dX8_hole_3 : decode cX8_hole 3 = .ok (.iconst 1, 1) := by decide +kernel
theorem dX8_hole_4 : decode cX8_hole 4 = .ok (.invokevirtual 200, 3) := by decide +kernel
theorem dX8_hole_7 : decode cX8_hole 7 = .ok (.ifCond .ne 5, 3) := by decide +kernel
theorem dX8_hole_10 : decode cX8_hole 10 = .ok (.iconst (-1), 1) := by decide +kernel
theorem dX8_hole_11 : decode cX8_hole 11 = .ok (.ireturn, 1) := by decide +kernel
theorem dX8_hole_12 : decode cX8_hole 12 = .ok (.bipush (-5), 2) := by decide +kernel
theorem dX8_hole_14 : decode cX8_hole 14 = .ok (.istore_n 2, 1) := by decide +kernel
theorem dX8_hole_15 : decode cX8_hole 15 = .ok (.iconst 0, 1) := by decide +kernel
theorem dX8_hole_16 : decode cX8_hole 16 = .ok (.istore_n 3, 1) := by decide +kernel
theorem dX8_hole_17 : decode cX8_hole 17 = .ok (.iconst 0, 1) := by decide +kernel
theorem dX8_hole_18 : decode cX8_hole 18 = .ok (.istore 4, 2) := by decide +kernel
theorem dX8_hole_20 : decode cX8_hole 20 = .ok (.iload 4, 2) := by decide +kernel
theorem dX8_hole_22 : decode cX8_hole 22 = .ok (.iconst 3, 1) := by decide +kernel
theorem dX8_hole_23 : decode cX8_hole 23 = .ok (.if_icmp .ge 74, 3) := by decide +kernel
theorem dX8_hole_26 : decode cX8_hole 26 = .ok (.aload_n 0, 1) := by decide +kernel
theorem dX8_hole_27 : decode cX8_hole 27 = .ok (.getfield 38, 3) := by decide +kernel
theorem dX8_hole_30 : decode cX8_hole 30 = .ok (.iload 4, 2) := by decide +kernel
theorem dX8_hole_32 : decode cX8_hole 32 = .ok (.iaload, 1) := by decide +kernel
theorem dX8_hole_33 : decode cX8_hole 33 = .ok (.ifCond .lt 6, 3) := by decide +kernel
theorem dX8_hole_36 : decode cX8_hole 36 = .ok (.goto 55, 3) := by decide +kernel
theorem dX8_hole_39 : decode cX8_hole 39 = .ok (.aload_n 0, 1) := by decide +kernel
theorem dX8_hole_40 : decode cX8_hole 40 = .ok (.invokevirtual 278, 3) := by decide +kernel
theorem dX8_hole_43 : decode cX8_hole 43 = .ok (.aload_n 0, 1) := by decide +kernel
theorem dX8_hole_44 : decode cX8_hole 44 = .ok (.getfield 38, 3) := by decide +kernel
theorem dX8_hole_47 : decode cX8_hole 47 = .ok (.iload 4, 2) := by decide +kernel
theorem dX8_hole_49 : decode cX8_hole 49 = .ok (.aload_n 0, 1) := by decide +kernel
theorem dX8_hole_50 : decode cX8_hole 50 = .ok (.iload 4, 2) := by decide +kernel
theorem dX8_hole_52 : decode cX8_hole 52 = .ok (.invokevirtual 281, 3) := by decide +kernel
theorem dX8_hole_55 : decode cX8_hole 55 = .ok (.iastore, 1) := by decide +kernel
theorem dX8_hole_56 : decode cX8_hole 56 = .ok (.aload_n 0, 1) := by decide +kernel
theorem dX8_hole_57 : decode cX8_hole 57 = .ok (.invokevirtual 314, 3) := by decide +kernel
theorem dX8_hole_60 : decode cX8_hole 60 = .ok (.aload_n 0, 1) := by decide +kernel
theorem dX8_hole_61 : decode cX8_hole 61 = .ok (.getfield 38, 3) := by decide +kernel
theorem dX8_hole_64 : decode cX8_hole 64 = .ok (.iload 4, 2) := by decide +kernel
theorem dX8_hole_66 : decode cX8_hole 66 = .ok (.iconst (-1), 1) := by decide +kernel
theorem dX8_hole_67 : decode cX8_hole 67 = .ok (.iastore, 1) := by decide +kernel
theorem dX8_hole_68 : decode cX8_hole 68 = .ok (.iload_n 2, 1) := by decide +kernel
theorem dX8_hole_69 : decode cX8_hole 69 = .ok (.ifCond .lt 14, 3) := by decide +kernel
theorem dX8_hole_72 : decode cX8_hole 72 = .ok (.aload_n 0, 1) := by decide +kernel
theorem dX8_hole_73 : decode cX8_hole 73 = .ok (.getfield 114, 3) := by decide +kernel
theorem dX8_hole_76 : decode cX8_hole 76 = .ok (.iload_n 3, 1) := by decide +kernel
theorem dX8_hole_77 : decode cX8_hole 77 = .ok (.if_icmp .lt 6, 3) := by decide +kernel
theorem dX8_hole_80 : decode cX8_hole 80 = .ok (.goto 11, 3) := by decide +kernel
theorem dX8_hole_83 : decode cX8_hole 83 = .ok (.iload 4, 2) := by decide +kernel
theorem dX8_hole_85 : decode cX8_hole 85 = .ok (.istore_n 2, 1) := by decide +kernel
theorem dX8_hole_86 : decode cX8_hole 86 = .ok (.aload_n 0, 1) := by decide +kernel
theorem dX8_hole_87 : decode cX8_hole 87 = .ok (.getfield 114, 3) := by decide +kernel
theorem dX8_hole_90 : decode cX8_hole 90 = .ok (.istore_n 3, 1) := by decide +kernel
theorem dX8_hole_91 : decode cX8_hole 91 = .ok (.iinc 4 1, 3) := by decide +kernel
theorem dX8_hole_94 : decode cX8_hole 94 = .ok (.goto (-74), 3) := by decide +kernel
theorem dX8_hole_97 : decode cX8_hole 97 = .ok (.iload_n 2, 1) := by decide +kernel
theorem dX8_hole_98 : decode cX8_hole 98 = .ok (.ifCond .lt 7, 3) := by decide +kernel
theorem dX8_hole_101 : decode cX8_hole 101 = .ok (.iload_n 1, 1) := by decide +kernel
theorem dX8_hole_102 : decode cX8_hole 102 = .ok (.ifCond .ne 7, 3) := by decide +kernel
theorem dX8_hole_105 : decode cX8_hole 105 = .ok (.iload_n 2, 1) := by decide +kernel
theorem dX8_hole_106 : decode cX8_hole 106 = .ok (.goto 4, 3) := by decide +kernel
theorem dX8_hole_109 : decode cX8_hole 109 = .ok (.iload_n 3, 1) := by decide +kernel
theorem dX8_hole_110 : decode cX8_hole 110 = .ok (.ireturn, 1) := by decide +kernel
theorem dX8_isAsked_0 : decode cX8_isAsked 0 = .ok (.iconst 0, 1) := by decide +kernel
theorem dX8_isAsked_1 : decode cX8_isAsked 1 = .ok (.istore_n 1, 1) := by decide +kernel
theorem dX8_isAsked_2 : decode cX8_isAsked 2 = .ok (.iload_n 1, 1) := by decide +kernel
theorem dX8_isAsked_3 : decode cX8_isAsked 3 = .ok (.iconst 3, 1) := by decide +kernel
theorem dX8_isAsked_4 : decode cX8_isAsked 4 = .ok (.if_icmp .ge 25, 3) := by decide +kernel
theorem dX8_isAsked_7 : decode cX8_isAsked 7 = .ok (.aload_n 0, 1) := by decide +kernel
theorem dX8_isAsked_8 : decode cX8_isAsked 8 = .ok (.iload_n 1, 1) := by decide +kernel
theorem dX8_isAsked_9 : decode cX8_isAsked 9 = .ok (.invokevirtual 296, 3) := by decide +kernel
theorem dX8_isAsked_12 : decode cX8_isAsked 12 = .ok (.aload_n 0, 1) := by decide +kernel
theorem dX8_isAsked_13 : decode cX8_isAsked 13 = .ok (.getfield 123, 3) := by decide +kernel
theorem dX8_isAsked_16 : decode cX8_isAsked 16 = .ok (.iload_n 1, 1) := by decide +kernel
theorem dX8_isAsked_17 : decode cX8_isAsked 17 = .ok (.iaload, 1) := by decide +kernel
theorem dX8_isAsked_18 : decode cX8_isAsked 18 = .ok (.if_icmp .eq 5, 3) := by decide +kernel
theorem dX8_isAsked_21 : decode cX8_isAsked 21 = .ok (.iconst 0, 1) := by decide +kernel
theorem dX8_isAsked_22 : decode cX8_isAsked 22 = .ok (.ireturn, 1) := by decide +kernel
theorem dX8_isAsked_23 : decode cX8_isAsked 23 = .ok (.iinc 1 1, 3) := by decide +kernel
theorem dX8_isAsked_26 : decode cX8_isAsked 26 = .ok (.goto (-24), 3) := by decide +kernel
theorem dX8_isAsked_29 : decode cX8_isAsked 29 = .ok (.iconst 1, 1) := by decide +kernel
theorem dX8_isAsked_30 : decode cX8_isAsked 30 = .ok (.ireturn, 1) := by decide +kernel
theorem dX8_layAlike_0 : decode cX8_layAlike 0 = .ok (.iconst 0, 1) := by decide +kernel
theorem dX8_layAlike_1 : decode cX8_layAlike 1 = .ok (.istore_n 2, 1) := by decide +kernel
theorem dX8_layAlike_2 : decode cX8_layAlike 2 = .ok (.aload_n 0, 1) := by decide +kernel
theorem dX8_layAlike_3 : decode cX8_layAlike 3 = .ok (.invokevirtual 302, 3) := by decide +kernel
theorem dX8_layAlike_6 : decode cX8_layAlike 6 = .ok (.iconst 1, 1) := by decide +kernel
theorem dX8_layAlike_7 : decode cX8_layAlike 7 = .ok (.istore_n 3, 1) := by decide +kernel
theorem dX8_layAlike_8 : decode cX8_layAlike 8 = .ok (.iload_n 3, 1) := by decide +kernel
theorem dX8_layAlike_9 : decode cX8_layAlike 9 = .ok (.ifCond .eq 73, 3) := by decide +kernel
theorem dX8_layAlike_12 : decode cX8_layAlike 12 = .ok (.aload_n 0, 1) := by decide +kernel
theorem dX8_layAlike_13 : decode cX8_layAlike 13 = .ok (.invokevirtual 320, 3) := by decide +kernel
theorem dX8_layAlike_16 : decode cX8_layAlike 16 = .ok (.ifCond .eq 57, 3) := by decide +kernel
theorem dX8_layAlike_19 : decode cX8_layAlike 19 = .ok (.iload_n 2, 1) := by decide +kernel
theorem dX8_layAlike_20 : decode cX8_layAlike 20 = .ok (.ifCond .eq 14, 3) := by decide +kernel
theorem dX8_layAlike_23 : decode cX8_layAlike 23 = .ok (.aload_n 0, 1) := by decide +kernel
theorem dX8_layAlike_24 : decode cX8_layAlike 24 = .ok (.invokevirtual 299, 3) := by decide +kernel
theorem dX8_layAlike_27 : decode cX8_layAlike 27 = .ok (.aload_n 0, 1) := by decide +kernel
theorem dX8_layAlike_28 : decode cX8_layAlike 28 = .ok (.getfield 117, 3) := by decide +kernel
theorem dX8_layAlike_31 : decode cX8_layAlike 31 = .ok (.if_icmp .ge 42, 3) := by decide +kernel
theorem dX8_layAlike_34 : decode cX8_layAlike 34 = .ok (.iconst 1, 1) := by decide +kernel
theorem dX8_layAlike_35 : decode cX8_layAlike 35 = .ok (.istore_n 2, 1) := by decide +kernel
theorem dX8_layAlike_36 : decode cX8_layAlike 36 = .ok (.aload_n 0, 1) := by decide +kernel
theorem dX8_layAlike_37 : decode cX8_layAlike 37 = .ok (.aload_n 0, 1) := by decide +kernel
theorem dX8_layAlike_38 : decode cX8_layAlike 38 = .ok (.invokevirtual 299, 3) := by decide +kernel
theorem dX8_layAlike_41 : decode cX8_layAlike 41 = .ok (.putfield 117, 3) := by decide +kernel
theorem dX8_layAlike_44 : decode cX8_layAlike 44 = .ok (.iconst 0, 1) := by decide +kernel
theorem dX8_layAlike_45 : decode cX8_layAlike 45 = .ok (.istore 4, 2) := by decide +kernel
theorem dX8_layAlike_47 : decode cX8_layAlike 47 = .ok (.iload 4, 2) := by decide +kernel
theorem dX8_layAlike_49 : decode cX8_layAlike 49 = .ok (.iconst 5, 1) := by decide +kernel
theorem dX8_layAlike_50 : decode cX8_layAlike 50 = .ok (.if_icmp .ge 23, 3) := by decide +kernel
theorem dX8_layAlike_53 : decode cX8_layAlike 53 = .ok (.aload_n 0, 1) := by decide +kernel
theorem dX8_layAlike_54 : decode cX8_layAlike 54 = .ok (.getfield 105, 3) := by decide +kernel
theorem dX8_layAlike_57 : decode cX8_layAlike 57 = .ok (.iload 4, 2) := by decide +kernel
theorem dX8_layAlike_59 : decode cX8_layAlike 59 = .ok (.aload_n 0, 1) := by decide +kernel
theorem dX8_layAlike_60 : decode cX8_layAlike 60 = .ok (.getfield 102, 3) := by decide +kernel
theorem dX8_layAlike_63 : decode cX8_layAlike 63 = .ok (.iload 4, 2) := by decide +kernel
theorem dX8_layAlike_65 : decode cX8_layAlike 65 = .ok (.iaload, 1) := by decide +kernel
theorem dX8_layAlike_66 : decode cX8_layAlike 66 = .ok (.iastore, 1) := by decide +kernel
theorem dX8_layAlike_67 : decode cX8_layAlike 67 = .ok (.iinc 4 1, 3) := by decide +kernel
theorem dX8_layAlike_70 : decode cX8_layAlike 70 = .ok (.goto (-23), 3) := by decide +kernel
theorem dX8_layAlike_73 : decode cX8_layAlike 73 = .ok (.aload_n 0, 1) := by decide +kernel
theorem dX8_layAlike_74 : decode cX8_layAlike 74 = .ok (.iload_n 1, 1) := by decide +kernel
theorem dX8_layAlike_75 : decode cX8_layAlike 75 = .ok (.invokevirtual 311, 3) := by decide +kernel
theorem dX8_layAlike_78 : decode cX8_layAlike 78 = .ok (.istore_n 3, 1) := by decide +kernel
theorem dX8_layAlike_79 : decode cX8_layAlike 79 = .ok (.goto (-71), 3) := by decide +kernel
theorem dX8_layAlike_82 : decode cX8_layAlike 82 = .ok (.iload_n 2, 1) := by decide +kernel
theorem dX8_layAlike_83 : decode cX8_layAlike 83 = .ok (.ireturn, 1) := by decide +kernel
theorem dX8_alike_0 : decode cX8_alike 0 = .ok (.iload_n 1, 1) := by decide +kernel
theorem dX8_alike_1 : decode cX8_alike 1 = .ok (.ifCond .eq 24, 3) := by decide +kernel
theorem dX8_alike_4 : decode cX8_alike 4 = .ok (.aload_n 0, 1) := by decide +kernel
theorem dX8_alike_5 : decode cX8_alike 5 = .ok (.iload_n 1, 1) := by decide +kernel
theorem dX8_alike_6 : decode cX8_alike 6 = .ok (.bipush 10, 2) := by decide +kernel
theorem dX8_alike_8 : decode cX8_alike 8 = .ok (.bipush 9, 2) := by decide +kernel
theorem dX8_alike_10 : decode cX8_alike 10 = .ok (.aload_n 0, 1) := by decide +kernel
theorem dX8_alike_11 : decode cX8_alike 11 = .ok (.getfield 7, 3) := by decide +kernel
theorem dX8_alike_14 : decode cX8_alike 14 = .ok (.iadd, 1) := by decide +kernel
theorem dX8_alike_15 : decode cX8_alike 15 = .ok (.invokevirtual 200, 3) := by decide +kernel
theorem dX8_alike_18 : decode cX8_alike 18 = .ok (.ifCond .ne 7, 3) := by decide +kernel
theorem dX8_alike_21 : decode cX8_alike 21 = .ok (.sipush (-1001), 3) := by decide +kernel
theorem dX8_alike_24 : decode cX8_alike 24 = .ok (.ireturn, 1) := by decide +kernel
theorem dX8_alike_25 : decode cX8_alike 25 = .ok (.aload_n 0, 1) := by decide +kernel
theorem dX8_alike_26 : decode cX8_alike 26 = .ok (.invokevirtual 278, 3) := by decide +kernel
theorem dX8_alike_29 : decode cX8_alike 29 = .ok (.iconst 0, 1) := by decide +kernel
theorem dX8_alike_30 : decode cX8_alike 30 = .ok (.istore_n 2, 1) := by decide +kernel
theorem dX8_alike_31 : decode cX8_alike 31 = .ok (.iload_n 2, 1) := by decide +kernel
theorem dX8_alike_32 : decode cX8_alike 32 = .ok (.iconst 3, 1) := by decide +kernel
theorem dX8_alike_33 : decode cX8_alike 33 = .ok (.if_icmp .ge 20, 3) := by decide +kernel
theorem dX8_alike_36 : decode cX8_alike 36 = .ok (.aload_n 0, 1) := by decide +kernel
theorem dX8_alike_37 : decode cX8_alike 37 = .ok (.getfield 123, 3) := by decide +kernel
theorem dX8_alike_40 : decode cX8_alike 40 = .ok (.iload_n 2, 1) := by decide +kernel
theorem dX8_alike_41 : decode cX8_alike 41 = .ok (.aload_n 0, 1) := by decide +kernel
theorem dX8_alike_42 : decode cX8_alike 42 = .ok (.iload_n 2, 1) := by decide +kernel
theorem dX8_alike_43 : decode cX8_alike 43 = .ok (.invokevirtual 281, 3) := by decide +kernel
theorem dX8_alike_46 : decode cX8_alike 46 = .ok (.iastore, 1) := by decide +kernel
theorem dX8_alike_47 : decode cX8_alike 47 = .ok (.iinc 2 1, 3) := by decide +kernel
theorem dX8_alike_50 : decode cX8_alike 50 = .ok (.goto (-19), 3) := by decide +kernel
theorem dX8_alike_53 : decode cX8_alike 53 = .ok (.aload_n 0, 1) := by decide +kernel
theorem dX8_alike_54 : decode cX8_alike 54 = .ok (.aload_n 0, 1) := by decide +kernel
theorem dX8_alike_55 : decode cX8_alike 55 = .ok (.invokevirtual 287, 3) := by decide +kernel
theorem dX8_alike_58 : decode cX8_alike 58 = .ok (.invokevirtual 323, 3) := by decide +kernel
theorem dX8_alike_61 : decode cX8_alike 61 = .ok (.ifCond .ne 6, 3) := by decide +kernel
theorem dX8_alike_64 : decode cX8_alike 64 = .ok (.bipush (-5), 2) := by decide +kernel
theorem dX8_alike_66 : decode cX8_alike 66 = .ok (.ireturn, 1) := by decide +kernel
theorem dX8_alike_67 : decode cX8_alike 67 = .ok (.iload_n 1, 1) := by decide +kernel
theorem dX8_alike_68 : decode cX8_alike 68 = .ok (.ifCond .ne 10, 3) := by decide +kernel
theorem dX8_alike_71 : decode cX8_alike 71 = .ok (.aload_n 0, 1) := by decide +kernel
theorem dX8_alike_72 : decode cX8_alike 72 = .ok (.getfield 117, 3) := by decide +kernel
theorem dX8_alike_75 : decode cX8_alike 75 = .ok (.goto 12, 3) := by decide +kernel
theorem dX8_alike_78 : decode cX8_alike 78 = .ok (.aload_n 0, 1) := by decide +kernel
theorem dX8_alike_79 : decode cX8_alike 79 = .ok (.getfield 105, 3) := by decide +kernel
theorem dX8_alike_82 : decode cX8_alike 82 = .ok (.iload_n 1, 1) := by decide +kernel
theorem dX8_alike_83 : decode cX8_alike 83 = .ok (.bipush 10, 2) := by decide +kernel
theorem dX8_alike_85 : decode cX8_alike 85 = .ok (.isub, 1) := by decide +kernel
theorem dX8_alike_86 : decode cX8_alike 86 = .ok (.iaload, 1) := by decide +kernel
theorem dX8_alike_87 : decode cX8_alike 87 = .ok (.ireturn, 1) := by decide +kernel
theorem dX8_moreNow_0 : decode cX8_moreNow 0 = .ok (.iconst 0, 1) := by decide +kernel
theorem dX8_moreNow_1 : decode cX8_moreNow 1 = .ok (.istore_n 1, 1) := by decide +kernel
theorem dX8_moreNow_2 : decode cX8_moreNow 2 = .ok (.iconst 0, 1) := by decide +kernel
theorem dX8_moreNow_3 : decode cX8_moreNow 3 = .ok (.istore_n 2, 1) := by decide +kernel
theorem dX8_moreNow_4 : decode cX8_moreNow 4 = .ok (.iload_n 2, 1) := by decide +kernel
theorem dX8_moreNow_5 : decode cX8_moreNow 5 = .ok (.iconst 3, 1) := by decide +kernel
theorem dX8_moreNow_6 : decode cX8_moreNow 6 = .ok (.if_icmp .ge 44, 3) := by decide +kernel
theorem dX8_moreNow_9 : decode cX8_moreNow 9 = .ok (.aload_n 0, 1) := by decide +kernel
theorem dX8_moreNow_10 : decode cX8_moreNow 10 = .ok (.getfield 38, 3) := by decide +kernel
theorem dX8_moreNow_13 : decode cX8_moreNow 13 = .ok (.iload_n 2, 1) := by decide +kernel
theorem dX8_moreNow_14 : decode cX8_moreNow 14 = .ok (.iaload, 1) := by decide +kernel
theorem dX8_moreNow_15 : decode cX8_moreNow 15 = .ok (.ifCond .ge 6, 3) := by decide +kernel
theorem dX8_moreNow_18 : decode cX8_moreNow 18 = .ok (.goto 26, 3) := by decide +kernel
theorem dX8_moreNow_21 : decode cX8_moreNow 21 = .ok (.aload_n 0, 1) := by decide +kernel
theorem dX8_moreNow_22 : decode cX8_moreNow 22 = .ok (.iload_n 2, 1) := by decide +kernel
theorem dX8_moreNow_23 : decode cX8_moreNow 23 = .ok (.invokevirtual 296, 3) := by decide +kernel
theorem dX8_moreNow_26 : decode cX8_moreNow 26 = .ok (.aload_n 0, 1) := by decide +kernel
theorem dX8_moreNow_27 : decode cX8_moreNow 27 = .ok (.getfield 38, 3) := by decide +kernel
theorem dX8_moreNow_30 : decode cX8_moreNow 30 = .ok (.iload_n 2, 1) := by decide +kernel
theorem dX8_moreNow_31 : decode cX8_moreNow 31 = .ok (.iaload, 1) := by decide +kernel
theorem dX8_moreNow_32 : decode cX8_moreNow 32 = .ok (.isub, 1) := by decide +kernel
theorem dX8_moreNow_33 : decode cX8_moreNow 33 = .ok (.istore_n 3, 1) := by decide +kernel
theorem dX8_moreNow_34 : decode cX8_moreNow 34 = .ok (.iload_n 3, 1) := by decide +kernel
theorem dX8_moreNow_35 : decode cX8_moreNow 35 = .ok (.ifCond .ge 5, 3) := by decide +kernel
theorem dX8_moreNow_38 : decode cX8_moreNow 38 = .ok (.iconst (-1), 1) := by decide +kernel
theorem dX8_moreNow_39 : decode cX8_moreNow 39 = .ok (.ireturn, 1) := by decide +kernel
theorem dX8_moreNow_40 : decode cX8_moreNow 40 = .ok (.iload_n 1, 1) := by decide +kernel
theorem dX8_moreNow_41 : decode cX8_moreNow 41 = .ok (.iload_n 3, 1) := by decide +kernel
theorem dX8_moreNow_42 : decode cX8_moreNow 42 = .ok (.iadd, 1) := by decide +kernel
theorem dX8_moreNow_43 : decode cX8_moreNow 43 = .ok (.istore_n 1, 1) := by decide +kernel
theorem dX8_moreNow_44 : decode cX8_moreNow 44 = .ok (.iinc 2 1, 3) := by decide +kernel
theorem dX8_moreNow_47 : decode cX8_moreNow 47 = .ok (.goto (-43), 3) := by decide +kernel
theorem dX8_moreNow_50 : decode cX8_moreNow 50 = .ok (.iload_n 1, 1) := by decide +kernel
theorem dX8_moreNow_51 : decode cX8_moreNow 51 = .ok (.ireturn, 1) := by decide +kernel
theorem dX8_missed_0 : decode cX8_missed 0 = .ok (.aload_n 0, 1) := by decide +kernel
theorem dX8_missed_1 : decode cX8_missed 1 = .ok (.invokevirtual 278, 3) := by decide +kernel
theorem dX8_missed_4 : decode cX8_missed 4 = .ok (.bipush (-5), 2) := by decide +kernel
theorem dX8_missed_6 : decode cX8_missed 6 = .ok (.istore_n 1, 1) := by decide +kernel
theorem dX8_missed_7 : decode cX8_missed 7 = .ok (.aload_n 0, 1) := by decide +kernel
theorem dX8_missed_8 : decode cX8_missed 8 = .ok (.invokevirtual 302, 3) := by decide +kernel
theorem dX8_missed_11 : decode cX8_missed 11 = .ok (.iconst 1, 1) := by decide +kernel
theorem dX8_missed_12 : decode cX8_missed 12 = .ok (.istore_n 2, 1) := by decide +kernel
theorem dX8_missed_13 : decode cX8_missed 13 = .ok (.iload_n 2, 1) := by decide +kernel
theorem dX8_missed_14 : decode cX8_missed 14 = .ok (.ifCond .eq 39, 3) := by decide +kernel
theorem dX8_missed_17 : decode cX8_missed 17 = .ok (.aload_n 0, 1) := by decide +kernel
theorem dX8_missed_18 : decode cX8_missed 18 = .ok (.invokevirtual 326, 3) := by decide +kernel
theorem dX8_missed_21 : decode cX8_missed 21 = .ok (.istore_n 3, 1) := by decide +kernel
theorem dX8_missed_22 : decode cX8_missed 22 = .ok (.iload_n 3, 1) := by decide +kernel
theorem dX8_missed_23 : decode cX8_missed 23 = .ok (.ifCond .lt 16, 3) := by decide +kernel
theorem dX8_missed_26 : decode cX8_missed 26 = .ok (.iload_n 1, 1) := by decide +kernel
theorem dX8_missed_27 : decode cX8_missed 27 = .ok (.ifCond .lt 8, 3) := by decide +kernel
theorem dX8_missed_30 : decode cX8_missed 30 = .ok (.iload_n 3, 1) := by decide +kernel
theorem dX8_missed_31 : decode cX8_missed 31 = .ok (.iload_n 1, 1) := by decide +kernel
theorem dX8_missed_32 : decode cX8_missed 32 = .ok (.if_icmp .ge 7, 3) := by decide +kernel
theorem dX8_missed_35 : decode cX8_missed 35 = .ok (.iload_n 3, 1) := by decide +kernel
theorem dX8_missed_36 : decode cX8_missed 36 = .ok (.goto 4, 3) := by decide +kernel
theorem dX8_missed_39 : decode cX8_missed 39 = .ok (.iload_n 1, 1) := by decide +kernel
theorem dX8_missed_40 : decode cX8_missed 40 = .ok (.istore_n 1, 1) := by decide +kernel
theorem dX8_missed_41 : decode cX8_missed 41 = .ok (.aload_n 0, 1) := by decide +kernel
theorem dX8_missed_42 : decode cX8_missed 42 = .ok (.aload_n 0, 1) := by decide +kernel
theorem dX8_missed_43 : decode cX8_missed 43 = .ok (.invokevirtual 287, 3) := by decide +kernel
theorem dX8_missed_46 : decode cX8_missed 46 = .ok (.invokevirtual 311, 3) := by decide +kernel
theorem dX8_missed_49 : decode cX8_missed 49 = .ok (.istore_n 2, 1) := by decide +kernel
theorem dX8_missed_50 : decode cX8_missed 50 = .ok (.goto (-37), 3) := by decide +kernel
theorem dX8_missed_53 : decode cX8_missed 53 = .ok (.iload_n 1, 1) := by decide +kernel
theorem dX8_missed_54 : decode cX8_missed 54 = .ok (.ireturn, 1) := by decide +kernel
theorem dX8_mix_0 : decode cX8_mix 0 = .ok (.aload_n 0, 1) := by decide +kernel
theorem dX8_mix_1 : decode cX8_mix 1 = .ok (.invokevirtual 278, 3) := by decide +kernel
theorem dX8_mix_4 : decode cX8_mix 4 = .ok (.iconst 0, 1) := by decide +kernel
theorem dX8_mix_5 : decode cX8_mix 5 = .ok (.istore_n 1, 1) := by decide +kernel
theorem dX8_mix_6 : decode cX8_mix 6 = .ok (.iload_n 1, 1) := by decide +kernel
theorem dX8_mix_7 : decode cX8_mix 7 = .ok (.iconst 3, 1) := by decide +kernel
theorem dX8_mix_8 : decode cX8_mix 8 = .ok (.if_icmp .ge 26, 3) := by decide +kernel
theorem dX8_mix_11 : decode cX8_mix 11 = .ok (.aload_n 0, 1) := by decide +kernel
theorem dX8_mix_12 : decode cX8_mix 12 = .ok (.getfield 123, 3) := by decide +kernel
theorem dX8_mix_15 : decode cX8_mix 15 = .ok (.iload_n 1, 1) := by decide +kernel
theorem dX8_mix_16 : decode cX8_mix 16 = .ok (.aload_n 0, 1) := by decide +kernel
theorem dX8_mix_17 : decode cX8_mix 17 = .ok (.iload_n 1, 1) := by decide +kernel
theorem dX8_mix_18 : decode cX8_mix 18 = .ok (.invokevirtual 281, 3) := by decide +kernel
theorem dX8_mix_21 : decode cX8_mix 21 = .ok (.aload_n 0, 1) := by decide +kernel
theorem dX8_mix_22 : decode cX8_mix 22 = .ok (.iload_n 1, 1) := by decide +kernel
theorem dX8_mix_23 : decode cX8_mix 23 = .ok (.invokevirtual 284, 3) := by decide +kernel
theorem dX8_mix_26 : decode cX8_mix 26 = .ok (.iadd, 1) := by decide +kernel
theorem dX8_mix_27 : decode cX8_mix 27 = .ok (.iastore, 1) := by decide +kernel
theorem dX8_mix_28 : decode cX8_mix 28 = .ok (.iinc 1 1, 3) := by decide +kernel
theorem dX8_mix_31 : decode cX8_mix 31 = .ok (.goto (-25), 3) := by decide +kernel
theorem dX8_mix_34 : decode cX8_mix 34 = .ok (.aload_n 0, 1) := by decide +kernel
theorem dX8_mix_35 : decode cX8_mix 35 = .ok (.iconst 2, 1) := by decide +kernel
theorem dX8_mix_36 : decode cX8_mix 36 = .ok (.aload_n 0, 1) := by decide +kernel
theorem dX8_mix_37 : decode cX8_mix 37 = .ok (.invokevirtual 287, 3) := by decide +kernel
theorem dX8_mix_40 : decode cX8_mix 40 = .ok (.imul, 1) := by decide +kernel
theorem dX8_mix_41 : decode cX8_mix 41 = .ok (.invokevirtual 323, 3) := by decide +kernel
theorem dX8_mix_44 : decode cX8_mix 44 = .ok (.ifCond .eq 20, 3) := by decide +kernel
theorem dX8_mix_47 : decode cX8_mix 47 = .ok (.aload_n 0, 1) := by decide +kernel
theorem dX8_mix_48 : decode cX8_mix 48 = .ok (.invokevirtual 290, 3) := by decide +kernel
theorem dX8_mix_51 : decode cX8_mix 51 = .ok (.aload_n 0, 1) := by decide +kernel
theorem dX8_mix_52 : decode cX8_mix 52 = .ok (.invokevirtual 293, 3) := by decide +kernel
theorem dX8_mix_55 : decode cX8_mix 55 = .ok (.iadd, 1) := by decide +kernel
theorem dX8_mix_56 : decode cX8_mix 56 = .ok (.aload_n 0, 1) := by decide +kernel
theorem dX8_mix_57 : decode cX8_mix 57 = .ok (.getfield 117, 3) := by decide +kernel
theorem dX8_mix_60 : decode cX8_mix 60 = .ok (.isub, 1) := by decide +kernel
theorem dX8_mix_61 : decode cX8_mix 61 = .ok (.goto 6, 3) := by decide +kernel
theorem dX8_mix_64 : decode cX8_mix 64 = .ok (.ldc_w 329, 3) := by decide +kernel
theorem dX8_mix_67 : decode cX8_mix 67 = .ok (.ireturn, 1) := by decide +kernel
theorem dX8_isFair_0 : decode cX8_isFair 0 = .ok (.iconst 0, 1) := by decide +kernel
theorem dX8_isFair_1 : decode cX8_isFair 1 = .ok (.istore 4, 2) := by decide +kernel
theorem dX8_isFair_3 : decode cX8_isFair 3 = .ok (.iload 4, 2) := by decide +kernel
theorem dX8_isFair_5 : decode cX8_isFair 5 = .ok (.aload_n 0, 1) := by decide +kernel
theorem dX8_isFair_6 : decode cX8_isFair 6 = .ok (.getfield 7, 3) := by decide +kernel
theorem dX8_isFair_9 : decode cX8_isFair 9 = .ok (.if_icmp .ge 60, 3) := by decide +kernel
theorem dX8_isFair_12 : decode cX8_isFair 12 = .ok (.iload_n 1, 1) := by decide +kernel
theorem dX8_isFair_13 : decode cX8_isFair 13 = .ok (.aload_n 0, 1) := by decide +kernel
theorem dX8_isFair_14 : decode cX8_isFair 14 = .ok (.getfield 96, 3) := by decide +kernel
theorem dX8_isFair_17 : decode cX8_isFair 17 = .ok (.iconst 3, 1) := by decide +kernel
theorem dX8_isFair_18 : decode cX8_isFair 18 = .ok (.iload 4, 2) := by decide +kernel
theorem dX8_isFair_20 : decode cX8_isFair 20 = .ok (.imul, 1) := by decide +kernel
theorem dX8_isFair_21 : decode cX8_isFair 21 = .ok (.iaload, 1) := by decide +kernel
theorem dX8_isFair_22 : decode cX8_isFair 22 = .ok (.imul, 1) := by decide +kernel
theorem dX8_isFair_23 : decode cX8_isFair 23 = .ok (.iload_n 2, 1) := by decide +kernel
theorem dX8_isFair_24 : decode cX8_isFair 24 = .ok (.aload_n 0, 1) := by decide +kernel
theorem dX8_isFair_25 : decode cX8_isFair 25 = .ok (.getfield 96, 3) := by decide +kernel
theorem dX8_isFair_28 : decode cX8_isFair 28 = .ok (.iconst 3, 1) := by decide +kernel
theorem dX8_isFair_29 : decode cX8_isFair 29 = .ok (.iload 4, 2) := by decide +kernel
theorem dX8_isFair_31 : decode cX8_isFair 31 = .ok (.imul, 1) := by decide +kernel
theorem dX8_isFair_32 : decode cX8_isFair 32 = .ok (.iconst 1, 1) := by decide +kernel
theorem dX8_isFair_33 : decode cX8_isFair 33 = .ok (.iadd, 1) := by decide +kernel
theorem dX8_isFair_34 : decode cX8_isFair 34 = .ok (.iaload, 1) := by decide +kernel
theorem dX8_isFair_35 : decode cX8_isFair 35 = .ok (.imul, 1) := by decide +kernel
theorem dX8_isFair_36 : decode cX8_isFair 36 = .ok (.iadd, 1) := by decide +kernel
theorem dX8_isFair_37 : decode cX8_isFair 37 = .ok (.iload_n 3, 1) := by decide +kernel
theorem dX8_isFair_38 : decode cX8_isFair 38 = .ok (.aload_n 0, 1) := by decide +kernel
theorem dX8_isFair_39 : decode cX8_isFair 39 = .ok (.getfield 96, 3) := by decide +kernel
theorem dX8_isFair_42 : decode cX8_isFair 42 = .ok (.iconst 3, 1) := by decide +kernel
theorem dX8_isFair_43 : decode cX8_isFair 43 = .ok (.iload 4, 2) := by decide +kernel
theorem dX8_isFair_45 : decode cX8_isFair 45 = .ok (.imul, 1) := by decide +kernel
theorem dX8_isFair_46 : decode cX8_isFair 46 = .ok (.iconst 2, 1) := by decide +kernel
theorem dX8_isFair_47 : decode cX8_isFair 47 = .ok (.iadd, 1) := by decide +kernel
theorem dX8_isFair_48 : decode cX8_isFair 48 = .ok (.iaload, 1) := by decide +kernel
theorem dX8_isFair_49 : decode cX8_isFair 49 = .ok (.imul, 1) := by decide +kernel
theorem dX8_isFair_50 : decode cX8_isFair 50 = .ok (.iadd, 1) := by decide +kernel
theorem dX8_isFair_51 : decode cX8_isFair 51 = .ok (.aload_n 0, 1) := by decide +kernel
theorem dX8_isFair_52 : decode cX8_isFair 52 = .ok (.getfield 99, 3) := by decide +kernel
theorem dX8_isFair_55 : decode cX8_isFair 55 = .ok (.iload 4, 2) := by decide +kernel
theorem dX8_isFair_57 : decode cX8_isFair 57 = .ok (.iaload, 1) := by decide +kernel
theorem dX8_isFair_58 : decode cX8_isFair 58 = .ok (.if_icmp .le 5, 3) := by decide +kernel
theorem dX8_isFair_61 : decode cX8_isFair 61 = .ok (.iconst 0, 1) := by decide +kernel
theorem dX8_isFair_62 : decode cX8_isFair 62 = .ok (.ireturn, 1) := by decide +kernel
theorem dX8_isFair_63 : decode cX8_isFair 63 = .ok (.iinc 4 1, 3) := by decide +kernel
theorem dX8_isFair_66 : decode cX8_isFair 66 = .ok (.goto (-63), 3) := by decide +kernel
theorem dX8_isFair_69 : decode cX8_isFair 69 = .ok (.iconst 1, 1) := by decide +kernel
theorem dX8_isFair_70 : decode cX8_isFair 70 = .ok (.ireturn, 1) := by decide +kernel
theorem dX8_prices_0 : decode cX8_prices 0 = .ok (.aload_n 0, 1) := by decide +kernel
theorem dX8_prices_1 : decode cX8_prices 1 = .ok (.iload_n 1, 1) := by decide +kernel
theorem dX8_prices_2 : decode cX8_prices 2 = .ok (.iconst 0, 1) := by decide +kernel
theorem dX8_prices_3 : decode cX8_prices 3 = .ok (.iconst 3, 1) := by decide +kernel
theorem dX8_prices_4 : decode cX8_prices 4 = .ok (.invokevirtual 200, 3) := by decide +kernel
theorem dX8_prices_7 : decode cX8_prices 7 = .ok (.ifCond .ne 5, 3) := by decide +kernel
theorem dX8_prices_10 : decode cX8_prices 10 = .ok (.iconst (-1), 1) := by decide +kernel
theorem dX8_prices_11 : decode cX8_prices 11 = .ok (.ireturn, 1) := by decide +kernel
theorem dX8_prices_12 : decode cX8_prices 12 = .ok (.aload_n 0, 1) := by decide +kernel
theorem dX8_prices_13 : decode cX8_prices 13 = .ok (.invokevirtual 278, 3) := by decide +kernel
theorem dX8_prices_16 : decode cX8_prices 16 = .ok (.iconst 0, 1) := by decide +kernel
theorem dX8_prices_17 : decode cX8_prices 17 = .ok (.istore_n 2, 1) := by decide +kernel
theorem dX8_prices_18 : decode cX8_prices 18 = .ok (.iconst (-1), 1) := by decide +kernel
theorem dX8_prices_19 : decode cX8_prices 19 = .ok (.istore_n 3, 1) := by decide +kernel
theorem dX8_prices_20 : decode cX8_prices 20 = .ok (.iconst 0, 1) := by decide +kernel
theorem dX8_prices_21 : decode cX8_prices 21 = .ok (.istore 4, 2) := by decide +kernel
theorem dX8_prices_23 : decode cX8_prices 23 = .ok (.iload 4, 2) := by decide +kernel
theorem dX8_prices_25 : decode cX8_prices 25 = .ok (.sipush 1000, 3) := by decide +kernel
theorem dX8_prices_28 : decode cX8_prices 28 = .ok (.if_icmp .ge 89, 3) := by decide +kernel
theorem dX8_prices_31 : decode cX8_prices 31 = .ok (.iload 4, 2) := by decide +kernel
theorem dX8_prices_33 : decode cX8_prices 33 = .ok (.bipush 100, 2) := by decide +kernel
theorem dX8_prices_35 : decode cX8_prices 35 = .ok (.idiv, 1) := by decide +kernel
theorem dX8_prices_36 : decode cX8_prices 36 = .ok (.istore 5, 2) := by decide +kernel
theorem dX8_prices_38 : decode cX8_prices 38 = .ok (.iload 4, 2) := by decide +kernel
theorem dX8_prices_40 : decode cX8_prices 40 = .ok (.bipush 10, 2) := by decide +kernel
theorem dX8_prices_42 : decode cX8_prices 42 = .ok (.idiv, 1) := by decide +kernel
theorem dX8_prices_43 : decode cX8_prices 43 = .ok (.bipush 10, 2) := by decide +kernel
theorem dX8_prices_45 : decode cX8_prices 45 = .ok (.irem, 1) := by decide +kernel
theorem dX8_prices_46 : decode cX8_prices 46 = .ok (.istore 6, 2) := by decide +kernel
theorem dX8_prices_48 : decode cX8_prices 48 = .ok (.iload 4, 2) := by decide +kernel
theorem dX8_prices_50 : decode cX8_prices 50 = .ok (.bipush 10, 2) := by decide +kernel
theorem dX8_prices_52 : decode cX8_prices 52 = .ok (.irem, 1) := by decide +kernel
theorem dX8_prices_53 : decode cX8_prices 53 = .ok (.istore 7, 2) := by decide +kernel
theorem dX8_prices_55 : decode cX8_prices 55 = .ok (.iload 5, 2) := by decide +kernel
theorem dX8_prices_57 : decode cX8_prices 57 = .ok (.aload_n 0, 1) := by decide +kernel
theorem dX8_prices_58 : decode cX8_prices 58 = .ok (.iconst 0, 1) := by decide +kernel
theorem dX8_prices_59 : decode cX8_prices 59 = .ok (.invokevirtual 281, 3) := by decide +kernel
theorem dX8_prices_62 : decode cX8_prices 62 = .ok (.imul, 1) := by decide +kernel
theorem dX8_prices_63 : decode cX8_prices 63 = .ok (.iload 6, 2) := by decide +kernel
theorem dX8_prices_65 : decode cX8_prices 65 = .ok (.aload_n 0, 1) := by decide +kernel
theorem dX8_prices_66 : decode cX8_prices 66 = .ok (.iconst 1, 1) := by decide +kernel
theorem dX8_prices_67 : decode cX8_prices 67 = .ok (.invokevirtual 281, 3) := by decide +kernel
theorem dX8_prices_70 : decode cX8_prices 70 = .ok (.imul, 1) := by decide +kernel
theorem dX8_prices_71 : decode cX8_prices 71 = .ok (.iadd, 1) := by decide +kernel
theorem dX8_prices_72 : decode cX8_prices 72 = .ok (.iload 7, 2) := by decide +kernel
theorem dX8_prices_74 : decode cX8_prices 74 = .ok (.aload_n 0, 1) := by decide +kernel
theorem dX8_prices_75 : decode cX8_prices 75 = .ok (.iconst 2, 1) := by decide +kernel
theorem dX8_prices_76 : decode cX8_prices 76 = .ok (.invokevirtual 281, 3) := by decide +kernel
theorem dX8_prices_79 : decode cX8_prices 79 = .ok (.imul, 1) := by decide +kernel
theorem dX8_prices_80 : decode cX8_prices 80 = .ok (.iadd, 1) := by decide +kernel
theorem dX8_prices_81 : decode cX8_prices 81 = .ok (.istore 8, 2) := by decide +kernel
theorem dX8_prices_83 : decode cX8_prices 83 = .ok (.iload 8, 2) := by decide +kernel
theorem dX8_prices_85 : decode cX8_prices 85 = .ok (.iload_n 3, 1) := by decide +kernel
theorem dX8_prices_86 : decode cX8_prices 86 = .ok (.if_icmp .le 25, 3) := by decide +kernel
theorem dX8_prices_89 : decode cX8_prices 89 = .ok (.aload_n 0, 1) := by decide +kernel
theorem dX8_prices_90 : decode cX8_prices 90 = .ok (.iload 5, 2) := by decide +kernel
theorem dX8_prices_92 : decode cX8_prices 92 = .ok (.iload 6, 2) := by decide +kernel
theorem dX8_prices_94 : decode cX8_prices 94 = .ok (.iload 7, 2) := by decide +kernel
theorem dX8_prices_96 : decode cX8_prices 96 = .ok (.invokevirtual 330, 3) := by decide +kernel
theorem dX8_prices_99 : decode cX8_prices 99 = .ok (.ifCond .ne 6, 3) := by decide +kernel
theorem dX8_prices_102 : decode cX8_prices 102 = .ok (.goto 9, 3) := by decide +kernel
theorem dX8_prices_105 : decode cX8_prices 105 = .ok (.iload 4, 2) := by decide +kernel
theorem dX8_prices_107 : decode cX8_prices 107 = .ok (.istore_n 2, 1) := by decide +kernel
theorem dX8_prices_108 : decode cX8_prices 108 = .ok (.iload 8, 2) := by decide +kernel
theorem dX8_prices_110 : decode cX8_prices 110 = .ok (.istore_n 3, 1) := by decide +kernel
theorem dX8_prices_111 : decode cX8_prices 111 = .ok (.iinc 4 1, 3) := by decide +kernel
theorem dX8_prices_114 : decode cX8_prices 114 = .ok (.goto (-91), 3) := by decide +kernel
theorem dX8_prices_117 : decode cX8_prices 117 = .ok (.iload_n 1, 1) := by decide +kernel
theorem dX8_prices_118 : decode cX8_prices 118 = .ok (.ifCond .ne 7, 3) := by decide +kernel
theorem dX8_prices_121 : decode cX8_prices 121 = .ok (.iload_n 3, 1) := by decide +kernel
theorem dX8_prices_122 : decode cX8_prices 122 = .ok (.goto 34, 3) := by decide +kernel
theorem dX8_prices_125 : decode cX8_prices 125 = .ok (.iload_n 1, 1) := by decide +kernel
theorem dX8_prices_126 : decode cX8_prices 126 = .ok (.iconst 1, 1) := by decide +kernel
theorem dX8_prices_127 : decode cX8_prices 127 = .ok (.if_icmp .ne 10, 3) := by decide +kernel
theorem dX8_prices_130 : decode cX8_prices 130 = .ok (.iload_n 2, 1) := by decide +kernel
theorem dX8_prices_131 : decode cX8_prices 131 = .ok (.bipush 100, 2) := by decide +kernel
theorem dX8_prices_133 : decode cX8_prices 133 = .ok (.idiv, 1) := by decide +kernel
theorem dX8_prices_134 : decode cX8_prices 134 = .ok (.goto 22, 3) := by decide +kernel
theorem dX8_prices_137 : decode cX8_prices 137 = .ok (.iload_n 1, 1) := by decide +kernel
theorem dX8_prices_138 : decode cX8_prices 138 = .ok (.iconst 2, 1) := by decide +kernel
theorem dX8_prices_139 : decode cX8_prices 139 = .ok (.if_icmp .ne 13, 3) := by decide +kernel
theorem dX8_prices_142 : decode cX8_prices 142 = .ok (.iload_n 2, 1) := by decide +kernel
theorem dX8_prices_143 : decode cX8_prices 143 = .ok (.bipush 10, 2) := by decide +kernel
theorem dX8_prices_145 : decode cX8_prices 145 = .ok (.idiv, 1) := by decide +kernel
theorem dX8_prices_146 : decode cX8_prices 146 = .ok (.bipush 10, 2) := by decide +kernel
theorem dX8_prices_148 : decode cX8_prices 148 = .ok (.irem, 1) := by decide +kernel
theorem dX8_prices_149 : decode cX8_prices 149 = .ok (.goto 7, 3) := by decide +kernel
theorem dX8_prices_152 : decode cX8_prices 152 = .ok (.iload_n 2, 1) := by decide +kernel
theorem dX8_prices_153 : decode cX8_prices 153 = .ok (.bipush 10, 2) := by decide +kernel
theorem dX8_prices_155 : decode cX8_prices 155 = .ok (.irem, 1) := by decide +kernel
theorem dX8_prices_156 : decode cX8_prices 156 = .ok (.ireturn, 1) := by decide +kernel
theorem dX8_isWithout_0 : decode cX8_isWithout 0 = .ok (.iconst 0, 1) := by decide +kernel
theorem dX8_isWithout_1 : decode cX8_isWithout 1 = .ok (.istore_n 3, 1) := by decide +kernel
theorem dX8_isWithout_2 : decode cX8_isWithout 2 = .ok (.iload_n 3, 1) := by decide +kernel
theorem dX8_isWithout_3 : decode cX8_isWithout 3 = .ok (.iconst 3, 1) := by decide +kernel
theorem dX8_isWithout_4 : decode cX8_isWithout 4 = .ok (.if_icmp .ge 47, 3) := by decide +kernel
theorem dX8_isWithout_7 : decode cX8_isWithout 7 = .ok (.aload_n 0, 1) := by decide +kernel
theorem dX8_isWithout_8 : decode cX8_isWithout 8 = .ok (.getfield 38, 3) := by decide +kernel
theorem dX8_isWithout_11 : decode cX8_isWithout 11 = .ok (.iload_n 3, 1) := by decide +kernel
theorem dX8_isWithout_12 : decode cX8_isWithout 12 = .ok (.iaload, 1) := by decide +kernel
theorem dX8_isWithout_13 : decode cX8_isWithout 13 = .ok (.ifCond .lt 32, 3) := by decide +kernel
theorem dX8_isWithout_16 : decode cX8_isWithout 16 = .ok (.aload_n 0, 1) := by decide +kernel
theorem dX8_isWithout_17 : decode cX8_isWithout 17 = .ok (.iload_n 3, 1) := by decide +kernel
theorem dX8_isWithout_18 : decode cX8_isWithout 18 = .ok (.invokevirtual 281, 3) := by decide +kernel
theorem dX8_isWithout_21 : decode cX8_isWithout 21 = .ok (.iload_n 2, 1) := by decide +kernel
theorem dX8_isWithout_22 : decode cX8_isWithout 22 = .ok (.aload_n 0, 1) := by decide +kernel
theorem dX8_isWithout_23 : decode cX8_isWithout 23 = .ok (.getfield 96, 3) := by decide +kernel
theorem dX8_isWithout_26 : decode cX8_isWithout 26 = .ok (.iconst 3, 1) := by decide +kernel
theorem dX8_isWithout_27 : decode cX8_isWithout 27 = .ok (.iload_n 1, 1) := by decide +kernel
theorem dX8_isWithout_28 : decode cX8_isWithout 28 = .ok (.imul, 1) := by decide +kernel
theorem dX8_isWithout_29 : decode cX8_isWithout 29 = .ok (.iload_n 3, 1) := by decide +kernel
theorem dX8_isWithout_30 : decode cX8_isWithout 30 = .ok (.iadd, 1) := by decide +kernel
theorem dX8_isWithout_31 : decode cX8_isWithout 31 = .ok (.iaload, 1) := by decide +kernel
theorem dX8_isWithout_32 : decode cX8_isWithout 32 = .ok (.imul, 1) := by decide +kernel
theorem dX8_isWithout_33 : decode cX8_isWithout 33 = .ok (.isub, 1) := by decide +kernel
theorem dX8_isWithout_34 : decode cX8_isWithout 34 = .ok (.aload_n 0, 1) := by decide +kernel
theorem dX8_isWithout_35 : decode cX8_isWithout 35 = .ok (.getfield 38, 3) := by decide +kernel
theorem dX8_isWithout_38 : decode cX8_isWithout 38 = .ok (.iload_n 3, 1) := by decide +kernel
theorem dX8_isWithout_39 : decode cX8_isWithout 39 = .ok (.iaload, 1) := by decide +kernel
theorem dX8_isWithout_40 : decode cX8_isWithout 40 = .ok (.if_icmp .eq 5, 3) := by decide +kernel
theorem dX8_isWithout_43 : decode cX8_isWithout 43 = .ok (.iconst 0, 1) := by decide +kernel
theorem dX8_isWithout_44 : decode cX8_isWithout 44 = .ok (.ireturn, 1) := by decide +kernel
theorem dX8_isWithout_45 : decode cX8_isWithout 45 = .ok (.iinc 3 1, 3) := by decide +kernel
theorem dX8_isWithout_48 : decode cX8_isWithout 48 = .ok (.goto (-46), 3) := by decide +kernel
theorem dX8_isWithout_51 : decode cX8_isWithout 51 = .ok (.iconst 1, 1) := by decide +kernel
theorem dX8_isWithout_52 : decode cX8_isWithout 52 = .ok (.ireturn, 1) := by decide +kernel
theorem dX8_hid_0 : decode cX8_hid 0 = .ok (.aload_n 0, 1) := by decide +kernel
theorem dX8_hid_1 : decode cX8_hid 1 = .ok (.invokevirtual 278, 3) := by decide +kernel
theorem dX8_hid_4 : decode cX8_hid 4 = .ok (.iconst 0, 1) := by decide +kernel
theorem dX8_hid_5 : decode cX8_hid 5 = .ok (.istore_n 1, 1) := by decide +kernel
theorem dX8_hid_6 : decode cX8_hid 6 = .ok (.iload_n 1, 1) := by decide +kernel
theorem dX8_hid_7 : decode cX8_hid 7 = .ok (.aload_n 0, 1) := by decide +kernel
theorem dX8_hid_8 : decode cX8_hid 8 = .ok (.getfield 7, 3) := by decide +kernel
theorem dX8_hid_11 : decode cX8_hid 11 = .ok (.if_icmp .ge 43, 3) := by decide +kernel
theorem dX8_hid_14 : decode cX8_hid 14 = .ok (.iconst 1, 1) := by decide +kernel
theorem dX8_hid_15 : decode cX8_hid 15 = .ok (.istore_n 2, 1) := by decide +kernel
theorem dX8_hid_16 : decode cX8_hid 16 = .ok (.iload_n 2, 1) := by decide +kernel
theorem dX8_hid_17 : decode cX8_hid 17 = .ok (.aload_n 0, 1) := by decide +kernel
theorem dX8_hid_18 : decode cX8_hid 18 = .ok (.getfield 29, 3) := by decide +kernel
theorem dX8_hid_21 : decode cX8_hid 21 = .ok (.iload_n 1, 1) := by decide +kernel
theorem dX8_hid_22 : decode cX8_hid 22 = .ok (.iaload, 1) := by decide +kernel
theorem dX8_hid_23 : decode cX8_hid 23 = .ok (.if_icmp .gt 25, 3) := by decide +kernel
theorem dX8_hid_26 : decode cX8_hid 26 = .ok (.aload_n 0, 1) := by decide +kernel
theorem dX8_hid_27 : decode cX8_hid 27 = .ok (.iload_n 1, 1) := by decide +kernel
theorem dX8_hid_28 : decode cX8_hid 28 = .ok (.iload_n 2, 1) := by decide +kernel
theorem dX8_hid_29 : decode cX8_hid 29 = .ok (.invokevirtual 333, 3) := by decide +kernel
theorem dX8_hid_32 : decode cX8_hid 32 = .ok (.ifCond .eq 10, 3) := by decide +kernel
theorem dX8_hid_35 : decode cX8_hid 35 = .ok (.bipush 100, 2) := by decide +kernel
theorem dX8_hid_37 : decode cX8_hid 37 = .ok (.iload_n 1, 1) := by decide +kernel
theorem dX8_hid_38 : decode cX8_hid 38 = .ok (.imul, 1) := by decide +kernel
theorem dX8_hid_39 : decode cX8_hid 39 = .ok (.iload_n 2, 1) := by decide +kernel
theorem dX8_hid_40 : decode cX8_hid 40 = .ok (.iadd, 1) := by decide +kernel
theorem dX8_hid_41 : decode cX8_hid 41 = .ok (.ireturn, 1) := by decide +kernel
theorem dX8_hid_42 : decode cX8_hid 42 = .ok (.iinc 2 1, 3) := by decide +kernel
theorem dX8_hid_45 : decode cX8_hid 45 = .ok (.goto (-29), 3) := by decide +kernel
theorem dX8_hid_48 : decode cX8_hid 48 = .ok (.iinc 1 1, 3) := by decide +kernel
theorem dX8_hid_51 : decode cX8_hid 51 = .ok (.goto (-45), 3) := by decide +kernel
theorem dX8_hid_54 : decode cX8_hid 54 = .ok (.bipush (-5), 2) := by decide +kernel
theorem dX8_hid_56 : decode cX8_hid 56 = .ok (.ireturn, 1) := by decide +kernel
theorem dX8_months_0 : decode cX8_months 0 = .ok (.aload_n 0, 1) := by decide +kernel
theorem dX8_months_1 : decode cX8_months 1 = .ok (.getfield 13, 3) := by decide +kernel
theorem dX8_months_4 : decode cX8_months 4 = .ok (.istore_n 1, 1) := by decide +kernel
theorem dX8_months_5 : decode cX8_months 5 = .ok (.iconst 0, 1) := by decide +kernel
theorem dX8_months_6 : decode cX8_months 6 = .ok (.istore_n 2, 1) := by decide +kernel
theorem dX8_months_7 : decode cX8_months 7 = .ok (.iconst 0, 1) := by decide +kernel
theorem dX8_months_8 : decode cX8_months 8 = .ok (.istore_n 3, 1) := by decide +kernel
theorem dX8_months_9 : decode cX8_months 9 = .ok (.iload_n 3, 1) := by decide +kernel
theorem dX8_months_10 : decode cX8_months 10 = .ok (.bipush 12, 2) := by decide +kernel
theorem dX8_months_12 : decode cX8_months 12 = .ok (.if_icmp .ge 89, 3) := by decide +kernel
theorem dX8_months_15 : decode cX8_months 15 = .ok (.aload_n 0, 1) := by decide +kernel
theorem dX8_months_16 : decode cX8_months 16 = .ok (.iload_n 3, 1) := by decide +kernel
theorem dX8_months_17 : decode cX8_months 17 = .ok (.putfield 13, 3) := by decide +kernel
theorem dX8_months_20 : decode cX8_months 20 = .ok (.aload_n 0, 1) := by decide +kernel
theorem dX8_months_21 : decode cX8_months 21 = .ok (.invokevirtual 278, 3) := by decide +kernel
theorem dX8_months_24 : decode cX8_months 24 = .ok (.iconst 1, 1) := by decide +kernel
theorem dX8_months_25 : decode cX8_months 25 = .ok (.istore 4, 2) := by decide +kernel
theorem dX8_months_27 : decode cX8_months 27 = .ok (.iconst 0, 1) := by decide +kernel
theorem dX8_months_28 : decode cX8_months 28 = .ok (.istore 5, 2) := by decide +kernel
theorem dX8_months_30 : decode cX8_months 30 = .ok (.iload 5, 2) := by decide +kernel
theorem dX8_months_32 : decode cX8_months 32 = .ok (.iconst 3, 1) := by decide +kernel
theorem dX8_months_33 : decode cX8_months 33 = .ok (.if_icmp .ge 47, 3) := by decide +kernel
theorem dX8_months_36 : decode cX8_months 36 = .ok (.iload 4, 2) := by decide +kernel
theorem dX8_months_38 : decode cX8_months 38 = .ok (.ifCond .eq 33, 3) := by decide +kernel
theorem dX8_months_41 : decode cX8_months 41 = .ok (.aload_n 0, 1) := by decide +kernel
theorem dX8_months_42 : decode cX8_months 42 = .ok (.getfield 38, 3) := by decide +kernel
theorem dX8_months_45 : decode cX8_months 45 = .ok (.iload 5, 2) := by decide +kernel
theorem dX8_months_47 : decode cX8_months 47 = .ok (.iaload, 1) := by decide +kernel
theorem dX8_months_48 : decode cX8_months 48 = .ok (.ifCond .lt 19, 3) := by decide +kernel
theorem dX8_months_51 : decode cX8_months 51 = .ok (.aload_n 0, 1) := by decide +kernel
theorem dX8_months_52 : decode cX8_months 52 = .ok (.iload 5, 2) := by decide +kernel
theorem dX8_months_54 : decode cX8_months 54 = .ok (.invokevirtual 281, 3) := by decide +kernel
theorem dX8_months_57 : decode cX8_months 57 = .ok (.aload_n 0, 1) := by decide +kernel
theorem dX8_months_58 : decode cX8_months 58 = .ok (.getfield 38, 3) := by decide +kernel
theorem dX8_months_61 : decode cX8_months 61 = .ok (.iload 5, 2) := by decide +kernel
theorem dX8_months_63 : decode cX8_months 63 = .ok (.iaload, 1) := by decide +kernel
theorem dX8_months_64 : decode cX8_months 64 = .ok (.if_icmp .ne 7, 3) := by decide +kernel
theorem dX8_months_67 : decode cX8_months 67 = .ok (.iconst 1, 1) := by decide +kernel
theorem dX8_months_68 : decode cX8_months 68 = .ok (.goto 4, 3) := by decide +kernel
theorem dX8_months_71 : decode cX8_months 71 = .ok (.iconst 0, 1) := by decide +kernel
theorem dX8_months_72 : decode cX8_months 72 = .ok (.istore 4, 2) := by decide +kernel
theorem dX8_months_74 : decode cX8_months 74 = .ok (.iinc 5 1, 3) := by decide +kernel
theorem dX8_months_77 : decode cX8_months 77 = .ok (.goto (-47), 3) := by decide +kernel
theorem dX8_months_80 : decode cX8_months 80 = .ok (.iload_n 2, 1) := by decide +kernel
theorem dX8_months_81 : decode cX8_months 81 = .ok (.iload 4, 2) := by decide +kernel
theorem dX8_months_83 : decode cX8_months 83 = .ok (.ifCond .eq 9, 3) := by decide +kernel
theorem dX8_months_86 : decode cX8_months 86 = .ok (.iconst 1, 1) := by decide +kernel
theorem dX8_months_87 : decode cX8_months 87 = .ok (.iload_n 3, 1) := by decide +kernel
theorem dX8_months_88 : decode cX8_months 88 = .ok (.ishl, 1) := by decide +kernel
theorem dX8_months_89 : decode cX8_months 89 = .ok (.goto 4, 3) := by decide +kernel
theorem dX8_months_92 : decode cX8_months 92 = .ok (.iconst 0, 1) := by decide +kernel
theorem dX8_months_93 : decode cX8_months 93 = .ok (.ior, 1) := by decide +kernel
theorem dX8_months_94 : decode cX8_months 94 = .ok (.istore_n 2, 1) := by decide +kernel
theorem dX8_months_95 : decode cX8_months 95 = .ok (.iinc 3 1, 3) := by decide +kernel
theorem dX8_months_98 : decode cX8_months 98 = .ok (.goto (-89), 3) := by decide +kernel
theorem dX8_months_101 : decode cX8_months 101 = .ok (.aload_n 0, 1) := by decide +kernel
theorem dX8_months_102 : decode cX8_months 102 = .ok (.iload_n 1, 1) := by decide +kernel
theorem dX8_months_103 : decode cX8_months 103 = .ok (.putfield 13, 3) := by decide +kernel
theorem dX8_months_106 : decode cX8_months 106 = .ok (.iload_n 2, 1) := by decide +kernel
theorem dX8_months_107 : decode cX8_months 107 = .ok (.ireturn, 1) := by decide +kernel
theorem dX8_lowest_0 : decode cX8_lowest 0 = .ok (.aload_n 0, 1) := by decide +kernel
theorem dX8_lowest_1 : decode cX8_lowest 1 = .ok (.iload_n 1, 1) := by decide +kernel
theorem dX8_lowest_2 : decode cX8_lowest 2 = .ok (.iload_n 2, 1) := by decide +kernel
theorem dX8_lowest_3 : decode cX8_lowest 3 = .ok (.invokevirtual 317, 3) := by decide +kernel
theorem dX8_lowest_6 : decode cX8_lowest 6 = .ok (.istore 4, 2) := by decide +kernel
theorem dX8_lowest_8 : decode cX8_lowest 8 = .ok (.iload_n 3, 1) := by decide +kernel
theorem dX8_lowest_9 : decode cX8_lowest 9 = .ok (.ifCond .ne 11, 3) := by decide +kernel
theorem dX8_lowest_12 : decode cX8_lowest 12 = .ok (.iload_n 1, 1) := by decide +kernel
theorem dX8_lowest_13 : decode cX8_lowest 13 = .ok (.iload 4, 2) := by decide +kernel
theorem dX8_lowest_15 : decode cX8_lowest 15 = .ok (.idiv, 1) := by decide +kernel
theorem dX8_lowest_16 : decode cX8_lowest 16 = .ok (.i2l, 1) := by decide +kernel
theorem dX8_lowest_17 : decode cX8_lowest 17 = .ok (.goto 8, 3) := by decide +kernel
theorem dX8_lowest_20 : decode cX8_lowest 20 = .ok (.iload_n 2, 1) := by decide +kernel
theorem dX8_lowest_21 : decode cX8_lowest 21 = .ok (.iload 4, 2) := by decide +kernel
theorem dX8_lowest_23 : decode cX8_lowest 23 = .ok (.idiv, 1) := by decide +kernel
theorem dX8_lowest_24 : decode cX8_lowest 24 = .ok (.i2l, 1) := by decide +kernel
theorem dX8_lowest_25 : decode cX8_lowest 25 = .ok (.lreturn, 1) := by decide +kernel
theorem dX8_odds_0 : decode cX8_odds 0 = .ok (.aload_n 0, 1) := by decide +kernel
theorem dX8_odds_1 : decode cX8_odds 1 = .ok (.iload_n 1, 1) := by decide +kernel
theorem dX8_odds_2 : decode cX8_odds 2 = .ok (.invokevirtual 208, 3) := by decide +kernel
theorem dX8_odds_5 : decode cX8_odds 5 = .ok (.ifCond .eq 13, 3) := by decide +kernel
theorem dX8_odds_8 : decode cX8_odds 8 = .ok (.aload_n 0, 1) := by decide +kernel
theorem dX8_odds_9 : decode cX8_odds 9 = .ok (.iload_n 2, 1) := by decide +kernel
theorem dX8_odds_10 : decode cX8_odds 10 = .ok (.iconst 0, 1) := by decide +kernel
theorem dX8_odds_11 : decode cX8_odds 11 = .ok (.iconst 1, 1) := by decide +kernel
theorem dX8_odds_12 : decode cX8_odds 12 = .ok (.invokevirtual 200, 3) := by decide +kernel
theorem dX8_odds_15 : decode cX8_odds 15 = .ok (.ifCond .ne 7, 3) := by decide +kernel
theorem dX8_odds_18 : decode cX8_odds 18 = .ok (.ldc2_w 336, 3) := by decide +kernel
theorem dX8_odds_21 : decode cX8_odds 21 = .ok (.lreturn, 1) := by decide +kernel
theorem dX8_odds_22 : decode cX8_odds 22 = .ok (.aload_n 0, 1) := by decide +kernel
theorem dX8_odds_23 : decode cX8_odds 23 = .ok (.invokevirtual 278, 3) := by decide +kernel
theorem dX8_odds_26 : decode cX8_odds 26 = .ok (.iconst 0, 1) := by decide +kernel
theorem dX8_odds_27 : decode cX8_odds 27 = .ok (.istore_n 3, 1) := by decide +kernel
theorem dX8_odds_28 : decode cX8_odds 28 = .ok (.iconst 0, 1) := by decide +kernel
theorem dX8_odds_29 : decode cX8_odds 29 = .ok (.istore 4, 2) := by decide +kernel
theorem dX8_odds_31 : decode cX8_odds 31 = .ok (.aload_n 0, 1) := by decide +kernel
theorem dX8_odds_32 : decode cX8_odds 32 = .ok (.invokevirtual 302, 3) := by decide +kernel
theorem dX8_odds_35 : decode cX8_odds 35 = .ok (.iconst 1, 1) := by decide +kernel
theorem dX8_odds_36 : decode cX8_odds 36 = .ok (.istore 5, 2) := by decide +kernel
theorem dX8_odds_38 : decode cX8_odds 38 = .ok (.iload 5, 2) := by decide +kernel
theorem dX8_odds_40 : decode cX8_odds 40 = .ok (.ifCond .eq 59, 3) := by decide +kernel
theorem dX8_odds_43 : decode cX8_odds 43 = .ok (.aload_n 0, 1) := by decide +kernel
theorem dX8_odds_44 : decode cX8_odds 44 = .ok (.invokevirtual 305, 3) := by decide +kernel
theorem dX8_odds_47 : decode cX8_odds 47 = .ok (.istore 6, 2) := by decide +kernel
theorem dX8_odds_49 : decode cX8_odds 49 = .ok (.iload_n 3, 1) := by decide +kernel
theorem dX8_odds_50 : decode cX8_odds 50 = .ok (.iload 6, 2) := by decide +kernel
theorem dX8_odds_52 : decode cX8_odds 52 = .ok (.ifCond .eq 7, 3) := by decide +kernel
theorem dX8_odds_55 : decode cX8_odds 55 = .ok (.iconst 1, 1) := by decide +kernel
theorem dX8_odds_56 : decode cX8_odds 56 = .ok (.goto 4, 3) := by decide +kernel
theorem dX8_odds_59 : decode cX8_odds 59 = .ok (.iconst 0, 1) := by decide +kernel
theorem dX8_odds_60 : decode cX8_odds 60 = .ok (.iadd, 1) := by decide +kernel
theorem dX8_odds_61 : decode cX8_odds 61 = .ok (.istore_n 3, 1) := by decide +kernel
theorem dX8_odds_62 : decode cX8_odds 62 = .ok (.iload 4, 2) := by decide +kernel
theorem dX8_odds_64 : decode cX8_odds 64 = .ok (.iload 6, 2) := by decide +kernel
theorem dX8_odds_66 : decode cX8_odds 66 = .ok (.ifCond .eq 16, 3) := by decide +kernel
theorem dX8_odds_69 : decode cX8_odds 69 = .ok (.aload_n 0, 1) := by decide +kernel
theorem dX8_odds_70 : decode cX8_odds 70 = .ok (.getfield 102, 3) := by decide +kernel
theorem dX8_odds_73 : decode cX8_odds 73 = .ok (.iload_n 1, 1) := by decide +kernel
theorem dX8_odds_74 : decode cX8_odds 74 = .ok (.iaload, 1) := by decide +kernel
theorem dX8_odds_75 : decode cX8_odds 75 = .ok (.ifCond .le 7, 3) := by decide +kernel
theorem dX8_odds_78 : decode cX8_odds 78 = .ok (.iconst 1, 1) := by decide +kernel
end
section
theorem dX8_odds_79 : decode cX8_odds 79 = .ok (.goto 4, 3) := by decide +kernel
theorem dX8_odds_82 : decode cX8_odds 82 = .ok (.iconst 0, 1) := by decide +kernel
theorem dX8_odds_83 : decode cX8_odds 83 = .ok (.iadd, 1) := by decide +kernel
theorem dX8_odds_84 : decode cX8_odds 84 = .ok (.istore 4, 2) := by decide +kernel
theorem dX8_odds_86 : decode cX8_odds 86 = .ok (.aload_n 0, 1) := by decide +kernel
theorem dX8_odds_87 : decode cX8_odds 87 = .ok (.aload_n 0, 1) := by decide +kernel
theorem dX8_odds_88 : decode cX8_odds 88 = .ok (.invokevirtual 287, 3) := by decide +kernel
theorem dX8_odds_91 : decode cX8_odds 91 = .ok (.invokevirtual 311, 3) := by decide +kernel
theorem dX8_odds_94 : decode cX8_odds 94 = .ok (.istore 5, 2) := by decide +kernel
theorem dX8_odds_96 : decode cX8_odds 96 = .ok (.goto (-58), 3) := by decide +kernel
theorem dX8_odds_99 : decode cX8_odds 99 = .ok (.iload_n 3, 1) := by decide +kernel
theorem dX8_odds_100 : decode cX8_odds 100 = .ok (.ifCond .ne 9, 3) := by decide +kernel
theorem dX8_odds_103 : decode cX8_odds 103 = .ok (.ldc2_w 336, 3) := by decide +kernel
theorem dX8_odds_106 : decode cX8_odds 106 = .ok (.goto 11, 3) := by decide +kernel
theorem dX8_odds_109 : decode cX8_odds 109 = .ok (.aload_n 0, 1) := by decide +kernel
theorem dX8_odds_110 : decode cX8_odds 110 = .ok (.iload 4, 2) := by decide +kernel
theorem dX8_odds_112 : decode cX8_odds 112 = .ok (.iload_n 3, 1) := by decide +kernel
theorem dX8_odds_113 : decode cX8_odds 113 = .ok (.iload_n 2, 1) := by decide +kernel
theorem dX8_odds_114 : decode cX8_odds 114 = .ok (.invokevirtual 338, 3) := by decide +kernel
theorem dX8_odds_117 : decode cX8_odds 117 = .ok (.lreturn, 1) := by decide +kernel
theorem dX8_mean_0 : decode cX8_mean 0 = .ok (.aload_n 0, 1) := by decide +kernel
theorem dX8_mean_1 : decode cX8_mean 1 = .ok (.iload_n 1, 1) := by decide +kernel
theorem dX8_mean_2 : decode cX8_mean 2 = .ok (.invokevirtual 208, 3) := by decide +kernel
theorem dX8_mean_5 : decode cX8_mean 5 = .ok (.ifCond .eq 13, 3) := by decide +kernel
theorem dX8_mean_8 : decode cX8_mean 8 = .ok (.aload_n 0, 1) := by decide +kernel
theorem dX8_mean_9 : decode cX8_mean 9 = .ok (.iload_n 2, 1) := by decide +kernel
theorem dX8_mean_10 : decode cX8_mean 10 = .ok (.iconst 0, 1) := by decide +kernel
theorem dX8_mean_11 : decode cX8_mean 11 = .ok (.iconst 1, 1) := by decide +kernel
theorem dX8_mean_12 : decode cX8_mean 12 = .ok (.invokevirtual 200, 3) := by decide +kernel
theorem dX8_mean_15 : decode cX8_mean 15 = .ok (.ifCond .ne 7, 3) := by decide +kernel
theorem dX8_mean_18 : decode cX8_mean 18 = .ok (.ldc2_w 336, 3) := by decide +kernel
theorem dX8_mean_21 : decode cX8_mean 21 = .ok (.lreturn, 1) := by decide +kernel
theorem dX8_mean_22 : decode cX8_mean 22 = .ok (.aload_n 0, 1) := by decide +kernel
theorem dX8_mean_23 : decode cX8_mean 23 = .ok (.invokevirtual 314, 3) := by decide +kernel
theorem dX8_mean_26 : decode cX8_mean 26 = .ok (.aload_n 0, 1) := by decide +kernel
theorem dX8_mean_27 : decode cX8_mean 27 = .ok (.getfield 114, 3) := by decide +kernel
theorem dX8_mean_30 : decode cX8_mean 30 = .ok (.ifCond .ne 9, 3) := by decide +kernel
theorem dX8_mean_33 : decode cX8_mean 33 = .ok (.ldc2_w 336, 3) := by decide +kernel
theorem dX8_mean_36 : decode cX8_mean 36 = .ok (.goto 18, 3) := by decide +kernel
theorem dX8_mean_39 : decode cX8_mean 39 = .ok (.aload_n 0, 1) := by decide +kernel
theorem dX8_mean_40 : decode cX8_mean 40 = .ok (.aload_n 0, 1) := by decide +kernel
theorem dX8_mean_41 : decode cX8_mean 41 = .ok (.getfield 108, 3) := by decide +kernel
theorem dX8_mean_44 : decode cX8_mean 44 = .ok (.iload_n 1, 1) := by decide +kernel
theorem dX8_mean_45 : decode cX8_mean 45 = .ok (.iaload, 1) := by decide +kernel
theorem dX8_mean_46 : decode cX8_mean 46 = .ok (.aload_n 0, 1) := by decide +kernel
theorem dX8_mean_47 : decode cX8_mean 47 = .ok (.getfield 114, 3) := by decide +kernel
theorem dX8_mean_50 : decode cX8_mean 50 = .ok (.iload_n 2, 1) := by decide +kernel
theorem dX8_mean_51 : decode cX8_mean 51 = .ok (.invokevirtual 338, 3) := by decide +kernel
theorem dX8_mean_54 : decode cX8_mean 54 = .ok (.lreturn, 1) := by decide +kernel
theorem dX8_book_0 : decode cX8_book 0 = .ok (.iload_n 1, 1) := by decide +kernel
theorem dX8_book_1 : decode cX8_book 1 = .ok (.iconst (-1), 1) := by decide +kernel
theorem dX8_book_2 : decode cX8_book 2 = .ok (.if_icmp .ne 10, 3) := by decide +kernel
theorem dX8_book_5 : decode cX8_book 5 = .ok (.aload_n 0, 1) := by decide +kernel
theorem dX8_book_6 : decode cX8_book 6 = .ok (.iconst 0, 1) := by decide +kernel
theorem dX8_book_7 : decode cX8_book 7 = .ok (.putfield 126, 3) := by decide +kernel
theorem dX8_book_10 : decode cX8_book 10 = .ok (.iconst 0, 1) := by decide +kernel
theorem dX8_book_11 : decode cX8_book 11 = .ok (.ireturn, 1) := by decide +kernel
theorem dX8_book_12 : decode cX8_book 12 = .ok (.aload_n 0, 1) := by decide +kernel
theorem dX8_book_13 : decode cX8_book 13 = .ok (.iload_n 1, 1) := by decide +kernel
theorem dX8_book_14 : decode cX8_book 14 = .ok (.iconst 0, 1) := by decide +kernel
theorem dX8_book_15 : decode cX8_book 15 = .ok (.iconst 2, 1) := by decide +kernel
theorem dX8_book_16 : decode cX8_book 16 = .ok (.invokevirtual 200, 3) := by decide +kernel
theorem dX8_book_19 : decode cX8_book 19 = .ok (.ifCond .ne 5, 3) := by decide +kernel
theorem dX8_book_22 : decode cX8_book 22 = .ok (.iconst (-1), 1) := by decide +kernel
theorem dX8_book_23 : decode cX8_book 23 = .ok (.ireturn, 1) := by decide +kernel
theorem dX8_book_24 : decode cX8_book 24 = .ok (.aload_n 0, 1) := by decide +kernel
theorem dX8_book_25 : decode cX8_book 25 = .ok (.iload_n 2, 1) := by decide +kernel
theorem dX8_book_26 : decode cX8_book 26 = .ok (.iconst 0, 1) := by decide +kernel
theorem dX8_book_27 : decode cX8_book 27 = .ok (.sipush 999, 3) := by decide +kernel
theorem dX8_book_30 : decode cX8_book 30 = .ok (.invokevirtual 200, 3) := by decide +kernel
theorem dX8_book_33 : decode cX8_book 33 = .ok (.ifCond .ne 6, 3) := by decide +kernel
theorem dX8_book_36 : decode cX8_book 36 = .ok (.bipush (-2), 2) := by decide +kernel
theorem dX8_book_38 : decode cX8_book 38 = .ok (.ireturn, 1) := by decide +kernel
theorem dX8_book_39 : decode cX8_book 39 = .ok (.aload_n 0, 1) := by decide +kernel
theorem dX8_book_40 : decode cX8_book 40 = .ok (.getfield 126, 3) := by decide +kernel
theorem dX8_book_43 : decode cX8_book 43 = .ok (.bipush 12, 2) := by decide +kernel
theorem dX8_book_45 : decode cX8_book 45 = .ok (.if_icmp .ne 6, 3) := by decide +kernel
theorem dX8_book_48 : decode cX8_book 48 = .ok (.bipush (-4), 2) := by decide +kernel
theorem dX8_book_50 : decode cX8_book 50 = .ok (.ireturn, 1) := by decide +kernel
theorem dX8_book_51 : decode cX8_book 51 = .ok (.aload_n 0, 1) := by decide +kernel
theorem dX8_book_52 : decode cX8_book 52 = .ok (.getfield 129, 3) := by decide +kernel
theorem dX8_book_55 : decode cX8_book 55 = .ok (.aload_n 0, 1) := by decide +kernel
theorem dX8_book_56 : decode cX8_book 56 = .ok (.getfield 126, 3) := by decide +kernel
theorem dX8_book_59 : decode cX8_book 59 = .ok (.iload_n 1, 1) := by decide +kernel
theorem dX8_book_60 : decode cX8_book 60 = .ok (.iastore, 1) := by decide +kernel
theorem dX8_book_61 : decode cX8_book 61 = .ok (.aload_n 0, 1) := by decide +kernel
theorem dX8_book_62 : decode cX8_book 62 = .ok (.getfield 132, 3) := by decide +kernel
theorem dX8_book_65 : decode cX8_book 65 = .ok (.aload_n 0, 1) := by decide +kernel
theorem dX8_book_66 : decode cX8_book 66 = .ok (.getfield 126, 3) := by decide +kernel
theorem dX8_book_69 : decode cX8_book 69 = .ok (.iload_n 2, 1) := by decide +kernel
theorem dX8_book_70 : decode cX8_book 70 = .ok (.iastore, 1) := by decide +kernel
theorem dX8_book_71 : decode cX8_book 71 = .ok (.aload_n 0, 1) := by decide +kernel
theorem dX8_book_72 : decode cX8_book 72 = .ok (.dup, 1) := by decide +kernel
theorem dX8_book_73 : decode cX8_book 73 = .ok (.getfield 126, 3) := by decide +kernel
theorem dX8_book_76 : decode cX8_book 76 = .ok (.iconst 1, 1) := by decide +kernel
theorem dX8_book_77 : decode cX8_book 77 = .ok (.iadd, 1) := by decide +kernel
theorem dX8_book_78 : decode cX8_book 78 = .ok (.putfield 126, 3) := by decide +kernel
theorem dX8_book_81 : decode cX8_book 81 = .ok (.aload_n 0, 1) := by decide +kernel
theorem dX8_book_82 : decode cX8_book 82 = .ok (.getfield 126, 3) := by decide +kernel
theorem dX8_book_85 : decode cX8_book 85 = .ok (.ireturn, 1) := by decide +kernel
theorem dX8_looked_0 : decode cX8_looked 0 = .ok (.aload_n 0, 1) := by decide +kernel
theorem dX8_looked_1 : decode cX8_looked 1 = .ok (.invokevirtual 278, 3) := by decide +kernel
theorem dX8_looked_4 : decode cX8_looked 4 = .ok (.iconst 0, 1) := by decide +kernel
theorem dX8_looked_5 : decode cX8_looked 5 = .ok (.istore_n 1, 1) := by decide +kernel
theorem dX8_looked_6 : decode cX8_looked 6 = .ok (.iload_n 1, 1) := by decide +kernel
theorem dX8_looked_7 : decode cX8_looked 7 = .ok (.aload_n 0, 1) := by decide +kernel
theorem dX8_looked_8 : decode cX8_looked 8 = .ok (.getfield 126, 3) := by decide +kernel
theorem dX8_looked_11 : decode cX8_looked 11 = .ok (.if_icmp .ge 30, 3) := by decide +kernel
theorem dX8_looked_14 : decode cX8_looked 14 = .ok (.aload_n 0, 1) := by decide +kernel
theorem dX8_looked_15 : decode cX8_looked 15 = .ok (.aload_n 0, 1) := by decide +kernel
theorem dX8_looked_16 : decode cX8_looked 16 = .ok (.getfield 129, 3) := by decide +kernel
theorem dX8_looked_19 : decode cX8_looked 19 = .ok (.iload_n 1, 1) := by decide +kernel
theorem dX8_looked_20 : decode cX8_looked 20 = .ok (.iaload, 1) := by decide +kernel
theorem dX8_looked_21 : decode cX8_looked 21 = .ok (.invokevirtual 281, 3) := by decide +kernel
theorem dX8_looked_24 : decode cX8_looked 24 = .ok (.aload_n 0, 1) := by decide +kernel
theorem dX8_looked_25 : decode cX8_looked 25 = .ok (.getfield 132, 3) := by decide +kernel
theorem dX8_looked_28 : decode cX8_looked 28 = .ok (.iload_n 1, 1) := by decide +kernel
theorem dX8_looked_29 : decode cX8_looked 29 = .ok (.iaload, 1) := by decide +kernel
theorem dX8_looked_30 : decode cX8_looked 30 = .ok (.if_icmp .eq 5, 3) := by decide +kernel
theorem dX8_looked_33 : decode cX8_looked 33 = .ok (.iload_n 1, 1) := by decide +kernel
theorem dX8_looked_34 : decode cX8_looked 34 = .ok (.ireturn, 1) := by decide +kernel
theorem dX8_looked_35 : decode cX8_looked 35 = .ok (.iinc 1 1, 3) := by decide +kernel
theorem dX8_looked_38 : decode cX8_looked 38 = .ok (.goto (-32), 3) := by decide +kernel
theorem dX8_looked_41 : decode cX8_looked 41 = .ok (.bipush (-5), 2) := by decide +kernel
theorem dX8_looked_43 : decode cX8_looked 43 = .ok (.ireturn, 1) := by decide +kernel
theorem dX8_judge_0 : decode cX8_judge 0 = .ok (.aload_n 0, 1) := by decide +kernel
theorem dX8_judge_1 : decode cX8_judge 1 = .ok (.iload_n 1, 1) := by decide +kernel
theorem dX8_judge_2 : decode cX8_judge 2 = .ok (.invokevirtual 342, 3) := by decide +kernel
theorem dX8_judge_5 : decode cX8_judge 5 = .ok (.ifCond .ne 5, 3) := by decide +kernel
theorem dX8_judge_8 : decode cX8_judge 8 = .ok (.iconst (-1), 1) := by decide +kernel
theorem dX8_judge_9 : decode cX8_judge 9 = .ok (.ireturn, 1) := by decide +kernel
theorem dX8_judge_10 : decode cX8_judge 10 = .ok (.aload_n 0, 1) := by decide +kernel
theorem dX8_judge_11 : decode cX8_judge 11 = .ok (.getfield 187, 3) := by decide +kernel
theorem dX8_judge_14 : decode cX8_judge 14 = .ok (.iload_n 1, 1) := by decide +kernel
theorem dX8_judge_15 : decode cX8_judge 15 = .ok (.iaload, 1) := by decide +kernel
theorem dX8_judge_16 : decode cX8_judge 16 = .ok (.ifCond .le 6, 3) := by decide +kernel
theorem dX8_judge_19 : decode cX8_judge 19 = .ok (.bipush (-12), 2) := by decide +kernel
theorem dX8_judge_21 : decode cX8_judge 21 = .ok (.ireturn, 1) := by decide +kernel
theorem dX8_judge_22 : decode cX8_judge 22 = .ok (.iconst 0, 1) := by decide +kernel
theorem dX8_judge_23 : decode cX8_judge 23 = .ok (.istore_n 3, 1) := by decide +kernel
theorem dX8_judge_24 : decode cX8_judge 24 = .ok (.iload_n 3, 1) := by decide +kernel
theorem dX8_judge_25 : decode cX8_judge 25 = .ok (.aload_n 0, 1) := by decide +kernel
theorem dX8_judge_26 : decode cX8_judge 26 = .ok (.getfield 7, 3) := by decide +kernel
theorem dX8_judge_29 : decode cX8_judge 29 = .ok (.if_icmp .ge 67, 3) := by decide +kernel
theorem dX8_judge_32 : decode cX8_judge 32 = .ok (.aload_n 0, 1) := by decide +kernel
theorem dX8_judge_33 : decode cX8_judge 33 = .ok (.getfield 187, 3) := by decide +kernel
theorem dX8_judge_36 : decode cX8_judge 36 = .ok (.iload_n 1, 1) := by decide +kernel
theorem dX8_judge_37 : decode cX8_judge 37 = .ok (.iaload, 1) := by decide +kernel
theorem dX8_judge_38 : decode cX8_judge 38 = .ok (.ifCond .lt 21, 3) := by decide +kernel
theorem dX8_judge_41 : decode cX8_judge 41 = .ok (.iload_n 2, 1) := by decide +kernel
theorem dX8_judge_42 : decode cX8_judge 42 = .ok (.ifCond .lt 17, 3) := by decide +kernel
theorem dX8_judge_45 : decode cX8_judge 45 = .ok (.iload_n 2, 1) := by decide +kernel
theorem dX8_judge_46 : decode cX8_judge 46 = .ok (.aload_n 0, 1) := by decide +kernel
theorem dX8_judge_47 : decode cX8_judge 47 = .ok (.getfield 190, 3) := by decide +kernel
theorem dX8_judge_50 : decode cX8_judge 50 = .ok (.iload_n 1, 1) := by decide +kernel
theorem dX8_judge_51 : decode cX8_judge 51 = .ok (.iaload, 1) := by decide +kernel
theorem dX8_judge_52 : decode cX8_judge 52 = .ok (.iload_n 3, 1) := by decide +kernel
theorem dX8_judge_53 : decode cX8_judge 53 = .ok (.isub, 1) := by decide +kernel
theorem dX8_judge_54 : decode cX8_judge 54 = .ok (.iconst 1, 1) := by decide +kernel
theorem dX8_judge_55 : decode cX8_judge 55 = .ok (.isub, 1) := by decide +kernel
theorem dX8_judge_56 : decode cX8_judge 56 = .ok (.if_icmp .le 8, 3) := by decide +kernel
theorem dX8_judge_59 : decode cX8_judge 59 = .ok (.bipush 100, 2) := by decide +kernel
theorem dX8_judge_61 : decode cX8_judge 61 = .ok (.iload_n 3, 1) := by decide +kernel
theorem dX8_judge_62 : decode cX8_judge 62 = .ok (.iadd, 1) := by decide +kernel
theorem dX8_judge_63 : decode cX8_judge 63 = .ok (.ireturn, 1) := by decide +kernel
theorem dX8_judge_64 : decode cX8_judge 64 = .ok (.aload_n 0, 1) := by decide +kernel
theorem dX8_judge_65 : decode cX8_judge 65 = .ok (.getfield 193, 3) := by decide +kernel
theorem dX8_judge_68 : decode cX8_judge 68 = .ok (.bipush 60, 2) := by decide +kernel
theorem dX8_judge_70 : decode cX8_judge 70 = .ok (.iload_n 1, 1) := by decide +kernel
theorem dX8_judge_71 : decode cX8_judge 71 = .ok (.imul, 1) := by decide +kernel
theorem dX8_judge_72 : decode cX8_judge 72 = .ok (.iload_n 2, 1) := by decide +kernel
theorem dX8_judge_73 : decode cX8_judge 73 = .ok (.iadd, 1) := by decide +kernel
theorem dX8_judge_74 : decode cX8_judge 74 = .ok (.iload_n 3, 1) := by decide +kernel
theorem dX8_judge_75 : decode cX8_judge 75 = .ok (.iadd, 1) := by decide +kernel
theorem dX8_judge_76 : decode cX8_judge 76 = .ok (.laload, 1) := by decide +kernel
theorem dX8_judge_77 : decode cX8_judge 77 = .ok (.aload_n 0, 1) := by decide +kernel
theorem dX8_judge_78 : decode cX8_judge 78 = .ok (.getfield 29, 3) := by decide +kernel
theorem dX8_judge_81 : decode cX8_judge 81 = .ok (.iload_n 3, 1) := by decide +kernel
theorem dX8_judge_82 : decode cX8_judge 82 = .ok (.iaload, 1) := by decide +kernel
theorem dX8_judge_83 : decode cX8_judge 83 = .ok (.i2l, 1) := by decide +kernel
theorem dX8_judge_84 : decode cX8_judge 84 = .ok (.lcmp, 1) := by decide +kernel
theorem dX8_judge_85 : decode cX8_judge 85 = .ok (.ifCond .eq 5, 3) := by decide +kernel
theorem dX8_judge_88 : decode cX8_judge 88 = .ok (.iload_n 3, 1) := by decide +kernel
theorem dX8_judge_89 : decode cX8_judge 89 = .ok (.ireturn, 1) := by decide +kernel
theorem dX8_judge_90 : decode cX8_judge 90 = .ok (.iinc 3 1, 3) := by decide +kernel
theorem dX8_judge_93 : decode cX8_judge 93 = .ok (.goto (-69), 3) := by decide +kernel
theorem dX8_judge_96 : decode cX8_judge 96 = .ok (.bipush (-5), 2) := by decide +kernel
theorem dX8_judge_98 : decode cX8_judge 98 = .ok (.ireturn, 1) := by decide +kernel
theorem dX8_image_0 : decode cX8_image 0 = .ok (.aload_n 0, 1) := by decide +kernel
theorem dX8_image_1 : decode cX8_image 1 = .ok (.iconst 1, 1) := by decide +kernel
theorem dX8_image_2 : decode cX8_image 2 = .ok (.putfield 135, 3) := by decide +kernel
theorem dX8_image_5 : decode cX8_image 5 = .ok (.aload_n 0, 1) := by decide +kernel
theorem dX8_image_6 : decode cX8_image 6 = .ok (.aload_n 0, 1) := by decide +kernel
theorem dX8_image_7 : decode cX8_image 7 = .ok (.getfield 44, 3) := by decide +kernel
theorem dX8_image_10 : decode cX8_image 10 = .ok (.putfield 139, 3) := by decide +kernel
theorem dX8_image_13 : decode cX8_image 13 = .ok (.aload_n 0, 1) := by decide +kernel
theorem dX8_image_14 : decode cX8_image 14 = .ok (.aload_n 0, 1) := by decide +kernel
theorem dX8_image_15 : decode cX8_image 15 = .ok (.getfield 7, 3) := by decide +kernel
theorem dX8_image_18 : decode cX8_image 18 = .ok (.putfield 142, 3) := by decide +kernel
theorem dX8_image_21 : decode cX8_image 21 = .ok (.aload_n 0, 1) := by decide +kernel
theorem dX8_image_22 : decode cX8_image 22 = .ok (.aload_n 0, 1) := by decide +kernel
theorem dX8_image_23 : decode cX8_image 23 = .ok (.getfield 13, 3) := by decide +kernel
theorem dX8_image_26 : decode cX8_image 26 = .ok (.putfield 145, 3) := by decide +kernel
theorem dX8_image_29 : decode cX8_image 29 = .ok (.aload_n 0, 1) := by decide +kernel
theorem dX8_image_30 : decode cX8_image 30 = .ok (.aload_n 0, 1) := by decide +kernel
theorem dX8_image_31 : decode cX8_image 31 = .ok (.getfield 126, 3) := by decide +kernel
theorem dX8_image_34 : decode cX8_image 34 = .ok (.putfield 148, 3) := by decide +kernel
theorem dX8_image_37 : decode cX8_image 37 = .ok (.iconst 0, 1) := by decide +kernel
theorem dX8_image_38 : decode cX8_image 38 = .ok (.istore_n 1, 1) := by decide +kernel
theorem dX8_image_39 : decode cX8_image 39 = .ok (.iload_n 1, 1) := by decide +kernel
theorem dX8_image_40 : decode cX8_image 40 = .ok (.iconst 5, 1) := by decide +kernel
theorem dX8_image_41 : decode cX8_image 41 = .ok (.if_icmp .ge 69, 3) := by decide +kernel
theorem dX8_image_44 : decode cX8_image 44 = .ok (.aload_n 0, 1) := by decide +kernel
theorem dX8_image_45 : decode cX8_image 45 = .ok (.getfield 151, 3) := by decide +kernel
theorem dX8_image_48 : decode cX8_image 48 = .ok (.iload_n 1, 1) := by decide +kernel
theorem dX8_image_49 : decode cX8_image 49 = .ok (.aload_n 0, 1) := by decide +kernel
theorem dX8_image_50 : decode cX8_image 50 = .ok (.getfield 16, 3) := by decide +kernel
theorem dX8_image_53 : decode cX8_image 53 = .ok (.iload_n 1, 1) := by decide +kernel
theorem dX8_image_54 : decode cX8_image 54 = .ok (.iaload, 1) := by decide +kernel
theorem dX8_image_55 : decode cX8_image 55 = .ok (.iastore, 1) := by decide +kernel
theorem dX8_image_56 : decode cX8_image 56 = .ok (.aload_n 0, 1) := by decide +kernel
theorem dX8_image_57 : decode cX8_image 57 = .ok (.getfield 154, 3) := by decide +kernel
theorem dX8_image_60 : decode cX8_image 60 = .ok (.iload_n 1, 1) := by decide +kernel
theorem dX8_image_61 : decode cX8_image 61 = .ok (.aload_n 0, 1) := by decide +kernel
theorem dX8_image_62 : decode cX8_image 62 = .ok (.getfield 20, 3) := by decide +kernel
theorem dX8_image_65 : decode cX8_image 65 = .ok (.iload_n 1, 1) := by decide +kernel
theorem dX8_image_66 : decode cX8_image 66 = .ok (.iaload, 1) := by decide +kernel
theorem dX8_image_67 : decode cX8_image 67 = .ok (.iastore, 1) := by decide +kernel
theorem dX8_image_68 : decode cX8_image 68 = .ok (.aload_n 0, 1) := by decide +kernel
theorem dX8_image_69 : decode cX8_image 69 = .ok (.getfield 160, 3) := by decide +kernel
theorem dX8_image_72 : decode cX8_image 72 = .ok (.iload_n 1, 1) := by decide +kernel
theorem dX8_image_73 : decode cX8_image 73 = .ok (.aload_n 0, 1) := by decide +kernel
theorem dX8_image_74 : decode cX8_image 74 = .ok (.getfield 26, 3) := by decide +kernel
theorem dX8_image_77 : decode cX8_image 77 = .ok (.iload_n 1, 1) := by decide +kernel
theorem dX8_image_78 : decode cX8_image 78 = .ok (.iaload, 1) := by decide +kernel
theorem dX8_image_79 : decode cX8_image 79 = .ok (.iastore, 1) := by decide +kernel
theorem dX8_image_80 : decode cX8_image 80 = .ok (.aload_n 0, 1) := by decide +kernel
theorem dX8_image_81 : decode cX8_image 81 = .ok (.getfield 163, 3) := by decide +kernel
theorem dX8_image_84 : decode cX8_image 84 = .ok (.iload_n 1, 1) := by decide +kernel
theorem dX8_image_85 : decode cX8_image 85 = .ok (.aload_n 0, 1) := by decide +kernel
theorem dX8_image_86 : decode cX8_image 86 = .ok (.getfield 29, 3) := by decide +kernel
theorem dX8_image_89 : decode cX8_image 89 = .ok (.iload_n 1, 1) := by decide +kernel
theorem dX8_image_90 : decode cX8_image 90 = .ok (.iaload, 1) := by decide +kernel
theorem dX8_image_91 : decode cX8_image 91 = .ok (.iastore, 1) := by decide +kernel
theorem dX8_image_92 : decode cX8_image 92 = .ok (.aload_n 0, 1) := by decide +kernel
theorem dX8_image_93 : decode cX8_image 93 = .ok (.getfield 166, 3) := by decide +kernel
theorem dX8_image_96 : decode cX8_image 96 = .ok (.iload_n 1, 1) := by decide +kernel
theorem dX8_image_97 : decode cX8_image 97 = .ok (.aload_n 0, 1) := by decide +kernel
theorem dX8_image_98 : decode cX8_image 98 = .ok (.getfield 32, 3) := by decide +kernel
theorem dX8_image_101 : decode cX8_image 101 = .ok (.iload_n 1, 1) := by decide +kernel
theorem dX8_image_102 : decode cX8_image 102 = .ok (.iaload, 1) := by decide +kernel
theorem dX8_image_103 : decode cX8_image 103 = .ok (.iastore, 1) := by decide +kernel
theorem dX8_image_104 : decode cX8_image 104 = .ok (.iinc 1 1, 3) := by decide +kernel
theorem dX8_image_107 : decode cX8_image 107 = .ok (.goto (-68), 3) := by decide +kernel
theorem dX8_image_110 : decode cX8_image 110 = .ok (.iconst 0, 1) := by decide +kernel
theorem dX8_image_111 : decode cX8_image 111 = .ok (.istore_n 1, 1) := by decide +kernel
theorem dX8_image_112 : decode cX8_image 112 = .ok (.iload_n 1, 1) := by decide +kernel
theorem dX8_image_113 : decode cX8_image 113 = .ok (.bipush 15, 2) := by decide +kernel
theorem dX8_image_115 : decode cX8_image 115 = .ok (.if_icmp .ge 33, 3) := by decide +kernel
theorem dX8_image_118 : decode cX8_image 118 = .ok (.aload_n 0, 1) := by decide +kernel
theorem dX8_image_119 : decode cX8_image 119 = .ok (.getfield 157, 3) := by decide +kernel
theorem dX8_image_122 : decode cX8_image 122 = .ok (.iload_n 1, 1) := by decide +kernel
theorem dX8_image_123 : decode cX8_image 123 = .ok (.aload_n 0, 1) := by decide +kernel
theorem dX8_image_124 : decode cX8_image 124 = .ok (.getfield 23, 3) := by decide +kernel
theorem dX8_image_127 : decode cX8_image 127 = .ok (.iload_n 1, 1) := by decide +kernel
theorem dX8_image_128 : decode cX8_image 128 = .ok (.iaload, 1) := by decide +kernel
theorem dX8_image_129 : decode cX8_image 129 = .ok (.iastore, 1) := by decide +kernel
theorem dX8_image_130 : decode cX8_image 130 = .ok (.aload_n 0, 1) := by decide +kernel
theorem dX8_image_131 : decode cX8_image 131 = .ok (.getfield 169, 3) := by decide +kernel
theorem dX8_image_134 : decode cX8_image 134 = .ok (.iload_n 1, 1) := by decide +kernel
theorem dX8_image_135 : decode cX8_image 135 = .ok (.aload_n 0, 1) := by decide +kernel
theorem dX8_image_136 : decode cX8_image 136 = .ok (.getfield 35, 3) := by decide +kernel
theorem dX8_image_139 : decode cX8_image 139 = .ok (.iload_n 1, 1) := by decide +kernel
theorem dX8_image_140 : decode cX8_image 140 = .ok (.iaload, 1) := by decide +kernel
theorem dX8_image_141 : decode cX8_image 141 = .ok (.iastore, 1) := by decide +kernel
theorem dX8_image_142 : decode cX8_image 142 = .ok (.iinc 1 1, 3) := by decide +kernel
theorem dX8_image_145 : decode cX8_image 145 = .ok (.goto (-33), 3) := by decide +kernel
theorem dX8_image_148 : decode cX8_image 148 = .ok (.iconst 0, 1) := by decide +kernel
theorem dX8_image_149 : decode cX8_image 149 = .ok (.istore_n 1, 1) := by decide +kernel
theorem dX8_image_150 : decode cX8_image 150 = .ok (.iload_n 1, 1) := by decide +kernel
theorem dX8_image_151 : decode cX8_image 151 = .ok (.iconst 3, 1) := by decide +kernel
theorem dX8_image_152 : decode cX8_image 152 = .ok (.if_icmp .ge 21, 3) := by decide +kernel
theorem dX8_image_155 : decode cX8_image 155 = .ok (.aload_n 0, 1) := by decide +kernel
theorem dX8_image_156 : decode cX8_image 156 = .ok (.getfield 172, 3) := by decide +kernel
theorem dX8_image_159 : decode cX8_image 159 = .ok (.iload_n 1, 1) := by decide +kernel
theorem dX8_image_160 : decode cX8_image 160 = .ok (.aload_n 0, 1) := by decide +kernel
theorem dX8_image_161 : decode cX8_image 161 = .ok (.getfield 38, 3) := by decide +kernel
theorem dX8_image_164 : decode cX8_image 164 = .ok (.iload_n 1, 1) := by decide +kernel
theorem dX8_image_165 : decode cX8_image 165 = .ok (.iaload, 1) := by decide +kernel
theorem dX8_image_166 : decode cX8_image 166 = .ok (.iastore, 1) := by decide +kernel
theorem dX8_image_167 : decode cX8_image 167 = .ok (.iinc 1 1, 3) := by decide +kernel
theorem dX8_image_170 : decode cX8_image 170 = .ok (.goto (-20), 3) := by decide +kernel
theorem dX8_image_173 : decode cX8_image 173 = .ok (.iconst 0, 1) := by decide +kernel
theorem dX8_image_174 : decode cX8_image 174 = .ok (.istore_n 1, 1) := by decide +kernel
theorem dX8_image_175 : decode cX8_image 175 = .ok (.iload_n 1, 1) := by decide +kernel
theorem dX8_image_176 : decode cX8_image 176 = .ok (.bipush 12, 2) := by decide +kernel
theorem dX8_image_178 : decode cX8_image 178 = .ok (.if_icmp .ge 33, 3) := by decide +kernel
theorem dX8_image_181 : decode cX8_image 181 = .ok (.aload_n 0, 1) := by decide +kernel
theorem dX8_image_182 : decode cX8_image 182 = .ok (.getfield 175, 3) := by decide +kernel
theorem dX8_image_185 : decode cX8_image 185 = .ok (.iload_n 1, 1) := by decide +kernel
theorem dX8_image_186 : decode cX8_image 186 = .ok (.aload_n 0, 1) := by decide +kernel
theorem dX8_image_187 : decode cX8_image 187 = .ok (.getfield 129, 3) := by decide +kernel
theorem dX8_image_190 : decode cX8_image 190 = .ok (.iload_n 1, 1) := by decide +kernel
theorem dX8_image_191 : decode cX8_image 191 = .ok (.iaload, 1) := by decide +kernel
theorem dX8_image_192 : decode cX8_image 192 = .ok (.iastore, 1) := by decide +kernel
theorem dX8_image_193 : decode cX8_image 193 = .ok (.aload_n 0, 1) := by decide +kernel
theorem dX8_image_194 : decode cX8_image 194 = .ok (.getfield 178, 3) := by decide +kernel
theorem dX8_image_197 : decode cX8_image 197 = .ok (.iload_n 1, 1) := by decide +kernel
theorem dX8_image_198 : decode cX8_image 198 = .ok (.aload_n 0, 1) := by decide +kernel
theorem dX8_image_199 : decode cX8_image 199 = .ok (.getfield 132, 3) := by decide +kernel
theorem dX8_image_202 : decode cX8_image 202 = .ok (.iload_n 1, 1) := by decide +kernel
theorem dX8_image_203 : decode cX8_image 203 = .ok (.iaload, 1) := by decide +kernel
theorem dX8_image_204 : decode cX8_image 204 = .ok (.iastore, 1) := by decide +kernel
theorem dX8_image_205 : decode cX8_image 205 = .ok (.iinc 1 1, 3) := by decide +kernel
theorem dX8_image_208 : decode cX8_image 208 = .ok (.goto (-33), 3) := by decide +kernel
theorem dX8_image_211 : decode cX8_image 211 = .ok (.aload_n 0, 1) := by decide +kernel
theorem dX8_image_212 : decode cX8_image 212 = .ok (.getfield 7, 3) := by decide +kernel
theorem dX8_image_215 : decode cX8_image 215 = .ok (.ireturn, 1) := by decide +kernel
theorem dX8_undo_0 : decode cX8_undo 0 = .ok (.aload_n 0, 1) := by decide +kernel
theorem dX8_undo_1 : decode cX8_undo 1 = .ok (.getfield 135, 3) := by decide +kernel
theorem dX8_undo_4 : decode cX8_undo 4 = .ok (.ifCond .ne 6, 3) := by decide +kernel
theorem dX8_undo_7 : decode cX8_undo 7 = .ok (.bipush (-3), 2) := by decide +kernel
theorem dX8_undo_9 : decode cX8_undo 9 = .ok (.ireturn, 1) := by decide +kernel
theorem dX8_undo_10 : decode cX8_undo 10 = .ok (.aload_n 0, 1) := by decide +kernel
theorem dX8_undo_11 : decode cX8_undo 11 = .ok (.aload_n 0, 1) := by decide +kernel
theorem dX8_undo_12 : decode cX8_undo 12 = .ok (.getfield 139, 3) := by decide +kernel
theorem dX8_undo_15 : decode cX8_undo 15 = .ok (.putfield 44, 3) := by decide +kernel
theorem dX8_undo_18 : decode cX8_undo 18 = .ok (.aload_n 0, 1) := by decide +kernel
theorem dX8_undo_19 : decode cX8_undo 19 = .ok (.aload_n 0, 1) := by decide +kernel
theorem dX8_undo_20 : decode cX8_undo 20 = .ok (.getfield 142, 3) := by decide +kernel
theorem dX8_undo_23 : decode cX8_undo 23 = .ok (.putfield 7, 3) := by decide +kernel
theorem dX8_undo_26 : decode cX8_undo 26 = .ok (.aload_n 0, 1) := by decide +kernel
theorem dX8_undo_27 : decode cX8_undo 27 = .ok (.aload_n 0, 1) := by decide +kernel
theorem dX8_undo_28 : decode cX8_undo 28 = .ok (.getfield 145, 3) := by decide +kernel
theorem dX8_undo_31 : decode cX8_undo 31 = .ok (.putfield 13, 3) := by decide +kernel
theorem dX8_undo_34 : decode cX8_undo 34 = .ok (.aload_n 0, 1) := by decide +kernel
theorem dX8_undo_35 : decode cX8_undo 35 = .ok (.aload_n 0, 1) := by decide +kernel
theorem dX8_undo_36 : decode cX8_undo 36 = .ok (.getfield 148, 3) := by decide +kernel
theorem dX8_undo_39 : decode cX8_undo 39 = .ok (.putfield 126, 3) := by decide +kernel
theorem dX8_undo_42 : decode cX8_undo 42 = .ok (.iconst 0, 1) := by decide +kernel
theorem dX8_undo_43 : decode cX8_undo 43 = .ok (.istore_n 1, 1) := by decide +kernel
theorem dX8_undo_44 : decode cX8_undo 44 = .ok (.iload_n 1, 1) := by decide +kernel
theorem dX8_undo_45 : decode cX8_undo 45 = .ok (.iconst 5, 1) := by decide +kernel
theorem dX8_undo_46 : decode cX8_undo 46 = .ok (.if_icmp .ge 69, 3) := by decide +kernel
theorem dX8_undo_49 : decode cX8_undo 49 = .ok (.aload_n 0, 1) := by decide +kernel
theorem dX8_undo_50 : decode cX8_undo 50 = .ok (.getfield 16, 3) := by decide +kernel
theorem dX8_undo_53 : decode cX8_undo 53 = .ok (.iload_n 1, 1) := by decide +kernel
theorem dX8_undo_54 : decode cX8_undo 54 = .ok (.aload_n 0, 1) := by decide +kernel
theorem dX8_undo_55 : decode cX8_undo 55 = .ok (.getfield 151, 3) := by decide +kernel
theorem dX8_undo_58 : decode cX8_undo 58 = .ok (.iload_n 1, 1) := by decide +kernel
theorem dX8_undo_59 : decode cX8_undo 59 = .ok (.iaload, 1) := by decide +kernel
theorem dX8_undo_60 : decode cX8_undo 60 = .ok (.iastore, 1) := by decide +kernel
theorem dX8_undo_61 : decode cX8_undo 61 = .ok (.aload_n 0, 1) := by decide +kernel
theorem dX8_undo_62 : decode cX8_undo 62 = .ok (.getfield 20, 3) := by decide +kernel
theorem dX8_undo_65 : decode cX8_undo 65 = .ok (.iload_n 1, 1) := by decide +kernel
theorem dX8_undo_66 : decode cX8_undo 66 = .ok (.aload_n 0, 1) := by decide +kernel
theorem dX8_undo_67 : decode cX8_undo 67 = .ok (.getfield 154, 3) := by decide +kernel
theorem dX8_undo_70 : decode cX8_undo 70 = .ok (.iload_n 1, 1) := by decide +kernel
theorem dX8_undo_71 : decode cX8_undo 71 = .ok (.iaload, 1) := by decide +kernel
theorem dX8_undo_72 : decode cX8_undo 72 = .ok (.iastore, 1) := by decide +kernel
theorem dX8_undo_73 : decode cX8_undo 73 = .ok (.aload_n 0, 1) := by decide +kernel
theorem dX8_undo_74 : decode cX8_undo 74 = .ok (.getfield 26, 3) := by decide +kernel
theorem dX8_undo_77 : decode cX8_undo 77 = .ok (.iload_n 1, 1) := by decide +kernel
theorem dX8_undo_78 : decode cX8_undo 78 = .ok (.aload_n 0, 1) := by decide +kernel
theorem dX8_undo_79 : decode cX8_undo 79 = .ok (.getfield 160, 3) := by decide +kernel
theorem dX8_undo_82 : decode cX8_undo 82 = .ok (.iload_n 1, 1) := by decide +kernel
theorem dX8_undo_83 : decode cX8_undo 83 = .ok (.iaload, 1) := by decide +kernel
theorem dX8_undo_84 : decode cX8_undo 84 = .ok (.iastore, 1) := by decide +kernel
theorem dX8_undo_85 : decode cX8_undo 85 = .ok (.aload_n 0, 1) := by decide +kernel
theorem dX8_undo_86 : decode cX8_undo 86 = .ok (.getfield 29, 3) := by decide +kernel
theorem dX8_undo_89 : decode cX8_undo 89 = .ok (.iload_n 1, 1) := by decide +kernel
theorem dX8_undo_90 : decode cX8_undo 90 = .ok (.aload_n 0, 1) := by decide +kernel
theorem dX8_undo_91 : decode cX8_undo 91 = .ok (.getfield 163, 3) := by decide +kernel
theorem dX8_undo_94 : decode cX8_undo 94 = .ok (.iload_n 1, 1) := by decide +kernel
theorem dX8_undo_95 : decode cX8_undo 95 = .ok (.iaload, 1) := by decide +kernel
theorem dX8_undo_96 : decode cX8_undo 96 = .ok (.iastore, 1) := by decide +kernel
theorem dX8_undo_97 : decode cX8_undo 97 = .ok (.aload_n 0, 1) := by decide +kernel
theorem dX8_undo_98 : decode cX8_undo 98 = .ok (.getfield 32, 3) := by decide +kernel
theorem dX8_undo_101 : decode cX8_undo 101 = .ok (.iload_n 1, 1) := by decide +kernel
theorem dX8_undo_102 : decode cX8_undo 102 = .ok (.aload_n 0, 1) := by decide +kernel
theorem dX8_undo_103 : decode cX8_undo 103 = .ok (.getfield 166, 3) := by decide +kernel
theorem dX8_undo_106 : decode cX8_undo 106 = .ok (.iload_n 1, 1) := by decide +kernel
theorem dX8_undo_107 : decode cX8_undo 107 = .ok (.iaload, 1) := by decide +kernel
theorem dX8_undo_108 : decode cX8_undo 108 = .ok (.iastore, 1) := by decide +kernel
theorem dX8_undo_109 : decode cX8_undo 109 = .ok (.iinc 1 1, 3) := by decide +kernel
theorem dX8_undo_112 : decode cX8_undo 112 = .ok (.goto (-68), 3) := by decide +kernel
theorem dX8_undo_115 : decode cX8_undo 115 = .ok (.iconst 0, 1) := by decide +kernel
theorem dX8_undo_116 : decode cX8_undo 116 = .ok (.istore_n 1, 1) := by decide +kernel
theorem dX8_undo_117 : decode cX8_undo 117 = .ok (.iload_n 1, 1) := by decide +kernel
theorem dX8_undo_118 : decode cX8_undo 118 = .ok (.bipush 15, 2) := by decide +kernel
theorem dX8_undo_120 : decode cX8_undo 120 = .ok (.if_icmp .ge 33, 3) := by decide +kernel
theorem dX8_undo_123 : decode cX8_undo 123 = .ok (.aload_n 0, 1) := by decide +kernel
theorem dX8_undo_124 : decode cX8_undo 124 = .ok (.getfield 23, 3) := by decide +kernel
theorem dX8_undo_127 : decode cX8_undo 127 = .ok (.iload_n 1, 1) := by decide +kernel
theorem dX8_undo_128 : decode cX8_undo 128 = .ok (.aload_n 0, 1) := by decide +kernel
theorem dX8_undo_129 : decode cX8_undo 129 = .ok (.getfield 157, 3) := by decide +kernel
theorem dX8_undo_132 : decode cX8_undo 132 = .ok (.iload_n 1, 1) := by decide +kernel
theorem dX8_undo_133 : decode cX8_undo 133 = .ok (.iaload, 1) := by decide +kernel
theorem dX8_undo_134 : decode cX8_undo 134 = .ok (.iastore, 1) := by decide +kernel
theorem dX8_undo_135 : decode cX8_undo 135 = .ok (.aload_n 0, 1) := by decide +kernel
theorem dX8_undo_136 : decode cX8_undo 136 = .ok (.getfield 35, 3) := by decide +kernel
theorem dX8_undo_139 : decode cX8_undo 139 = .ok (.iload_n 1, 1) := by decide +kernel
theorem dX8_undo_140 : decode cX8_undo 140 = .ok (.aload_n 0, 1) := by decide +kernel
theorem dX8_undo_141 : decode cX8_undo 141 = .ok (.getfield 169, 3) := by decide +kernel
theorem dX8_undo_144 : decode cX8_undo 144 = .ok (.iload_n 1, 1) := by decide +kernel
theorem dX8_undo_145 : decode cX8_undo 145 = .ok (.iaload, 1) := by decide +kernel
theorem dX8_undo_146 : decode cX8_undo 146 = .ok (.iastore, 1) := by decide +kernel
theorem dX8_undo_147 : decode cX8_undo 147 = .ok (.iinc 1 1, 3) := by decide +kernel
theorem dX8_undo_150 : decode cX8_undo 150 = .ok (.goto (-33), 3) := by decide +kernel
theorem dX8_undo_153 : decode cX8_undo 153 = .ok (.iconst 0, 1) := by decide +kernel
theorem dX8_undo_154 : decode cX8_undo 154 = .ok (.istore_n 1, 1) := by decide +kernel
theorem dX8_undo_155 : decode cX8_undo 155 = .ok (.iload_n 1, 1) := by decide +kernel
theorem dX8_undo_156 : decode cX8_undo 156 = .ok (.iconst 3, 1) := by decide +kernel
theorem dX8_undo_157 : decode cX8_undo 157 = .ok (.if_icmp .ge 21, 3) := by decide +kernel
theorem dX8_undo_160 : decode cX8_undo 160 = .ok (.aload_n 0, 1) := by decide +kernel
theorem dX8_undo_161 : decode cX8_undo 161 = .ok (.getfield 38, 3) := by decide +kernel
theorem dX8_undo_164 : decode cX8_undo 164 = .ok (.iload_n 1, 1) := by decide +kernel
theorem dX8_undo_165 : decode cX8_undo 165 = .ok (.aload_n 0, 1) := by decide +kernel
theorem dX8_undo_166 : decode cX8_undo 166 = .ok (.getfield 172, 3) := by decide +kernel
theorem dX8_undo_169 : decode cX8_undo 169 = .ok (.iload_n 1, 1) := by decide +kernel
theorem dX8_undo_170 : decode cX8_undo 170 = .ok (.iaload, 1) := by decide +kernel
theorem dX8_undo_171 : decode cX8_undo 171 = .ok (.iastore, 1) := by decide +kernel
theorem dX8_undo_172 : decode cX8_undo 172 = .ok (.iinc 1 1, 3) := by decide +kernel
theorem dX8_undo_175 : decode cX8_undo 175 = .ok (.goto (-20), 3) := by decide +kernel
theorem dX8_undo_178 : decode cX8_undo 178 = .ok (.iconst 0, 1) := by decide +kernel
theorem dX8_undo_179 : decode cX8_undo 179 = .ok (.istore_n 1, 1) := by decide +kernel
theorem dX8_undo_180 : decode cX8_undo 180 = .ok (.iload_n 1, 1) := by decide +kernel
theorem dX8_undo_181 : decode cX8_undo 181 = .ok (.bipush 12, 2) := by decide +kernel
theorem dX8_undo_183 : decode cX8_undo 183 = .ok (.if_icmp .ge 33, 3) := by decide +kernel
theorem dX8_undo_186 : decode cX8_undo 186 = .ok (.aload_n 0, 1) := by decide +kernel
theorem dX8_undo_187 : decode cX8_undo 187 = .ok (.getfield 129, 3) := by decide +kernel
theorem dX8_undo_190 : decode cX8_undo 190 = .ok (.iload_n 1, 1) := by decide +kernel
theorem dX8_undo_191 : decode cX8_undo 191 = .ok (.aload_n 0, 1) := by decide +kernel
theorem dX8_undo_192 : decode cX8_undo 192 = .ok (.getfield 175, 3) := by decide +kernel
theorem dX8_undo_195 : decode cX8_undo 195 = .ok (.iload_n 1, 1) := by decide +kernel
theorem dX8_undo_196 : decode cX8_undo 196 = .ok (.iaload, 1) := by decide +kernel
theorem dX8_undo_197 : decode cX8_undo 197 = .ok (.iastore, 1) := by decide +kernel
theorem dX8_undo_198 : decode cX8_undo 198 = .ok (.aload_n 0, 1) := by decide +kernel
theorem dX8_undo_199 : decode cX8_undo 199 = .ok (.getfield 132, 3) := by decide +kernel
theorem dX8_undo_202 : decode cX8_undo 202 = .ok (.iload_n 1, 1) := by decide +kernel
theorem dX8_undo_203 : decode cX8_undo 203 = .ok (.aload_n 0, 1) := by decide +kernel
theorem dX8_undo_204 : decode cX8_undo 204 = .ok (.getfield 178, 3) := by decide +kernel
theorem dX8_undo_207 : decode cX8_undo 207 = .ok (.iload_n 1, 1) := by decide +kernel
theorem dX8_undo_208 : decode cX8_undo 208 = .ok (.iaload, 1) := by decide +kernel
theorem dX8_undo_209 : decode cX8_undo 209 = .ok (.iastore, 1) := by decide +kernel
theorem dX8_undo_210 : decode cX8_undo 210 = .ok (.iinc 1 1, 3) := by decide +kernel
theorem dX8_undo_213 : decode cX8_undo 213 = .ok (.goto (-33), 3) := by decide +kernel
theorem dX8_undo_216 : decode cX8_undo 216 = .ok (.aload_n 0, 1) := by decide +kernel
theorem dX8_undo_217 : decode cX8_undo 217 = .ok (.getfield 7, 3) := by decide +kernel
theorem dX8_undo_220 : decode cX8_undo 220 = .ok (.ireturn, 1) := by decide +kernel
theorem dX8_body_0 : decode cX8_body 0 = .ok (.aload_n 0, 1) := by decide +kernel
theorem dX8_body_1 : decode cX8_body 1 = .ok (.getfield 181, 3) := by decide +kernel
theorem dX8_body_4 : decode cX8_body 4 = .ok (.bipush 20, 2) := by decide +kernel
theorem dX8_body_6 : decode cX8_body 6 = .ok (.if_icmp .ge 13, 3) := by decide +kernel
theorem dX8_body_9 : decode cX8_body 9 = .ok (.aload_n 0, 1) := by decide +kernel
theorem dX8_body_10 : decode cX8_body 10 = .ok (.getfield 184, 3) := by decide +kernel
theorem dX8_body_13 : decode cX8_body 13 = .ok (.aload_n 0, 1) := by decide +kernel
theorem dX8_body_14 : decode cX8_body 14 = .ok (.getfield 181, 3) := by decide +kernel
theorem dX8_body_17 : decode cX8_body 17 = .ok (.iload_n 1, 1) := by decide +kernel
theorem dX8_body_18 : decode cX8_body 18 = .ok (.iastore, 1) := by decide +kernel
theorem dX8_body_19 : decode cX8_body 19 = .ok (.aload_n 0, 1) := by decide +kernel
theorem dX8_body_20 : decode cX8_body 20 = .ok (.dup, 1) := by decide +kernel
theorem dX8_body_21 : decode cX8_body 21 = .ok (.getfield 181, 3) := by decide +kernel
theorem dX8_body_24 : decode cX8_body 24 = .ok (.iconst 1, 1) := by decide +kernel
theorem dX8_body_25 : decode cX8_body 25 = .ok (.iadd, 1) := by decide +kernel
theorem dX8_body_26 : decode cX8_body 26 = .ok (.putfield 181, 3) := by decide +kernel
theorem dX8_body_29 : decode cX8_body 29 = .ok (.return_, 1) := by decide +kernel
theorem dX8_beastGoes_0 : decode cX8_beastGoes 0 = .ok (.aload_n 0, 1) := by decide +kernel
theorem dX8_beastGoes_1 : decode cX8_beastGoes 1 = .ok (.bipush 10, 2) := by decide +kernel
theorem dX8_beastGoes_3 : decode cX8_beastGoes 3 = .ok (.invokevirtual 345, 3) := by decide +kernel
theorem dX8_beastGoes_6 : decode cX8_beastGoes 6 = .ok (.iload_n 2, 1) := by decide +kernel
theorem dX8_beastGoes_7 : decode cX8_beastGoes 7 = .ok (.iload_n 1, 1) := by decide +kernel
theorem dX8_beastGoes_8 : decode cX8_beastGoes 8 = .ok (.iadd, 1) := by decide +kernel
theorem dX8_beastGoes_9 : decode cX8_beastGoes 9 = .ok (.ireturn, 1) := by decide +kernel
theorem dX8_goesAct_0 : decode cX8_goesAct 0 = .ok (.aload_n 0, 1) := by decide +kernel
theorem dX8_goesAct_1 : decode cX8_goesAct 1 = .ok (.getfield 16, 3) := by decide +kernel
theorem dX8_goesAct_4 : decode cX8_goesAct 4 = .ok (.iload_n 1, 1) := by decide +kernel
theorem dX8_goesAct_5 : decode cX8_goesAct 5 = .ok (.iaload, 1) := by decide +kernel
theorem dX8_goesAct_6 : decode cX8_goesAct 6 = .ok (.tableswitch 83 2 6 #[34, 83, 49, 34, 63], 34) := by decide +kernel
theorem dX8_goesAct_40 : decode cX8_goesAct 40 = .ok (.aload_n 0, 1) := by decide +kernel
theorem dX8_goesAct_41 : decode cX8_goesAct 41 = .ok (.bipush 30, 2) := by decide +kernel
theorem dX8_goesAct_43 : decode cX8_goesAct 43 = .ok (.invokevirtual 345, 3) := by decide +kernel
theorem dX8_goesAct_46 : decode cX8_goesAct 46 = .ok (.aload_n 0, 1) := by decide +kernel
theorem dX8_goesAct_47 : decode cX8_goesAct 47 = .ok (.iload_n 1, 1) := by decide +kernel
theorem dX8_goesAct_48 : decode cX8_goesAct 48 = .ok (.iload_n 2, 1) := by decide +kernel
theorem dX8_goesAct_49 : decode cX8_goesAct 49 = .ok (.iconst 3, 1) := by decide +kernel
theorem dX8_goesAct_50 : decode cX8_goesAct 50 = .ok (.imul, 1) := by decide +kernel
theorem dX8_goesAct_51 : decode cX8_goesAct 51 = .ok (.invokevirtual 348, 3) := by decide +kernel
theorem dX8_goesAct_54 : decode cX8_goesAct 54 = .ok (.ireturn, 1) := by decide +kernel
theorem dX8_goesAct_55 : decode cX8_goesAct 55 = .ok (.aload_n 0, 1) := by decide +kernel
theorem dX8_goesAct_56 : decode cX8_goesAct 56 = .ok (.bipush 50, 2) := by decide +kernel
theorem dX8_goesAct_58 : decode cX8_goesAct 58 = .ok (.invokevirtual 345, 3) := by decide +kernel
theorem dX8_goesAct_61 : decode cX8_goesAct 61 = .ok (.aload_n 0, 1) := by decide +kernel
theorem dX8_goesAct_62 : decode cX8_goesAct 62 = .ok (.iload_n 1, 1) := by decide +kernel
theorem dX8_goesAct_63 : decode cX8_goesAct 63 = .ok (.iload_n 2, 1) := by decide +kernel
theorem dX8_goesAct_64 : decode cX8_goesAct 64 = .ok (.invokevirtual 348, 3) := by decide +kernel
theorem dX8_goesAct_67 : decode cX8_goesAct 67 = .ok (.ineg, 1) := by decide +kernel
theorem dX8_goesAct_68 : decode cX8_goesAct 68 = .ok (.ireturn, 1) := by decide +kernel
theorem dX8_goesAct_69 : decode cX8_goesAct 69 = .ok (.aload_n 0, 1) := by decide +kernel
theorem dX8_goesAct_70 : decode cX8_goesAct 70 = .ok (.bipush 71, 2) := by decide +kernel
theorem dX8_goesAct_72 : decode cX8_goesAct 72 = .ok (.invokevirtual 345, 3) := by decide +kernel
theorem dX8_goesAct_75 : decode cX8_goesAct 75 = .ok (.aload_n 0, 1) := by decide +kernel
theorem dX8_goesAct_76 : decode cX8_goesAct 76 = .ok (.iload_n 1, 1) := by decide +kernel
theorem dX8_goesAct_77 : decode cX8_goesAct 77 = .ok (.iload_n 2, 1) := by decide +kernel
theorem dX8_goesAct_78 : decode cX8_goesAct 78 = .ok (.invokevirtual 348, 3) := by decide +kernel
theorem dX8_goesAct_81 : decode cX8_goesAct 81 = .ok (.aload_n 0, 1) := by decide +kernel
theorem dX8_goesAct_82 : decode cX8_goesAct 82 = .ok (.getfield 20, 3) := by decide +kernel
theorem dX8_goesAct_85 : decode cX8_goesAct 85 = .ok (.iload_n 1, 1) := by decide +kernel
theorem dX8_goesAct_86 : decode cX8_goesAct 86 = .ok (.iaload, 1) := by decide +kernel
theorem dX8_goesAct_87 : decode cX8_goesAct 87 = .ok (.ixor, 1) := by decide +kernel
theorem dX8_goesAct_88 : decode cX8_goesAct 88 = .ok (.ireturn, 1) := by decide +kernel
theorem dX8_goesAct_89 : decode cX8_goesAct 89 = .ok (.aload_n 0, 1) := by decide +kernel
theorem dX8_goesAct_90 : decode cX8_goesAct 90 = .ok (.iload_n 1, 1) := by decide +kernel
theorem dX8_goesAct_91 : decode cX8_goesAct 91 = .ok (.iload_n 2, 1) := by decide +kernel
theorem dX8_goesAct_92 : decode cX8_goesAct 92 = .ok (.invokevirtual 348, 3) := by decide +kernel
theorem dX8_goesAct_95 : decode cX8_goesAct 95 = .ok (.ireturn, 1) := by decide +kernel
theorem dX8_beastShows_0 : decode cX8_beastShows 0 = .ok (.aload_n 0, 1) := by decide +kernel
theorem dX8_beastShows_1 : decode cX8_beastShows 1 = .ok (.bipush 11, 2) := by decide +kernel
theorem dX8_beastShows_3 : decode cX8_beastShows 3 = .ok (.invokevirtual 345, 3) := by decide +kernel
theorem dX8_beastShows_6 : decode cX8_beastShows 6 = .ok (.aload_n 0, 1) := by decide +kernel
theorem dX8_beastShows_7 : decode cX8_beastShows 7 = .ok (.iload_n 1, 1) := by decide +kernel
theorem dX8_beastShows_8 : decode cX8_beastShows 8 = .ok (.iload_n 2, 1) := by decide +kernel
theorem dX8_beastShows_9 : decode cX8_beastShows 9 = .ok (.invokevirtual 351, 3) := by decide +kernel
theorem dX8_beastShows_12 : decode cX8_beastShows 12 = .ok (.aload_n 0, 1) := by decide +kernel
theorem dX8_beastShows_13 : decode cX8_beastShows 13 = .ok (.getfield 20, 3) := by decide +kernel
theorem dX8_beastShows_16 : decode cX8_beastShows 16 = .ok (.iload_n 1, 1) := by decide +kernel
theorem dX8_beastShows_17 : decode cX8_beastShows 17 = .ok (.iaload, 1) := by decide +kernel
theorem dX8_beastShows_18 : decode cX8_beastShows 18 = .ok (.isub, 1) := by decide +kernel
theorem dX8_beastShows_19 : decode cX8_beastShows 19 = .ok (.ireturn, 1) := by decide +kernel
theorem dX8_hornedShows_0 : decode cX8_hornedShows 0 = .ok (.aload_n 0, 1) := by decide +kernel
theorem dX8_hornedShows_1 : decode cX8_hornedShows 1 = .ok (.bipush 20, 2) := by decide +kernel
theorem dX8_hornedShows_3 : decode cX8_hornedShows 3 = .ok (.invokevirtual 345, 3) := by decide +kernel
theorem dX8_hornedShows_6 : decode cX8_hornedShows 6 = .ok (.aload_n 0, 1) := by decide +kernel
theorem dX8_hornedShows_7 : decode cX8_hornedShows 7 = .ok (.iload_n 1, 1) := by decide +kernel
theorem dX8_hornedShows_8 : decode cX8_hornedShows 8 = .ok (.iload_n 2, 1) := by decide +kernel
theorem dX8_hornedShows_9 : decode cX8_hornedShows 9 = .ok (.invokevirtual 354, 3) := by decide +kernel
theorem dX8_hornedShows_12 : decode cX8_hornedShows 12 = .ok (.bipush 6, 2) := by decide +kernel
theorem dX8_hornedShows_14 : decode cX8_hornedShows 14 = .ok (.ixor, 1) := by decide +kernel
theorem dX8_hornedShows_15 : decode cX8_hornedShows 15 = .ok (.ireturn, 1) := by decide +kernel
theorem dX8_showsAct_0 : decode cX8_showsAct 0 = .ok (.aload_n 0, 1) := by decide +kernel
theorem dX8_showsAct_1 : decode cX8_showsAct 1 = .ok (.getfield 16, 3) := by decide +kernel
theorem dX8_showsAct_4 : decode cX8_showsAct 4 = .ok (.iload_n 1, 1) := by decide +kernel
theorem dX8_showsAct_5 : decode cX8_showsAct 5 = .ok (.iaload, 1) := by decide +kernel
theorem dX8_showsAct_6 : decode cX8_showsAct 6 = .ok (.lookupswitch 78 #[(1, 34), (4, 41), (6, 56)], 34) := by decide +kernel
theorem dX8_showsAct_40 : decode cX8_showsAct 40 = .ok (.aload_n 0, 1) := by decide +kernel
theorem dX8_showsAct_41 : decode cX8_showsAct 41 = .ok (.iload_n 1, 1) := by decide +kernel
theorem dX8_showsAct_42 : decode cX8_showsAct 42 = .ok (.iload_n 2, 1) := by decide +kernel
theorem dX8_showsAct_43 : decode cX8_showsAct 43 = .ok (.invokevirtual 357, 3) := by decide +kernel
theorem dX8_showsAct_46 : decode cX8_showsAct 46 = .ok (.ireturn, 1) := by decide +kernel
theorem dX8_showsAct_47 : decode cX8_showsAct 47 = .ok (.aload_n 0, 1) := by decide +kernel
theorem dX8_showsAct_48 : decode cX8_showsAct 48 = .ok (.bipush 51, 2) := by decide +kernel
theorem dX8_showsAct_50 : decode cX8_showsAct 50 = .ok (.invokevirtual 345, 3) := by decide +kernel
theorem dX8_showsAct_53 : decode cX8_showsAct 53 = .ok (.aload_n 0, 1) := by decide +kernel
theorem dX8_showsAct_54 : decode cX8_showsAct 54 = .ok (.iload_n 1, 1) := by decide +kernel
theorem dX8_showsAct_55 : decode cX8_showsAct 55 = .ok (.iload_n 2, 1) := by decide +kernel
theorem dX8_showsAct_56 : decode cX8_showsAct 56 = .ok (.iconst 1, 1) := by decide +kernel
theorem dX8_showsAct_57 : decode cX8_showsAct 57 = .ok (.iadd, 1) := by decide +kernel
theorem dX8_showsAct_58 : decode cX8_showsAct 58 = .ok (.invokevirtual 357, 3) := by decide +kernel
theorem dX8_showsAct_61 : decode cX8_showsAct 61 = .ok (.ireturn, 1) := by decide +kernel
theorem dX8_showsAct_62 : decode cX8_showsAct 62 = .ok (.aload_n 0, 1) := by decide +kernel
theorem dX8_showsAct_63 : decode cX8_showsAct 63 = .ok (.bipush 70, 2) := by decide +kernel
theorem dX8_showsAct_65 : decode cX8_showsAct 65 = .ok (.invokevirtual 345, 3) := by decide +kernel
theorem dX8_showsAct_68 : decode cX8_showsAct 68 = .ok (.aload_n 0, 1) := by decide +kernel
theorem dX8_showsAct_69 : decode cX8_showsAct 69 = .ok (.iload_n 1, 1) := by decide +kernel
theorem dX8_showsAct_70 : decode cX8_showsAct 70 = .ok (.iload_n 2, 1) := by decide +kernel
theorem dX8_showsAct_71 : decode cX8_showsAct 71 = .ok (.invokevirtual 354, 3) := by decide +kernel
theorem dX8_showsAct_74 : decode cX8_showsAct 74 = .ok (.istore_n 3, 1) := by decide +kernel
theorem dX8_showsAct_75 : decode cX8_showsAct 75 = .ok (.iload_n 3, 1) := by decide +kernel
theorem dX8_showsAct_76 : decode cX8_showsAct 76 = .ok (.aload_n 0, 1) := by decide +kernel
theorem dX8_showsAct_77 : decode cX8_showsAct 77 = .ok (.iload_n 1, 1) := by decide +kernel
theorem dX8_showsAct_78 : decode cX8_showsAct 78 = .ok (.iconst 2, 1) := by decide +kernel
theorem dX8_showsAct_79 : decode cX8_showsAct 79 = .ok (.invokevirtual 348, 3) := by decide +kernel
theorem dX8_showsAct_82 : decode cX8_showsAct 82 = .ok (.iadd, 1) := by decide +kernel
theorem dX8_showsAct_83 : decode cX8_showsAct 83 = .ok (.ireturn, 1) := by decide +kernel
theorem dX8_showsAct_84 : decode cX8_showsAct 84 = .ok (.aload_n 0, 1) := by decide +kernel
theorem dX8_showsAct_85 : decode cX8_showsAct 85 = .ok (.iload_n 1, 1) := by decide +kernel
theorem dX8_showsAct_86 : decode cX8_showsAct 86 = .ok (.iload_n 2, 1) := by decide +kernel
theorem dX8_showsAct_87 : decode cX8_showsAct 87 = .ok (.invokevirtual 354, 3) := by decide +kernel
theorem dX8_showsAct_90 : decode cX8_showsAct 90 = .ok (.ireturn, 1) := by decide +kernel
theorem dX8_beastTells_0 : decode cX8_beastTells 0 = .ok (.aload_n 0, 1) := by decide +kernel
theorem dX8_beastTells_1 : decode cX8_beastTells 1 = .ok (.bipush 12, 2) := by decide +kernel
theorem dX8_beastTells_3 : decode cX8_beastTells 3 = .ok (.invokevirtual 345, 3) := by decide +kernel
theorem dX8_beastTells_6 : decode cX8_beastTells 6 = .ok (.aload_n 0, 1) := by decide +kernel
theorem dX8_beastTells_7 : decode cX8_beastTells 7 = .ok (.iload_n 1, 1) := by decide +kernel
theorem dX8_beastTells_8 : decode cX8_beastTells 8 = .ok (.iload_n 2, 1) := by decide +kernel
theorem dX8_beastTells_9 : decode cX8_beastTells 9 = .ok (.invokevirtual 360, 3) := by decide +kernel
theorem dX8_beastTells_12 : decode cX8_beastTells 12 = .ok (.iconst 2, 1) := by decide +kernel
theorem dX8_beastTells_13 : decode cX8_beastTells 13 = .ok (.imul, 1) := by decide +kernel
theorem dX8_beastTells_14 : decode cX8_beastTells 14 = .ok (.ireturn, 1) := by decide +kernel
theorem dX8_tellsAct_0 : decode cX8_tellsAct 0 = .ok (.aload_n 0, 1) := by decide +kernel
theorem dX8_tellsAct_1 : decode cX8_tellsAct 1 = .ok (.getfield 16, 3) := by decide +kernel
theorem dX8_tellsAct_4 : decode cX8_tellsAct 4 = .ok (.iload_n 1, 1) := by decide +kernel
theorem dX8_tellsAct_5 : decode cX8_tellsAct 5 = .ok (.iaload, 1) := by decide +kernel
theorem dX8_tellsAct_6 : decode cX8_tellsAct 6 = .ok (.tableswitch 67 3 6 #[30, 67, 52, 30], 30) := by decide +kernel
theorem dX8_tellsAct_36 : decode cX8_tellsAct 36 = .ok (.aload_n 0, 1) := by decide +kernel
theorem dX8_tellsAct_37 : decode cX8_tellsAct 37 = .ok (.bipush 40, 2) := by decide +kernel
theorem dX8_tellsAct_39 : decode cX8_tellsAct 39 = .ok (.invokevirtual 345, 3) := by decide +kernel
theorem dX8_tellsAct_42 : decode cX8_tellsAct 42 = .ok (.aload_n 0, 1) := by decide +kernel
theorem dX8_tellsAct_43 : decode cX8_tellsAct 43 = .ok (.iload_n 1, 1) := by decide +kernel
theorem dX8_tellsAct_44 : decode cX8_tellsAct 44 = .ok (.iload_n 2, 1) := by decide +kernel
theorem dX8_tellsAct_45 : decode cX8_tellsAct 45 = .ok (.invokevirtual 363, 3) := by decide +kernel
theorem dX8_tellsAct_48 : decode cX8_tellsAct 48 = .ok (.istore_n 3, 1) := by decide +kernel
theorem dX8_tellsAct_49 : decode cX8_tellsAct 49 = .ok (.iload_n 3, 1) := by decide +kernel
theorem dX8_tellsAct_50 : decode cX8_tellsAct 50 = .ok (.aload_n 0, 1) := by decide +kernel
theorem dX8_tellsAct_51 : decode cX8_tellsAct 51 = .ok (.iload_n 1, 1) := by decide +kernel
theorem dX8_tellsAct_52 : decode cX8_tellsAct 52 = .ok (.iconst 1, 1) := by decide +kernel
theorem dX8_tellsAct_53 : decode cX8_tellsAct 53 = .ok (.invokevirtual 360, 3) := by decide +kernel
theorem dX8_tellsAct_56 : decode cX8_tellsAct 56 = .ok (.iadd, 1) := by decide +kernel
theorem dX8_tellsAct_57 : decode cX8_tellsAct 57 = .ok (.ireturn, 1) := by decide +kernel
theorem dX8_tellsAct_58 : decode cX8_tellsAct 58 = .ok (.aload_n 0, 1) := by decide +kernel
theorem dX8_tellsAct_59 : decode cX8_tellsAct 59 = .ok (.bipush 60, 2) := by decide +kernel
theorem dX8_tellsAct_61 : decode cX8_tellsAct 61 = .ok (.invokevirtual 345, 3) := by decide +kernel
theorem dX8_tellsAct_64 : decode cX8_tellsAct 64 = .ok (.aload_n 0, 1) := by decide +kernel
theorem dX8_tellsAct_65 : decode cX8_tellsAct 65 = .ok (.iload_n 1, 1) := by decide +kernel
theorem dX8_tellsAct_66 : decode cX8_tellsAct 66 = .ok (.iload_n 2, 1) := by decide +kernel
theorem dX8_tellsAct_67 : decode cX8_tellsAct 67 = .ok (.iload_n 1, 1) := by decide +kernel
theorem dX8_tellsAct_68 : decode cX8_tellsAct 68 = .ok (.isub, 1) := by decide +kernel
theorem dX8_tellsAct_69 : decode cX8_tellsAct 69 = .ok (.invokevirtual 363, 3) := by decide +kernel
theorem dX8_tellsAct_72 : decode cX8_tellsAct 72 = .ok (.ireturn, 1) := by decide +kernel
theorem dX8_tellsAct_73 : decode cX8_tellsAct 73 = .ok (.aload_n 0, 1) := by decide +kernel
theorem dX8_tellsAct_74 : decode cX8_tellsAct 74 = .ok (.iload_n 1, 1) := by decide +kernel
theorem dX8_tellsAct_75 : decode cX8_tellsAct 75 = .ok (.iload_n 2, 1) := by decide +kernel
theorem dX8_tellsAct_76 : decode cX8_tellsAct 76 = .ok (.invokevirtual 363, 3) := by decide +kernel
theorem dX8_tellsAct_79 : decode cX8_tellsAct 79 = .ok (.ireturn, 1) := by decide +kernel
theorem dX8_act_0 : decode cX8_act 0 = .ok (.aload_n 0, 1) := by decide +kernel
theorem dX8_act_1 : decode cX8_act 1 = .ok (.iconst 0, 1) := by decide +kernel
theorem dX8_act_2 : decode cX8_act 2 = .ok (.putfield 181, 3) := by decide +kernel
theorem dX8_act_5 : decode cX8_act 5 = .ok (.aload_n 0, 1) := by decide +kernel
theorem dX8_act_6 : decode cX8_act 6 = .ok (.iload_n 1, 1) := by decide +kernel
theorem dX8_act_7 : decode cX8_act 7 = .ok (.invokevirtual 208, 3) := by decide +kernel
theorem dX8_act_10 : decode cX8_act 10 = .ok (.ifCond .eq 13, 3) := by decide +kernel
theorem dX8_act_13 : decode cX8_act 13 = .ok (.aload_n 0, 1) := by decide +kernel
theorem dX8_act_14 : decode cX8_act 14 = .ok (.iload_n 2, 1) := by decide +kernel
theorem dX8_act_15 : decode cX8_act 15 = .ok (.iconst 0, 1) := by decide +kernel
theorem dX8_act_16 : decode cX8_act 16 = .ok (.iconst 2, 1) := by decide +kernel
theorem dX8_act_17 : decode cX8_act 17 = .ok (.invokevirtual 200, 3) := by decide +kernel
theorem dX8_act_20 : decode cX8_act 20 = .ok (.ifCond .ne 5, 3) := by decide +kernel
theorem dX8_act_23 : decode cX8_act 23 = .ok (.iconst 0, 1) := by decide +kernel
theorem dX8_act_24 : decode cX8_act 24 = .ok (.ireturn, 1) := by decide +kernel
theorem dX8_act_25 : decode cX8_act 25 = .ok (.iload_n 2, 1) := by decide +kernel
theorem dX8_act_26 : decode cX8_act 26 = .ok (.ifCond .ne 12, 3) := by decide +kernel
theorem dX8_act_29 : decode cX8_act 29 = .ok (.aload_n 0, 1) := by decide +kernel
theorem dX8_act_30 : decode cX8_act 30 = .ok (.iload_n 1, 1) := by decide +kernel
theorem dX8_act_31 : decode cX8_act 31 = .ok (.iload_n 3, 1) := by decide +kernel
theorem dX8_act_32 : decode cX8_act 32 = .ok (.invokevirtual 351, 3) := by decide +kernel
theorem dX8_act_35 : decode cX8_act 35 = .ok (.goto 23, 3) := by decide +kernel
theorem dX8_act_38 : decode cX8_act 38 = .ok (.iload_n 2, 1) := by decide +kernel
theorem dX8_act_39 : decode cX8_act 39 = .ok (.iconst 1, 1) := by decide +kernel
theorem dX8_act_40 : decode cX8_act 40 = .ok (.if_icmp .ne 12, 3) := by decide +kernel
theorem dX8_act_43 : decode cX8_act 43 = .ok (.aload_n 0, 1) := by decide +kernel
theorem dX8_act_44 : decode cX8_act 44 = .ok (.iload_n 1, 1) := by decide +kernel
theorem dX8_act_45 : decode cX8_act 45 = .ok (.iload_n 3, 1) := by decide +kernel
theorem dX8_act_46 : decode cX8_act 46 = .ok (.invokevirtual 360, 3) := by decide +kernel
theorem dX8_act_49 : decode cX8_act 49 = .ok (.goto 9, 3) := by decide +kernel
theorem dX8_act_52 : decode cX8_act 52 = .ok (.aload_n 0, 1) := by decide +kernel
theorem dX8_act_53 : decode cX8_act 53 = .ok (.iload_n 1, 1) := by decide +kernel
theorem dX8_act_54 : decode cX8_act 54 = .ok (.iload_n 3, 1) := by decide +kernel
theorem dX8_act_55 : decode cX8_act 55 = .ok (.invokevirtual 366, 3) := by decide +kernel
theorem dX8_act_58 : decode cX8_act 58 = .ok (.ireturn, 1) := by decide +kernel
theorem dX8_trace_0 : decode cX8_trace 0 = .ok (.aload_n 0, 1) := by decide +kernel
theorem dX8_trace_1 : decode cX8_trace 1 = .ok (.iload_n 1, 1) := by decide +kernel
theorem dX8_trace_2 : decode cX8_trace 2 = .ok (.iconst 0, 1) := by decide +kernel
theorem dX8_trace_3 : decode cX8_trace 3 = .ok (.bipush 19, 2) := by decide +kernel
theorem dX8_trace_5 : decode cX8_trace 5 = .ok (.invokevirtual 200, 3) := by decide +kernel
theorem dX8_trace_8 : decode cX8_trace 8 = .ok (.ifCond .eq 20, 3) := by decide +kernel
theorem dX8_trace_11 : decode cX8_trace 11 = .ok (.iload_n 1, 1) := by decide +kernel
theorem dX8_trace_12 : decode cX8_trace 12 = .ok (.aload_n 0, 1) := by decide +kernel
theorem dX8_trace_13 : decode cX8_trace 13 = .ok (.getfield 181, 3) := by decide +kernel
theorem dX8_trace_16 : decode cX8_trace 16 = .ok (.if_icmp .ge 12, 3) := by decide +kernel
theorem dX8_trace_19 : decode cX8_trace 19 = .ok (.aload_n 0, 1) := by decide +kernel
theorem dX8_trace_20 : decode cX8_trace 20 = .ok (.getfield 184, 3) := by decide +kernel
theorem dX8_trace_23 : decode cX8_trace 23 = .ok (.iload_n 1, 1) := by decide +kernel
theorem dX8_trace_24 : decode cX8_trace 24 = .ok (.iaload, 1) := by decide +kernel
theorem dX8_trace_25 : decode cX8_trace 25 = .ok (.goto 4, 3) := by decide +kernel
theorem dX8_trace_28 : decode cX8_trace 28 = .ok (.iconst (-1), 1) := by decide +kernel
theorem dX8_trace_29 : decode cX8_trace 29 = .ok (.ireturn, 1) := by decide +kernel
theorem dX8_taken_0 : decode cX8_taken 0 = .ok (.aload_n 0, 1) := by decide +kernel
theorem dX8_taken_1 : decode cX8_taken 1 = .ok (.iload_n 2, 1) := by decide +kernel
theorem dX8_taken_2 : decode cX8_taken 2 = .ok (.iconst 0, 1) := by decide +kernel
theorem dX8_taken_3 : decode cX8_taken 3 = .ok (.bipush 6, 2) := by decide +kernel
theorem dX8_taken_5 : decode cX8_taken 5 = .ok (.invokevirtual 200, 3) := by decide +kernel
theorem dX8_taken_8 : decode cX8_taken 8 = .ok (.ifCond .ne 6, 3) := by decide +kernel
theorem dX8_taken_11 : decode cX8_taken 11 = .ok (.bipush (-2), 2) := by decide +kernel
theorem dX8_taken_13 : decode cX8_taken 13 = .ok (.ireturn, 1) := by decide +kernel
theorem dX8_taken_14 : decode cX8_taken 14 = .ok (.aload_n 0, 1) := by decide +kernel
theorem dX8_taken_15 : decode cX8_taken 15 = .ok (.iload_n 1, 1) := by decide +kernel
theorem dX8_taken_16 : decode cX8_taken 16 = .ok (.invokevirtual 208, 3) := by decide +kernel
theorem dX8_taken_19 : decode cX8_taken 19 = .ok (.ifCond .ne 6, 3) := by decide +kernel
theorem dX8_taken_22 : decode cX8_taken 22 = .ok (.bipush (-11), 2) := by decide +kernel
theorem dX8_taken_24 : decode cX8_taken 24 = .ok (.ireturn, 1) := by decide +kernel
theorem dX8_taken_25 : decode cX8_taken 25 = .ok (.aload_n 0, 1) := by decide +kernel
theorem dX8_taken_26 : decode cX8_taken 26 = .ok (.getfield 16, 3) := by decide +kernel
theorem dX8_taken_29 : decode cX8_taken 29 = .ok (.iload_n 1, 1) := by decide +kernel
theorem dX8_taken_30 : decode cX8_taken 30 = .ok (.iaload, 1) := by decide +kernel
theorem dX8_taken_31 : decode cX8_taken 31 = .ok (.istore_n 3, 1) := by decide +kernel
theorem dX8_taken_32 : decode cX8_taken 32 = .ok (.iload_n 2, 1) := by decide +kernel
theorem dX8_taken_33 : decode cX8_taken 33 = .ok (.ifCond .eq 39, 3) := by decide +kernel
theorem dX8_taken_36 : decode cX8_taken 36 = .ok (.iload_n 3, 1) := by decide +kernel
theorem dX8_taken_37 : decode cX8_taken 37 = .ok (.iload_n 2, 1) := by decide +kernel
theorem dX8_taken_38 : decode cX8_taken 38 = .ok (.if_icmp .eq 34, 3) := by decide +kernel
theorem dX8_taken_41 : decode cX8_taken 41 = .ok (.iload_n 2, 1) := by decide +kernel
theorem dX8_taken_42 : decode cX8_taken 42 = .ok (.iconst 1, 1) := by decide +kernel
theorem dX8_taken_43 : decode cX8_taken 43 = .ok (.if_icmp .ne 8, 3) := by decide +kernel
theorem dX8_taken_46 : decode cX8_taken 46 = .ok (.iload_n 3, 1) := by decide +kernel
theorem dX8_taken_47 : decode cX8_taken 47 = .ok (.iconst 4, 1) := by decide +kernel
theorem dX8_taken_48 : decode cX8_taken 48 = .ok (.if_icmp .eq 24, 3) := by decide +kernel
theorem dX8_taken_51 : decode cX8_taken 51 = .ok (.iload_n 2, 1) := by decide +kernel
theorem dX8_taken_52 : decode cX8_taken 52 = .ok (.iconst 2, 1) := by decide +kernel
theorem dX8_taken_53 : decode cX8_taken 53 = .ok (.if_icmp .ne 8, 3) := by decide +kernel
theorem dX8_taken_56 : decode cX8_taken 56 = .ok (.iload_n 3, 1) := by decide +kernel
theorem dX8_taken_57 : decode cX8_taken 57 = .ok (.iconst 5, 1) := by decide +kernel
theorem dX8_taken_58 : decode cX8_taken 58 = .ok (.if_icmp .eq 14, 3) := by decide +kernel
theorem dX8_taken_61 : decode cX8_taken 61 = .ok (.iload_n 2, 1) := by decide +kernel
theorem dX8_taken_62 : decode cX8_taken 62 = .ok (.iconst 3, 1) := by decide +kernel
theorem dX8_taken_63 : decode cX8_taken 63 = .ok (.if_icmp .ne 13, 3) := by decide +kernel
theorem dX8_taken_66 : decode cX8_taken 66 = .ok (.iload_n 3, 1) := by decide +kernel
theorem dX8_taken_67 : decode cX8_taken 67 = .ok (.bipush 6, 2) := by decide +kernel
theorem dX8_taken_69 : decode cX8_taken 69 = .ok (.if_icmp .ne 7, 3) := by decide +kernel
theorem dX8_taken_72 : decode cX8_taken 72 = .ok (.iload_n 3, 1) := by decide +kernel
theorem dX8_taken_73 : decode cX8_taken 73 = .ok (.goto 5, 3) := by decide +kernel
theorem dX8_taken_76 : decode cX8_taken 76 = .ok (.bipush (-12), 2) := by decide +kernel
theorem dX8_taken_78 : decode cX8_taken 78 = .ok (.ireturn, 1) := by decide +kernel
theorem dX8_count_0 : decode cX8_count 0 = .ok (.iload_n 1, 1) := by decide +kernel
theorem dX8_count_1 : decode cX8_count 1 = .ok (.tableswitch 60 0 4 #[35, 40, 45, 50, 55], 35) := by decide +kernel
theorem dX8_count_36 : decode cX8_count 36 = .ok (.aload_n 0, 1) := by decide +kernel
theorem dX8_count_37 : decode cX8_count 37 = .ok (.getfield 7, 3) := by decide +kernel
theorem dX8_count_40 : decode cX8_count 40 = .ok (.ireturn, 1) := by decide +kernel
theorem dX8_count_41 : decode cX8_count 41 = .ok (.aload_n 0, 1) := by decide +kernel
theorem dX8_count_42 : decode cX8_count 42 = .ok (.getfield 41, 3) := by decide +kernel
theorem dX8_count_45 : decode cX8_count 45 = .ok (.ireturn, 1) := by decide +kernel
theorem dX8_count_46 : decode cX8_count 46 = .ok (.aload_n 0, 1) := by decide +kernel
theorem dX8_count_47 : decode cX8_count 47 = .ok (.getfield 126, 3) := by decide +kernel
theorem dX8_count_50 : decode cX8_count 50 = .ok (.ireturn, 1) := by decide +kernel
theorem dX8_count_51 : decode cX8_count 51 = .ok (.aload_n 0, 1) := by decide +kernel
theorem dX8_count_52 : decode cX8_count 52 = .ok (.getfield 47, 3) := by decide +kernel
theorem dX8_count_55 : decode cX8_count 55 = .ok (.ireturn, 1) := by decide +kernel
theorem dX8_count_56 : decode cX8_count 56 = .ok (.aload_n 0, 1) := by decide +kernel
theorem dX8_count_57 : decode cX8_count 57 = .ok (.getfield 181, 3) := by decide +kernel
theorem dX8_count_60 : decode cX8_count 60 = .ok (.ireturn, 1) := by decide +kernel
theorem dX8_count_61 : decode cX8_count 61 = .ok (.bipush (-2), 2) := by decide +kernel
theorem dX8_count_63 : decode cX8_count 63 = .ok (.ireturn, 1) := by decide +kernel
theorem dX8_isTape_0 : decode cX8_isTape 0 = .ok (.aload_n 0, 1) := by decide +kernel
theorem dX8_isTape_1 : decode cX8_isTape 1 = .ok (.iload_n 1, 1) := by decide +kernel
theorem dX8_isTape_2 : decode cX8_isTape 2 = .ok (.iconst 0, 1) := by decide +kernel
theorem dX8_isTape_3 : decode cX8_isTape 3 = .ok (.iconst 5, 1) := by decide +kernel
theorem dX8_isTape_4 : decode cX8_isTape 4 = .ok (.invokevirtual 200, 3) := by decide +kernel
theorem dX8_isTape_7 : decode cX8_isTape 7 = .ok (.ireturn, 1) := by decide +kernel
theorem dX8_tape_0 : decode cX8_tape 0 = .ok (.aload_n 0, 1) := by decide +kernel
theorem dX8_tape_1 : decode cX8_tape 1 = .ok (.iload_n 1, 1) := by decide +kernel
theorem dX8_tape_2 : decode cX8_tape 2 = .ok (.invokevirtual 342, 3) := by decide +kernel
theorem dX8_tape_5 : decode cX8_tape 5 = .ok (.ifCond .ne 5, 3) := by decide +kernel
theorem dX8_tape_8 : decode cX8_tape 8 = .ok (.iconst (-1), 1) := by decide +kernel
theorem dX8_tape_9 : decode cX8_tape 9 = .ok (.ireturn, 1) := by decide +kernel
theorem dX8_tape_10 : decode cX8_tape 10 = .ok (.aload_n 0, 1) := by decide +kernel
theorem dX8_tape_11 : decode cX8_tape 11 = .ok (.iload_n 2, 1) := by decide +kernel
theorem dX8_tape_12 : decode cX8_tape 12 = .ok (.iconst (-1), 1) := by decide +kernel
theorem dX8_tape_13 : decode cX8_tape 13 = .ok (.iconst 4, 1) := by decide +kernel
theorem dX8_tape_14 : decode cX8_tape 14 = .ok (.invokevirtual 200, 3) := by decide +kernel
theorem dX8_tape_17 : decode cX8_tape 17 = .ok (.ifCond .eq 13, 3) := by decide +kernel
theorem dX8_tape_20 : decode cX8_tape 20 = .ok (.iload_n 2, 1) := by decide +kernel
theorem dX8_tape_21 : decode cX8_tape 21 = .ok (.ifCond .lt 12, 3) := by decide +kernel
theorem dX8_tape_24 : decode cX8_tape 24 = .ok (.iload_n 3, 1) := by decide +kernel
theorem dX8_tape_25 : decode cX8_tape 25 = .ok (.bipush 60, 2) := by decide +kernel
theorem dX8_tape_27 : decode cX8_tape 27 = .ok (.if_icmp .le 6, 3) := by decide +kernel
theorem dX8_tape_30 : decode cX8_tape 30 = .ok (.bipush (-2), 2) := by decide +kernel
theorem dX8_tape_32 : decode cX8_tape 32 = .ok (.ireturn, 1) := by decide +kernel
theorem dX8_tape_33 : decode cX8_tape 33 = .ok (.iload_n 2, 1) := by decide +kernel
theorem dX8_tape_34 : decode cX8_tape 34 = .ok (.ifCond .lt 10, 3) := by decide +kernel
theorem dX8_tape_37 : decode cX8_tape 37 = .ok (.iload_n 3, 1) := by decide +kernel
theorem dX8_tape_38 : decode cX8_tape 38 = .ok (.ifCond .ge 6, 3) := by decide +kernel
theorem dX8_tape_41 : decode cX8_tape 41 = .ok (.bipush (-14), 2) := by decide +kernel
theorem dX8_tape_43 : decode cX8_tape 43 = .ok (.ireturn, 1) := by decide +kernel
theorem dX8_tape_44 : decode cX8_tape 44 = .ok (.aload_n 0, 1) := by decide +kernel
theorem dX8_tape_45 : decode cX8_tape 45 = .ok (.getfield 187, 3) := by decide +kernel
theorem dX8_tape_48 : decode cX8_tape 48 = .ok (.iload_n 1, 1) := by decide +kernel
theorem dX8_tape_49 : decode cX8_tape 49 = .ok (.iload_n 2, 1) := by decide +kernel
theorem dX8_tape_50 : decode cX8_tape 50 = .ok (.iastore, 1) := by decide +kernel
theorem dX8_tape_51 : decode cX8_tape 51 = .ok (.aload_n 0, 1) := by decide +kernel
theorem dX8_tape_52 : decode cX8_tape 52 = .ok (.getfield 190, 3) := by decide +kernel
theorem dX8_tape_55 : decode cX8_tape 55 = .ok (.iload_n 1, 1) := by decide +kernel
theorem dX8_tape_56 : decode cX8_tape 56 = .ok (.iload_n 2, 1) := by decide +kernel
theorem dX8_tape_57 : decode cX8_tape 57 = .ok (.ifCond .ge 7, 3) := by decide +kernel
theorem dX8_tape_60 : decode cX8_tape 60 = .ok (.iconst 0, 1) := by decide +kernel
theorem dX8_tape_61 : decode cX8_tape 61 = .ok (.goto 4, 3) := by decide +kernel
theorem dX8_tape_64 : decode cX8_tape 64 = .ok (.iload_n 3, 1) := by decide +kernel
theorem dX8_tape_65 : decode cX8_tape 65 = .ok (.iastore, 1) := by decide +kernel
theorem dX8_tape_66 : decode cX8_tape 66 = .ok (.iconst 0, 1) := by decide +kernel
theorem dX8_tape_67 : decode cX8_tape 67 = .ok (.istore 4, 2) := by decide +kernel
theorem dX8_tape_69 : decode cX8_tape 69 = .ok (.iload 4, 2) := by decide +kernel
theorem dX8_tape_71 : decode cX8_tape 71 = .ok (.bipush 60, 2) := by decide +kernel
theorem dX8_tape_73 : decode cX8_tape 73 = .ok (.if_icmp .ge 22, 3) := by decide +kernel
theorem dX8_tape_76 : decode cX8_tape 76 = .ok (.aload_n 0, 1) := by decide +kernel
theorem dX8_tape_77 : decode cX8_tape 77 = .ok (.getfield 193, 3) := by decide +kernel
theorem dX8_tape_80 : decode cX8_tape 80 = .ok (.bipush 60, 2) := by decide +kernel
theorem dX8_tape_82 : decode cX8_tape 82 = .ok (.iload_n 1, 1) := by decide +kernel
theorem dX8_tape_83 : decode cX8_tape 83 = .ok (.imul, 1) := by decide +kernel
theorem dX8_tape_84 : decode cX8_tape 84 = .ok (.iload 4, 2) := by decide +kernel
theorem dX8_tape_86 : decode cX8_tape 86 = .ok (.iadd, 1) := by decide +kernel
theorem dX8_tape_87 : decode cX8_tape 87 = .ok (.lconst 0, 1) := by decide +kernel
theorem dX8_tape_88 : decode cX8_tape 88 = .ok (.lastore, 1) := by decide +kernel
theorem dX8_tape_89 : decode cX8_tape 89 = .ok (.iinc 4 1, 3) := by decide +kernel
theorem dX8_tape_92 : decode cX8_tape 92 = .ok (.goto (-23), 3) := by decide +kernel
theorem dX8_tape_95 : decode cX8_tape 95 = .ok (.iconst 1, 1) := by decide +kernel
theorem dX8_tape_96 : decode cX8_tape 96 = .ok (.ireturn, 1) := by decide +kernel
theorem dX8_narrow_0 : decode cX8_narrow 0 = .ok (.iload_n 1, 1) := by decide +kernel
theorem dX8_narrow_1 : decode cX8_narrow 1 = .ok (.ifCond .ne 10, 3) := by decide +kernel
theorem dX8_narrow_4 : decode cX8_narrow 4 = .ok (.lload_n 2, 1) := by decide +kernel
theorem dX8_narrow_5 : decode cX8_narrow 5 = .ok (.l2i, 1) := by decide +kernel
theorem dX8_narrow_6 : decode cX8_narrow 6 = .ok (.i2b, 1) := by decide +kernel
theorem dX8_narrow_7 : decode cX8_narrow 7 = .ok (.i2l, 1) := by decide +kernel
theorem dX8_narrow_8 : decode cX8_narrow 8 = .ok (.goto 46, 3) := by decide +kernel
theorem dX8_narrow_11 : decode cX8_narrow 11 = .ok (.iload_n 1, 1) := by decide +kernel
theorem dX8_narrow_12 : decode cX8_narrow 12 = .ok (.iconst 1, 1) := by decide +kernel
theorem dX8_narrow_13 : decode cX8_narrow 13 = .ok (.if_icmp .ne 10, 3) := by decide +kernel
theorem dX8_narrow_16 : decode cX8_narrow 16 = .ok (.lload_n 2, 1) := by decide +kernel
theorem dX8_narrow_17 : decode cX8_narrow 17 = .ok (.l2i, 1) := by decide +kernel
theorem dX8_narrow_18 : decode cX8_narrow 18 = .ok (.i2s, 1) := by decide +kernel
theorem dX8_narrow_19 : decode cX8_narrow 19 = .ok (.i2l, 1) := by decide +kernel
theorem dX8_narrow_20 : decode cX8_narrow 20 = .ok (.goto 34, 3) := by decide +kernel
theorem dX8_narrow_23 : decode cX8_narrow 23 = .ok (.iload_n 1, 1) := by decide +kernel
theorem dX8_narrow_24 : decode cX8_narrow 24 = .ok (.iconst 2, 1) := by decide +kernel
theorem dX8_narrow_25 : decode cX8_narrow 25 = .ok (.if_icmp .ne 9, 3) := by decide +kernel
theorem dX8_narrow_28 : decode cX8_narrow 28 = .ok (.lload_n 2, 1) := by decide +kernel
theorem dX8_narrow_29 : decode cX8_narrow 29 = .ok (.l2i, 1) := by decide +kernel
theorem dX8_narrow_30 : decode cX8_narrow 30 = .ok (.i2l, 1) := by decide +kernel
theorem dX8_narrow_31 : decode cX8_narrow 31 = .ok (.goto 23, 3) := by decide +kernel
theorem dX8_narrow_34 : decode cX8_narrow 34 = .ok (.iload_n 1, 1) := by decide +kernel
theorem dX8_narrow_35 : decode cX8_narrow 35 = .ok (.iconst 4, 1) := by decide +kernel
theorem dX8_narrow_36 : decode cX8_narrow 36 = .ok (.if_icmp .ne 17, 3) := by decide +kernel
theorem dX8_narrow_39 : decode cX8_narrow 39 = .ok (.lload_n 2, 1) := by decide +kernel
theorem dX8_narrow_40 : decode cX8_narrow 40 = .ok (.lconst 0, 1) := by decide +kernel
theorem dX8_narrow_41 : decode cX8_narrow 41 = .ok (.lcmp, 1) := by decide +kernel
theorem dX8_narrow_42 : decode cX8_narrow 42 = .ok (.ifCond .eq 7, 3) := by decide +kernel
theorem dX8_narrow_45 : decode cX8_narrow 45 = .ok (.lconst 1, 1) := by decide +kernel
theorem dX8_narrow_46 : decode cX8_narrow 46 = .ok (.goto 8, 3) := by decide +kernel
theorem dX8_narrow_49 : decode cX8_narrow 49 = .ok (.lconst 0, 1) := by decide +kernel
theorem dX8_narrow_50 : decode cX8_narrow 50 = .ok (.goto 4, 3) := by decide +kernel
theorem dX8_narrow_53 : decode cX8_narrow 53 = .ok (.lload_n 2, 1) := by decide +kernel
theorem dX8_narrow_54 : decode cX8_narrow 54 = .ok (.lreturn, 1) := by decide +kernel
theorem dX8_item_0 : decode cX8_item 0 = .ok (.aload_n 0, 1) := by decide +kernel
theorem dX8_item_1 : decode cX8_item 1 = .ok (.iload_n 1, 1) := by decide +kernel
theorem dX8_item_2 : decode cX8_item 2 = .ok (.invokevirtual 342, 3) := by decide +kernel
theorem dX8_item_5 : decode cX8_item 5 = .ok (.ifCond .ne 5, 3) := by decide +kernel
theorem dX8_item_8 : decode cX8_item 8 = .ok (.iconst (-1), 1) := by decide +kernel
theorem dX8_item_9 : decode cX8_item 9 = .ok (.ireturn, 1) := by decide +kernel
theorem dX8_item_10 : decode cX8_item 10 = .ok (.aload_n 0, 1) := by decide +kernel
theorem dX8_item_11 : decode cX8_item 11 = .ok (.getfield 187, 3) := by decide +kernel
theorem dX8_item_14 : decode cX8_item 14 = .ok (.iload_n 1, 1) := by decide +kernel
theorem dX8_item_15 : decode cX8_item 15 = .ok (.iaload, 1) := by decide +kernel
theorem dX8_item_16 : decode cX8_item 16 = .ok (.ifCond .ge 6, 3) := by decide +kernel
theorem dX8_item_19 : decode cX8_item 19 = .ok (.bipush (-11), 2) := by decide +kernel
theorem dX8_item_21 : decode cX8_item 21 = .ok (.ireturn, 1) := by decide +kernel
theorem dX8_item_22 : decode cX8_item 22 = .ok (.aload_n 0, 1) := by decide +kernel
theorem dX8_item_23 : decode cX8_item 23 = .ok (.iload_n 2, 1) := by decide +kernel
theorem dX8_item_24 : decode cX8_item 24 = .ok (.iconst 0, 1) := by decide +kernel
theorem dX8_item_25 : decode cX8_item 25 = .ok (.aload_n 0, 1) := by decide +kernel
theorem dX8_item_26 : decode cX8_item 26 = .ok (.getfield 190, 3) := by decide +kernel
theorem dX8_item_29 : decode cX8_item 29 = .ok (.iload_n 1, 1) := by decide +kernel
theorem dX8_item_30 : decode cX8_item 30 = .ok (.iaload, 1) := by decide +kernel
theorem dX8_item_31 : decode cX8_item 31 = .ok (.iconst 1, 1) := by decide +kernel
theorem dX8_item_32 : decode cX8_item 32 = .ok (.isub, 1) := by decide +kernel
theorem dX8_item_33 : decode cX8_item 33 = .ok (.invokevirtual 200, 3) := by decide +kernel
theorem dX8_item_36 : decode cX8_item 36 = .ok (.ifCond .ne 6, 3) := by decide +kernel
theorem dX8_item_39 : decode cX8_item 39 = .ok (.bipush (-13), 2) := by decide +kernel
theorem dX8_item_41 : decode cX8_item 41 = .ok (.ireturn, 1) := by decide +kernel
theorem dX8_item_42 : decode cX8_item 42 = .ok (.aload_n 0, 1) := by decide +kernel
theorem dX8_item_43 : decode cX8_item 43 = .ok (.getfield 193, 3) := by decide +kernel
theorem dX8_item_46 : decode cX8_item 46 = .ok (.bipush 60, 2) := by decide +kernel
theorem dX8_item_48 : decode cX8_item 48 = .ok (.iload_n 1, 1) := by decide +kernel
theorem dX8_item_49 : decode cX8_item 49 = .ok (.imul, 1) := by decide +kernel
theorem dX8_item_50 : decode cX8_item 50 = .ok (.iload_n 2, 1) := by decide +kernel
theorem dX8_item_51 : decode cX8_item 51 = .ok (.iadd, 1) := by decide +kernel
theorem dX8_item_52 : decode cX8_item 52 = .ok (.aload_n 0, 1) := by decide +kernel
theorem dX8_item_53 : decode cX8_item 53 = .ok (.aload_n 0, 1) := by decide +kernel
theorem dX8_item_54 : decode cX8_item 54 = .ok (.getfield 187, 3) := by decide +kernel
theorem dX8_item_57 : decode cX8_item 57 = .ok (.iload_n 1, 1) := by decide +kernel
theorem dX8_item_58 : decode cX8_item 58 = .ok (.iaload, 1) := by decide +kernel
theorem dX8_item_59 : decode cX8_item 59 = .ok (.lload_n 3, 1) := by decide +kernel
theorem dX8_item_60 : decode cX8_item 60 = .ok (.invokevirtual 369, 3) := by decide +kernel
theorem dX8_item_63 : decode cX8_item 63 = .ok (.lastore, 1) := by decide +kernel
theorem dX8_item_64 : decode cX8_item 64 = .ok (.iconst 1, 1) := by decide +kernel
theorem dX8_item_65 : decode cX8_item 65 = .ok (.ireturn, 1) := by decide +kernel
theorem dX8_read_0 : decode cX8_read 0 = .ok (.aload_n 0, 1) := by decide +kernel
theorem dX8_read_1 : decode cX8_read 1 = .ok (.iload_n 1, 1) := by decide +kernel
theorem dX8_read_2 : decode cX8_read 2 = .ok (.invokevirtual 342, 3) := by decide +kernel
theorem dX8_read_5 : decode cX8_read 5 = .ok (.ifCond .eq 29, 3) := by decide +kernel
theorem dX8_read_8 : decode cX8_read 8 = .ok (.aload_n 0, 1) := by decide +kernel
theorem dX8_read_9 : decode cX8_read 9 = .ok (.getfield 187, 3) := by decide +kernel
theorem dX8_read_12 : decode cX8_read 12 = .ok (.iload_n 1, 1) := by decide +kernel
theorem dX8_read_13 : decode cX8_read 13 = .ok (.iaload, 1) := by decide +kernel
theorem dX8_read_14 : decode cX8_read 14 = .ok (.ifCond .lt 20, 3) := by decide +kernel
theorem dX8_read_17 : decode cX8_read 17 = .ok (.aload_n 0, 1) := by decide +kernel
theorem dX8_read_18 : decode cX8_read 18 = .ok (.iload_n 2, 1) := by decide +kernel
theorem dX8_read_19 : decode cX8_read 19 = .ok (.iconst 0, 1) := by decide +kernel
theorem dX8_read_20 : decode cX8_read 20 = .ok (.aload_n 0, 1) := by decide +kernel
theorem dX8_read_21 : decode cX8_read 21 = .ok (.getfield 190, 3) := by decide +kernel
theorem dX8_read_24 : decode cX8_read 24 = .ok (.iload_n 1, 1) := by decide +kernel
theorem dX8_read_25 : decode cX8_read 25 = .ok (.iaload, 1) := by decide +kernel
theorem dX8_read_26 : decode cX8_read 26 = .ok (.iconst 1, 1) := by decide +kernel
theorem dX8_read_27 : decode cX8_read 27 = .ok (.isub, 1) := by decide +kernel
theorem dX8_read_28 : decode cX8_read 28 = .ok (.invokevirtual 200, 3) := by decide +kernel
theorem dX8_read_31 : decode cX8_read 31 = .ok (.ifCond .ne 9, 3) := by decide +kernel
theorem dX8_read_34 : decode cX8_read 34 = .ok (.ldc2_w 336, 3) := by decide +kernel
theorem dX8_read_37 : decode cX8_read 37 = .ok (.goto 14, 3) := by decide +kernel
theorem dX8_read_40 : decode cX8_read 40 = .ok (.aload_n 0, 1) := by decide +kernel
theorem dX8_read_41 : decode cX8_read 41 = .ok (.getfield 193, 3) := by decide +kernel
theorem dX8_read_44 : decode cX8_read 44 = .ok (.bipush 60, 2) := by decide +kernel
theorem dX8_read_46 : decode cX8_read 46 = .ok (.iload_n 1, 1) := by decide +kernel
theorem dX8_read_47 : decode cX8_read 47 = .ok (.imul, 1) := by decide +kernel
theorem dX8_read_48 : decode cX8_read 48 = .ok (.iload_n 2, 1) := by decide +kernel
theorem dX8_read_49 : decode cX8_read 49 = .ok (.iadd, 1) := by decide +kernel
theorem dX8_read_50 : decode cX8_read 50 = .ok (.laload, 1) := by decide +kernel
theorem dX8_read_51 : decode cX8_read 51 = .ok (.lreturn, 1) := by decide +kernel
theorem dX8_shift_0 : decode cX8_shift 0 = .ok (.aload_n 0, 1) := by decide +kernel
theorem dX8_shift_1 : decode cX8_shift 1 = .ok (.iload_n 1, 1) := by decide +kernel
theorem dX8_shift_2 : decode cX8_shift 2 = .ok (.invokevirtual 342, 3) := by decide +kernel
theorem dX8_shift_5 : decode cX8_shift 5 = .ok (.ifCond .eq 11, 3) := by decide +kernel
theorem dX8_shift_8 : decode cX8_shift 8 = .ok (.aload_n 0, 1) := by decide +kernel
theorem dX8_shift_9 : decode cX8_shift 9 = .ok (.iload_n 3, 1) := by decide +kernel
theorem dX8_shift_10 : decode cX8_shift 10 = .ok (.invokevirtual 342, 3) := by decide +kernel
theorem dX8_shift_13 : decode cX8_shift 13 = .ok (.ifCond .ne 5, 3) := by decide +kernel
theorem dX8_shift_16 : decode cX8_shift 16 = .ok (.iconst (-1), 1) := by decide +kernel
theorem dX8_shift_17 : decode cX8_shift 17 = .ok (.ireturn, 1) := by decide +kernel
theorem dX8_shift_18 : decode cX8_shift 18 = .ok (.aload_n 0, 1) := by decide +kernel
theorem dX8_shift_19 : decode cX8_shift 19 = .ok (.getfield 187, 3) := by decide +kernel
theorem dX8_shift_22 : decode cX8_shift 22 = .ok (.iload_n 1, 1) := by decide +kernel
theorem dX8_shift_23 : decode cX8_shift 23 = .ok (.iaload, 1) := by decide +kernel
theorem dX8_shift_24 : decode cX8_shift 24 = .ok (.ifCond .lt 12, 3) := by decide +kernel
theorem dX8_shift_27 : decode cX8_shift 27 = .ok (.aload_n 0, 1) := by decide +kernel
theorem dX8_shift_28 : decode cX8_shift 28 = .ok (.getfield 187, 3) := by decide +kernel
theorem dX8_shift_31 : decode cX8_shift 31 = .ok (.iload_n 3, 1) := by decide +kernel
theorem dX8_shift_32 : decode cX8_shift 32 = .ok (.iaload, 1) := by decide +kernel
theorem dX8_shift_33 : decode cX8_shift 33 = .ok (.ifCond .ge 6, 3) := by decide +kernel
theorem dX8_shift_36 : decode cX8_shift 36 = .ok (.bipush (-11), 2) := by decide +kernel
theorem dX8_shift_38 : decode cX8_shift 38 = .ok (.ireturn, 1) := by decide +kernel
theorem dX8_shift_39 : decode cX8_shift 39 = .ok (.aload_n 0, 1) := by decide +kernel
theorem dX8_shift_40 : decode cX8_shift 40 = .ok (.getfield 187, 3) := by decide +kernel
theorem dX8_shift_43 : decode cX8_shift 43 = .ok (.iload_n 1, 1) := by decide +kernel
theorem dX8_shift_44 : decode cX8_shift 44 = .ok (.iaload, 1) := by decide +kernel
theorem dX8_shift_45 : decode cX8_shift 45 = .ok (.aload_n 0, 1) := by decide +kernel
theorem dX8_shift_46 : decode cX8_shift 46 = .ok (.getfield 187, 3) := by decide +kernel
theorem dX8_shift_49 : decode cX8_shift 49 = .ok (.iload_n 3, 1) := by decide +kernel
theorem dX8_shift_50 : decode cX8_shift 50 = .ok (.iaload, 1) := by decide +kernel
theorem dX8_shift_51 : decode cX8_shift 51 = .ok (.if_icmp .eq 6, 3) := by decide +kernel
theorem dX8_shift_54 : decode cX8_shift 54 = .ok (.bipush (-12), 2) := by decide +kernel
theorem dX8_shift_56 : decode cX8_shift 56 = .ok (.ireturn, 1) := by decide +kernel
theorem dX8_shift_57 : decode cX8_shift 57 = .ok (.iload 5, 2) := by decide +kernel
theorem dX8_shift_59 : decode cX8_shift 59 = .ok (.ifCond .lt 39, 3) := by decide +kernel
theorem dX8_shift_62 : decode cX8_shift 62 = .ok (.iload_n 2, 1) := by decide +kernel
theorem dX8_shift_63 : decode cX8_shift 63 = .ok (.ifCond .lt 35, 3) := by decide +kernel
theorem dX8_shift_66 : decode cX8_shift 66 = .ok (.iload 4, 2) := by decide +kernel
theorem dX8_shift_68 : decode cX8_shift 68 = .ok (.ifCond .lt 30, 3) := by decide +kernel
theorem dX8_shift_71 : decode cX8_shift 71 = .ok (.iload_n 2, 1) := by decide +kernel
theorem dX8_shift_72 : decode cX8_shift 72 = .ok (.aload_n 0, 1) := by decide +kernel
theorem dX8_shift_73 : decode cX8_shift 73 = .ok (.getfield 190, 3) := by decide +kernel
theorem dX8_shift_76 : decode cX8_shift 76 = .ok (.iload_n 1, 1) := by decide +kernel
theorem dX8_shift_77 : decode cX8_shift 77 = .ok (.iaload, 1) := by decide +kernel
theorem dX8_shift_78 : decode cX8_shift 78 = .ok (.iload 5, 2) := by decide +kernel
theorem dX8_shift_80 : decode cX8_shift 80 = .ok (.isub, 1) := by decide +kernel
theorem dX8_shift_81 : decode cX8_shift 81 = .ok (.if_icmp .gt 17, 3) := by decide +kernel
theorem dX8_shift_84 : decode cX8_shift 84 = .ok (.iload 4, 2) := by decide +kernel
theorem dX8_shift_86 : decode cX8_shift 86 = .ok (.aload_n 0, 1) := by decide +kernel
theorem dX8_shift_87 : decode cX8_shift 87 = .ok (.getfield 190, 3) := by decide +kernel
theorem dX8_shift_90 : decode cX8_shift 90 = .ok (.iload_n 3, 1) := by decide +kernel
theorem dX8_shift_91 : decode cX8_shift 91 = .ok (.iaload, 1) := by decide +kernel
theorem dX8_shift_92 : decode cX8_shift 92 = .ok (.iload 5, 2) := by decide +kernel
theorem dX8_shift_94 : decode cX8_shift 94 = .ok (.isub, 1) := by decide +kernel
theorem dX8_shift_95 : decode cX8_shift 95 = .ok (.if_icmp .le 6, 3) := by decide +kernel
theorem dX8_shift_98 : decode cX8_shift 98 = .ok (.bipush (-13), 2) := by decide +kernel
theorem dX8_shift_100 : decode cX8_shift 100 = .ok (.ireturn, 1) := by decide +kernel
theorem dX8_shift_101 : decode cX8_shift 101 = .ok (.iconst 0, 1) := by decide +kernel
theorem dX8_shift_102 : decode cX8_shift 102 = .ok (.istore 6, 2) := by decide +kernel
theorem dX8_shift_104 : decode cX8_shift 104 = .ok (.iload 6, 2) := by decide +kernel
theorem dX8_shift_106 : decode cX8_shift 106 = .ok (.iload 5, 2) := by decide +kernel
theorem dX8_shift_108 : decode cX8_shift 108 = .ok (.if_icmp .ge 30, 3) := by decide +kernel
theorem dX8_shift_111 : decode cX8_shift 111 = .ok (.aload_n 0, 1) := by decide +kernel
theorem dX8_shift_112 : decode cX8_shift 112 = .ok (.getfield 197, 3) := by decide +kernel
theorem dX8_shift_115 : decode cX8_shift 115 = .ok (.iload 6, 2) := by decide +kernel
theorem dX8_shift_117 : decode cX8_shift 117 = .ok (.aload_n 0, 1) := by decide +kernel
theorem dX8_shift_118 : decode cX8_shift 118 = .ok (.getfield 193, 3) := by decide +kernel
theorem dX8_shift_121 : decode cX8_shift 121 = .ok (.bipush 60, 2) := by decide +kernel
theorem dX8_shift_123 : decode cX8_shift 123 = .ok (.iload_n 1, 1) := by decide +kernel
theorem dX8_shift_124 : decode cX8_shift 124 = .ok (.imul, 1) := by decide +kernel
theorem dX8_shift_125 : decode cX8_shift 125 = .ok (.iload_n 2, 1) := by decide +kernel
theorem dX8_shift_126 : decode cX8_shift 126 = .ok (.iadd, 1) := by decide +kernel
theorem dX8_shift_127 : decode cX8_shift 127 = .ok (.iload 6, 2) := by decide +kernel
theorem dX8_shift_129 : decode cX8_shift 129 = .ok (.iadd, 1) := by decide +kernel
theorem dX8_shift_130 : decode cX8_shift 130 = .ok (.laload, 1) := by decide +kernel
theorem dX8_shift_131 : decode cX8_shift 131 = .ok (.lastore, 1) := by decide +kernel
theorem dX8_shift_132 : decode cX8_shift 132 = .ok (.iinc 6 1, 3) := by decide +kernel
theorem dX8_shift_135 : decode cX8_shift 135 = .ok (.goto (-31), 3) := by decide +kernel
theorem dX8_shift_138 : decode cX8_shift 138 = .ok (.iconst 0, 1) := by decide +kernel
theorem dX8_shift_139 : decode cX8_shift 139 = .ok (.istore 6, 2) := by decide +kernel
theorem dX8_shift_141 : decode cX8_shift 141 = .ok (.iload 6, 2) := by decide +kernel
theorem dX8_shift_143 : decode cX8_shift 143 = .ok (.iload 5, 2) := by decide +kernel
theorem dX8_shift_145 : decode cX8_shift 145 = .ok (.if_icmp .ge 31, 3) := by decide +kernel
theorem dX8_shift_148 : decode cX8_shift 148 = .ok (.aload_n 0, 1) := by decide +kernel
theorem dX8_shift_149 : decode cX8_shift 149 = .ok (.getfield 193, 3) := by decide +kernel
theorem dX8_shift_152 : decode cX8_shift 152 = .ok (.bipush 60, 2) := by decide +kernel
theorem dX8_shift_154 : decode cX8_shift 154 = .ok (.iload_n 3, 1) := by decide +kernel
theorem dX8_shift_155 : decode cX8_shift 155 = .ok (.imul, 1) := by decide +kernel
theorem dX8_shift_156 : decode cX8_shift 156 = .ok (.iload 4, 2) := by decide +kernel
theorem dX8_shift_158 : decode cX8_shift 158 = .ok (.iadd, 1) := by decide +kernel
theorem dX8_shift_159 : decode cX8_shift 159 = .ok (.iload 6, 2) := by decide +kernel
theorem dX8_shift_161 : decode cX8_shift 161 = .ok (.iadd, 1) := by decide +kernel
theorem dX8_shift_162 : decode cX8_shift 162 = .ok (.aload_n 0, 1) := by decide +kernel
theorem dX8_shift_163 : decode cX8_shift 163 = .ok (.getfield 197, 3) := by decide +kernel
theorem dX8_shift_166 : decode cX8_shift 166 = .ok (.iload 6, 2) := by decide +kernel
theorem dX8_shift_168 : decode cX8_shift 168 = .ok (.laload, 1) := by decide +kernel
theorem dX8_shift_169 : decode cX8_shift 169 = .ok (.lastore, 1) := by decide +kernel
theorem dX8_shift_170 : decode cX8_shift 170 = .ok (.iinc 6 1, 3) := by decide +kernel
theorem dX8_shift_173 : decode cX8_shift 173 = .ok (.goto (-32), 3) := by decide +kernel
theorem dX8_shift_176 : decode cX8_shift 176 = .ok (.iload 5, 2) := by decide +kernel
theorem dX8_shift_178 : decode cX8_shift 178 = .ok (.ireturn, 1) := by decide +kernel
theorem dJ11_isValidCodePoint_9a6ad_0 : decode cJ11_isValidCodePoint_9a6ad 0 = .ok (.iload_n 0, 1) := by decide +kernel
theorem dJ11_isValidCodePoint_9a6ad_1 : decode cJ11_isValidCodePoint_9a6ad 1 = .ok (.bipush 16, 2) := by decide +kernel
theorem dJ11_isValidCodePoint_9a6ad_3 : decode cJ11_isValidCodePoint_9a6ad 3 = .ok (.iushr, 1) := by decide +kernel
theorem dJ11_isValidCodePoint_9a6ad_4 : decode cJ11_isValidCodePoint_9a6ad 4 = .ok (.istore_n 1, 1) := by decide +kernel
theorem dJ11_isValidCodePoint_9a6ad_5 : decode cJ11_isValidCodePoint_9a6ad 5 = .ok (.iload_n 1, 1) := by decide +kernel
theorem dJ11_isValidCodePoint_9a6ad_6 : decode cJ11_isValidCodePoint_9a6ad 6 = .ok (.bipush 17, 2) := by decide +kernel
theorem dJ11_isValidCodePoint_9a6ad_8 : decode cJ11_isValidCodePoint_9a6ad 8 = .ok (.if_icmp .ge 7, 3) := by decide +kernel
theorem dJ11_isValidCodePoint_9a6ad_11 : decode cJ11_isValidCodePoint_9a6ad 11 = .ok (.iconst 1, 1) := by decide +kernel
theorem dJ11_isValidCodePoint_9a6ad_12 : decode cJ11_isValidCodePoint_9a6ad 12 = .ok (.goto 4, 3) := by decide +kernel
theorem dJ11_isValidCodePoint_9a6ad_15 : decode cJ11_isValidCodePoint_9a6ad 15 = .ok (.iconst 0, 1) := by decide +kernel
theorem dJ11_isValidCodePoint_9a6ad_16 : decode cJ11_isValidCodePoint_9a6ad 16 = .ok (.ireturn, 1) := by decide +kernel
theorem dJ11_highSurrogate_5068e_0 : decode cJ11_highSurrogate_5068e 0 = .ok (.iload_n 0, 1) := by decide +kernel
theorem dJ11_highSurrogate_5068e_1 : decode cJ11_highSurrogate_5068e 1 = .ok (.bipush 10, 2) := by decide +kernel
theorem dJ11_highSurrogate_5068e_3 : decode cJ11_highSurrogate_5068e 3 = .ok (.iushr, 1) := by decide +kernel
theorem dJ11_highSurrogate_5068e_4 : decode cJ11_highSurrogate_5068e 4 = .ok (.ldc 110, 2) := by decide +kernel
theorem dJ11_highSurrogate_5068e_6 : decode cJ11_highSurrogate_5068e 6 = .ok (.iadd, 1) := by decide +kernel
theorem dJ11_highSurrogate_5068e_7 : decode cJ11_highSurrogate_5068e 7 = .ok (.i2c, 1) := by decide +kernel
theorem dJ11_highSurrogate_5068e_8 : decode cJ11_highSurrogate_5068e 8 = .ok (.ireturn, 1) := by decide +kernel
theorem dJ11_lowSurrogate_5068e_0 : decode cJ11_lowSurrogate_5068e 0 = .ok (.iload_n 0, 1) := by decide +kernel
theorem dJ11_lowSurrogate_5068e_1 : decode cJ11_lowSurrogate_5068e 1 = .ok (.sipush 1023, 3) := by decide +kernel
theorem dJ11_lowSurrogate_5068e_4 : decode cJ11_lowSurrogate_5068e 4 = .ok (.iand, 1) := by decide +kernel
theorem dJ11_lowSurrogate_5068e_5 : decode cJ11_lowSurrogate_5068e 5 = .ok (.ldc 76, 2) := by decide +kernel
theorem dJ11_lowSurrogate_5068e_7 : decode cJ11_lowSurrogate_5068e 7 = .ok (.iadd, 1) := by decide +kernel
theorem dJ11_lowSurrogate_5068e_8 : decode cJ11_lowSurrogate_5068e 8 = .ok (.i2c, 1) := by decide +kernel
theorem dJ11_lowSurrogate_5068e_9 : decode cJ11_lowSurrogate_5068e 9 = .ok (.ireturn, 1) := by decide +kernel
theorem dJ9_max_7cf53_0 : decode cJ9_max_7cf53 0 = .ok (.iload_n 0, 1) := by decide +kernel
theorem dJ9_max_7cf53_1 : decode cJ9_max_7cf53 1 = .ok (.iload_n 1, 1) := by decide +kernel
theorem dJ9_max_7cf53_2 : decode cJ9_max_7cf53 2 = .ok (.if_icmp .lt 7, 3) := by decide +kernel
theorem dJ9_max_7cf53_5 : decode cJ9_max_7cf53 5 = .ok (.iload_n 0, 1) := by decide +kernel
theorem dJ9_max_7cf53_6 : decode cJ9_max_7cf53 6 = .ok (.goto 4, 3) := by decide +kernel
theorem dJ9_max_7cf53_9 : decode cJ9_max_7cf53 9 = .ok (.iload_n 1, 1) := by decide +kernel
theorem dJ9_max_7cf53_10 : decode cJ9_max_7cf53 10 = .ok (.ireturn, 1) := by decide +kernel
theorem dJ9_min_7cf53_0 : decode cJ9_min_7cf53 0 = .ok (.iload_n 0, 1) := by decide +kernel
theorem dJ9_min_7cf53_1 : decode cJ9_min_7cf53 1 = .ok (.iload_n 1, 1) := by decide +kernel
theorem dJ9_min_7cf53_2 : decode cJ9_min_7cf53 2 = .ok (.if_icmp .gt 7, 3) := by decide +kernel
theorem dJ9_min_7cf53_5 : decode cJ9_min_7cf53 5 = .ok (.iload_n 0, 1) := by decide +kernel
theorem dJ9_min_7cf53_6 : decode cJ9_min_7cf53 6 = .ok (.goto 4, 3) := by decide +kernel
theorem dJ9_min_7cf53_9 : decode cJ9_min_7cf53 9 = .ok (.iload_n 1, 1) := by decide +kernel
theorem dJ9_min_7cf53_10 : decode cJ9_min_7cf53 10 = .ok (.ireturn, 1) := by decide +kernel
theorem dJ0_length_8abf5_0 : decode cJ0_length_8abf5 0 = .ok (.aload_n 0, 1) := by decide +kernel
theorem dJ0_length_8abf5_1 : decode cJ0_length_8abf5 1 = .ok (.getfield 9, 3) := by decide +kernel
theorem dJ0_length_8abf5_4 : decode cJ0_length_8abf5 4 = .ok (.arraylength, 1) := by decide +kernel
theorem dJ0_length_8abf5_5 : decode cJ0_length_8abf5 5 = .ok (.aload_n 0, 1) := by decide +kernel
theorem dJ0_length_8abf5_6 : decode cJ0_length_8abf5 6 = .ok (.invokevirtual 335, 3) := by decide +kernel
theorem dJ0_length_8abf5_9 : decode cJ0_length_8abf5 9 = .ok (.ishr, 1) := by decide +kernel
theorem dJ0_length_8abf5_10 : decode cJ0_length_8abf5 10 = .ok (.ireturn, 1) := by decide +kernel
theorem dJ0_charAt_5068e_0 : decode cJ0_charAt_5068e 0 = .ok (.aload_n 0, 1) := by decide +kernel
theorem dJ0_charAt_5068e_1 : decode cJ0_charAt_5068e 1 = .ok (.invokevirtual 492, 3) := by decide +kernel
theorem dJ0_charAt_5068e_4 : decode cJ0_charAt_5068e 4 = .ok (.ifCond .eq 12, 3) := by decide +kernel
theorem dJ0_charAt_5068e_7 : decode cJ0_charAt_5068e 7 = .ok (.aload_n 0, 1) := by decide +kernel
theorem dJ0_charAt_5068e_8 : decode cJ0_charAt_5068e 8 = .ok (.getfield 9, 3) := by decide +kernel
theorem dJ0_charAt_5068e_11 : decode cJ0_charAt_5068e 11 = .ok (.iload_n 1, 1) := by decide +kernel
theorem dJ0_charAt_5068e_12 : decode cJ0_charAt_5068e 12 = .ok (.invokestatic 495, 3) := by decide +kernel
theorem dJ0_charAt_5068e_15 : decode cJ0_charAt_5068e 15 = .ok (.ireturn, 1) := by decide +kernel
theorem dJ0_charAt_5068e_16 : decode cJ0_charAt_5068e 16 = .ok (.aload_n 0, 1) := by decide +kernel
theorem dJ0_charAt_5068e_17 : decode cJ0_charAt_5068e 17 = .ok (.getfield 9, 3) := by decide +kernel
theorem dJ0_charAt_5068e_20 : decode cJ0_charAt_5068e 20 = .ok (.iload_n 1, 1) := by decide +kernel
theorem dJ0_charAt_5068e_21 : decode cJ0_charAt_5068e 21 = .ok (.invokestatic 498, 3) := by decide +kernel
theorem dJ0_charAt_5068e_24 : decode cJ0_charAt_5068e 24 = .ok (.ireturn, 1) := by decide +kernel
theorem dJ0_indexOf_0f7a4_0 : decode cJ0_indexOf_0f7a4 0 = .ok (.aload_n 0, 1) := by decide +kernel
theorem dJ0_indexOf_0f7a4_1 : decode cJ0_indexOf_0f7a4 1 = .ok (.iload_n 1, 1) := by decide +kernel
theorem dJ0_indexOf_0f7a4_2 : decode cJ0_indexOf_0f7a4 2 = .ok (.iconst 0, 1) := by decide +kernel
theorem dJ0_indexOf_0f7a4_3 : decode cJ0_indexOf_0f7a4 3 = .ok (.invokevirtual 633, 3) := by decide +kernel
theorem dJ0_indexOf_0f7a4_6 : decode cJ0_indexOf_0f7a4 6 = .ok (.ireturn, 1) := by decide +kernel
theorem dJ0_indexOf_7cf53_0 : decode cJ0_indexOf_7cf53 0 = .ok (.aload_n 0, 1) := by decide +kernel
theorem dJ0_indexOf_7cf53_1 : decode cJ0_indexOf_7cf53 1 = .ok (.invokevirtual 492, 3) := by decide +kernel
theorem dJ0_indexOf_7cf53_4 : decode cJ0_indexOf_7cf53 4 = .ok (.ifCond .eq 19, 3) := by decide +kernel
theorem dJ0_indexOf_7cf53_7 : decode cJ0_indexOf_7cf53 7 = .ok (.aload_n 0, 1) := by decide +kernel
theorem dJ0_indexOf_7cf53_8 : decode cJ0_indexOf_7cf53 8 = .ok (.getfield 9, 3) := by decide +kernel
theorem dJ0_indexOf_7cf53_11 : decode cJ0_indexOf_7cf53 11 = .ok (.iload_n 1, 1) := by decide +kernel
theorem dJ0_indexOf_7cf53_12 : decode cJ0_indexOf_7cf53 12 = .ok (.iload_n 2, 1) := by decide +kernel
theorem dJ0_indexOf_7cf53_13 : decode cJ0_indexOf_7cf53 13 = .ok (.aload_n 0, 1) := by decide +kernel
theorem dJ0_indexOf_7cf53_14 : decode cJ0_indexOf_7cf53 14 = .ok (.invokevirtual 505, 3) := by decide +kernel
theorem dJ0_indexOf_7cf53_17 : decode cJ0_indexOf_7cf53 17 = .ok (.invokestatic 637, 3) := by decide +kernel
theorem dJ0_indexOf_7cf53_20 : decode cJ0_indexOf_7cf53 20 = .ok (.goto 16, 3) := by decide +kernel
theorem dJ0_indexOf_7cf53_23 : decode cJ0_indexOf_7cf53 23 = .ok (.aload_n 0, 1) := by decide +kernel
theorem dJ0_indexOf_7cf53_24 : decode cJ0_indexOf_7cf53 24 = .ok (.getfield 9, 3) := by decide +kernel
theorem dJ0_indexOf_7cf53_27 : decode cJ0_indexOf_7cf53 27 = .ok (.iload_n 1, 1) := by decide +kernel
theorem dJ0_indexOf_7cf53_28 : decode cJ0_indexOf_7cf53 28 = .ok (.iload_n 2, 1) := by decide +kernel
theorem dJ0_indexOf_7cf53_29 : decode cJ0_indexOf_7cf53 29 = .ok (.aload_n 0, 1) := by decide +kernel
theorem dJ0_indexOf_7cf53_30 : decode cJ0_indexOf_7cf53 30 = .ok (.invokevirtual 505, 3) := by decide +kernel
theorem dJ0_indexOf_7cf53_33 : decode cJ0_indexOf_7cf53 33 = .ok (.invokestatic 640, 3) := by decide +kernel
theorem dJ0_indexOf_7cf53_36 : decode cJ0_indexOf_7cf53 36 = .ok (.ireturn, 1) := by decide +kernel
theorem dJ0_coder_7d493_0 : decode cJ0_coder_7d493 0 = .ok (.getstatic 38, 3) := by decide +kernel
theorem dJ0_coder_7d493_3 : decode cJ0_coder_7d493 3 = .ok (.ifCond .eq 10, 3) := by decide +kernel
theorem dJ0_coder_7d493_6 : decode cJ0_coder_7d493 6 = .ok (.aload_n 0, 1) := by decide +kernel
theorem dJ0_coder_7d493_7 : decode cJ0_coder_7d493 7 = .ok (.getfield 15, 3) := by decide +kernel
theorem dJ0_coder_7d493_10 : decode cJ0_coder_7d493 10 = .ok (.goto 4, 3) := by decide +kernel
theorem dJ0_coder_7d493_13 : decode cJ0_coder_7d493 13 = .ok (.iconst 1, 1) := by decide +kernel
theorem dJ0_coder_7d493_14 : decode cJ0_coder_7d493 14 = .ok (.ireturn, 1) := by decide +kernel
theorem dJ0_isLatin1_aae02_0 : decode cJ0_isLatin1_aae02 0 = .ok (.getstatic 38, 3) := by decide +kernel
theorem dJ0_isLatin1_aae02_3 : decode cJ0_isLatin1_aae02 3 = .ok (.ifCond .eq 14, 3) := by decide +kernel
theorem dJ0_isLatin1_aae02_6 : decode cJ0_isLatin1_aae02 6 = .ok (.aload_n 0, 1) := by decide +kernel
theorem dJ0_isLatin1_aae02_7 : decode cJ0_isLatin1_aae02 7 = .ok (.getfield 15, 3) := by decide +kernel
theorem dJ0_isLatin1_aae02_10 : decode cJ0_isLatin1_aae02 10 = .ok (.ifCond .ne 7, 3) := by decide +kernel
theorem dJ0_isLatin1_aae02_13 : decode cJ0_isLatin1_aae02 13 = .ok (.iconst 1, 1) := by decide +kernel
theorem dJ0_isLatin1_aae02_14 : decode cJ0_isLatin1_aae02 14 = .ok (.goto 4, 3) := by decide +kernel
theorem dJ0_isLatin1_aae02_17 : decode cJ0_isLatin1_aae02 17 = .ok (.iconst 0, 1) := by decide +kernel
theorem dJ0_isLatin1_aae02_18 : decode cJ0_isLatin1_aae02 18 = .ok (.ireturn, 1) := by decide +kernel
theorem dJ0_checkIndex_df160_0 : decode cJ0_checkIndex_df160 0 = .ok (.iload_n 0, 1) := by decide +kernel
theorem dJ0_checkIndex_df160_1 : decode cJ0_checkIndex_df160 1 = .ok (.iload_n 1, 1) := by decide +kernel
theorem dJ0_checkIndex_df160_2 : decode cJ0_checkIndex_df160 2 = .ok (.getstatic 1053, 3) := by decide +kernel
theorem dJ0_checkIndex_df160_5 : decode cJ0_checkIndex_df160 5 = .ok (.invokestatic 1059, 3) := by decide +kernel
theorem dJ0_checkIndex_df160_8 : decode cJ0_checkIndex_df160 8 = .ok (.pop, 1) := by decide +kernel
theorem dJ0_checkIndex_df160_9 : decode cJ0_checkIndex_df160 9 = .ok (.return_, 1) := by decide +kernel
theorem dJ0_checkBoundsBeginEnd_23922_0 : decode cJ0_checkBoundsBeginEnd_23922 0 = .ok (.iload_n 0, 1) := by decide +kernel
theorem dJ0_checkBoundsBeginEnd_23922_1 : decode cJ0_checkBoundsBeginEnd_23922 1 = .ok (.iload_n 1, 1) := by decide +kernel
theorem dJ0_checkBoundsBeginEnd_23922_2 : decode cJ0_checkBoundsBeginEnd_23922 2 = .ok (.iload_n 2, 1) := by decide +kernel
theorem dJ0_checkBoundsBeginEnd_23922_3 : decode cJ0_checkBoundsBeginEnd_23922 3 = .ok (.getstatic 1053, 3) := by decide +kernel
theorem dJ0_checkBoundsBeginEnd_23922_6 : decode cJ0_checkBoundsBeginEnd_23922 6 = .ok (.invokestatic 1062, 3) := by decide +kernel
theorem dJ0_checkBoundsBeginEnd_23922_9 : decode cJ0_checkBoundsBeginEnd_23922 9 = .ok (.pop, 1) := by decide +kernel
theorem dJ0_checkBoundsBeginEnd_23922_10 : decode cJ0_checkBoundsBeginEnd_23922 10 = .ok (.return_, 1) := by decide +kernel
theorem dJ1_charAt_3b067_0 : decode cJ1_charAt_3b067 0 = .ok (.iload_n 1, 1) := by decide +kernel
theorem dJ1_charAt_3b067_1 : decode cJ1_charAt_3b067 1 = .ok (.aload_n 0, 1) := by decide +kernel
theorem dJ1_charAt_3b067_2 : decode cJ1_charAt_3b067 2 = .ok (.arraylength, 1) := by decide +kernel
theorem dJ1_charAt_3b067_3 : decode cJ1_charAt_3b067 3 = .ok (.invokestatic 9, 3) := by decide +kernel
theorem dJ1_charAt_3b067_6 : decode cJ1_charAt_3b067 6 = .ok (.aload_n 0, 1) := by decide +kernel
theorem dJ1_charAt_3b067_7 : decode cJ1_charAt_3b067 7 = .ok (.iload_n 1, 1) := by decide +kernel
theorem dJ1_charAt_3b067_8 : decode cJ1_charAt_3b067 8 = .ok (.baload, 1) := by decide +kernel
theorem dJ1_charAt_3b067_9 : decode cJ1_charAt_3b067 9 = .ok (.sipush 255, 3) := by decide +kernel
theorem dJ1_charAt_3b067_12 : decode cJ1_charAt_3b067 12 = .ok (.iand, 1) := by decide +kernel
theorem dJ1_charAt_3b067_13 : decode cJ1_charAt_3b067 13 = .ok (.i2c, 1) := by decide +kernel
theorem dJ1_charAt_3b067_14 : decode cJ1_charAt_3b067 14 = .ok (.ireturn, 1) := by decide +kernel
theorem dJ1_canEncode_9a6ad_0 : decode cJ1_canEncode_9a6ad 0 = .ok (.iload_n 0, 1) := by decide +kernel
theorem dJ1_canEncode_9a6ad_1 : decode cJ1_canEncode_9a6ad 1 = .ok (.ifCond .lt 14, 3) := by decide +kernel
theorem dJ1_canEncode_9a6ad_4 : decode cJ1_canEncode_9a6ad 4 = .ok (.iload_n 0, 1) := by decide +kernel
theorem dJ1_canEncode_9a6ad_5 : decode cJ1_canEncode_9a6ad 5 = .ok (.sipush 255, 3) := by decide +kernel
theorem dJ1_canEncode_9a6ad_8 : decode cJ1_canEncode_9a6ad 8 = .ok (.if_icmp .gt 7, 3) := by decide +kernel
theorem dJ1_canEncode_9a6ad_11 : decode cJ1_canEncode_9a6ad 11 = .ok (.iconst 1, 1) := by decide +kernel
theorem dJ1_canEncode_9a6ad_12 : decode cJ1_canEncode_9a6ad 12 = .ok (.goto 4, 3) := by decide +kernel
theorem dJ1_canEncode_9a6ad_15 : decode cJ1_canEncode_9a6ad 15 = .ok (.iconst 0, 1) := by decide +kernel
theorem dJ1_canEncode_9a6ad_16 : decode cJ1_canEncode_9a6ad 16 = .ok (.ireturn, 1) := by decide +kernel
theorem dJ1_indexOf_4cfef_0 : decode cJ1_indexOf_4cfef 0 = .ok (.iload_n 1, 1) := by decide +kernel
theorem dJ1_indexOf_4cfef_1 : decode cJ1_indexOf_4cfef 1 = .ok (.invokestatic 88, 3) := by decide +kernel
theorem dJ1_indexOf_4cfef_4 : decode cJ1_indexOf_4cfef 4 = .ok (.ifCond .ne 5, 3) := by decide +kernel
theorem dJ1_indexOf_4cfef_7 : decode cJ1_indexOf_4cfef 7 = .ok (.iconst (-1), 1) := by decide +kernel
theorem dJ1_indexOf_4cfef_8 : decode cJ1_indexOf_4cfef 8 = .ok (.ireturn, 1) := by decide +kernel
theorem dJ1_indexOf_4cfef_9 : decode cJ1_indexOf_4cfef 9 = .ok (.iload_n 2, 1) := by decide +kernel
theorem dJ1_indexOf_4cfef_10 : decode cJ1_indexOf_4cfef 10 = .ok (.iconst 0, 1) := by decide +kernel
theorem dJ1_indexOf_4cfef_11 : decode cJ1_indexOf_4cfef 11 = .ok (.invokestatic 92, 3) := by decide +kernel
theorem dJ1_indexOf_4cfef_14 : decode cJ1_indexOf_4cfef 14 = .ok (.istore_n 2, 1) := by decide +kernel
theorem dJ1_indexOf_4cfef_15 : decode cJ1_indexOf_4cfef 15 = .ok (.iload_n 3, 1) := by decide +kernel
theorem dJ1_indexOf_4cfef_16 : decode cJ1_indexOf_4cfef 16 = .ok (.aload_n 0, 1) := by decide +kernel
theorem dJ1_indexOf_4cfef_17 : decode cJ1_indexOf_4cfef 17 = .ok (.arraylength, 1) := by decide +kernel
theorem dJ1_indexOf_4cfef_18 : decode cJ1_indexOf_4cfef 18 = .ok (.invokestatic 38, 3) := by decide +kernel
theorem dJ1_indexOf_4cfef_21 : decode cJ1_indexOf_4cfef 21 = .ok (.istore_n 3, 1) := by decide +kernel
theorem dJ1_indexOf_4cfef_22 : decode cJ1_indexOf_4cfef 22 = .ok (.iload_n 2, 1) := by decide +kernel
theorem dJ1_indexOf_4cfef_23 : decode cJ1_indexOf_4cfef 23 = .ok (.iload_n 3, 1) := by decide +kernel
theorem dJ1_indexOf_4cfef_24 : decode cJ1_indexOf_4cfef 24 = .ok (.if_icmp .lt 5, 3) := by decide +kernel
theorem dJ1_indexOf_4cfef_27 : decode cJ1_indexOf_4cfef 27 = .ok (.iconst (-1), 1) := by decide +kernel
theorem dJ1_indexOf_4cfef_28 : decode cJ1_indexOf_4cfef 28 = .ok (.ireturn, 1) := by decide +kernel
theorem dJ1_indexOf_4cfef_29 : decode cJ1_indexOf_4cfef 29 = .ok (.aload_n 0, 1) := by decide +kernel
theorem dJ1_indexOf_4cfef_30 : decode cJ1_indexOf_4cfef 30 = .ok (.iload_n 1, 1) := by decide +kernel
theorem dJ1_indexOf_4cfef_31 : decode cJ1_indexOf_4cfef 31 = .ok (.iload_n 2, 1) := by decide +kernel
theorem dJ1_indexOf_4cfef_32 : decode cJ1_indexOf_4cfef 32 = .ok (.iload_n 3, 1) := by decide +kernel
theorem dJ1_indexOf_4cfef_33 : decode cJ1_indexOf_4cfef 33 = .ok (.invokestatic 95, 3) := by decide +kernel
theorem dJ1_indexOf_4cfef_36 : decode cJ1_indexOf_4cfef 36 = .ok (.ireturn, 1) := by decide +kernel
theorem dJ1_indexOfChar_4cfef_0 : decode cJ1_indexOfChar_4cfef 0 = .ok (.iload_n 1, 1) := by decide +kernel
theorem dJ1_indexOfChar_4cfef_1 : decode cJ1_indexOfChar_4cfef 1 = .ok (.i2b, 1) := by decide +kernel
theorem dJ1_indexOfChar_4cfef_2 : decode cJ1_indexOfChar_4cfef 2 = .ok (.istore 4, 2) := by decide +kernel
theorem dJ1_indexOfChar_4cfef_4 : decode cJ1_indexOfChar_4cfef 4 = .ok (.iload_n 2, 1) := by decide +kernel
theorem dJ1_indexOfChar_4cfef_5 : decode cJ1_indexOfChar_4cfef 5 = .ok (.istore 5, 2) := by decide +kernel
theorem dJ1_indexOfChar_4cfef_7 : decode cJ1_indexOfChar_4cfef 7 = .ok (.iload 5, 2) := by decide +kernel
theorem dJ1_indexOfChar_4cfef_9 : decode cJ1_indexOfChar_4cfef 9 = .ok (.iload_n 3, 1) := by decide +kernel
theorem dJ1_indexOfChar_4cfef_10 : decode cJ1_indexOfChar_4cfef 10 = .ok (.if_icmp .ge 21, 3) := by decide +kernel
theorem dJ1_indexOfChar_4cfef_13 : decode cJ1_indexOfChar_4cfef 13 = .ok (.aload_n 0, 1) := by decide +kernel
theorem dJ1_indexOfChar_4cfef_14 : decode cJ1_indexOfChar_4cfef 14 = .ok (.iload 5, 2) := by decide +kernel
theorem dJ1_indexOfChar_4cfef_16 : decode cJ1_indexOfChar_4cfef 16 = .ok (.baload, 1) := by decide +kernel
theorem dJ1_indexOfChar_4cfef_17 : decode cJ1_indexOfChar_4cfef 17 = .ok (.iload 4, 2) := by decide +kernel
theorem dJ1_indexOfChar_4cfef_19 : decode cJ1_indexOfChar_4cfef 19 = .ok (.if_icmp .ne 6, 3) := by decide +kernel
theorem dJ1_indexOfChar_4cfef_22 : decode cJ1_indexOfChar_4cfef 22 = .ok (.iload 5, 2) := by decide +kernel
theorem dJ1_indexOfChar_4cfef_24 : decode cJ1_indexOfChar_4cfef 24 = .ok (.ireturn, 1) := by decide +kernel
theorem dJ1_indexOfChar_4cfef_25 : decode cJ1_indexOfChar_4cfef 25 = .ok (.iinc 5 1, 3) := by decide +kernel
theorem dJ1_indexOfChar_4cfef_28 : decode cJ1_indexOfChar_4cfef 28 = .ok (.goto (-21), 3) := by decide +kernel
theorem dJ1_indexOfChar_4cfef_31 : decode cJ1_indexOfChar_4cfef 31 = .ok (.iconst (-1), 1) := by decide +kernel
theorem dJ1_indexOfChar_4cfef_32 : decode cJ1_indexOfChar_4cfef 32 = .ok (.ireturn, 1) := by decide +kernel
theorem dJ2_getChar_3b067_0 : decode cJ2_getChar_3b067 0 = .ok (.getstatic 44, 3) := by decide +kernel
theorem dJ2_getChar_3b067_3 : decode cJ2_getChar_3b067 3 = .ok (.ifCond .ne 25, 3) := by decide +kernel
theorem dJ2_getChar_3b067_6 : decode cJ2_getChar_3b067 6 = .ok (.iload_n 1, 1) := by decide +kernel
theorem dJ2_getChar_3b067_7 : decode cJ2_getChar_3b067 7 = .ok (.ifCond .lt 11, 3) := by decide +kernel
theorem dJ2_getChar_3b067_10 : decode cJ2_getChar_3b067 10 = .ok (.iload_n 1, 1) := by decide +kernel
theorem dJ2_getChar_3b067_11 : decode cJ2_getChar_3b067 11 = .ok (.aload_n 0, 1) := by decide +kernel
theorem dJ2_getChar_3b067_12 : decode cJ2_getChar_3b067 12 = .ok (.invokestatic 48, 3) := by decide +kernel
theorem dJ2_getChar_3b067_15 : decode cJ2_getChar_3b067 15 = .ok (.if_icmp .lt 13, 3) := by decide +kernel
theorem dJ2_getChar_3b067_18 : decode cJ2_getChar_3b067 18 = .ok (.new 52, 3) := by decide +kernel
theorem dJ2_getChar_3b067_21 : decode cJ2_getChar_3b067 21 = .ok (.dup, 1) := by decide +kernel
theorem dJ2_getChar_3b067_22 : decode cJ2_getChar_3b067 22 = .ok (.ldc 54, 2) := by decide +kernel
theorem dJ2_getChar_3b067_24 : decode cJ2_getChar_3b067 24 = .ok (.invokespecial 56, 3) := by decide +kernel
theorem dJ2_getChar_3b067_27 : decode cJ2_getChar_3b067 27 = .ok (.athrow, 1) := by decide +kernel
theorem dJ2_getChar_3b067_28 : decode cJ2_getChar_3b067 28 = .ok (.iload_n 1, 1) := by decide +kernel
theorem dJ2_getChar_3b067_29 : decode cJ2_getChar_3b067 29 = .ok (.iconst 1, 1) := by decide +kernel
theorem dJ2_getChar_3b067_30 : decode cJ2_getChar_3b067 30 = .ok (.ishl, 1) := by decide +kernel
theorem dJ2_getChar_3b067_31 : decode cJ2_getChar_3b067 31 = .ok (.istore_n 1, 1) := by decide +kernel
theorem dJ2_getChar_3b067_32 : decode cJ2_getChar_3b067 32 = .ok (.aload_n 0, 1) := by decide +kernel
theorem dJ2_getChar_3b067_33 : decode cJ2_getChar_3b067 33 = .ok (.iload_n 1, 1) := by decide +kernel
theorem dJ2_getChar_3b067_34 : decode cJ2_getChar_3b067 34 = .ok (.iinc 1 1, 3) := by decide +kernel
theorem dJ2_getChar_3b067_37 : decode cJ2_getChar_3b067 37 = .ok (.baload, 1) := by decide +kernel
theorem dJ2_getChar_3b067_38 : decode cJ2_getChar_3b067 38 = .ok (.sipush 255, 3) := by decide +kernel
theorem dJ2_getChar_3b067_41 : decode cJ2_getChar_3b067 41 = .ok (.iand, 1) := by decide +kernel
theorem dJ2_getChar_3b067_42 : decode cJ2_getChar_3b067 42 = .ok (.getstatic 59, 3) := by decide +kernel
theorem dJ2_getChar_3b067_45 : decode cJ2_getChar_3b067 45 = .ok (.ishl, 1) := by decide +kernel
theorem dJ2_getChar_3b067_46 : decode cJ2_getChar_3b067 46 = .ok (.aload_n 0, 1) := by decide +kernel
theorem dJ2_getChar_3b067_47 : decode cJ2_getChar_3b067 47 = .ok (.iload_n 1, 1) := by decide +kernel
theorem dJ2_getChar_3b067_48 : decode cJ2_getChar_3b067 48 = .ok (.baload, 1) := by decide +kernel
theorem dJ2_getChar_3b067_49 : decode cJ2_getChar_3b067 49 = .ok (.sipush 255, 3) := by decide +kernel
theorem dJ2_getChar_3b067_52 : decode cJ2_getChar_3b067 52 = .ok (.iand, 1) := by decide +kernel
theorem dJ2_getChar_3b067_53 : decode cJ2_getChar_3b067 53 = .ok (.getstatic 63, 3) := by decide +kernel
theorem dJ2_getChar_3b067_56 : decode cJ2_getChar_3b067 56 = .ok (.ishl, 1) := by decide +kernel
theorem dJ2_getChar_3b067_57 : decode cJ2_getChar_3b067 57 = .ok (.ior, 1) := by decide +kernel
theorem dJ2_getChar_3b067_58 : decode cJ2_getChar_3b067 58 = .ok (.i2c, 1) := by decide +kernel
theorem dJ2_getChar_3b067_59 : decode cJ2_getChar_3b067 59 = .ok (.ireturn, 1) := by decide +kernel
theorem dJ2_length_9d52b_0 : decode cJ2_length_9d52b 0 = .ok (.aload_n 0, 1) := by decide +kernel
theorem dJ2_length_9d52b_1 : decode cJ2_length_9d52b 1 = .ok (.arraylength, 1) := by decide +kernel
theorem dJ2_length_9d52b_2 : decode cJ2_length_9d52b 2 = .ok (.iconst 1, 1) := by decide +kernel
theorem dJ2_length_9d52b_3 : decode cJ2_length_9d52b 3 = .ok (.ishr, 1) := by decide +kernel
theorem dJ2_length_9d52b_4 : decode cJ2_length_9d52b 4 = .ok (.ireturn, 1) := by decide +kernel
theorem dJ2_indexOf_4cfef_0 : decode cJ2_indexOf_4cfef 0 = .ok (.iload_n 2, 1) := by decide +kernel
theorem dJ2_indexOf_4cfef_1 : decode cJ2_indexOf_4cfef 1 = .ok (.iconst 0, 1) := by decide +kernel
theorem dJ2_indexOf_4cfef_2 : decode cJ2_indexOf_4cfef 2 = .ok (.invokestatic 224, 3) := by decide +kernel
theorem dJ2_indexOf_4cfef_5 : decode cJ2_indexOf_4cfef 5 = .ok (.istore_n 2, 1) := by decide +kernel
theorem dJ2_indexOf_4cfef_6 : decode cJ2_indexOf_4cfef 6 = .ok (.iload_n 3, 1) := by decide +kernel
theorem dJ2_indexOf_4cfef_7 : decode cJ2_indexOf_4cfef 7 = .ok (.aload_n 0, 1) := by decide +kernel
theorem dJ2_indexOf_4cfef_8 : decode cJ2_indexOf_4cfef 8 = .ok (.arraylength, 1) := by decide +kernel
theorem dJ2_indexOf_4cfef_9 : decode cJ2_indexOf_4cfef 9 = .ok (.iconst 1, 1) := by decide +kernel
theorem dJ2_indexOf_4cfef_10 : decode cJ2_indexOf_4cfef 10 = .ok (.ishr, 1) := by decide +kernel
theorem dJ2_indexOf_4cfef_11 : decode cJ2_indexOf_4cfef 11 = .ok (.invokestatic 183, 3) := by decide +kernel
theorem dJ2_indexOf_4cfef_14 : decode cJ2_indexOf_4cfef 14 = .ok (.istore_n 3, 1) := by decide +kernel
theorem dJ2_indexOf_4cfef_15 : decode cJ2_indexOf_4cfef 15 = .ok (.iload_n 2, 1) := by decide +kernel
theorem dJ2_indexOf_4cfef_16 : decode cJ2_indexOf_4cfef 16 = .ok (.iload_n 3, 1) := by decide +kernel
theorem dJ2_indexOf_4cfef_17 : decode cJ2_indexOf_4cfef 17 = .ok (.if_icmp .lt 5, 3) := by decide +kernel
theorem dJ2_indexOf_4cfef_20 : decode cJ2_indexOf_4cfef 20 = .ok (.iconst (-1), 1) := by decide +kernel
theorem dJ2_indexOf_4cfef_21 : decode cJ2_indexOf_4cfef 21 = .ok (.ireturn, 1) := by decide +kernel
theorem dJ2_indexOf_4cfef_22 : decode cJ2_indexOf_4cfef 22 = .ok (.iload_n 1, 1) := by decide +kernel
theorem dJ2_indexOf_4cfef_23 : decode cJ2_indexOf_4cfef 23 = .ok (.ldc 227, 2) := by decide +kernel
theorem dJ2_indexOf_4cfef_25 : decode cJ2_indexOf_4cfef 25 = .ok (.if_icmp .ge 11, 3) := by decide +kernel
theorem dJ2_indexOf_4cfef_28 : decode cJ2_indexOf_4cfef 28 = .ok (.aload_n 0, 1) := by decide +kernel
theorem dJ2_indexOf_4cfef_29 : decode cJ2_indexOf_4cfef 29 = .ok (.iload_n 1, 1) := by decide +kernel
theorem dJ2_indexOf_4cfef_30 : decode cJ2_indexOf_4cfef 30 = .ok (.iload_n 2, 1) := by decide +kernel
theorem dJ2_indexOf_4cfef_31 : decode cJ2_indexOf_4cfef 31 = .ok (.iload_n 3, 1) := by decide +kernel
theorem dJ2_indexOf_4cfef_32 : decode cJ2_indexOf_4cfef 32 = .ok (.invokestatic 228, 3) := by decide +kernel
theorem dJ2_indexOf_4cfef_35 : decode cJ2_indexOf_4cfef 35 = .ok (.ireturn, 1) := by decide +kernel
theorem dJ2_indexOf_4cfef_36 : decode cJ2_indexOf_4cfef 36 = .ok (.aload_n 0, 1) := by decide +kernel
theorem dJ2_indexOf_4cfef_37 : decode cJ2_indexOf_4cfef 37 = .ok (.iload_n 1, 1) := by decide +kernel
theorem dJ2_indexOf_4cfef_38 : decode cJ2_indexOf_4cfef 38 = .ok (.iload_n 2, 1) := by decide +kernel
theorem dJ2_indexOf_4cfef_39 : decode cJ2_indexOf_4cfef 39 = .ok (.iload_n 3, 1) := by decide +kernel
theorem dJ2_indexOf_4cfef_40 : decode cJ2_indexOf_4cfef 40 = .ok (.invokestatic 232, 3) := by decide +kernel
theorem dJ2_indexOf_4cfef_43 : decode cJ2_indexOf_4cfef 43 = .ok (.ireturn, 1) := by decide +kernel
theorem dJ2_indexOfChar_4cfef_0 : decode cJ2_indexOfChar_4cfef 0 = .ok (.iload_n 2, 1) := by decide +kernel
theorem dJ2_indexOfChar_4cfef_1 : decode cJ2_indexOfChar_4cfef 1 = .ok (.iload_n 3, 1) := by decide +kernel
theorem dJ2_indexOfChar_4cfef_2 : decode cJ2_indexOfChar_4cfef 2 = .ok (.aload_n 0, 1) := by decide +kernel
theorem dJ2_indexOfChar_4cfef_3 : decode cJ2_indexOfChar_4cfef 3 = .ok (.invokestatic 96, 3) := by decide +kernel
theorem dJ2_indexOfChar_4cfef_6 : decode cJ2_indexOfChar_4cfef 6 = .ok (.aload_n 0, 1) := by decide +kernel
theorem dJ2_indexOfChar_4cfef_7 : decode cJ2_indexOfChar_4cfef 7 = .ok (.iload_n 1, 1) := by decide +kernel
theorem dJ2_indexOfChar_4cfef_8 : decode cJ2_indexOfChar_4cfef 8 = .ok (.iload_n 2, 1) := by decide +kernel
theorem dJ2_indexOfChar_4cfef_9 : decode cJ2_indexOfChar_4cfef 9 = .ok (.iload_n 3, 1) := by decide +kernel
theorem dJ2_indexOfChar_4cfef_10 : decode cJ2_indexOfChar_4cfef 10 = .ok (.invokestatic 244, 3) := by decide +kernel
theorem dJ2_indexOfChar_4cfef_13 : decode cJ2_indexOfChar_4cfef 13 = .ok (.ireturn, 1) := by decide +kernel
theorem dJ2_indexOfCharUnsafe_4cfef_0 : decode cJ2_indexOfCharUnsafe_4cfef 0 = .ok (.iload_n 2, 1) := by decide +kernel
theorem dJ2_indexOfCharUnsafe_4cfef_1 : decode cJ2_indexOfCharUnsafe_4cfef 1 = .ok (.istore 4, 2) := by decide +kernel
theorem dJ2_indexOfCharUnsafe_4cfef_3 : decode cJ2_indexOfCharUnsafe_4cfef 3 = .ok (.iload 4, 2) := by decide +kernel
theorem dJ2_indexOfCharUnsafe_4cfef_5 : decode cJ2_indexOfCharUnsafe_4cfef 5 = .ok (.iload_n 3, 1) := by decide +kernel
theorem dJ2_indexOfCharUnsafe_4cfef_6 : decode cJ2_indexOfCharUnsafe_4cfef 6 = .ok (.if_icmp .ge 22, 3) := by decide +kernel
theorem dJ2_indexOfCharUnsafe_4cfef_9 : decode cJ2_indexOfCharUnsafe_4cfef 9 = .ok (.aload_n 0, 1) := by decide +kernel
theorem dJ2_indexOfCharUnsafe_4cfef_10 : decode cJ2_indexOfCharUnsafe_4cfef 10 = .ok (.iload 4, 2) := by decide +kernel
theorem dJ2_indexOfCharUnsafe_4cfef_12 : decode cJ2_indexOfCharUnsafe_4cfef 12 = .ok (.invokestatic 71, 3) := by decide +kernel
theorem dJ2_indexOfCharUnsafe_4cfef_15 : decode cJ2_indexOfCharUnsafe_4cfef 15 = .ok (.iload_n 1, 1) := by decide +kernel
theorem dJ2_indexOfCharUnsafe_4cfef_16 : decode cJ2_indexOfCharUnsafe_4cfef 16 = .ok (.if_icmp .ne 6, 3) := by decide +kernel
theorem dJ2_indexOfCharUnsafe_4cfef_19 : decode cJ2_indexOfCharUnsafe_4cfef 19 = .ok (.iload 4, 2) := by decide +kernel
theorem dJ2_indexOfCharUnsafe_4cfef_21 : decode cJ2_indexOfCharUnsafe_4cfef 21 = .ok (.ireturn, 1) := by decide +kernel
theorem dJ2_indexOfCharUnsafe_4cfef_22 : decode cJ2_indexOfCharUnsafe_4cfef 22 = .ok (.iinc 4 1, 3) := by decide +kernel
theorem dJ2_indexOfCharUnsafe_4cfef_25 : decode cJ2_indexOfCharUnsafe_4cfef 25 = .ok (.goto (-22), 3) := by decide +kernel
theorem dJ2_indexOfCharUnsafe_4cfef_28 : decode cJ2_indexOfCharUnsafe_4cfef 28 = .ok (.iconst (-1), 1) := by decide +kernel
theorem dJ2_indexOfCharUnsafe_4cfef_29 : decode cJ2_indexOfCharUnsafe_4cfef 29 = .ok (.ireturn, 1) := by decide +kernel
theorem dJ2_indexOfSupplementary_4cfef_0 : decode cJ2_indexOfSupplementary_4cfef 0 = .ok (.iload_n 1, 1) := by decide +kernel
theorem dJ2_indexOfSupplementary_4cfef_1 : decode cJ2_indexOfSupplementary_4cfef 1 = .ok (.invokestatic 164, 3) := by decide +kernel
theorem dJ2_indexOfSupplementary_4cfef_4 : decode cJ2_indexOfSupplementary_4cfef 4 = .ok (.ifCond .eq 65, 3) := by decide +kernel
theorem dJ2_indexOfSupplementary_4cfef_7 : decode cJ2_indexOfSupplementary_4cfef 7 = .ok (.iload_n 1, 1) := by decide +kernel
theorem dJ2_indexOfSupplementary_4cfef_8 : decode cJ2_indexOfSupplementary_4cfef 8 = .ok (.invokestatic 157, 3) := by decide +kernel
theorem dJ2_indexOfSupplementary_4cfef_11 : decode cJ2_indexOfSupplementary_4cfef 11 = .ok (.istore 4, 2) := by decide +kernel
theorem dJ2_indexOfSupplementary_4cfef_13 : decode cJ2_indexOfSupplementary_4cfef 13 = .ok (.iload_n 1, 1) := by decide +kernel
theorem dJ2_indexOfSupplementary_4cfef_14 : decode cJ2_indexOfSupplementary_4cfef 14 = .ok (.invokestatic 161, 3) := by decide +kernel
theorem dJ2_indexOfSupplementary_4cfef_17 : decode cJ2_indexOfSupplementary_4cfef 17 = .ok (.istore 5, 2) := by decide +kernel
theorem dJ2_indexOfSupplementary_4cfef_19 : decode cJ2_indexOfSupplementary_4cfef 19 = .ok (.iload_n 2, 1) := by decide +kernel
theorem dJ2_indexOfSupplementary_4cfef_20 : decode cJ2_indexOfSupplementary_4cfef 20 = .ok (.iload_n 3, 1) := by decide +kernel
theorem dJ2_indexOfSupplementary_4cfef_21 : decode cJ2_indexOfSupplementary_4cfef 21 = .ok (.aload_n 0, 1) := by decide +kernel
theorem dJ2_indexOfSupplementary_4cfef_22 : decode cJ2_indexOfSupplementary_4cfef 22 = .ok (.invokestatic 96, 3) := by decide +kernel
theorem dJ2_indexOfSupplementary_4cfef_25 : decode cJ2_indexOfSupplementary_4cfef 25 = .ok (.iload_n 2, 1) := by decide +kernel
theorem dJ2_indexOfSupplementary_4cfef_26 : decode cJ2_indexOfSupplementary_4cfef 26 = .ok (.istore 6, 2) := by decide +kernel
theorem dJ2_indexOfSupplementary_4cfef_28 : decode cJ2_indexOfSupplementary_4cfef 28 = .ok (.iload 6, 2) := by decide +kernel
theorem dJ2_indexOfSupplementary_4cfef_30 : decode cJ2_indexOfSupplementary_4cfef 30 = .ok (.iload_n 3, 1) := by decide +kernel
theorem dJ2_indexOfSupplementary_4cfef_31 : decode cJ2_indexOfSupplementary_4cfef 31 = .ok (.iconst 1, 1) := by decide +kernel
theorem dJ2_indexOfSupplementary_4cfef_32 : decode cJ2_indexOfSupplementary_4cfef 32 = .ok (.isub, 1) := by decide +kernel
theorem dJ2_indexOfSupplementary_4cfef_33 : decode cJ2_indexOfSupplementary_4cfef 33 = .ok (.if_icmp .ge 36, 3) := by decide +kernel
theorem dJ2_indexOfSupplementary_4cfef_36 : decode cJ2_indexOfSupplementary_4cfef 36 = .ok (.aload_n 0, 1) := by decide +kernel
theorem dJ2_indexOfSupplementary_4cfef_37 : decode cJ2_indexOfSupplementary_4cfef 37 = .ok (.iload 6, 2) := by decide +kernel
theorem dJ2_indexOfSupplementary_4cfef_39 : decode cJ2_indexOfSupplementary_4cfef 39 = .ok (.invokestatic 71, 3) := by decide +kernel
theorem dJ2_indexOfSupplementary_4cfef_42 : decode cJ2_indexOfSupplementary_4cfef 42 = .ok (.iload 4, 2) := by decide +kernel
theorem dJ2_indexOfSupplementary_4cfef_44 : decode cJ2_indexOfSupplementary_4cfef 44 = .ok (.if_icmp .ne 19, 3) := by decide +kernel
theorem dJ2_indexOfSupplementary_4cfef_47 : decode cJ2_indexOfSupplementary_4cfef 47 = .ok (.aload_n 0, 1) := by decide +kernel
theorem dJ2_indexOfSupplementary_4cfef_48 : decode cJ2_indexOfSupplementary_4cfef 48 = .ok (.iload 6, 2) := by decide +kernel
theorem dJ2_indexOfSupplementary_4cfef_50 : decode cJ2_indexOfSupplementary_4cfef 50 = .ok (.iconst 1, 1) := by decide +kernel
theorem dJ2_indexOfSupplementary_4cfef_51 : decode cJ2_indexOfSupplementary_4cfef 51 = .ok (.iadd, 1) := by decide +kernel
theorem dJ2_indexOfSupplementary_4cfef_52 : decode cJ2_indexOfSupplementary_4cfef 52 = .ok (.invokestatic 71, 3) := by decide +kernel
theorem dJ2_indexOfSupplementary_4cfef_55 : decode cJ2_indexOfSupplementary_4cfef 55 = .ok (.iload 5, 2) := by decide +kernel
theorem dJ2_indexOfSupplementary_4cfef_57 : decode cJ2_indexOfSupplementary_4cfef 57 = .ok (.if_icmp .ne 6, 3) := by decide +kernel
theorem dJ2_indexOfSupplementary_4cfef_60 : decode cJ2_indexOfSupplementary_4cfef 60 = .ok (.iload 6, 2) := by decide +kernel
theorem dJ2_indexOfSupplementary_4cfef_62 : decode cJ2_indexOfSupplementary_4cfef 62 = .ok (.ireturn, 1) := by decide +kernel
theorem dJ2_indexOfSupplementary_4cfef_63 : decode cJ2_indexOfSupplementary_4cfef 63 = .ok (.iinc 6 1, 3) := by decide +kernel
theorem dJ2_indexOfSupplementary_4cfef_66 : decode cJ2_indexOfSupplementary_4cfef 66 = .ok (.goto (-38), 3) := by decide +kernel
theorem dJ2_indexOfSupplementary_4cfef_69 : decode cJ2_indexOfSupplementary_4cfef 69 = .ok (.iconst (-1), 1) := by decide +kernel
theorem dJ2_indexOfSupplementary_4cfef_70 : decode cJ2_indexOfSupplementary_4cfef 70 = .ok (.ireturn, 1) := by decide +kernel
theorem dJ2_charAt_3b067_0 : decode cJ2_charAt_3b067 0 = .ok (.iload_n 1, 1) := by decide +kernel
theorem dJ2_charAt_3b067_1 : decode cJ2_charAt_3b067 1 = .ok (.aload_n 0, 1) := by decide +kernel
theorem dJ2_charAt_3b067_2 : decode cJ2_charAt_3b067 2 = .ok (.invokestatic 67, 3) := by decide +kernel
theorem dJ2_charAt_3b067_5 : decode cJ2_charAt_3b067 5 = .ok (.aload_n 0, 1) := by decide +kernel
theorem dJ2_charAt_3b067_6 : decode cJ2_charAt_3b067 6 = .ok (.iload_n 1, 1) := by decide +kernel
theorem dJ2_charAt_3b067_7 : decode cJ2_charAt_3b067 7 = .ok (.invokestatic 71, 3) := by decide +kernel
theorem dJ2_charAt_3b067_10 : decode cJ2_charAt_3b067 10 = .ok (.ireturn, 1) := by decide +kernel
theorem dJ2_checkIndex_2214a_0 : decode cJ2_checkIndex_2214a 0 = .ok (.iload_n 0, 1) := by decide +kernel
theorem dJ2_checkIndex_2214a_1 : decode cJ2_checkIndex_2214a 1 = .ok (.aload_n 1, 1) := by decide +kernel
theorem dJ2_checkIndex_2214a_2 : decode cJ2_checkIndex_2214a 2 = .ok (.invokestatic 48, 3) := by decide +kernel
theorem dJ2_checkIndex_2214a_5 : decode cJ2_checkIndex_2214a 5 = .ok (.invokestatic 414, 3) := by decide +kernel
theorem dJ2_checkIndex_2214a_8 : decode cJ2_checkIndex_2214a 8 = .ok (.return_, 1) := by decide +kernel
theorem dJ2_checkBoundsBeginEnd_d044e_0 : decode cJ2_checkBoundsBeginEnd_d044e 0 = .ok (.iload_n 0, 1) := by decide +kernel
theorem dJ2_checkBoundsBeginEnd_d044e_1 : decode cJ2_checkBoundsBeginEnd_d044e 1 = .ok (.iload_n 1, 1) := by decide +kernel
theorem dJ2_checkBoundsBeginEnd_d044e_2 : decode cJ2_checkBoundsBeginEnd_d044e 2 = .ok (.aload_n 2, 1) := by decide +kernel
theorem dJ2_checkBoundsBeginEnd_d044e_3 : decode cJ2_checkBoundsBeginEnd_d044e 3 = .ok (.invokestatic 48, 3) := by decide +kernel
theorem dJ2_checkBoundsBeginEnd_d044e_6 : decode cJ2_checkBoundsBeginEnd_d044e 6 = .ok (.invokestatic 241, 3) := by decide +kernel
theorem dJ2_checkBoundsBeginEnd_d044e_9 : decode cJ2_checkBoundsBeginEnd_d044e 9 = .ok (.return_, 1) := by decide +kernel
theorem dJ7_fill_d0a16_0 : decode cJ7_fill_d0a16 0 = .ok (.iconst 0, 1) := by decide +kernel
theorem dJ7_fill_d0a16_1 : decode cJ7_fill_d0a16 1 = .ok (.istore_n 3, 1) := by decide +kernel
theorem dJ7_fill_d0a16_2 : decode cJ7_fill_d0a16 2 = .ok (.aload_n 0, 1) := by decide +kernel
theorem dJ7_fill_d0a16_3 : decode cJ7_fill_d0a16 3 = .ok (.arraylength, 1) := by decide +kernel
theorem dJ7_fill_d0a16_4 : decode cJ7_fill_d0a16 4 = .ok (.istore 4, 2) := by decide +kernel
theorem dJ7_fill_d0a16_6 : decode cJ7_fill_d0a16 6 = .ok (.iload_n 3, 1) := by decide +kernel
theorem dJ7_fill_d0a16_7 : decode cJ7_fill_d0a16 7 = .ok (.iload 4, 2) := by decide +kernel
theorem dJ7_fill_d0a16_9 : decode cJ7_fill_d0a16 9 = .ok (.if_icmp .ge 13, 3) := by decide +kernel
theorem dJ7_fill_d0a16_12 : decode cJ7_fill_d0a16 12 = .ok (.aload_n 0, 1) := by decide +kernel
theorem dJ7_fill_d0a16_13 : decode cJ7_fill_d0a16 13 = .ok (.iload_n 3, 1) := by decide +kernel
theorem dJ7_fill_d0a16_14 : decode cJ7_fill_d0a16 14 = .ok (.lload_n 1, 1) := by decide +kernel
theorem dJ7_fill_d0a16_15 : decode cJ7_fill_d0a16 15 = .ok (.lastore, 1) := by decide +kernel
theorem dJ7_fill_d0a16_16 : decode cJ7_fill_d0a16 16 = .ok (.iinc 3 1, 3) := by decide +kernel
theorem dJ7_fill_d0a16_19 : decode cJ7_fill_d0a16 19 = .ok (.goto (-13), 3) := by decide +kernel
theorem dJ7_fill_d0a16_22 : decode cJ7_fill_d0a16 22 = .ok (.return_, 1) := by decide +kernel
theorem dJ7_fill_53178_0 : decode cJ7_fill_53178 0 = .ok (.iconst 0, 1) := by decide +kernel
theorem dJ7_fill_53178_1 : decode cJ7_fill_53178 1 = .ok (.istore_n 2, 1) := by decide +kernel
theorem dJ7_fill_53178_2 : decode cJ7_fill_53178 2 = .ok (.aload_n 0, 1) := by decide +kernel
theorem dJ7_fill_53178_3 : decode cJ7_fill_53178 3 = .ok (.arraylength, 1) := by decide +kernel
theorem dJ7_fill_53178_4 : decode cJ7_fill_53178 4 = .ok (.istore_n 3, 1) := by decide +kernel
theorem dJ7_fill_53178_5 : decode cJ7_fill_53178 5 = .ok (.iload_n 2, 1) := by decide +kernel
theorem dJ7_fill_53178_6 : decode cJ7_fill_53178 6 = .ok (.iload_n 3, 1) := by decide +kernel
theorem dJ7_fill_53178_7 : decode cJ7_fill_53178 7 = .ok (.if_icmp .ge 13, 3) := by decide +kernel
theorem dJ7_fill_53178_10 : decode cJ7_fill_53178 10 = .ok (.aload_n 0, 1) := by decide +kernel
theorem dJ7_fill_53178_11 : decode cJ7_fill_53178 11 = .ok (.iload_n 2, 1) := by decide +kernel
theorem dJ7_fill_53178_12 : decode cJ7_fill_53178 12 = .ok (.iload_n 1, 1) := by decide +kernel
theorem dJ7_fill_53178_13 : decode cJ7_fill_53178 13 = .ok (.iastore, 1) := by decide +kernel
theorem dJ7_fill_53178_14 : decode cJ7_fill_53178 14 = .ok (.iinc 2 1, 3) := by decide +kernel
theorem dJ7_fill_53178_17 : decode cJ7_fill_53178 17 = .ok (.goto (-12), 3) := by decide +kernel
theorem dJ7_fill_53178_20 : decode cJ7_fill_53178 20 = .ok (.return_, 1) := by decide +kernel
theorem dJ3_checkIndex_8e157_0 : decode cJ3_checkIndex_8e157 0 = .ok (.iload_n 0, 1) := by decide +kernel
theorem dJ3_checkIndex_8e157_1 : decode cJ3_checkIndex_8e157 1 = .ok (.ifCond .lt 8, 3) := by decide +kernel
theorem dJ3_checkIndex_8e157_4 : decode cJ3_checkIndex_8e157 4 = .ok (.iload_n 0, 1) := by decide +kernel
theorem dJ3_checkIndex_8e157_5 : decode cJ3_checkIndex_8e157 5 = .ok (.iload_n 1, 1) := by decide +kernel
theorem dJ3_checkIndex_8e157_6 : decode cJ3_checkIndex_8e157 6 = .ok (.if_icmp .lt 10, 3) := by decide +kernel
theorem dJ3_checkIndex_8e157_9 : decode cJ3_checkIndex_8e157 9 = .ok (.aload_n 2, 1) := by decide +kernel
theorem dJ3_checkIndex_8e157_10 : decode cJ3_checkIndex_8e157 10 = .ok (.iload_n 0, 1) := by decide +kernel
theorem dJ3_checkIndex_8e157_11 : decode cJ3_checkIndex_8e157 11 = .ok (.iload_n 1, 1) := by decide +kernel
theorem dJ3_checkIndex_8e157_12 : decode cJ3_checkIndex_8e157 12 = .ok (.invokestatic 95, 3) := by decide +kernel
theorem dJ3_checkIndex_8e157_15 : decode cJ3_checkIndex_8e157 15 = .ok (.athrow, 1) := by decide +kernel
theorem dJ3_checkIndex_8e157_16 : decode cJ3_checkIndex_8e157 16 = .ok (.iload_n 0, 1) := by decide +kernel
theorem dJ3_checkIndex_8e157_17 : decode cJ3_checkIndex_8e157 17 = .ok (.ireturn, 1) := by decide +kernel
theorem dJ3_checkFromToIndex_8c36e_0 : decode cJ3_checkFromToIndex_8c36e 0 = .ok (.iload_n 0, 1) := by decide +kernel
theorem dJ3_checkFromToIndex_8c36e_1 : decode cJ3_checkFromToIndex_8c36e 1 = .ok (.ifCond .lt 13, 3) := by decide +kernel
theorem dJ3_checkFromToIndex_8c36e_4 : decode cJ3_checkFromToIndex_8c36e 4 = .ok (.iload_n 0, 1) := by decide +kernel
theorem dJ3_checkFromToIndex_8c36e_5 : decode cJ3_checkFromToIndex_8c36e 5 = .ok (.iload_n 1, 1) := by decide +kernel
theorem dJ3_checkFromToIndex_8c36e_6 : decode cJ3_checkFromToIndex_8c36e 6 = .ok (.if_icmp .gt 8, 3) := by decide +kernel
theorem dJ3_checkFromToIndex_8c36e_9 : decode cJ3_checkFromToIndex_8c36e 9 = .ok (.iload_n 1, 1) := by decide +kernel
theorem dJ3_checkFromToIndex_8c36e_10 : decode cJ3_checkFromToIndex_8c36e 10 = .ok (.iload_n 2, 1) := by decide +kernel
theorem dJ3_checkFromToIndex_8c36e_11 : decode cJ3_checkFromToIndex_8c36e 11 = .ok (.if_icmp .le 11, 3) := by decide +kernel
theorem dJ3_checkFromToIndex_8c36e_14 : decode cJ3_checkFromToIndex_8c36e 14 = .ok (.aload_n 3, 1) := by decide +kernel
theorem dJ3_checkFromToIndex_8c36e_15 : decode cJ3_checkFromToIndex_8c36e 15 = .ok (.iload_n 0, 1) := by decide +kernel
theorem dJ3_checkFromToIndex_8c36e_16 : decode cJ3_checkFromToIndex_8c36e 16 = .ok (.iload_n 1, 1) := by decide +kernel
theorem dJ3_checkFromToIndex_8c36e_17 : decode cJ3_checkFromToIndex_8c36e 17 = .ok (.iload_n 2, 1) := by decide +kernel
theorem dJ3_checkFromToIndex_8c36e_18 : decode cJ3_checkFromToIndex_8c36e 18 = .ok (.invokestatic 99, 3) := by decide +kernel
theorem dJ3_checkFromToIndex_8c36e_21 : decode cJ3_checkFromToIndex_8c36e 21 = .ok (.athrow, 1) := by decide +kernel
theorem dJ3_checkFromToIndex_8c36e_22 : decode cJ3_checkFromToIndex_8c36e 22 = .ok (.iload_n 0, 1) := by decide +kernel
theorem dJ3_checkFromToIndex_8c36e_23 : decode cJ3_checkFromToIndex_8c36e 23 = .ok (.ireturn, 1) := by decide +kernel
theorem dL_law_0 : decode cL_law 0 = .ok (.new 7, 3) := by decide +kernel
theorem dL_law_3 : decode cL_law 3 = .ok (.dup, 1) := by decide +kernel
theorem dL_law_4 : decode cL_law 4 = .ok (.invokespecial 9, 3) := by decide +kernel
theorem dL_law_7 : decode cL_law 7 = .ok (.astore_n 1, 1) := by decide +kernel
theorem dL_law_8 : decode cL_law 8 = .ok (.new 10, 3) := by decide +kernel
theorem dL_law_11 : decode cL_law 11 = .ok (.dup, 1) := by decide +kernel
theorem dL_law_12 : decode cL_law 12 = .ok (.invokespecial 12, 3) := by decide +kernel
theorem dL_law_15 : decode cL_law 15 = .ok (.astore_n 2, 1) := by decide +kernel
theorem dL_law_16 : decode cL_law 16 = .ok (.iconst 0, 1) := by decide +kernel
theorem dL_law_17 : decode cL_law 17 = .ok (.istore_n 3, 1) := by decide +kernel
theorem dL_law_18 : decode cL_law 18 = .ok (.iload_n 3, 1) := by decide +kernel
theorem dL_law_19 : decode cL_law 19 = .ok (.aload_n 0, 1) := by decide +kernel
theorem dL_law_20 : decode cL_law 20 = .ok (.arraylength, 1) := by decide +kernel
theorem dL_law_21 : decode cL_law 21 = .ok (.bipush 7, 2) := by decide +kernel
theorem dL_law_23 : decode cL_law 23 = .ok (.isub, 1) := by decide +kernel
theorem dL_law_24 : decode cL_law 24 = .ok (.if_icmp .gt 1136, 3) := by decide +kernel
theorem dL_law_27 : decode cL_law 27 = .ok (.aload_n 0, 1) := by decide +kernel
theorem dL_law_28 : decode cL_law 28 = .ok (.iload_n 3, 1) := by decide +kernel
theorem dL_law_29 : decode cL_law 29 = .ok (.iaload, 1) := by decide +kernel
theorem dL_law_30 : decode cL_law 30 = .ok (.bipush 63, 2) := by decide +kernel
theorem dL_law_32 : decode cL_law 32 = .ok (.iand, 1) := by decide +kernel
theorem dL_law_33 : decode cL_law 33 = .ok (.tableswitch 1121 0 32 #[147, 222, 255, 298, 341, 364, 397, 420, 433, 456, 479, 492, 515, 538, 551, 564, 587, 600, 613, 647, 681, 714, 727, 760, 773, 786, 829, 852, 885, 908, 951, 1024, 1058], 147) := by decide +kernel
theorem dL_law_180 : decode cL_law 180 = .ok (.aload_n 1, 1) := by decide +kernel
theorem dL_law_181 : decode cL_law 181 = .ok (.aload_n 0, 1) := by decide +kernel
theorem dL_law_182 : decode cL_law 182 = .ok (.iload_n 3, 1) := by decide +kernel
theorem dL_law_183 : decode cL_law 183 = .ok (.iconst 1, 1) := by decide +kernel
theorem dL_law_184 : decode cL_law 184 = .ok (.iadd, 1) := by decide +kernel
theorem dL_law_185 : decode cL_law 185 = .ok (.iaload, 1) := by decide +kernel
theorem dL_law_186 : decode cL_law 186 = .ok (.aload_n 0, 1) := by decide +kernel
theorem dL_law_187 : decode cL_law 187 = .ok (.iload_n 3, 1) := by decide +kernel
theorem dL_law_188 : decode cL_law 188 = .ok (.iconst 2, 1) := by decide +kernel
theorem dL_law_189 : decode cL_law 189 = .ok (.iadd, 1) := by decide +kernel
theorem dL_law_190 : decode cL_law 190 = .ok (.iaload, 1) := by decide +kernel
theorem dL_law_191 : decode cL_law 191 = .ok (.aload_n 0, 1) := by decide +kernel
theorem dL_law_192 : decode cL_law 192 = .ok (.iload_n 3, 1) := by decide +kernel
theorem dL_law_193 : decode cL_law 193 = .ok (.iconst 3, 1) := by decide +kernel
theorem dL_law_194 : decode cL_law 194 = .ok (.iadd, 1) := by decide +kernel
theorem dL_law_195 : decode cL_law 195 = .ok (.iaload, 1) := by decide +kernel
theorem dL_law_196 : decode cL_law 196 = .ok (.aload_n 0, 1) := by decide +kernel
theorem dL_law_197 : decode cL_law 197 = .ok (.iload_n 3, 1) := by decide +kernel
theorem dL_law_198 : decode cL_law 198 = .ok (.iconst 4, 1) := by decide +kernel
theorem dL_law_199 : decode cL_law 199 = .ok (.iadd, 1) := by decide +kernel
theorem dL_law_200 : decode cL_law 200 = .ok (.iaload, 1) := by decide +kernel
theorem dL_law_201 : decode cL_law 201 = .ok (.aload_n 0, 1) := by decide +kernel
theorem dL_law_202 : decode cL_law 202 = .ok (.iload_n 3, 1) := by decide +kernel
theorem dL_law_203 : decode cL_law 203 = .ok (.iconst 5, 1) := by decide +kernel
theorem dL_law_204 : decode cL_law 204 = .ok (.iadd, 1) := by decide +kernel
theorem dL_law_205 : decode cL_law 205 = .ok (.iaload, 1) := by decide +kernel
theorem dL_law_206 : decode cL_law 206 = .ok (.aload_n 0, 1) := by decide +kernel
theorem dL_law_207 : decode cL_law 207 = .ok (.iload_n 3, 1) := by decide +kernel
theorem dL_law_208 : decode cL_law 208 = .ok (.bipush 6, 2) := by decide +kernel
theorem dL_law_210 : decode cL_law 210 = .ok (.iadd, 1) := by decide +kernel
theorem dL_law_211 : decode cL_law 211 = .ok (.iaload, 1) := by decide +kernel
theorem dL_law_212 : decode cL_law 212 = .ok (.invokevirtual 13, 3) := by decide +kernel
theorem dL_law_215 : decode cL_law 215 = .ok (.aload_n 2, 1) := by decide +kernel
theorem dL_law_216 : decode cL_law 216 = .ok (.aload_n 0, 1) := by decide +kernel
theorem dL_law_217 : decode cL_law 217 = .ok (.iload_n 3, 1) := by decide +kernel
theorem dL_law_218 : decode cL_law 218 = .ok (.iconst 1, 1) := by decide +kernel
theorem dL_law_219 : decode cL_law 219 = .ok (.iadd, 1) := by decide +kernel
theorem dL_law_220 : decode cL_law 220 = .ok (.iaload, 1) := by decide +kernel
theorem dL_law_221 : decode cL_law 221 = .ok (.aload_n 0, 1) := by decide +kernel
theorem dL_law_222 : decode cL_law 222 = .ok (.iload_n 3, 1) := by decide +kernel
theorem dL_law_223 : decode cL_law 223 = .ok (.iconst 2, 1) := by decide +kernel
theorem dL_law_224 : decode cL_law 224 = .ok (.iadd, 1) := by decide +kernel
theorem dL_law_225 : decode cL_law 225 = .ok (.iaload, 1) := by decide +kernel
theorem dL_law_226 : decode cL_law 226 = .ok (.aload_n 0, 1) := by decide +kernel
theorem dL_law_227 : decode cL_law 227 = .ok (.iload_n 3, 1) := by decide +kernel
theorem dL_law_228 : decode cL_law 228 = .ok (.iconst 3, 1) := by decide +kernel
theorem dL_law_229 : decode cL_law 229 = .ok (.iadd, 1) := by decide +kernel
theorem dL_law_230 : decode cL_law 230 = .ok (.iaload, 1) := by decide +kernel
theorem dL_law_231 : decode cL_law 231 = .ok (.aload_n 0, 1) := by decide +kernel
theorem dL_law_232 : decode cL_law 232 = .ok (.iload_n 3, 1) := by decide +kernel
theorem dL_law_233 : decode cL_law 233 = .ok (.iconst 4, 1) := by decide +kernel
theorem dL_law_234 : decode cL_law 234 = .ok (.iadd, 1) := by decide +kernel
theorem dL_law_235 : decode cL_law 235 = .ok (.iaload, 1) := by decide +kernel
theorem dL_law_236 : decode cL_law 236 = .ok (.aload_n 0, 1) := by decide +kernel
theorem dL_law_237 : decode cL_law 237 = .ok (.iload_n 3, 1) := by decide +kernel
theorem dL_law_238 : decode cL_law 238 = .ok (.iconst 5, 1) := by decide +kernel
theorem dL_law_239 : decode cL_law 239 = .ok (.iadd, 1) := by decide +kernel
theorem dL_law_240 : decode cL_law 240 = .ok (.iaload, 1) := by decide +kernel
theorem dL_law_241 : decode cL_law 241 = .ok (.aload_n 0, 1) := by decide +kernel
theorem dL_law_242 : decode cL_law 242 = .ok (.iload_n 3, 1) := by decide +kernel
theorem dL_law_243 : decode cL_law 243 = .ok (.bipush 6, 2) := by decide +kernel
theorem dL_law_245 : decode cL_law 245 = .ok (.iadd, 1) := by decide +kernel
theorem dL_law_246 : decode cL_law 246 = .ok (.iaload, 1) := by decide +kernel
theorem dL_law_247 : decode cL_law 247 = .ok (.invokevirtual 17, 3) := by decide +kernel
theorem dL_law_250 : decode cL_law 250 = .ok (.if_icmp .eq 904, 3) := by decide +kernel
theorem dL_law_253 : decode cL_law 253 = .ok (.iconst 0, 1) := by decide +kernel
theorem dL_law_254 : decode cL_law 254 = .ok (.ireturn, 1) := by decide +kernel
theorem dL_law_255 : decode cL_law 255 = .ok (.aload_n 1, 1) := by decide +kernel
theorem dL_law_256 : decode cL_law 256 = .ok (.aload_n 0, 1) := by decide +kernel
theorem dL_law_257 : decode cL_law 257 = .ok (.iload_n 3, 1) := by decide +kernel
theorem dL_law_258 : decode cL_law 258 = .ok (.iconst 1, 1) := by decide +kernel
theorem dL_law_259 : decode cL_law 259 = .ok (.iadd, 1) := by decide +kernel
theorem dL_law_260 : decode cL_law 260 = .ok (.iaload, 1) := by decide +kernel
theorem dL_law_261 : decode cL_law 261 = .ok (.aload_n 0, 1) := by decide +kernel
theorem dL_law_262 : decode cL_law 262 = .ok (.iload_n 3, 1) := by decide +kernel
theorem dL_law_263 : decode cL_law 263 = .ok (.iconst 2, 1) := by decide +kernel
theorem dL_law_264 : decode cL_law 264 = .ok (.iadd, 1) := by decide +kernel
end
section
theorem dL_law_265 : decode cL_law 265 = .ok (.iaload, 1) := by decide +kernel
theorem dL_law_266 : decode cL_law 266 = .ok (.invokevirtual 18, 3) := by decide +kernel
theorem dL_law_269 : decode cL_law 269 = .ok (.aload_n 2, 1) := by decide +kernel
theorem dL_law_270 : decode cL_law 270 = .ok (.aload_n 0, 1) := by decide +kernel
theorem dL_law_271 : decode cL_law 271 = .ok (.iload_n 3, 1) := by decide +kernel
theorem dL_law_272 : decode cL_law 272 = .ok (.iconst 1, 1) := by decide +kernel
theorem dL_law_273 : decode cL_law 273 = .ok (.iadd, 1) := by decide +kernel
theorem dL_law_274 : decode cL_law 274 = .ok (.iaload, 1) := by decide +kernel
theorem dL_law_275 : decode cL_law 275 = .ok (.aload_n 0, 1) := by decide +kernel
theorem dL_law_276 : decode cL_law 276 = .ok (.iload_n 3, 1) := by decide +kernel
theorem dL_law_277 : decode cL_law 277 = .ok (.iconst 2, 1) := by decide +kernel
theorem dL_law_278 : decode cL_law 278 = .ok (.iadd, 1) := by decide +kernel
theorem dL_law_279 : decode cL_law 279 = .ok (.iaload, 1) := by decide +kernel
theorem dL_law_280 : decode cL_law 280 = .ok (.invokevirtual 22, 3) := by decide +kernel
theorem dL_law_283 : decode cL_law 283 = .ok (.if_icmp .eq 871, 3) := by decide +kernel
theorem dL_law_286 : decode cL_law 286 = .ok (.iconst 0, 1) := by decide +kernel
theorem dL_law_287 : decode cL_law 287 = .ok (.ireturn, 1) := by decide +kernel
theorem dL_law_288 : decode cL_law 288 = .ok (.aload_n 1, 1) := by decide +kernel
theorem dL_law_289 : decode cL_law 289 = .ok (.aload_n 0, 1) := by decide +kernel
theorem dL_law_290 : decode cL_law 290 = .ok (.iload_n 3, 1) := by decide +kernel
theorem dL_law_291 : decode cL_law 291 = .ok (.iconst 1, 1) := by decide +kernel
theorem dL_law_292 : decode cL_law 292 = .ok (.iadd, 1) := by decide +kernel
theorem dL_law_293 : decode cL_law 293 = .ok (.iaload, 1) := by decide +kernel
theorem dL_law_294 : decode cL_law 294 = .ok (.aload_n 0, 1) := by decide +kernel
theorem dL_law_295 : decode cL_law 295 = .ok (.iload_n 3, 1) := by decide +kernel
theorem dL_law_296 : decode cL_law 296 = .ok (.iconst 2, 1) := by decide +kernel
theorem dL_law_297 : decode cL_law 297 = .ok (.iadd, 1) := by decide +kernel
theorem dL_law_298 : decode cL_law 298 = .ok (.iaload, 1) := by decide +kernel
theorem dL_law_299 : decode cL_law 299 = .ok (.aload_n 0, 1) := by decide +kernel
theorem dL_law_300 : decode cL_law 300 = .ok (.iload_n 3, 1) := by decide +kernel
theorem dL_law_301 : decode cL_law 301 = .ok (.iconst 3, 1) := by decide +kernel
theorem dL_law_302 : decode cL_law 302 = .ok (.iadd, 1) := by decide +kernel
theorem dL_law_303 : decode cL_law 303 = .ok (.iaload, 1) := by decide +kernel
theorem dL_law_304 : decode cL_law 304 = .ok (.invokevirtual 23, 3) := by decide +kernel
theorem dL_law_307 : decode cL_law 307 = .ok (.aload_n 2, 1) := by decide +kernel
theorem dL_law_308 : decode cL_law 308 = .ok (.aload_n 0, 1) := by decide +kernel
theorem dL_law_309 : decode cL_law 309 = .ok (.iload_n 3, 1) := by decide +kernel
theorem dL_law_310 : decode cL_law 310 = .ok (.iconst 1, 1) := by decide +kernel
theorem dL_law_311 : decode cL_law 311 = .ok (.iadd, 1) := by decide +kernel
theorem dL_law_312 : decode cL_law 312 = .ok (.iaload, 1) := by decide +kernel
theorem dL_law_313 : decode cL_law 313 = .ok (.aload_n 0, 1) := by decide +kernel
theorem dL_law_314 : decode cL_law 314 = .ok (.iload_n 3, 1) := by decide +kernel
theorem dL_law_315 : decode cL_law 315 = .ok (.iconst 2, 1) := by decide +kernel
theorem dL_law_316 : decode cL_law 316 = .ok (.iadd, 1) := by decide +kernel
theorem dL_law_317 : decode cL_law 317 = .ok (.iaload, 1) := by decide +kernel
theorem dL_law_318 : decode cL_law 318 = .ok (.aload_n 0, 1) := by decide +kernel
theorem dL_law_319 : decode cL_law 319 = .ok (.iload_n 3, 1) := by decide +kernel
theorem dL_law_320 : decode cL_law 320 = .ok (.iconst 3, 1) := by decide +kernel
theorem dL_law_321 : decode cL_law 321 = .ok (.iadd, 1) := by decide +kernel
theorem dL_law_322 : decode cL_law 322 = .ok (.iaload, 1) := by decide +kernel
theorem dL_law_323 : decode cL_law 323 = .ok (.invokevirtual 27, 3) := by decide +kernel
theorem dL_law_326 : decode cL_law 326 = .ok (.if_icmp .eq 828, 3) := by decide +kernel
theorem dL_law_329 : decode cL_law 329 = .ok (.iconst 0, 1) := by decide +kernel
theorem dL_law_330 : decode cL_law 330 = .ok (.ireturn, 1) := by decide +kernel
theorem dL_law_331 : decode cL_law 331 = .ok (.aload_n 1, 1) := by decide +kernel
theorem dL_law_332 : decode cL_law 332 = .ok (.aload_n 0, 1) := by decide +kernel
theorem dL_law_333 : decode cL_law 333 = .ok (.iload_n 3, 1) := by decide +kernel
theorem dL_law_334 : decode cL_law 334 = .ok (.iconst 1, 1) := by decide +kernel
theorem dL_law_335 : decode cL_law 335 = .ok (.iadd, 1) := by decide +kernel
theorem dL_law_336 : decode cL_law 336 = .ok (.iaload, 1) := by decide +kernel
theorem dL_law_337 : decode cL_law 337 = .ok (.aload_n 0, 1) := by decide +kernel
theorem dL_law_338 : decode cL_law 338 = .ok (.iload_n 3, 1) := by decide +kernel
theorem dL_law_339 : decode cL_law 339 = .ok (.iconst 2, 1) := by decide +kernel
theorem dL_law_340 : decode cL_law 340 = .ok (.iadd, 1) := by decide +kernel
theorem dL_law_341 : decode cL_law 341 = .ok (.iaload, 1) := by decide +kernel
theorem dL_law_342 : decode cL_law 342 = .ok (.aload_n 0, 1) := by decide +kernel
theorem dL_law_343 : decode cL_law 343 = .ok (.iload_n 3, 1) := by decide +kernel
theorem dL_law_344 : decode cL_law 344 = .ok (.iconst 3, 1) := by decide +kernel
theorem dL_law_345 : decode cL_law 345 = .ok (.iadd, 1) := by decide +kernel
theorem dL_law_346 : decode cL_law 346 = .ok (.iaload, 1) := by decide +kernel
theorem dL_law_347 : decode cL_law 347 = .ok (.invokevirtual 28, 3) := by decide +kernel
theorem dL_law_350 : decode cL_law 350 = .ok (.aload_n 2, 1) := by decide +kernel
theorem dL_law_351 : decode cL_law 351 = .ok (.aload_n 0, 1) := by decide +kernel
theorem dL_law_352 : decode cL_law 352 = .ok (.iload_n 3, 1) := by decide +kernel
theorem dL_law_353 : decode cL_law 353 = .ok (.iconst 1, 1) := by decide +kernel
theorem dL_law_354 : decode cL_law 354 = .ok (.iadd, 1) := by decide +kernel
theorem dL_law_355 : decode cL_law 355 = .ok (.iaload, 1) := by decide +kernel
theorem dL_law_356 : decode cL_law 356 = .ok (.aload_n 0, 1) := by decide +kernel
theorem dL_law_357 : decode cL_law 357 = .ok (.iload_n 3, 1) := by decide +kernel
theorem dL_law_358 : decode cL_law 358 = .ok (.iconst 2, 1) := by decide +kernel
theorem dL_law_359 : decode cL_law 359 = .ok (.iadd, 1) := by decide +kernel
theorem dL_law_360 : decode cL_law 360 = .ok (.iaload, 1) := by decide +kernel
theorem dL_law_361 : decode cL_law 361 = .ok (.aload_n 0, 1) := by decide +kernel
theorem dL_law_362 : decode cL_law 362 = .ok (.iload_n 3, 1) := by decide +kernel
theorem dL_law_363 : decode cL_law 363 = .ok (.iconst 3, 1) := by decide +kernel
theorem dL_law_364 : decode cL_law 364 = .ok (.iadd, 1) := by decide +kernel
theorem dL_law_365 : decode cL_law 365 = .ok (.iaload, 1) := by decide +kernel
theorem dL_law_366 : decode cL_law 366 = .ok (.invokevirtual 31, 3) := by decide +kernel
theorem dL_law_369 : decode cL_law 369 = .ok (.if_icmp .eq 785, 3) := by decide +kernel
theorem dL_law_372 : decode cL_law 372 = .ok (.iconst 0, 1) := by decide +kernel
theorem dL_law_373 : decode cL_law 373 = .ok (.ireturn, 1) := by decide +kernel
theorem dL_law_374 : decode cL_law 374 = .ok (.aload_n 1, 1) := by decide +kernel
theorem dL_law_375 : decode cL_law 375 = .ok (.aload_n 0, 1) := by decide +kernel
theorem dL_law_376 : decode cL_law 376 = .ok (.iload_n 3, 1) := by decide +kernel
theorem dL_law_377 : decode cL_law 377 = .ok (.iconst 1, 1) := by decide +kernel
theorem dL_law_378 : decode cL_law 378 = .ok (.iadd, 1) := by decide +kernel
theorem dL_law_379 : decode cL_law 379 = .ok (.iaload, 1) := by decide +kernel
theorem dL_law_380 : decode cL_law 380 = .ok (.invokevirtual 32, 3) := by decide +kernel
theorem dL_law_383 : decode cL_law 383 = .ok (.aload_n 2, 1) := by decide +kernel
theorem dL_law_384 : decode cL_law 384 = .ok (.aload_n 0, 1) := by decide +kernel
theorem dL_law_385 : decode cL_law 385 = .ok (.iload_n 3, 1) := by decide +kernel
theorem dL_law_386 : decode cL_law 386 = .ok (.iconst 1, 1) := by decide +kernel
theorem dL_law_387 : decode cL_law 387 = .ok (.iadd, 1) := by decide +kernel
theorem dL_law_388 : decode cL_law 388 = .ok (.iaload, 1) := by decide +kernel
theorem dL_law_389 : decode cL_law 389 = .ok (.invokevirtual 36, 3) := by decide +kernel
theorem dL_law_392 : decode cL_law 392 = .ok (.if_icmp .eq 762, 3) := by decide +kernel
theorem dL_law_395 : decode cL_law 395 = .ok (.iconst 0, 1) := by decide +kernel
theorem dL_law_396 : decode cL_law 396 = .ok (.ireturn, 1) := by decide +kernel
theorem dL_law_397 : decode cL_law 397 = .ok (.aload_n 1, 1) := by decide +kernel
theorem dL_law_398 : decode cL_law 398 = .ok (.aload_n 0, 1) := by decide +kernel
theorem dL_law_399 : decode cL_law 399 = .ok (.iload_n 3, 1) := by decide +kernel
theorem dL_law_400 : decode cL_law 400 = .ok (.iconst 1, 1) := by decide +kernel
theorem dL_law_401 : decode cL_law 401 = .ok (.iadd, 1) := by decide +kernel
theorem dL_law_402 : decode cL_law 402 = .ok (.iaload, 1) := by decide +kernel
theorem dL_law_403 : decode cL_law 403 = .ok (.aload_n 0, 1) := by decide +kernel
theorem dL_law_404 : decode cL_law 404 = .ok (.iload_n 3, 1) := by decide +kernel
theorem dL_law_405 : decode cL_law 405 = .ok (.iconst 2, 1) := by decide +kernel
theorem dL_law_406 : decode cL_law 406 = .ok (.iadd, 1) := by decide +kernel
theorem dL_law_407 : decode cL_law 407 = .ok (.iaload, 1) := by decide +kernel
theorem dL_law_408 : decode cL_law 408 = .ok (.invokevirtual 37, 3) := by decide +kernel
theorem dL_law_411 : decode cL_law 411 = .ok (.aload_n 2, 1) := by decide +kernel
theorem dL_law_412 : decode cL_law 412 = .ok (.aload_n 0, 1) := by decide +kernel
theorem dL_law_413 : decode cL_law 413 = .ok (.iload_n 3, 1) := by decide +kernel
theorem dL_law_414 : decode cL_law 414 = .ok (.iconst 1, 1) := by decide +kernel
theorem dL_law_415 : decode cL_law 415 = .ok (.iadd, 1) := by decide +kernel
theorem dL_law_416 : decode cL_law 416 = .ok (.iaload, 1) := by decide +kernel
theorem dL_law_417 : decode cL_law 417 = .ok (.aload_n 0, 1) := by decide +kernel
theorem dL_law_418 : decode cL_law 418 = .ok (.iload_n 3, 1) := by decide +kernel
theorem dL_law_419 : decode cL_law 419 = .ok (.iconst 2, 1) := by decide +kernel
theorem dL_law_420 : decode cL_law 420 = .ok (.iadd, 1) := by decide +kernel
theorem dL_law_421 : decode cL_law 421 = .ok (.iaload, 1) := by decide +kernel
theorem dL_law_422 : decode cL_law 422 = .ok (.invokevirtual 40, 3) := by decide +kernel
theorem dL_law_425 : decode cL_law 425 = .ok (.if_icmp .eq 729, 3) := by decide +kernel
theorem dL_law_428 : decode cL_law 428 = .ok (.iconst 0, 1) := by decide +kernel
theorem dL_law_429 : decode cL_law 429 = .ok (.ireturn, 1) := by decide +kernel
theorem dL_law_430 : decode cL_law 430 = .ok (.aload_n 1, 1) := by decide +kernel
theorem dL_law_431 : decode cL_law 431 = .ok (.aload_n 0, 1) := by decide +kernel
theorem dL_law_432 : decode cL_law 432 = .ok (.iload_n 3, 1) := by decide +kernel
theorem dL_law_433 : decode cL_law 433 = .ok (.iconst 1, 1) := by decide +kernel
theorem dL_law_434 : decode cL_law 434 = .ok (.iadd, 1) := by decide +kernel
theorem dL_law_435 : decode cL_law 435 = .ok (.iaload, 1) := by decide +kernel
theorem dL_law_436 : decode cL_law 436 = .ok (.invokevirtual 41, 3) := by decide +kernel
theorem dL_law_439 : decode cL_law 439 = .ok (.aload_n 2, 1) := by decide +kernel
theorem dL_law_440 : decode cL_law 440 = .ok (.aload_n 0, 1) := by decide +kernel
theorem dL_law_441 : decode cL_law 441 = .ok (.iload_n 3, 1) := by decide +kernel
theorem dL_law_442 : decode cL_law 442 = .ok (.iconst 1, 1) := by decide +kernel
theorem dL_law_443 : decode cL_law 443 = .ok (.iadd, 1) := by decide +kernel
theorem dL_law_444 : decode cL_law 444 = .ok (.iaload, 1) := by decide +kernel
theorem dL_law_445 : decode cL_law 445 = .ok (.invokevirtual 44, 3) := by decide +kernel
theorem dL_law_448 : decode cL_law 448 = .ok (.if_icmp .eq 706, 3) := by decide +kernel
theorem dL_law_451 : decode cL_law 451 = .ok (.iconst 0, 1) := by decide +kernel
theorem dL_law_452 : decode cL_law 452 = .ok (.ireturn, 1) := by decide +kernel
theorem dL_law_453 : decode cL_law 453 = .ok (.aload_n 1, 1) := by decide +kernel
theorem dL_law_454 : decode cL_law 454 = .ok (.invokevirtual 45, 3) := by decide +kernel
theorem dL_law_457 : decode cL_law 457 = .ok (.aload_n 2, 1) := by decide +kernel
theorem dL_law_458 : decode cL_law 458 = .ok (.invokevirtual 49, 3) := by decide +kernel
theorem dL_law_461 : decode cL_law 461 = .ok (.if_icmp .eq 693, 3) := by decide +kernel
theorem dL_law_464 : decode cL_law 464 = .ok (.iconst 0, 1) := by decide +kernel
theorem dL_law_465 : decode cL_law 465 = .ok (.ireturn, 1) := by decide +kernel
theorem dL_law_466 : decode cL_law 466 = .ok (.aload_n 1, 1) := by decide +kernel
theorem dL_law_467 : decode cL_law 467 = .ok (.aload_n 0, 1) := by decide +kernel
theorem dL_law_468 : decode cL_law 468 = .ok (.iload_n 3, 1) := by decide +kernel
theorem dL_law_469 : decode cL_law 469 = .ok (.iconst 1, 1) := by decide +kernel
theorem dL_law_470 : decode cL_law 470 = .ok (.iadd, 1) := by decide +kernel
theorem dL_law_471 : decode cL_law 471 = .ok (.iaload, 1) := by decide +kernel
theorem dL_law_472 : decode cL_law 472 = .ok (.invokevirtual 50, 3) := by decide +kernel
theorem dL_law_475 : decode cL_law 475 = .ok (.aload_n 2, 1) := by decide +kernel
theorem dL_law_476 : decode cL_law 476 = .ok (.aload_n 0, 1) := by decide +kernel
theorem dL_law_477 : decode cL_law 477 = .ok (.iload_n 3, 1) := by decide +kernel
theorem dL_law_478 : decode cL_law 478 = .ok (.iconst 1, 1) := by decide +kernel
theorem dL_law_479 : decode cL_law 479 = .ok (.iadd, 1) := by decide +kernel
theorem dL_law_480 : decode cL_law 480 = .ok (.iaload, 1) := by decide +kernel
theorem dL_law_481 : decode cL_law 481 = .ok (.invokevirtual 53, 3) := by decide +kernel
theorem dL_law_484 : decode cL_law 484 = .ok (.if_icmp .eq 670, 3) := by decide +kernel
theorem dL_law_487 : decode cL_law 487 = .ok (.iconst 0, 1) := by decide +kernel
theorem dL_law_488 : decode cL_law 488 = .ok (.ireturn, 1) := by decide +kernel
theorem dL_law_489 : decode cL_law 489 = .ok (.aload_n 1, 1) := by decide +kernel
theorem dL_law_490 : decode cL_law 490 = .ok (.aload_n 0, 1) := by decide +kernel
theorem dL_law_491 : decode cL_law 491 = .ok (.iload_n 3, 1) := by decide +kernel
theorem dL_law_492 : decode cL_law 492 = .ok (.iconst 1, 1) := by decide +kernel
theorem dL_law_493 : decode cL_law 493 = .ok (.iadd, 1) := by decide +kernel
theorem dL_law_494 : decode cL_law 494 = .ok (.iaload, 1) := by decide +kernel
theorem dL_law_495 : decode cL_law 495 = .ok (.invokevirtual 54, 3) := by decide +kernel
theorem dL_law_498 : decode cL_law 498 = .ok (.aload_n 2, 1) := by decide +kernel
theorem dL_law_499 : decode cL_law 499 = .ok (.aload_n 0, 1) := by decide +kernel
theorem dL_law_500 : decode cL_law 500 = .ok (.iload_n 3, 1) := by decide +kernel
theorem dL_law_501 : decode cL_law 501 = .ok (.iconst 1, 1) := by decide +kernel
theorem dL_law_502 : decode cL_law 502 = .ok (.iadd, 1) := by decide +kernel
theorem dL_law_503 : decode cL_law 503 = .ok (.iaload, 1) := by decide +kernel
theorem dL_law_504 : decode cL_law 504 = .ok (.invokevirtual 57, 3) := by decide +kernel
theorem dL_law_507 : decode cL_law 507 = .ok (.if_icmp .eq 647, 3) := by decide +kernel
theorem dL_law_510 : decode cL_law 510 = .ok (.iconst 0, 1) := by decide +kernel
theorem dL_law_511 : decode cL_law 511 = .ok (.ireturn, 1) := by decide +kernel
theorem dL_law_512 : decode cL_law 512 = .ok (.aload_n 1, 1) := by decide +kernel
theorem dL_law_513 : decode cL_law 513 = .ok (.invokevirtual 58, 3) := by decide +kernel
theorem dL_law_516 : decode cL_law 516 = .ok (.aload_n 2, 1) := by decide +kernel
theorem dL_law_517 : decode cL_law 517 = .ok (.invokevirtual 61, 3) := by decide +kernel
theorem dL_law_520 : decode cL_law 520 = .ok (.if_icmp .eq 634, 3) := by decide +kernel
theorem dL_law_523 : decode cL_law 523 = .ok (.iconst 0, 1) := by decide +kernel
theorem dL_law_524 : decode cL_law 524 = .ok (.ireturn, 1) := by decide +kernel
theorem dL_law_525 : decode cL_law 525 = .ok (.aload_n 1, 1) := by decide +kernel
theorem dL_law_526 : decode cL_law 526 = .ok (.aload_n 0, 1) := by decide +kernel
theorem dL_law_527 : decode cL_law 527 = .ok (.iload_n 3, 1) := by decide +kernel
theorem dL_law_528 : decode cL_law 528 = .ok (.iconst 1, 1) := by decide +kernel
theorem dL_law_529 : decode cL_law 529 = .ok (.iadd, 1) := by decide +kernel
theorem dL_law_530 : decode cL_law 530 = .ok (.iaload, 1) := by decide +kernel
theorem dL_law_531 : decode cL_law 531 = .ok (.invokevirtual 62, 3) := by decide +kernel
theorem dL_law_534 : decode cL_law 534 = .ok (.aload_n 2, 1) := by decide +kernel
theorem dL_law_535 : decode cL_law 535 = .ok (.aload_n 0, 1) := by decide +kernel
theorem dL_law_536 : decode cL_law 536 = .ok (.iload_n 3, 1) := by decide +kernel
theorem dL_law_537 : decode cL_law 537 = .ok (.iconst 1, 1) := by decide +kernel
theorem dL_law_538 : decode cL_law 538 = .ok (.iadd, 1) := by decide +kernel
theorem dL_law_539 : decode cL_law 539 = .ok (.iaload, 1) := by decide +kernel
theorem dL_law_540 : decode cL_law 540 = .ok (.invokevirtual 65, 3) := by decide +kernel
theorem dL_law_543 : decode cL_law 543 = .ok (.if_icmp .eq 611, 3) := by decide +kernel
theorem dL_law_546 : decode cL_law 546 = .ok (.iconst 0, 1) := by decide +kernel
theorem dL_law_547 : decode cL_law 547 = .ok (.ireturn, 1) := by decide +kernel
theorem dL_law_548 : decode cL_law 548 = .ok (.aload_n 1, 1) := by decide +kernel
theorem dL_law_549 : decode cL_law 549 = .ok (.aload_n 0, 1) := by decide +kernel
theorem dL_law_550 : decode cL_law 550 = .ok (.iload_n 3, 1) := by decide +kernel
theorem dL_law_551 : decode cL_law 551 = .ok (.iconst 1, 1) := by decide +kernel
theorem dL_law_552 : decode cL_law 552 = .ok (.iadd, 1) := by decide +kernel
theorem dL_law_553 : decode cL_law 553 = .ok (.iaload, 1) := by decide +kernel
theorem dL_law_554 : decode cL_law 554 = .ok (.invokevirtual 66, 3) := by decide +kernel
theorem dL_law_557 : decode cL_law 557 = .ok (.aload_n 2, 1) := by decide +kernel
theorem dL_law_558 : decode cL_law 558 = .ok (.aload_n 0, 1) := by decide +kernel
theorem dL_law_559 : decode cL_law 559 = .ok (.iload_n 3, 1) := by decide +kernel
theorem dL_law_560 : decode cL_law 560 = .ok (.iconst 1, 1) := by decide +kernel
theorem dL_law_561 : decode cL_law 561 = .ok (.iadd, 1) := by decide +kernel
theorem dL_law_562 : decode cL_law 562 = .ok (.iaload, 1) := by decide +kernel
theorem dL_law_563 : decode cL_law 563 = .ok (.invokevirtual 69, 3) := by decide +kernel
theorem dL_law_566 : decode cL_law 566 = .ok (.if_icmp .eq 588, 3) := by decide +kernel
theorem dL_law_569 : decode cL_law 569 = .ok (.iconst 0, 1) := by decide +kernel
theorem dL_law_570 : decode cL_law 570 = .ok (.ireturn, 1) := by decide +kernel
theorem dL_law_571 : decode cL_law 571 = .ok (.aload_n 1, 1) := by decide +kernel
theorem dL_law_572 : decode cL_law 572 = .ok (.invokevirtual 70, 3) := by decide +kernel
theorem dL_law_575 : decode cL_law 575 = .ok (.aload_n 2, 1) := by decide +kernel
theorem dL_law_576 : decode cL_law 576 = .ok (.invokevirtual 73, 3) := by decide +kernel
theorem dL_law_579 : decode cL_law 579 = .ok (.if_icmp .eq 575, 3) := by decide +kernel
theorem dL_law_582 : decode cL_law 582 = .ok (.iconst 0, 1) := by decide +kernel
theorem dL_law_583 : decode cL_law 583 = .ok (.ireturn, 1) := by decide +kernel
theorem dL_law_584 : decode cL_law 584 = .ok (.aload_n 1, 1) := by decide +kernel
theorem dL_law_585 : decode cL_law 585 = .ok (.invokevirtual 74, 3) := by decide +kernel
theorem dL_law_588 : decode cL_law 588 = .ok (.aload_n 2, 1) := by decide +kernel
theorem dL_law_589 : decode cL_law 589 = .ok (.invokevirtual 77, 3) := by decide +kernel
theorem dL_law_592 : decode cL_law 592 = .ok (.if_icmp .eq 562, 3) := by decide +kernel
theorem dL_law_595 : decode cL_law 595 = .ok (.iconst 0, 1) := by decide +kernel
theorem dL_law_596 : decode cL_law 596 = .ok (.ireturn, 1) := by decide +kernel
theorem dL_law_597 : decode cL_law 597 = .ok (.aload_n 1, 1) := by decide +kernel
theorem dL_law_598 : decode cL_law 598 = .ok (.aload_n 0, 1) := by decide +kernel
theorem dL_law_599 : decode cL_law 599 = .ok (.iload_n 3, 1) := by decide +kernel
theorem dL_law_600 : decode cL_law 600 = .ok (.iconst 1, 1) := by decide +kernel
theorem dL_law_601 : decode cL_law 601 = .ok (.iadd, 1) := by decide +kernel
theorem dL_law_602 : decode cL_law 602 = .ok (.iaload, 1) := by decide +kernel
theorem dL_law_603 : decode cL_law 603 = .ok (.invokevirtual 78, 3) := by decide +kernel
theorem dL_law_606 : decode cL_law 606 = .ok (.aload_n 2, 1) := by decide +kernel
theorem dL_law_607 : decode cL_law 607 = .ok (.aload_n 0, 1) := by decide +kernel
theorem dL_law_608 : decode cL_law 608 = .ok (.iload_n 3, 1) := by decide +kernel
theorem dL_law_609 : decode cL_law 609 = .ok (.iconst 1, 1) := by decide +kernel
theorem dL_law_610 : decode cL_law 610 = .ok (.iadd, 1) := by decide +kernel
theorem dL_law_611 : decode cL_law 611 = .ok (.iaload, 1) := by decide +kernel
theorem dL_law_612 : decode cL_law 612 = .ok (.invokevirtual 81, 3) := by decide +kernel
theorem dL_law_615 : decode cL_law 615 = .ok (.if_icmp .eq 539, 3) := by decide +kernel
theorem dL_law_618 : decode cL_law 618 = .ok (.iconst 0, 1) := by decide +kernel
theorem dL_law_619 : decode cL_law 619 = .ok (.ireturn, 1) := by decide +kernel
theorem dL_law_620 : decode cL_law 620 = .ok (.aload_n 1, 1) := by decide +kernel
theorem dL_law_621 : decode cL_law 621 = .ok (.invokevirtual 82, 3) := by decide +kernel
theorem dL_law_624 : decode cL_law 624 = .ok (.aload_n 2, 1) := by decide +kernel
theorem dL_law_625 : decode cL_law 625 = .ok (.invokevirtual 85, 3) := by decide +kernel
theorem dL_law_628 : decode cL_law 628 = .ok (.if_icmp .eq 526, 3) := by decide +kernel
theorem dL_law_631 : decode cL_law 631 = .ok (.iconst 0, 1) := by decide +kernel
theorem dL_law_632 : decode cL_law 632 = .ok (.ireturn, 1) := by decide +kernel
theorem dL_law_633 : decode cL_law 633 = .ok (.aload_n 1, 1) := by decide +kernel
theorem dL_law_634 : decode cL_law 634 = .ok (.invokevirtual 86, 3) := by decide +kernel
theorem dL_law_637 : decode cL_law 637 = .ok (.aload_n 2, 1) := by decide +kernel
theorem dL_law_638 : decode cL_law 638 = .ok (.invokevirtual 89, 3) := by decide +kernel
theorem dL_law_641 : decode cL_law 641 = .ok (.if_icmp .eq 513, 3) := by decide +kernel
theorem dL_law_644 : decode cL_law 644 = .ok (.iconst 0, 1) := by decide +kernel
theorem dL_law_645 : decode cL_law 645 = .ok (.ireturn, 1) := by decide +kernel
theorem dL_law_646 : decode cL_law 646 = .ok (.aload_n 1, 1) := by decide +kernel
theorem dL_law_647 : decode cL_law 647 = .ok (.aload_n 0, 1) := by decide +kernel
theorem dL_law_648 : decode cL_law 648 = .ok (.iload_n 3, 1) := by decide +kernel
theorem dL_law_649 : decode cL_law 649 = .ok (.iconst 1, 1) := by decide +kernel
theorem dL_law_650 : decode cL_law 650 = .ok (.iadd, 1) := by decide +kernel
theorem dL_law_651 : decode cL_law 651 = .ok (.iaload, 1) := by decide +kernel
theorem dL_law_652 : decode cL_law 652 = .ok (.aload_n 0, 1) := by decide +kernel
theorem dL_law_653 : decode cL_law 653 = .ok (.iload_n 3, 1) := by decide +kernel
theorem dL_law_654 : decode cL_law 654 = .ok (.iconst 2, 1) := by decide +kernel
theorem dL_law_655 : decode cL_law 655 = .ok (.iadd, 1) := by decide +kernel
theorem dL_law_656 : decode cL_law 656 = .ok (.iaload, 1) := by decide +kernel
theorem dL_law_657 : decode cL_law 657 = .ok (.invokevirtual 90, 3) := by decide +kernel
theorem dL_law_660 : decode cL_law 660 = .ok (.aload_n 2, 1) := by decide +kernel
theorem dL_law_661 : decode cL_law 661 = .ok (.aload_n 0, 1) := by decide +kernel
theorem dL_law_662 : decode cL_law 662 = .ok (.iload_n 3, 1) := by decide +kernel
theorem dL_law_663 : decode cL_law 663 = .ok (.iconst 1, 1) := by decide +kernel
theorem dL_law_664 : decode cL_law 664 = .ok (.iadd, 1) := by decide +kernel
theorem dL_law_665 : decode cL_law 665 = .ok (.iaload, 1) := by decide +kernel
theorem dL_law_666 : decode cL_law 666 = .ok (.aload_n 0, 1) := by decide +kernel
theorem dL_law_667 : decode cL_law 667 = .ok (.iload_n 3, 1) := by decide +kernel
theorem dL_law_668 : decode cL_law 668 = .ok (.iconst 2, 1) := by decide +kernel
theorem dL_law_669 : decode cL_law 669 = .ok (.iadd, 1) := by decide +kernel
theorem dL_law_670 : decode cL_law 670 = .ok (.iaload, 1) := by decide +kernel
theorem dL_law_671 : decode cL_law 671 = .ok (.invokevirtual 94, 3) := by decide +kernel
theorem dL_law_674 : decode cL_law 674 = .ok (.lcmp, 1) := by decide +kernel
theorem dL_law_675 : decode cL_law 675 = .ok (.ifCond .eq 479, 3) := by decide +kernel
theorem dL_law_678 : decode cL_law 678 = .ok (.iconst 0, 1) := by decide +kernel
theorem dL_law_679 : decode cL_law 679 = .ok (.ireturn, 1) := by decide +kernel
theorem dL_law_680 : decode cL_law 680 = .ok (.aload_n 1, 1) := by decide +kernel
theorem dL_law_681 : decode cL_law 681 = .ok (.aload_n 0, 1) := by decide +kernel
theorem dL_law_682 : decode cL_law 682 = .ok (.iload_n 3, 1) := by decide +kernel
theorem dL_law_683 : decode cL_law 683 = .ok (.iconst 1, 1) := by decide +kernel
theorem dL_law_684 : decode cL_law 684 = .ok (.iadd, 1) := by decide +kernel
theorem dL_law_685 : decode cL_law 685 = .ok (.iaload, 1) := by decide +kernel
theorem dL_law_686 : decode cL_law 686 = .ok (.aload_n 0, 1) := by decide +kernel
theorem dL_law_687 : decode cL_law 687 = .ok (.iload_n 3, 1) := by decide +kernel
theorem dL_law_688 : decode cL_law 688 = .ok (.iconst 2, 1) := by decide +kernel
theorem dL_law_689 : decode cL_law 689 = .ok (.iadd, 1) := by decide +kernel
theorem dL_law_690 : decode cL_law 690 = .ok (.iaload, 1) := by decide +kernel
theorem dL_law_691 : decode cL_law 691 = .ok (.invokevirtual 95, 3) := by decide +kernel
theorem dL_law_694 : decode cL_law 694 = .ok (.aload_n 2, 1) := by decide +kernel
theorem dL_law_695 : decode cL_law 695 = .ok (.aload_n 0, 1) := by decide +kernel
theorem dL_law_696 : decode cL_law 696 = .ok (.iload_n 3, 1) := by decide +kernel
theorem dL_law_697 : decode cL_law 697 = .ok (.iconst 1, 1) := by decide +kernel
theorem dL_law_698 : decode cL_law 698 = .ok (.iadd, 1) := by decide +kernel
theorem dL_law_699 : decode cL_law 699 = .ok (.iaload, 1) := by decide +kernel
theorem dL_law_700 : decode cL_law 700 = .ok (.aload_n 0, 1) := by decide +kernel
theorem dL_law_701 : decode cL_law 701 = .ok (.iload_n 3, 1) := by decide +kernel
theorem dL_law_702 : decode cL_law 702 = .ok (.iconst 2, 1) := by decide +kernel
theorem dL_law_703 : decode cL_law 703 = .ok (.iadd, 1) := by decide +kernel
theorem dL_law_704 : decode cL_law 704 = .ok (.iaload, 1) := by decide +kernel
theorem dL_law_705 : decode cL_law 705 = .ok (.invokevirtual 98, 3) := by decide +kernel
theorem dL_law_708 : decode cL_law 708 = .ok (.lcmp, 1) := by decide +kernel
theorem dL_law_709 : decode cL_law 709 = .ok (.ifCond .eq 445, 3) := by decide +kernel
theorem dL_law_712 : decode cL_law 712 = .ok (.iconst 0, 1) := by decide +kernel
theorem dL_law_713 : decode cL_law 713 = .ok (.ireturn, 1) := by decide +kernel
theorem dL_law_714 : decode cL_law 714 = .ok (.aload_n 1, 1) := by decide +kernel
theorem dL_law_715 : decode cL_law 715 = .ok (.aload_n 0, 1) := by decide +kernel
theorem dL_law_716 : decode cL_law 716 = .ok (.iload_n 3, 1) := by decide +kernel
theorem dL_law_717 : decode cL_law 717 = .ok (.iconst 1, 1) := by decide +kernel
theorem dL_law_718 : decode cL_law 718 = .ok (.iadd, 1) := by decide +kernel
theorem dL_law_719 : decode cL_law 719 = .ok (.iaload, 1) := by decide +kernel
theorem dL_law_720 : decode cL_law 720 = .ok (.aload_n 0, 1) := by decide +kernel
theorem dL_law_721 : decode cL_law 721 = .ok (.iload_n 3, 1) := by decide +kernel
theorem dL_law_722 : decode cL_law 722 = .ok (.iconst 2, 1) := by decide +kernel
theorem dL_law_723 : decode cL_law 723 = .ok (.iadd, 1) := by decide +kernel
theorem dL_law_724 : decode cL_law 724 = .ok (.iaload, 1) := by decide +kernel
theorem dL_law_725 : decode cL_law 725 = .ok (.invokevirtual 99, 3) := by decide +kernel
theorem dL_law_728 : decode cL_law 728 = .ok (.aload_n 2, 1) := by decide +kernel
theorem dL_law_729 : decode cL_law 729 = .ok (.aload_n 0, 1) := by decide +kernel
theorem dL_law_730 : decode cL_law 730 = .ok (.iload_n 3, 1) := by decide +kernel
theorem dL_law_731 : decode cL_law 731 = .ok (.iconst 1, 1) := by decide +kernel
theorem dL_law_732 : decode cL_law 732 = .ok (.iadd, 1) := by decide +kernel
theorem dL_law_733 : decode cL_law 733 = .ok (.iaload, 1) := by decide +kernel
theorem dL_law_734 : decode cL_law 734 = .ok (.aload_n 0, 1) := by decide +kernel
theorem dL_law_735 : decode cL_law 735 = .ok (.iload_n 3, 1) := by decide +kernel
theorem dL_law_736 : decode cL_law 736 = .ok (.iconst 2, 1) := by decide +kernel
theorem dL_law_737 : decode cL_law 737 = .ok (.iadd, 1) := by decide +kernel
theorem dL_law_738 : decode cL_law 738 = .ok (.iaload, 1) := by decide +kernel
theorem dL_law_739 : decode cL_law 739 = .ok (.invokevirtual 102, 3) := by decide +kernel
theorem dL_law_742 : decode cL_law 742 = .ok (.if_icmp .eq 412, 3) := by decide +kernel
theorem dL_law_745 : decode cL_law 745 = .ok (.iconst 0, 1) := by decide +kernel
theorem dL_law_746 : decode cL_law 746 = .ok (.ireturn, 1) := by decide +kernel
theorem dL_law_747 : decode cL_law 747 = .ok (.aload_n 1, 1) := by decide +kernel
theorem dL_law_748 : decode cL_law 748 = .ok (.invokevirtual 103, 3) := by decide +kernel
theorem dL_law_751 : decode cL_law 751 = .ok (.aload_n 2, 1) := by decide +kernel
theorem dL_law_752 : decode cL_law 752 = .ok (.invokevirtual 106, 3) := by decide +kernel
theorem dL_law_755 : decode cL_law 755 = .ok (.if_icmp .eq 399, 3) := by decide +kernel
theorem dL_law_758 : decode cL_law 758 = .ok (.iconst 0, 1) := by decide +kernel
theorem dL_law_759 : decode cL_law 759 = .ok (.ireturn, 1) := by decide +kernel
theorem dL_law_760 : decode cL_law 760 = .ok (.aload_n 1, 1) := by decide +kernel
theorem dL_law_761 : decode cL_law 761 = .ok (.aload_n 0, 1) := by decide +kernel
theorem dL_law_762 : decode cL_law 762 = .ok (.iload_n 3, 1) := by decide +kernel
theorem dL_law_763 : decode cL_law 763 = .ok (.iconst 1, 1) := by decide +kernel
theorem dL_law_764 : decode cL_law 764 = .ok (.iadd, 1) := by decide +kernel
theorem dL_law_765 : decode cL_law 765 = .ok (.iaload, 1) := by decide +kernel
theorem dL_law_766 : decode cL_law 766 = .ok (.aload_n 0, 1) := by decide +kernel
theorem dL_law_767 : decode cL_law 767 = .ok (.iload_n 3, 1) := by decide +kernel
theorem dL_law_768 : decode cL_law 768 = .ok (.iconst 2, 1) := by decide +kernel
theorem dL_law_769 : decode cL_law 769 = .ok (.iadd, 1) := by decide +kernel
theorem dL_law_770 : decode cL_law 770 = .ok (.iaload, 1) := by decide +kernel
theorem dL_law_771 : decode cL_law 771 = .ok (.invokevirtual 107, 3) := by decide +kernel
theorem dL_law_774 : decode cL_law 774 = .ok (.aload_n 2, 1) := by decide +kernel
theorem dL_law_775 : decode cL_law 775 = .ok (.aload_n 0, 1) := by decide +kernel
theorem dL_law_776 : decode cL_law 776 = .ok (.iload_n 3, 1) := by decide +kernel
theorem dL_law_777 : decode cL_law 777 = .ok (.iconst 1, 1) := by decide +kernel
theorem dL_law_778 : decode cL_law 778 = .ok (.iadd, 1) := by decide +kernel
theorem dL_law_779 : decode cL_law 779 = .ok (.iaload, 1) := by decide +kernel
theorem dL_law_780 : decode cL_law 780 = .ok (.aload_n 0, 1) := by decide +kernel
theorem dL_law_781 : decode cL_law 781 = .ok (.iload_n 3, 1) := by decide +kernel
theorem dL_law_782 : decode cL_law 782 = .ok (.iconst 2, 1) := by decide +kernel
theorem dL_law_783 : decode cL_law 783 = .ok (.iadd, 1) := by decide +kernel
theorem dL_law_784 : decode cL_law 784 = .ok (.iaload, 1) := by decide +kernel
theorem dL_law_785 : decode cL_law 785 = .ok (.invokevirtual 110, 3) := by decide +kernel
theorem dL_law_788 : decode cL_law 788 = .ok (.if_icmp .eq 366, 3) := by decide +kernel
theorem dL_law_791 : decode cL_law 791 = .ok (.iconst 0, 1) := by decide +kernel
theorem dL_law_792 : decode cL_law 792 = .ok (.ireturn, 1) := by decide +kernel
theorem dL_law_793 : decode cL_law 793 = .ok (.aload_n 1, 1) := by decide +kernel
theorem dL_law_794 : decode cL_law 794 = .ok (.invokevirtual 111, 3) := by decide +kernel
theorem dL_law_797 : decode cL_law 797 = .ok (.aload_n 2, 1) := by decide +kernel
theorem dL_law_798 : decode cL_law 798 = .ok (.invokevirtual 114, 3) := by decide +kernel
theorem dL_law_801 : decode cL_law 801 = .ok (.if_icmp .eq 353, 3) := by decide +kernel
theorem dL_law_804 : decode cL_law 804 = .ok (.iconst 0, 1) := by decide +kernel
theorem dL_law_805 : decode cL_law 805 = .ok (.ireturn, 1) := by decide +kernel
theorem dL_law_806 : decode cL_law 806 = .ok (.aload_n 1, 1) := by decide +kernel
theorem dL_law_807 : decode cL_law 807 = .ok (.invokevirtual 115, 3) := by decide +kernel
theorem dL_law_810 : decode cL_law 810 = .ok (.aload_n 2, 1) := by decide +kernel
theorem dL_law_811 : decode cL_law 811 = .ok (.invokevirtual 118, 3) := by decide +kernel
theorem dL_law_814 : decode cL_law 814 = .ok (.if_icmp .eq 340, 3) := by decide +kernel
theorem dL_law_817 : decode cL_law 817 = .ok (.iconst 0, 1) := by decide +kernel
theorem dL_law_818 : decode cL_law 818 = .ok (.ireturn, 1) := by decide +kernel
theorem dL_law_819 : decode cL_law 819 = .ok (.aload_n 1, 1) := by decide +kernel
theorem dL_law_820 : decode cL_law 820 = .ok (.aload_n 0, 1) := by decide +kernel
theorem dL_law_821 : decode cL_law 821 = .ok (.iload_n 3, 1) := by decide +kernel
theorem dL_law_822 : decode cL_law 822 = .ok (.iconst 1, 1) := by decide +kernel
theorem dL_law_823 : decode cL_law 823 = .ok (.iadd, 1) := by decide +kernel
theorem dL_law_824 : decode cL_law 824 = .ok (.iaload, 1) := by decide +kernel
theorem dL_law_825 : decode cL_law 825 = .ok (.aload_n 0, 1) := by decide +kernel
theorem dL_law_826 : decode cL_law 826 = .ok (.iload_n 3, 1) := by decide +kernel
theorem dL_law_827 : decode cL_law 827 = .ok (.iconst 2, 1) := by decide +kernel
theorem dL_law_828 : decode cL_law 828 = .ok (.iadd, 1) := by decide +kernel
theorem dL_law_829 : decode cL_law 829 = .ok (.iaload, 1) := by decide +kernel
theorem dL_law_830 : decode cL_law 830 = .ok (.aload_n 0, 1) := by decide +kernel
theorem dL_law_831 : decode cL_law 831 = .ok (.iload_n 3, 1) := by decide +kernel
theorem dL_law_832 : decode cL_law 832 = .ok (.iconst 3, 1) := by decide +kernel
theorem dL_law_833 : decode cL_law 833 = .ok (.iadd, 1) := by decide +kernel
theorem dL_law_834 : decode cL_law 834 = .ok (.iaload, 1) := by decide +kernel
theorem dL_law_835 : decode cL_law 835 = .ok (.invokevirtual 119, 3) := by decide +kernel
theorem dL_law_838 : decode cL_law 838 = .ok (.aload_n 2, 1) := by decide +kernel
theorem dL_law_839 : decode cL_law 839 = .ok (.aload_n 0, 1) := by decide +kernel
theorem dL_law_840 : decode cL_law 840 = .ok (.iload_n 3, 1) := by decide +kernel
theorem dL_law_841 : decode cL_law 841 = .ok (.iconst 1, 1) := by decide +kernel
theorem dL_law_842 : decode cL_law 842 = .ok (.iadd, 1) := by decide +kernel
theorem dL_law_843 : decode cL_law 843 = .ok (.iaload, 1) := by decide +kernel
theorem dL_law_844 : decode cL_law 844 = .ok (.aload_n 0, 1) := by decide +kernel
theorem dL_law_845 : decode cL_law 845 = .ok (.iload_n 3, 1) := by decide +kernel
theorem dL_law_846 : decode cL_law 846 = .ok (.iconst 2, 1) := by decide +kernel
theorem dL_law_847 : decode cL_law 847 = .ok (.iadd, 1) := by decide +kernel
theorem dL_law_848 : decode cL_law 848 = .ok (.iaload, 1) := by decide +kernel
theorem dL_law_849 : decode cL_law 849 = .ok (.aload_n 0, 1) := by decide +kernel
theorem dL_law_850 : decode cL_law 850 = .ok (.iload_n 3, 1) := by decide +kernel
theorem dL_law_851 : decode cL_law 851 = .ok (.iconst 3, 1) := by decide +kernel
theorem dL_law_852 : decode cL_law 852 = .ok (.iadd, 1) := by decide +kernel
theorem dL_law_853 : decode cL_law 853 = .ok (.iaload, 1) := by decide +kernel
theorem dL_law_854 : decode cL_law 854 = .ok (.invokevirtual 122, 3) := by decide +kernel
theorem dL_law_857 : decode cL_law 857 = .ok (.if_icmp .eq 297, 3) := by decide +kernel
theorem dL_law_860 : decode cL_law 860 = .ok (.iconst 0, 1) := by decide +kernel
theorem dL_law_861 : decode cL_law 861 = .ok (.ireturn, 1) := by decide +kernel
theorem dL_law_862 : decode cL_law 862 = .ok (.aload_n 1, 1) := by decide +kernel
theorem dL_law_863 : decode cL_law 863 = .ok (.aload_n 0, 1) := by decide +kernel
theorem dL_law_864 : decode cL_law 864 = .ok (.iload_n 3, 1) := by decide +kernel
theorem dL_law_865 : decode cL_law 865 = .ok (.iconst 1, 1) := by decide +kernel
theorem dL_law_866 : decode cL_law 866 = .ok (.iadd, 1) := by decide +kernel
theorem dL_law_867 : decode cL_law 867 = .ok (.iaload, 1) := by decide +kernel
theorem dL_law_868 : decode cL_law 868 = .ok (.invokevirtual 123, 3) := by decide +kernel
theorem dL_law_871 : decode cL_law 871 = .ok (.aload_n 2, 1) := by decide +kernel
theorem dL_law_872 : decode cL_law 872 = .ok (.aload_n 0, 1) := by decide +kernel
theorem dL_law_873 : decode cL_law 873 = .ok (.iload_n 3, 1) := by decide +kernel
theorem dL_law_874 : decode cL_law 874 = .ok (.iconst 1, 1) := by decide +kernel
theorem dL_law_875 : decode cL_law 875 = .ok (.iadd, 1) := by decide +kernel
theorem dL_law_876 : decode cL_law 876 = .ok (.iaload, 1) := by decide +kernel
theorem dL_law_877 : decode cL_law 877 = .ok (.invokevirtual 126, 3) := by decide +kernel
theorem dL_law_880 : decode cL_law 880 = .ok (.if_icmp .eq 274, 3) := by decide +kernel
theorem dL_law_883 : decode cL_law 883 = .ok (.iconst 0, 1) := by decide +kernel
theorem dL_law_884 : decode cL_law 884 = .ok (.ireturn, 1) := by decide +kernel
theorem dL_law_885 : decode cL_law 885 = .ok (.aload_n 1, 1) := by decide +kernel
theorem dL_law_886 : decode cL_law 886 = .ok (.aload_n 0, 1) := by decide +kernel
theorem dL_law_887 : decode cL_law 887 = .ok (.iload_n 3, 1) := by decide +kernel
theorem dL_law_888 : decode cL_law 888 = .ok (.iconst 1, 1) := by decide +kernel
theorem dL_law_889 : decode cL_law 889 = .ok (.iadd, 1) := by decide +kernel
theorem dL_law_890 : decode cL_law 890 = .ok (.iaload, 1) := by decide +kernel
theorem dL_law_891 : decode cL_law 891 = .ok (.aload_n 0, 1) := by decide +kernel
theorem dL_law_892 : decode cL_law 892 = .ok (.iload_n 3, 1) := by decide +kernel
theorem dL_law_893 : decode cL_law 893 = .ok (.iconst 2, 1) := by decide +kernel
theorem dL_law_894 : decode cL_law 894 = .ok (.iadd, 1) := by decide +kernel
theorem dL_law_895 : decode cL_law 895 = .ok (.iaload, 1) := by decide +kernel
theorem dL_law_896 : decode cL_law 896 = .ok (.invokevirtual 127, 3) := by decide +kernel
theorem dL_law_899 : decode cL_law 899 = .ok (.aload_n 2, 1) := by decide +kernel
theorem dL_law_900 : decode cL_law 900 = .ok (.aload_n 0, 1) := by decide +kernel
theorem dL_law_901 : decode cL_law 901 = .ok (.iload_n 3, 1) := by decide +kernel
theorem dL_law_902 : decode cL_law 902 = .ok (.iconst 1, 1) := by decide +kernel
theorem dL_law_903 : decode cL_law 903 = .ok (.iadd, 1) := by decide +kernel
theorem dL_law_904 : decode cL_law 904 = .ok (.iaload, 1) := by decide +kernel
theorem dL_law_905 : decode cL_law 905 = .ok (.aload_n 0, 1) := by decide +kernel
theorem dL_law_906 : decode cL_law 906 = .ok (.iload_n 3, 1) := by decide +kernel
theorem dL_law_907 : decode cL_law 907 = .ok (.iconst 2, 1) := by decide +kernel
theorem dL_law_908 : decode cL_law 908 = .ok (.iadd, 1) := by decide +kernel
theorem dL_law_909 : decode cL_law 909 = .ok (.iaload, 1) := by decide +kernel
theorem dL_law_910 : decode cL_law 910 = .ok (.invokevirtual 130, 3) := by decide +kernel
theorem dL_law_913 : decode cL_law 913 = .ok (.if_icmp .eq 241, 3) := by decide +kernel
theorem dL_law_916 : decode cL_law 916 = .ok (.iconst 0, 1) := by decide +kernel
theorem dL_law_917 : decode cL_law 917 = .ok (.ireturn, 1) := by decide +kernel
theorem dL_law_918 : decode cL_law 918 = .ok (.aload_n 1, 1) := by decide +kernel
theorem dL_law_919 : decode cL_law 919 = .ok (.aload_n 0, 1) := by decide +kernel
theorem dL_law_920 : decode cL_law 920 = .ok (.iload_n 3, 1) := by decide +kernel
theorem dL_law_921 : decode cL_law 921 = .ok (.iconst 1, 1) := by decide +kernel
theorem dL_law_922 : decode cL_law 922 = .ok (.iadd, 1) := by decide +kernel
theorem dL_law_923 : decode cL_law 923 = .ok (.iaload, 1) := by decide +kernel
theorem dL_law_924 : decode cL_law 924 = .ok (.invokevirtual 131, 3) := by decide +kernel
theorem dL_law_927 : decode cL_law 927 = .ok (.aload_n 2, 1) := by decide +kernel
theorem dL_law_928 : decode cL_law 928 = .ok (.aload_n 0, 1) := by decide +kernel
theorem dL_law_929 : decode cL_law 929 = .ok (.iload_n 3, 1) := by decide +kernel
theorem dL_law_930 : decode cL_law 930 = .ok (.iconst 1, 1) := by decide +kernel
theorem dL_law_931 : decode cL_law 931 = .ok (.iadd, 1) := by decide +kernel
theorem dL_law_932 : decode cL_law 932 = .ok (.iaload, 1) := by decide +kernel
theorem dL_law_933 : decode cL_law 933 = .ok (.invokevirtual 134, 3) := by decide +kernel
theorem dL_law_936 : decode cL_law 936 = .ok (.if_icmp .eq 218, 3) := by decide +kernel
theorem dL_law_939 : decode cL_law 939 = .ok (.iconst 0, 1) := by decide +kernel
theorem dL_law_940 : decode cL_law 940 = .ok (.ireturn, 1) := by decide +kernel
theorem dL_law_941 : decode cL_law 941 = .ok (.aload_n 1, 1) := by decide +kernel
theorem dL_law_942 : decode cL_law 942 = .ok (.aload_n 0, 1) := by decide +kernel
theorem dL_law_943 : decode cL_law 943 = .ok (.iload_n 3, 1) := by decide +kernel
theorem dL_law_944 : decode cL_law 944 = .ok (.iconst 1, 1) := by decide +kernel
theorem dL_law_945 : decode cL_law 945 = .ok (.iadd, 1) := by decide +kernel
theorem dL_law_946 : decode cL_law 946 = .ok (.iaload, 1) := by decide +kernel
theorem dL_law_947 : decode cL_law 947 = .ok (.aload_n 0, 1) := by decide +kernel
theorem dL_law_948 : decode cL_law 948 = .ok (.iload_n 3, 1) := by decide +kernel
theorem dL_law_949 : decode cL_law 949 = .ok (.iconst 2, 1) := by decide +kernel
theorem dL_law_950 : decode cL_law 950 = .ok (.iadd, 1) := by decide +kernel
theorem dL_law_951 : decode cL_law 951 = .ok (.iaload, 1) := by decide +kernel
theorem dL_law_952 : decode cL_law 952 = .ok (.aload_n 0, 1) := by decide +kernel
theorem dL_law_953 : decode cL_law 953 = .ok (.iload_n 3, 1) := by decide +kernel
theorem dL_law_954 : decode cL_law 954 = .ok (.iconst 3, 1) := by decide +kernel
theorem dL_law_955 : decode cL_law 955 = .ok (.iadd, 1) := by decide +kernel
theorem dL_law_956 : decode cL_law 956 = .ok (.iaload, 1) := by decide +kernel
theorem dL_law_957 : decode cL_law 957 = .ok (.invokevirtual 135, 3) := by decide +kernel
theorem dL_law_960 : decode cL_law 960 = .ok (.aload_n 2, 1) := by decide +kernel
theorem dL_law_961 : decode cL_law 961 = .ok (.aload_n 0, 1) := by decide +kernel
theorem dL_law_962 : decode cL_law 962 = .ok (.iload_n 3, 1) := by decide +kernel
theorem dL_law_963 : decode cL_law 963 = .ok (.iconst 1, 1) := by decide +kernel
theorem dL_law_964 : decode cL_law 964 = .ok (.iadd, 1) := by decide +kernel
theorem dL_law_965 : decode cL_law 965 = .ok (.iaload, 1) := by decide +kernel
theorem dL_law_966 : decode cL_law 966 = .ok (.aload_n 0, 1) := by decide +kernel
theorem dL_law_967 : decode cL_law 967 = .ok (.iload_n 3, 1) := by decide +kernel
theorem dL_law_968 : decode cL_law 968 = .ok (.iconst 2, 1) := by decide +kernel
theorem dL_law_969 : decode cL_law 969 = .ok (.iadd, 1) := by decide +kernel
theorem dL_law_970 : decode cL_law 970 = .ok (.iaload, 1) := by decide +kernel
theorem dL_law_971 : decode cL_law 971 = .ok (.aload_n 0, 1) := by decide +kernel
theorem dL_law_972 : decode cL_law 972 = .ok (.iload_n 3, 1) := by decide +kernel
theorem dL_law_973 : decode cL_law 973 = .ok (.iconst 3, 1) := by decide +kernel
theorem dL_law_974 : decode cL_law 974 = .ok (.iadd, 1) := by decide +kernel
theorem dL_law_975 : decode cL_law 975 = .ok (.iaload, 1) := by decide +kernel
theorem dL_law_976 : decode cL_law 976 = .ok (.invokevirtual 138, 3) := by decide +kernel
theorem dL_law_979 : decode cL_law 979 = .ok (.if_icmp .eq 175, 3) := by decide +kernel
theorem dL_law_982 : decode cL_law 982 = .ok (.iconst 0, 1) := by decide +kernel
theorem dL_law_983 : decode cL_law 983 = .ok (.ireturn, 1) := by decide +kernel
theorem dL_law_984 : decode cL_law 984 = .ok (.aload_n 1, 1) := by decide +kernel
theorem dL_law_985 : decode cL_law 985 = .ok (.aload_n 0, 1) := by decide +kernel
theorem dL_law_986 : decode cL_law 986 = .ok (.iload_n 3, 1) := by decide +kernel
theorem dL_law_987 : decode cL_law 987 = .ok (.iconst 1, 1) := by decide +kernel
theorem dL_law_988 : decode cL_law 988 = .ok (.iadd, 1) := by decide +kernel
theorem dL_law_989 : decode cL_law 989 = .ok (.iaload, 1) := by decide +kernel
theorem dL_law_990 : decode cL_law 990 = .ok (.aload_n 0, 1) := by decide +kernel
theorem dL_law_991 : decode cL_law 991 = .ok (.iload_n 3, 1) := by decide +kernel
theorem dL_law_992 : decode cL_law 992 = .ok (.iconst 2, 1) := by decide +kernel
theorem dL_law_993 : decode cL_law 993 = .ok (.iadd, 1) := by decide +kernel
theorem dL_law_994 : decode cL_law 994 = .ok (.iaload, 1) := by decide +kernel
theorem dL_law_995 : decode cL_law 995 = .ok (.aload_n 0, 1) := by decide +kernel
theorem dL_law_996 : decode cL_law 996 = .ok (.iload_n 3, 1) := by decide +kernel
theorem dL_law_997 : decode cL_law 997 = .ok (.iconst 3, 1) := by decide +kernel
theorem dL_law_998 : decode cL_law 998 = .ok (.iadd, 1) := by decide +kernel
theorem dL_law_999 : decode cL_law 999 = .ok (.iaload, 1) := by decide +kernel
theorem dL_law_1000 : decode cL_law 1000 = .ok (.i2l, 1) := by decide +kernel
theorem dL_law_1001 : decode cL_law 1001 = .ok (.bipush 32, 2) := by decide +kernel
theorem dL_law_1003 : decode cL_law 1003 = .ok (.lshl, 1) := by decide +kernel
theorem dL_law_1004 : decode cL_law 1004 = .ok (.aload_n 0, 1) := by decide +kernel
theorem dL_law_1005 : decode cL_law 1005 = .ok (.iload_n 3, 1) := by decide +kernel
theorem dL_law_1006 : decode cL_law 1006 = .ok (.iconst 4, 1) := by decide +kernel
theorem dL_law_1007 : decode cL_law 1007 = .ok (.iadd, 1) := by decide +kernel
theorem dL_law_1008 : decode cL_law 1008 = .ok (.iaload, 1) := by decide +kernel
theorem dL_law_1009 : decode cL_law 1009 = .ok (.i2l, 1) := by decide +kernel
theorem dL_law_1010 : decode cL_law 1010 = .ok (.ldc2_w 139, 3) := by decide +kernel
theorem dL_law_1013 : decode cL_law 1013 = .ok (.land, 1) := by decide +kernel
theorem dL_law_1014 : decode cL_law 1014 = .ok (.lor, 1) := by decide +kernel
theorem dL_law_1015 : decode cL_law 1015 = .ok (.invokevirtual 141, 3) := by decide +kernel
theorem dL_law_1018 : decode cL_law 1018 = .ok (.aload_n 2, 1) := by decide +kernel
theorem dL_law_1019 : decode cL_law 1019 = .ok (.aload_n 0, 1) := by decide +kernel
theorem dL_law_1020 : decode cL_law 1020 = .ok (.iload_n 3, 1) := by decide +kernel
theorem dL_law_1021 : decode cL_law 1021 = .ok (.iconst 1, 1) := by decide +kernel
theorem dL_law_1022 : decode cL_law 1022 = .ok (.iadd, 1) := by decide +kernel
theorem dL_law_1023 : decode cL_law 1023 = .ok (.iaload, 1) := by decide +kernel
theorem dL_law_1024 : decode cL_law 1024 = .ok (.aload_n 0, 1) := by decide +kernel
theorem dL_law_1025 : decode cL_law 1025 = .ok (.iload_n 3, 1) := by decide +kernel
theorem dL_law_1026 : decode cL_law 1026 = .ok (.iconst 2, 1) := by decide +kernel
theorem dL_law_1027 : decode cL_law 1027 = .ok (.iadd, 1) := by decide +kernel
theorem dL_law_1028 : decode cL_law 1028 = .ok (.iaload, 1) := by decide +kernel
theorem dL_law_1029 : decode cL_law 1029 = .ok (.aload_n 0, 1) := by decide +kernel
theorem dL_law_1030 : decode cL_law 1030 = .ok (.iload_n 3, 1) := by decide +kernel
theorem dL_law_1031 : decode cL_law 1031 = .ok (.iconst 3, 1) := by decide +kernel
theorem dL_law_1032 : decode cL_law 1032 = .ok (.iadd, 1) := by decide +kernel
theorem dL_law_1033 : decode cL_law 1033 = .ok (.iaload, 1) := by decide +kernel
theorem dL_law_1034 : decode cL_law 1034 = .ok (.i2l, 1) := by decide +kernel
theorem dL_law_1035 : decode cL_law 1035 = .ok (.bipush 32, 2) := by decide +kernel
theorem dL_law_1037 : decode cL_law 1037 = .ok (.lshl, 1) := by decide +kernel
theorem dL_law_1038 : decode cL_law 1038 = .ok (.aload_n 0, 1) := by decide +kernel
theorem dL_law_1039 : decode cL_law 1039 = .ok (.iload_n 3, 1) := by decide +kernel
theorem dL_law_1040 : decode cL_law 1040 = .ok (.iconst 4, 1) := by decide +kernel
theorem dL_law_1041 : decode cL_law 1041 = .ok (.iadd, 1) := by decide +kernel
theorem dL_law_1042 : decode cL_law 1042 = .ok (.iaload, 1) := by decide +kernel
theorem dL_law_1043 : decode cL_law 1043 = .ok (.i2l, 1) := by decide +kernel
theorem dL_law_1044 : decode cL_law 1044 = .ok (.ldc2_w 139, 3) := by decide +kernel
theorem dL_law_1047 : decode cL_law 1047 = .ok (.land, 1) := by decide +kernel
theorem dL_law_1048 : decode cL_law 1048 = .ok (.lor, 1) := by decide +kernel
theorem dL_law_1049 : decode cL_law 1049 = .ok (.invokevirtual 145, 3) := by decide +kernel
theorem dL_law_1052 : decode cL_law 1052 = .ok (.if_icmp .eq 102, 3) := by decide +kernel
theorem dL_law_1055 : decode cL_law 1055 = .ok (.iconst 0, 1) := by decide +kernel
theorem dL_law_1056 : decode cL_law 1056 = .ok (.ireturn, 1) := by decide +kernel
theorem dL_law_1057 : decode cL_law 1057 = .ok (.aload_n 1, 1) := by decide +kernel
theorem dL_law_1058 : decode cL_law 1058 = .ok (.aload_n 0, 1) := by decide +kernel
theorem dL_law_1059 : decode cL_law 1059 = .ok (.iload_n 3, 1) := by decide +kernel
theorem dL_law_1060 : decode cL_law 1060 = .ok (.iconst 1, 1) := by decide +kernel
theorem dL_law_1061 : decode cL_law 1061 = .ok (.iadd, 1) := by decide +kernel
theorem dL_law_1062 : decode cL_law 1062 = .ok (.iaload, 1) := by decide +kernel
theorem dL_law_1063 : decode cL_law 1063 = .ok (.aload_n 0, 1) := by decide +kernel
theorem dL_law_1064 : decode cL_law 1064 = .ok (.iload_n 3, 1) := by decide +kernel
theorem dL_law_1065 : decode cL_law 1065 = .ok (.iconst 2, 1) := by decide +kernel
theorem dL_law_1066 : decode cL_law 1066 = .ok (.iadd, 1) := by decide +kernel
theorem dL_law_1067 : decode cL_law 1067 = .ok (.iaload, 1) := by decide +kernel
theorem dL_law_1068 : decode cL_law 1068 = .ok (.invokevirtual 146, 3) := by decide +kernel
theorem dL_law_1071 : decode cL_law 1071 = .ok (.aload_n 2, 1) := by decide +kernel
theorem dL_law_1072 : decode cL_law 1072 = .ok (.aload_n 0, 1) := by decide +kernel
theorem dL_law_1073 : decode cL_law 1073 = .ok (.iload_n 3, 1) := by decide +kernel
theorem dL_law_1074 : decode cL_law 1074 = .ok (.iconst 1, 1) := by decide +kernel
theorem dL_law_1075 : decode cL_law 1075 = .ok (.iadd, 1) := by decide +kernel
theorem dL_law_1076 : decode cL_law 1076 = .ok (.iaload, 1) := by decide +kernel
theorem dL_law_1077 : decode cL_law 1077 = .ok (.aload_n 0, 1) := by decide +kernel
theorem dL_law_1078 : decode cL_law 1078 = .ok (.iload_n 3, 1) := by decide +kernel
theorem dL_law_1079 : decode cL_law 1079 = .ok (.iconst 2, 1) := by decide +kernel
theorem dL_law_1080 : decode cL_law 1080 = .ok (.iadd, 1) := by decide +kernel
theorem dL_law_1081 : decode cL_law 1081 = .ok (.iaload, 1) := by decide +kernel
theorem dL_law_1082 : decode cL_law 1082 = .ok (.invokevirtual 149, 3) := by decide +kernel
theorem dL_law_1085 : decode cL_law 1085 = .ok (.lcmp, 1) := by decide +kernel
theorem dL_law_1086 : decode cL_law 1086 = .ok (.ifCond .eq 68, 3) := by decide +kernel
theorem dL_law_1089 : decode cL_law 1089 = .ok (.iconst 0, 1) := by decide +kernel
theorem dL_law_1090 : decode cL_law 1090 = .ok (.ireturn, 1) := by decide +kernel
theorem dL_law_1091 : decode cL_law 1091 = .ok (.aload_n 1, 1) := by decide +kernel
theorem dL_law_1092 : decode cL_law 1092 = .ok (.aload_n 0, 1) := by decide +kernel
theorem dL_law_1093 : decode cL_law 1093 = .ok (.iload_n 3, 1) := by decide +kernel
theorem dL_law_1094 : decode cL_law 1094 = .ok (.iconst 1, 1) := by decide +kernel
theorem dL_law_1095 : decode cL_law 1095 = .ok (.iadd, 1) := by decide +kernel
theorem dL_law_1096 : decode cL_law 1096 = .ok (.iaload, 1) := by decide +kernel
theorem dL_law_1097 : decode cL_law 1097 = .ok (.aload_n 0, 1) := by decide +kernel
theorem dL_law_1098 : decode cL_law 1098 = .ok (.iload_n 3, 1) := by decide +kernel
theorem dL_law_1099 : decode cL_law 1099 = .ok (.iconst 2, 1) := by decide +kernel
theorem dL_law_1100 : decode cL_law 1100 = .ok (.iadd, 1) := by decide +kernel
theorem dL_law_1101 : decode cL_law 1101 = .ok (.iaload, 1) := by decide +kernel
theorem dL_law_1102 : decode cL_law 1102 = .ok (.aload_n 0, 1) := by decide +kernel
theorem dL_law_1103 : decode cL_law 1103 = .ok (.iload_n 3, 1) := by decide +kernel
theorem dL_law_1104 : decode cL_law 1104 = .ok (.iconst 3, 1) := by decide +kernel
theorem dL_law_1105 : decode cL_law 1105 = .ok (.iadd, 1) := by decide +kernel
theorem dL_law_1106 : decode cL_law 1106 = .ok (.iaload, 1) := by decide +kernel
theorem dL_law_1107 : decode cL_law 1107 = .ok (.aload_n 0, 1) := by decide +kernel
theorem dL_law_1108 : decode cL_law 1108 = .ok (.iload_n 3, 1) := by decide +kernel
theorem dL_law_1109 : decode cL_law 1109 = .ok (.iconst 4, 1) := by decide +kernel
theorem dL_law_1110 : decode cL_law 1110 = .ok (.iadd, 1) := by decide +kernel
theorem dL_law_1111 : decode cL_law 1111 = .ok (.iaload, 1) := by decide +kernel
theorem dL_law_1112 : decode cL_law 1112 = .ok (.aload_n 0, 1) := by decide +kernel
theorem dL_law_1113 : decode cL_law 1113 = .ok (.iload_n 3, 1) := by decide +kernel
theorem dL_law_1114 : decode cL_law 1114 = .ok (.iconst 5, 1) := by decide +kernel
theorem dL_law_1115 : decode cL_law 1115 = .ok (.iadd, 1) := by decide +kernel
theorem dL_law_1116 : decode cL_law 1116 = .ok (.iaload, 1) := by decide +kernel
theorem dL_law_1117 : decode cL_law 1117 = .ok (.invokevirtual 150, 3) := by decide +kernel
theorem dL_law_1120 : decode cL_law 1120 = .ok (.aload_n 2, 1) := by decide +kernel
theorem dL_law_1121 : decode cL_law 1121 = .ok (.aload_n 0, 1) := by decide +kernel
theorem dL_law_1122 : decode cL_law 1122 = .ok (.iload_n 3, 1) := by decide +kernel
theorem dL_law_1123 : decode cL_law 1123 = .ok (.iconst 1, 1) := by decide +kernel
theorem dL_law_1124 : decode cL_law 1124 = .ok (.iadd, 1) := by decide +kernel
theorem dL_law_1125 : decode cL_law 1125 = .ok (.iaload, 1) := by decide +kernel
theorem dL_law_1126 : decode cL_law 1126 = .ok (.aload_n 0, 1) := by decide +kernel
theorem dL_law_1127 : decode cL_law 1127 = .ok (.iload_n 3, 1) := by decide +kernel
theorem dL_law_1128 : decode cL_law 1128 = .ok (.iconst 2, 1) := by decide +kernel
theorem dL_law_1129 : decode cL_law 1129 = .ok (.iadd, 1) := by decide +kernel
theorem dL_law_1130 : decode cL_law 1130 = .ok (.iaload, 1) := by decide +kernel
theorem dL_law_1131 : decode cL_law 1131 = .ok (.aload_n 0, 1) := by decide +kernel
theorem dL_law_1132 : decode cL_law 1132 = .ok (.iload_n 3, 1) := by decide +kernel
theorem dL_law_1133 : decode cL_law 1133 = .ok (.iconst 3, 1) := by decide +kernel
theorem dL_law_1134 : decode cL_law 1134 = .ok (.iadd, 1) := by decide +kernel
theorem dL_law_1135 : decode cL_law 1135 = .ok (.iaload, 1) := by decide +kernel
theorem dL_law_1136 : decode cL_law 1136 = .ok (.aload_n 0, 1) := by decide +kernel
theorem dL_law_1137 : decode cL_law 1137 = .ok (.iload_n 3, 1) := by decide +kernel
theorem dL_law_1138 : decode cL_law 1138 = .ok (.iconst 4, 1) := by decide +kernel
theorem dL_law_1139 : decode cL_law 1139 = .ok (.iadd, 1) := by decide +kernel
theorem dL_law_1140 : decode cL_law 1140 = .ok (.iaload, 1) := by decide +kernel
theorem dL_law_1141 : decode cL_law 1141 = .ok (.aload_n 0, 1) := by decide +kernel
theorem dL_law_1142 : decode cL_law 1142 = .ok (.iload_n 3, 1) := by decide +kernel
theorem dL_law_1143 : decode cL_law 1143 = .ok (.iconst 5, 1) := by decide +kernel
theorem dL_law_1144 : decode cL_law 1144 = .ok (.iadd, 1) := by decide +kernel
theorem dL_law_1145 : decode cL_law 1145 = .ok (.iaload, 1) := by decide +kernel
theorem dL_law_1146 : decode cL_law 1146 = .ok (.invokevirtual 154, 3) := by decide +kernel
theorem dL_law_1149 : decode cL_law 1149 = .ok (.if_icmp .eq 5, 3) := by decide +kernel
theorem dL_law_1152 : decode cL_law 1152 = .ok (.iconst 0, 1) := by decide +kernel
theorem dL_law_1153 : decode cL_law 1153 = .ok (.ireturn, 1) := by decide +kernel
theorem dL_law_1154 : decode cL_law 1154 = .ok (.iinc 3 7, 3) := by decide +kernel
theorem dL_law_1157 : decode cL_law 1157 = .ok (.goto (-1139), 3) := by decide +kernel
theorem dL_law_1160 : decode cL_law 1160 = .ok (.iconst 1, 1) := by decide +kernel
theorem dL_law_1161 : decode cL_law 1161 = .ok (.ireturn, 1) := by decide +kernel
end
section
/-! THE MACHINE OF SHAPES: a state of both systems is a list of shapes (what each cell is) and three tables (ints, longs, references), cells are numbered by the order of their making; 'ad' says at which address a cell lies. -/
/-- the tables' words that stay good when classes warm -/
def zw_Tb : List Cond := lw_tbl.filter goodWord
theorem zw_mem {w : Cond} (i : Nat) (h : lw_tbl[i]? = some w) (hg : goodWord w = true) : w ∈ zw_Tb := List.mem_filter.mpr ⟨List.mem_of_getElem? h, hg⟩
theorem zw_good : GoodIn zw_Tb zw_Tb := fun w hw => ⟨hw, good_of_word (List.mem_filter.mp hw).2⟩
abbrev zw_S : Type := List (Nat × Nat) × ((Nat → Nat → Int32) × ((Nat → Nat → Int64) × (Nat → Nat → Option Nat)))
/-- a method: its name, its code, how many locals, what it returns -/
abbrev zw_M : Type := MethodName × (ByteArray × (Nat × Option FieldType))
def zw_v (ad : Nat → Nat) : Value → Value
  | .ref k => .ref (ad k)
  | v => v
theorem zw_v_cat (ad : Nat → Nat) (v : Value) : (zw_v ad v).category = v.category := by cases v <;> rfl
def zw_cl : List vw_C := [(RX0, TX0, 5), (RX1, TX1, 6), (RX2, TX2, 5), (RX3, TX3, 12), (RX4, TX4, 5), (RX5, TX5, 10), (RX6, TX6, 3), (RX7, TX7, 12), (RX8, TX8, 62)]
def zw_N : Nat → Nat
  | 0 => 5
  | 1 => 6
  | 2 => 5
  | 3 => 12
  | 4 => 5
  | 5 => 10
  | 6 => 3
  | 7 => 12
  | _ => 62
def zw_T : Nat → u_T
  | 0 => TX0
  | 1 => TX1
  | 2 => TX2
  | 3 => TX3
  | 4 => TX4
  | 5 => TX5
  | 6 => TX6
  | 7 => TX7
  | _ => TX8
def zw_ft : Nat → Nat → FieldType
  | 0 => tyX0
  | 1 => tyX1
  | 2 => tyX2
  | 3 => tyX3
  | 4 => tyX4
  | 5 => tyX5
  | 6 => tyX6
  | 7 => tyX7
  | _ => tyX8
def zw_R : Nat → String
  | 0 => RX0
  | 1 => RX1
  | 2 => RX2
  | 3 => RX3
  | 4 => RX4
  | 5 => RX5
  | 6 => RX6
  | 7 => RX7
  | _ => RX8
theorem zw_cl_at {ci : Nat} (h : ci < 9) : zw_cl[ci]? = some (zw_R ci, zw_T ci, zw_N ci) := by
  rcases (by omega : ci = 0 ∨ ci = 1 ∨ ci = 2 ∨ ci = 3 ∨ ci = 4 ∨ ci = 5 ∨ ci = 6 ∨ ci = 7 ∨ ci = 8) with h | h | h | h | h | h | h | h | h <;> subst h <;> rfl
theorem zw_nm {ci : Nat} (h : ci < 9) : ∀ a, a < zw_N ci → ∀ b, b < zw_N ci → a ≠ b → (zw_T ci a).2.1 ≠ (zw_T ci b).2.1 := by
  rcases (by omega : ci = 0 ∨ ci = 1 ∨ ci = 2 ∨ ci = 3 ∨ ci = 4 ∨ ci = 5 ∨ ci = 6 ∨ ci = 7 ∨ ci = 8) with h | h | h | h | h | h | h | h | h <;> subst h
  · exact nmX0
  · exact nmX1
  · exact nmX2
  · exact nmX3
  · exact nmX4
  · exact nmX5
  · exact nmX6
  · exact nmX7
  · exact nmX8
theorem zw_ty {ci : Nat} (h : ci < 9) : ∀ k, k < zw_N ci → parseFieldDescriptor (zw_T ci k).2.2.1 = some (zw_ft ci k) := by
  rcases (by omega : ci = 0 ∨ ci = 1 ∨ ci = 2 ∨ ci = 3 ∨ ci = 4 ∨ ci = 5 ∨ ci = 6 ∨ ci = 7 ∨ ci = 8) with h | h | h | h | h | h | h | h | h <;> subst h
  · exact tyX0_ok
  · exact tyX1_ok
  · exact tyX2_ok
  · exact tyX3_ok
  · exact tyX4_ok
  · exact tyX5_ok
  · exact tyX6_ok
  · exact tyX7_ok
  · exact tyX8_ok
def zw_lays (ci : Nat) : List Cond := u_ws (zw_R ci) (zw_T ci) (zw_N ci)
theorem zw_lays_ok {ci : Nat} (h : ci < 9) : ∀ w ∈ zw_lays ci, w ∈ zw_Tb := by
  have key : ∀ ci, ci < 9 → (zw_lays ci).all (fun w => decide (w ∈ lw_tbl) && goodWord w) = true := by
    intro ci h
    rcases (by omega : ci = 0 ∨ ci = 1 ∨ ci = 2 ∨ ci = 3 ∨ ci = 4 ∨ ci = 5 ∨ ci = 6 ∨ ci = 7 ∨ ci = 8) with h | h | h | h | h | h | h | h | h <;> subst h <;> decide +kernel
  intro w hw
  have h1 := List.all_eq_true.mp (key ci h) w hw
  simp only [Bool.and_eq_true, decide_eq_true_eq] at h1
  exact List.mem_filter.mpr h1
/-- what a field holds -/
def zw_fv (ad : Nat → Nat) (S : zw_S) (k j : Nat) : FieldType → Value
  | .array _ => va_rf ((S.2.2.2 k j).map ad)
  | .object _ => va_rf ((S.2.2.2 k j).map ad)
  | .long => .long (S.2.2.1 k j)
  | _ => .int (S.2.1 k j)
def zw_fs (ad : Nat → Nat) (S : zw_S) (k ci : Nat) : List Value := (List.range (zw_N ci)).map (fun j => zw_fv ad S k j (zw_ft ci j))
/-- the kinds of arrays -/
def zw_at : Nat → FieldType
  | 2 => .byte
  | 3 => .boolean
  | 4 => .long
  | 5 => .array .int
  | 6 => .object RX1
  | 7 => .object RX6
  | _ => .int
def zw_ac (tc : Nat → ClassId) (ad : Nat → Nat) (S : zw_S) (k : Nat) : Nat × Nat → va_E
  | (0, ci) => .inr (ci, zw_fs ad S k ci)
  | (1, n) => .inl (tc 1, n, .inl (S.2.1 k))
  | (2, n) => .inl (tc 2, n, .inl (S.2.1 k))
  | (3, n) => .inl (tc 3, n, .inl (S.2.1 k))
  | (4, n) => .inl (tc 4, n, .inr (.inl (S.2.2.1 k)))
  | (t, n) => .inl (tc t, n, .inr (.inr (.inr (.inr (fun j => (S.2.2.2 k j).map ad)))))
def zw_ws (tc : Nat → ClassId) (ad : Nat → Nat) (S : zw_S) : va_W := S.1.mapIdx (fun k q => (ad k, zw_ac tc ad S k q))
def zw_tys (tc : Nat → ClassId) : List (ClassId × FieldType) := (List.range 8).map (fun i => (tc i, zw_at i))
theorem zw_tys_at (tc : Nat → ClassId) {i : Nat} (h : i < 8) : (zw_tys tc)[i]? = some (tc i, zw_at i) := by
  unfold zw_tys
  rw [List.getElem?_map, List.getElem?_range h]
  rfl
theorem zw_get {tc : Nat → ClassId} {ad : Nat → Nat} {S : zw_S} {k : Nat} {q : Nat × Nat} (h : S.1[k]? = some q) : (zw_ws tc ad S)[k]? = some (ad k, zw_ac tc ad S k q) := by
  unfold zw_ws
  rw [List.getElem?_mapIdx, h]
  rfl
theorem zw_ac_congr {tc : Nat → ClassId} {ad : Nat → Nat} {S S' : zw_S} {k : Nat} (h1 : S'.2.1 k = S.2.1 k) (h2 : S'.2.2.1 k = S.2.2.1 k) (h3 : S'.2.2.2 k = S.2.2.2 k) (q : Nat × Nat) : zw_ac tc ad S' k q = zw_ac tc ad S k q := by
  have e : ∀ j ty, zw_fv ad S' k j ty = zw_fv ad S k j ty := by
    intro j ty
    unfold zw_fv
    cases ty <;> simp only [h1, h2, h3]
  have e2 : ∀ ci, zw_fs ad S' k ci = zw_fs ad S k ci := by
    intro ci
    unfold zw_fs
    exact List.map_congr_left (fun j _ => e j _)
  unfold zw_ac
  split <;> simp only [h1, h2, h3, e2]
theorem zw_set {tc : Nat → ClassId} {ad : Nat → Nat} {S S' : zw_S} {k : Nat} {q : Nat × Nat} {e : va_E} (h : S.1[k]? = some q) (hs : S'.1 = S.1) (he : zw_ac tc ad S' k q = e)
    (ho : ∀ j, j ≠ k → S'.2.1 j = S.2.1 j ∧ S'.2.2.1 j = S.2.2.1 j ∧ S'.2.2.2 j = S.2.2.2 j) : (zw_ws tc ad S).set k (ad k, e) = zw_ws tc ad S' := by
  have hl : k < S.1.length := (List.getElem?_eq_some_iff.mp h).1
  apply List.ext_getElem?
  intro i
  by_cases hi : i = k
  · subst hi
    rw [List.getElem?_set_self (by unfold zw_ws; rw [List.length_mapIdx]; exact hl), zw_get (S := S') (by rw [hs]; exact h), he]
  · rw [List.getElem?_set_ne (Ne.symm hi)]
    unfold zw_ws
    rw [List.getElem?_mapIdx, List.getElem?_mapIdx, hs]
    obtain ⟨a, b, c⟩ := ho i hi
    cases S.1[i]? with
    | none => rfl
    | some r =>
      show some (ad i, zw_ac tc ad S i r) = some (ad i, zw_ac tc ad S' i r)
      rw [zw_ac_congr a b c]
/-- a table, but v at (k, j) -/
def zw_u {α : Type} (f : Nat → Nat → α) (k j : Nat) (v : α) : Nat → Nat → α := fun a b => if a = k ∧ b = j then v else f a b
def zw_pi (S : zw_S) (k j : Nat) (v : Int32) : zw_S := (S.1, zw_u S.2.1 k j v, S.2.2)
def zw_pl (S : zw_S) (k j : Nat) (v : Int64) : zw_S := (S.1, S.2.1, zw_u S.2.2.1 k j v, S.2.2.2)
def zw_pr (S : zw_S) (k j : Nat) (v : Option Nat) : zw_S := (S.1, S.2.1, S.2.2.1, zw_u S.2.2.2 k j v)
/-- a table, but the row f at k -/
def zw_row {α : Type} (g : Nat → Nat → α) (k : Nat) (f : Nat → α) : Nat → Nat → α := fun a => if a = k then f else g a
def zw_ri (S : zw_S) (k : Nat) (f : Nat → Int32) : zw_S := (S.1, zw_row S.2.1 k f, S.2.2)
def zw_rl (S : zw_S) (k : Nat) (f : Nat → Int64) : zw_S := (S.1, S.2.1, zw_row S.2.2.1 k f, S.2.2.2)
theorem zw_u_row {α : Type} (f : Nat → Nat → α) (k j : Nat) (v : α) : zw_u f k j v k = fun b => if b = j then v else f k b := by
  funext b
  simp [zw_u]
theorem zw_u_off {α : Type} (f : Nat → Nat → α) {k a : Nat} (j : Nat) (v : α) (h : a ≠ k) : zw_u f k j v a = f a := by
  funext b
  simp [zw_u, h]
theorem zw_row_at {α : Type} (g : Nat → Nat → α) (k : Nat) (f : Nat → α) : zw_row g k f k = f := by simp [zw_row]
theorem zw_row_off {α : Type} (g : Nat → Nat → α) {k a : Nat} (f : Nat → α) (h : a ≠ k) : zw_row g k f a = g a := by simp [zw_row, h]
theorem zw_put_i {tc : Nat → ClassId} {ad : Nat → Nat} {S : zw_S} {k n j : Nat} {t : Nat} {v : Int32} (ht : t = 1 ∨ t = 2 ∨ t = 3) (h : S.1[k]? = some (t, n)) : (zw_ws tc ad S).set k (ad k, .inl (tc t, n, .inl (upd (S.2.1 k) j v))) = zw_ws tc ad (zw_pi S k j v) := by
  refine zw_set h rfl ?_ (fun i hi => ⟨zw_u_off _ _ _ hi, rfl, rfl⟩)
  rcases ht with ht | ht | ht <;> subst ht <;> simp only [zw_ac, zw_pi, zw_u_row] <;> rfl
theorem zw_put_l {tc : Nat → ClassId} {ad : Nat → Nat} {S : zw_S} {k n j : Nat} {v : Int64} (h : S.1[k]? = some (4, n)) : (zw_ws tc ad S).set k (ad k, .inl (tc 4, n, .inr (.inl (vp_updL (S.2.2.1 k) j v)))) = zw_ws tc ad (zw_pl S k j v) := by
  refine zw_set h rfl ?_ (fun i hi => ⟨rfl, zw_u_off _ _ _ hi, rfl⟩)
  simp only [zw_ac, zw_pl, zw_u_row]
  rfl
theorem zw_row_i {tc : Nat → ClassId} {ad : Nat → Nat} {S : zw_S} {k n : Nat} {f : Nat → Int32} (h : S.1[k]? = some (1, n)) : (zw_ws tc ad S).set k (ad k, .inl (tc 1, n, .inl f)) = zw_ws tc ad (zw_ri S k f) := by
  refine zw_set h rfl ?_ (fun i hi => ⟨zw_row_off _ _ hi, rfl, rfl⟩)
  simp only [zw_ac, zw_ri, zw_row_at]
theorem zw_row_l {tc : Nat → ClassId} {ad : Nat → Nat} {S : zw_S} {k n : Nat} {f : Nat → Int64} (h : S.1[k]? = some (4, n)) : (zw_ws tc ad S).set k (ad k, .inl (tc 4, n, .inr (.inl f))) = zw_ws tc ad (zw_rl S k f) := by
  refine zw_set h rfl ?_ (fun i hi => ⟨rfl, zw_row_off _ _ hi, rfl⟩)
  simp only [zw_ac, zw_rl, zw_row_at]
theorem zw_put_q {tc : Nat → ClassId} {ad : Nat → Nat} {S : zw_S} {k n j t v : Nat} (ht : 5 ≤ t) (h : S.1[k]? = some (t, n)) : (zw_ws tc ad S).set k (ad k, .inl (tc t, n, .inr (.inr (.inr (.inr (va_up (fun j => (S.2.2.2 k j).map ad) j (some (ad v)))))))) = zw_ws tc ad (zw_pr S k j (some v)) := by
  refine zw_set h rfl ?_ (fun i hi => ⟨rfl, rfl, zw_u_off _ _ _ hi⟩)
  match t, ht with
  | t + 5, _ =>
    simp only [zw_ac, zw_pr, zw_u_row]
    congr 7
    funext b
    by_cases hb : b = j <;> simp [va_up, hb]
theorem zw_fs_len (ad : Nat → Nat) (S : zw_S) (k ci : Nat) : (zw_fs ad S k ci).length = zw_N ci := by simp [zw_fs]
theorem zw_fs_at {ad : Nat → Nat} {S : zw_S} {k ci j : Nat} (h : j < zw_N ci) : (zw_fs ad S k ci)[j]? = some (zw_fv ad S k j (zw_ft ci j)) := by
  unfold zw_fs
  rw [List.getElem?_map, List.getElem?_range h]
  rfl
theorem zw_fs_set {ad : Nat → Nat} {S S' : zw_S} {k ci j : Nat} {v : Value} (hv : zw_fv ad S' k j (zw_ft ci j) = v) (ho : ∀ i, i ≠ j → zw_fv ad S' k i (zw_ft ci i) = zw_fv ad S k i (zw_ft ci i)) : (zw_fs ad S k ci).set j v = zw_fs ad S' k ci := by
  apply List.ext_getElem?
  intro i
  by_cases hl : i < zw_N ci
  · by_cases hi : i = j
    · subst hi
      rw [List.getElem?_set_self (by rw [zw_fs_len]; exact hl), zw_fs_at hl, hv]
    · rw [List.getElem?_set_ne (Ne.symm hi), zw_fs_at hl, zw_fs_at hl, ho i hi]
  · rw [List.getElem?_eq_none (by rw [List.length_set, zw_fs_len]; omega), List.getElem?_eq_none (by rw [zw_fs_len]; omega)]
theorem zw_putf {tc : Nat → ClassId} {ad : Nat → Nat} {S S' : zw_S} {k ci j : Nat} {v : Value} (h : S.1[k]? = some (0, ci)) (hs : S'.1 = S.1) (hv : zw_fv ad S' k j (zw_ft ci j) = v) (ho : ∀ i, i ≠ j → zw_fv ad S' k i (zw_ft ci i) = zw_fv ad S k i (zw_ft ci i))
    (hr : ∀ i, i ≠ k → S'.2.1 i = S.2.1 i ∧ S'.2.2.1 i = S.2.2.1 i ∧ S'.2.2.2 i = S.2.2.2 i) : (zw_ws tc ad S).set k (ad k, .inr (ci, (zw_fs ad S k ci).set j v)) = zw_ws tc ad S' :=
  zw_set h hs (by simp only [zw_ac]; rw [zw_fs_set hv ho]) hr
theorem zw_fv_pi {ad : Nat → Nat} {S : zw_S} {k j i : Nat} {v : Int32} (h : i ≠ j) (ty : FieldType) : zw_fv ad (zw_pi S k j v) k i ty = zw_fv ad S k i ty := by
  cases ty <;> simp [zw_fv, zw_pi, zw_u, h]
theorem zw_fv_pr {ad : Nat → Nat} {S : zw_S} {k j i : Nat} {v : Option Nat} (h : i ≠ j) (ty : FieldType) : zw_fv ad (zw_pr S k j v) k i ty = zw_fv ad S k i ty := by
  cases ty <;> simp [zw_fv, zw_pr, zw_u, h]
/-- is a field of this type an int's, one of a reference -/
def zw_isI : FieldType → Bool
  | .int => true
  | .boolean => true
  | _ => false
def zw_isR : FieldType → Bool
  | .array _ => true
  | .object _ => true
  | _ => false
theorem zw_putfi {tc : Nat → ClassId} {ad : Nat → Nat} {S : zw_S} {k ci j : Nat} {v : Int32} (h : S.1[k]? = some (0, ci)) (ht : zw_isI (zw_ft ci j) = true) : (zw_ws tc ad S).set k (ad k, .inr (ci, (zw_fs ad S k ci).set j (.int v))) = zw_ws tc ad (zw_pi S k j v) := by
  refine zw_putf h rfl ?_ (fun i hi => zw_fv_pi hi _) (fun i hi => ⟨zw_u_off _ _ _ hi, rfl, rfl⟩)
  generalize zw_ft ci j = ty at ht ⊢
  cases ty <;> first | (simp [zw_isI] at ht; done) | simp [zw_fv, zw_pi, zw_u]
theorem zw_putfr {tc : Nat → ClassId} {ad : Nat → Nat} {S : zw_S} {k ci j v : Nat} (h : S.1[k]? = some (0, ci)) (ht : zw_isR (zw_ft ci j) = true) : (zw_ws tc ad S).set k (ad k, .inr (ci, (zw_fs ad S k ci).set j (.ref (ad v)))) = zw_ws tc ad (zw_pr S k j (some v)) := by
  refine zw_putf h rfl ?_ (fun i hi => zw_fv_pr hi _) (fun i hi => ⟨rfl, rfl, zw_u_off _ _ _ hi⟩)
  generalize zw_ft ci j = ty at ht ⊢
  cases ty <;> first | (simp [zw_isR] at ht; done) | simp [zw_fv, zw_pr, zw_u, va_rf]
end
section
/-! what never changes: the two static tables, the texts, the words of nest mates -/
def zw_KA (j : Nat) : Int32 := [(-1 : Int32), 0, 0, 0, 1, 2, 3].getD j 0
def zw_BD (j : Nat) : Int32 := [(10 : Int32), 11, 12, 10, 20, 12, 30, 11, 12, 10, 11, 40, 50, 51, 12, 30, 11, 60, 71, 70, 40].getD j 0
def zw_tx (i : Nat) : String := ["owe ", "see ", "most ", "0123456789", " ", ")", "skvfmh", "<=>"].getD i ""
def zw_tn (i : Nat) : Nat := [45, 47, 49, 92, 59, 75, 80, 86].getD i 0
def zw_tb : List (List Int32) := [[111, 119, 101, 32], [115, 101, 101, 32], [109, 111, 115, 116, 32], [48, 49, 50, 51, 52, 53, 54, 55, 56, 57], [32], [41], [115, 107, 118, 102, 109, 104], [60, 61, 62]]
def zw_tl : List Nat := [4, 4, 5, 10, 1, 1, 6, 3]
/-- the calls of nest mates' private methods: the caller's class, the number, the method -/
def zw_nest : List (String × (Nat × MethodName)) := [(RX7, 11, yX5_init), (RX7, 23, yX2_init), (RX7, 30, yX1_init), (RX7, 41, yX4_init), (RX7, 61, yX0_init), (RX7, 72, yX6_init), (RX4, 53, yX7_isKindOf), (RX6, 28, yX7_within)]
def zw_G (ad : Nat → Nat) (A : Nat → Prop) (U : State) (H : Heap) : Prop :=
  (va_Z RX7 "KIND_ABOVE" "[I" (.ref (ad 300000)) A U H ∧ va_T .int (ad 300000) 7 (fun j => .int (zw_KA j)) A U H) ∧
  (va_Z RX0 "BODIES" "[I" (.ref (ad 300001)) A U H ∧ va_T .int (ad 300001) 21 (fun j => .int (zw_BD j)) A U H) ∧
  va_Z RJ0 "COMPACT_STRINGS" "Z" (.int 1) A U H ∧ (va_Z RJ3 "SIOOBE_FORMATTER" "Ljava/util/function/BiFunction;" .null A U H ∨ va_Z RJ3 "SIOOBE_FORMATTER" "Ljava/util/function/BiFunction;" (.ref (ad 400000)) A U H) ∧
  vk_S 8 zw_tl zw_tb (fun i => ad (100000 + i)) (fun i => ad (200000 + i)) A U H ∧
  (∀ i, i < 8 → vk_R RX2 (zw_tn i) (zw_tx i) (ad (100000 + i)) U) ∧
  (∀ q ∈ zw_nest, va_Nw (.methodLinkNest q.1 q.2.1 q.2.2 RX7) U)
theorem zw_G.kept {ad : Nat → Nat} {A : Nat → Prop} {U : State} {H H1 : Heap} (h : zw_G ad A U H) (hq : ∀ a : Nat, a < H.size → ¬ A a → H1[a]? = H[a]?) : zw_G ad A U H1 :=
  ⟨⟨h.1.1.kept hq, h.1.2.kept hq⟩, ⟨h.2.1.1.kept hq, h.2.1.2.kept hq⟩, h.2.2.1.kept hq, h.2.2.2.1.imp (fun z => z.kept hq) (fun z => z.kept hq), h.2.2.2.2.1.kept hq, h.2.2.2.2.2⟩
theorem zw_G.same {ad : Nat → Nat} {A : Nat → Prop} {u U : State} {H : Heap} (hv : u.vm = U.vm) (h : zw_G ad A u H) : zw_G ad A U H :=
  have ha : u.vm.Alike U.vm := by rw [hv]; exact Vm.Alike.refl _
  ⟨⟨h.1.1.moved ha, h.1.2.moved ha⟩, ⟨h.2.1.1.moved ha, h.2.1.2.moved ha⟩, h.2.2.1.moved ha, h.2.2.2.1.imp (fun z => z.moved ha) (fun z => z.moved ha), h.2.2.2.2.1.moved ha, fun i hi => vk_R.same hv.symm (h.2.2.2.2.2.1 i hi), fun q hq => va_Nw.same rfl hv (h.2.2.2.2.2.2 q hq)⟩
theorem zw_G.warm {ad : Nat → Nat} {A : Nat → Prop} {u U : State} {H : Heap} (hW : u.WarmedH U.vm) (h : zw_G ad A u H) : zw_G ad A U H :=
  have ha := hW.alike
  ⟨⟨h.1.1.moved ha, h.1.2.moved ha⟩, ⟨h.2.1.1.moved ha, h.2.1.2.moved ha⟩, h.2.2.1.moved ha, h.2.2.2.1.imp (fun z => z.moved ha) (fun z => z.moved ha), h.2.2.2.2.1.moved ha, fun i hi => vk_R.warm hW (h.2.2.2.2.2.1 i hi), fun q hq => va_Nw.warmM hW (h.2.2.2.2.2.2 q hq)⟩
theorem zw_G.re {ad ad' : Nat → Nat} {A : Nat → Prop} {U : State} {H : Heap} (h : zw_G ad A U H) (e : ∀ k, 100000 ≤ k → ad' k = ad k) : zw_G ad' A U H := by
  unfold zw_G at h ⊢
  have e1 : (fun i => ad' (100000 + i)) = (fun i => ad (100000 + i)) := funext fun i => e _ (by omega)
  have e2 : (fun i => ad' (200000 + i)) = (fun i => ad (200000 + i)) := funext fun i => e _ (by omega)
  rw [e 300000 (by omega), e 300001 (by omega), e 400000 (by omega), e1, e2]
  refine ⟨h.1, h.2.1, h.2.2.1, h.2.2.2.1, h.2.2.2.2.1, fun i hi => ?_, h.2.2.2.2.2.2⟩
  rw [e (100000 + i) (by omega)]
  exact h.2.2.2.2.2.1 i hi
/-! locals -/
def zw_lv (ad : Nat → Nat) : Nat → List (Option Value) → List (Nat × Value)
  | _, [] => []
  | i, none :: r => zw_lv ad (i + 1) r
  | i, some v :: r => (i, zw_v ad v) :: zw_lv ad (i + 1) r
theorem zw_lv_mem {ad : Nat → Nat} : ∀ {L : List (Option Value)} {i j : Nat} {w : Value}, (j, w) ∈ zw_lv ad i L ↔ ∃ (m : Nat) (v : Value), j = i + m ∧ L[m]? = some (some v) ∧ w = zw_v ad v := by
  intro L
  induction L with
  | nil => intro i j w; simp [zw_lv]
  | cons o L ih =>
    intro i j w
    cases o with
    | none =>
      rw [zw_lv, ih]
      constructor
      · rintro ⟨m, v, h1, h2, h3⟩
        exact ⟨m + 1, v, by omega, by simpa using h2, h3⟩
      · rintro ⟨m, v, h1, h2, h3⟩
        cases m with
        | zero => simp at h2
        | succ m => exact ⟨m, v, by omega, by simpa using h2, h3⟩
    | some x =>
      rw [zw_lv, List.mem_cons, ih]
      constructor
      · rintro (h | ⟨m, v, h1, h2, h3⟩)
        · cases h
          exact ⟨0, x, rfl, rfl, rfl⟩
        · exact ⟨m + 1, v, by omega, by simpa using h2, h3⟩
      · rintro ⟨m, v, h1, h2, h3⟩
        cases m with
        | zero =>
          simp at h2
          subst h2
          exact Or.inl (by rw [h3, h1]; rfl)
        | succ m => exact Or.inr ⟨m, v, by omega, by simpa using h2, h3⟩
def zw_L (ls : Array Slot) (nL : Nat) (ad : Nat → Nat) (L : List (Option Value)) : Prop := lv_has ls nL (zw_lv ad 0 L) ∧ L.length = nL
theorem zw_L.at {ls : Array Slot} {nL : Nat} {ad : Nat → Nat} {L : List (Option Value)} (h : zw_L ls nL ad L) {i : Nat} {v : Value} (hl : L[i]? = some (some v)) : ls[i]? = some (.val (zw_v ad v)) :=
  h.1.2.2 (i, zw_v ad v) (zw_lv_mem.mpr ⟨i, v, by omega, hl, rfl⟩)
/-- no long lies across the local i -/
def zw_nl (L : List (Option Value)) : Nat → Bool
  | 0 => true
  | i + 1 => match L[i]? with
    | some (some v) => v.category != 2
    | _ => true
theorem zw_nl_no {L : List (Option Value)} {i j : Nat} {v : Value} (h : zw_nl L i = true) (hj : j + 1 = i) (hv : L[j]? = some (some v)) : ¬ v.category = 2 := by
  subst hj
  unfold zw_nl at h
  simp only [hv] at h
  simpa using h
theorem zw_L.st1 {ls' : Array Slot} {nL : Nat} {ad : Nat → Nat} {L : List (Option Value)} {i : Nat} {x : Value} (hlen : L.length = nL) (hi : i < L.length) (hn : zw_nl L i = true)
    (h : lv_has ls' nL ((i, zw_v ad x) :: (zw_lv ad 0 L).filter (fun q => !(q.1 == i) && !(q.1 + 1 == i && q.2.category == 2)))) : zw_L ls' nL ad (L.set i (some x)) := by
  refine ⟨⟨h.1, h.2.1, fun q hq => ?_⟩, by rw [List.length_set]; exact hlen⟩
  obtain ⟨j, w⟩ := q
  obtain ⟨m, v, h1, h2, h3⟩ := zw_lv_mem.mp hq
  have hjm : j = m := by omega
  subst hjm
  by_cases hji : j = i
  · subst hji
    rw [List.getElem?_set_self hi] at h2
    cases h2
    rw [h3]
    exact h.2.2 _ List.mem_cons_self
  · rw [List.getElem?_set_ne (Ne.symm hji)] at h2
    refine h.2.2 _ (List.mem_cons_of_mem _ (List.mem_filter.mpr ⟨zw_lv_mem.mpr ⟨j, v, h1, h2, h3⟩, ?_⟩))
    simp only [Bool.and_eq_true, Bool.not_eq_true', beq_eq_false_iff_ne, Bool.and_eq_false_iff, ne_eq]
    refine ⟨hji, ?_⟩
    by_cases he : j + 1 = i
    · exact Or.inr (by rw [h3, zw_v_cat]; exact zw_nl_no hn he h2)
    · exact Or.inl he
theorem zw_L.st2 {ls' : Array Slot} {nL : Nat} {ad : Nat → Nat} {L : List (Option Value)} {i : Nat} {x : Value} (hlen : L.length = nL) (hi : i < L.length) (hn : zw_nl L i = true)
    (h : lv_has ls' nL ((i, zw_v ad x) :: (zw_lv ad 0 L).filter (fun q => !(q.1 == i) && (!(q.1 == i + 1) && !(q.1 + 1 == i && q.2.category == 2))))) : zw_L ls' nL ad ((L.set i (some x)).set (i + 1) none) := by
  refine ⟨⟨h.1, h.2.1, fun q hq => ?_⟩, by rw [List.length_set, List.length_set]; exact hlen⟩
  obtain ⟨j, w⟩ := q
  obtain ⟨m, v, h1, h2, h3⟩ := zw_lv_mem.mp hq
  have hjm : j = m := by omega
  subst hjm
  by_cases hj1 : j = i + 1
  · subst hj1
    by_cases hl : i + 1 < L.length
    · rw [List.getElem?_set_self (by rw [List.length_set]; exact hl)] at h2
      simp at h2
    · rw [List.getElem?_eq_none (by rw [List.length_set, List.length_set]; omega)] at h2
      cases h2
  · rw [List.getElem?_set_ne (Ne.symm hj1)] at h2
    by_cases hji : j = i
    · subst hji
      rw [List.getElem?_set_self hi] at h2
      cases h2
      rw [h3]
      exact h.2.2 _ List.mem_cons_self
    · rw [List.getElem?_set_ne (Ne.symm hji)] at h2
      refine h.2.2 _ (List.mem_cons_of_mem _ (List.mem_filter.mpr ⟨zw_lv_mem.mpr ⟨j, v, h1, h2, h3⟩, ?_⟩))
      simp only [Bool.and_eq_true, Bool.not_eq_true', beq_eq_false_iff_ne, Bool.and_eq_false_iff, ne_eq]
      refine ⟨hji, hj1, ?_⟩
      by_cases he : j + 1 = i
      · exact Or.inr (by rw [h3, zw_v_cat]; exact zw_nl_no hn he h2)
      · exact Or.inl he
def zw_en : List Value → List (Option Value)
  | [] => []
  | .long x :: vs => some (.long x) :: none :: zw_en vs
  | .double x :: vs => some (.double x) :: none :: zw_en vs
  | v :: vs => some v :: zw_en vs
def zw_ent (vs : List Value) (n : Nat) : List (Option Value) := zw_en vs ++ List.replicate (n - (zw_en vs).length) none
theorem zw_en_cons (v : Value) (vs : List Value) : zw_en (v :: vs) = if v.category = 2 then some v :: none :: zw_en vs else some v :: zw_en vs := by cases v <;> rfl
theorem zw_en_lv (ad : Nat → Nat) : ∀ (vs : List Value) (i : Nat), zw_lv ad i (zw_en vs) = lv_args i (vs.map (zw_v ad)) := by
  intro vs
  induction vs with
  | nil => intro i; rfl
  | cons v vs ih =>
    intro i
    rw [zw_en_cons, List.map_cons, lv_args, zw_v_cat]
    split
    · rw [zw_lv, zw_lv, ih]
    · rw [zw_lv, ih]
theorem zw_en_len (ad : Nat → Nat) : ∀ vs : List Value, (lg_sl (vs.map (zw_v ad))).length = (zw_en vs).length := by
  intro vs
  induction vs with
  | nil => rfl
  | cons v vs ih =>
    rw [zw_en_cons]
    have e : (lg_sl ((v :: vs).map (zw_v ad))).length = (if v.category = 2 then 2 else 1) + (lg_sl (vs.map (zw_v ad))).length := by
      simp only [lg_sl, List.map_cons, List.flatMap_cons, List.length_append, zw_v_cat]
      split <;> rfl
    rw [e, ih]
    split <;> simp <;> omega
theorem zw_lv_none (ad : Nat → Nat) (n : Nat) : ∀ (L : List (Option Value)) (i : Nat), zw_lv ad i (L ++ List.replicate n none) = zw_lv ad i L := by
  intro L
  induction L with
  | nil =>
    induction n with
    | zero => intro i; rfl
    | succ n ih => intro i; rw [List.nil_append, List.replicate_succ, zw_lv]; exact ih (i + 1)
  | cons o L ih =>
    intro i
    cases o with
    | none => rw [List.cons_append, zw_lv, zw_lv, ih]
    | some v => rw [List.cons_append, zw_lv, zw_lv, ih]
theorem zw_L.entry {ad : Nat → Nat} {vs : List Value} {n : Nat} (h : (zw_en vs).length ≤ n) : zw_L ((lg_sl (vs.map (zw_v ad)) ++ List.replicate (n - (lg_sl (vs.map (zw_v ad))).length) Slot.unset).toArray) n ad (zw_ent vs n) := by
  refine ⟨?_, by unfold zw_ent; rw [List.length_append, List.length_replicate]; omega⟩
  unfold zw_ent
  rw [zw_lv_none, zw_en_lv]
  exact lv_entry _ (by rw [zw_en_len]; exact h)
/-! contracts over shapes -/
/-- the references that lie in cells are of cells that there are, or of what never changes -/
def zw_wf (S : zw_S) : Prop := ∀ k j r : Nat, S.2.2.2 k j = some r → r < S.1.length ∨ 100000 ≤ r
def zw_P (D : va_G) (tc : Nat → ClassId) (A : Nat → Prop) (ad : Nat → Nat) (vs : List Value) (S : zw_S) : Array Value → State → Prop := fun v U =>
  v = (vs.map (zw_v ad)).toArray ∧ va_P D zw_cl (zw_ws tc ad S) U.heap ∧ va_D A (zw_ws tc ad S) ∧ va_K D zw_cl (zw_tys tc) U ∧ zw_G ad A U U.heap ∧ (∀ q : Nat, U.heap.size ≤ q → A q) ∧ zw_wf S
def zw_Q (D : va_G) (tc : Nat → ClassId) (A : Nat → Prop) (ad0 : Nat → Nat) (n0 mc : Nat) (Q : Option Value → zw_S → Prop) : Array Value → State → Outcome → State → Prop := fun _ st oc t =>
  (∃ (r : Option Value) (S' : zw_S) (ad' : Nat → Nat), oc = .returned (r.map (zw_v ad')) ∧ Q r S' ∧ (n0 ≤ S'.1.length ∧ zw_wf S') ∧ (∀ k, k < n0 ∨ 100000 ≤ k → ad' k = ad0 k) ∧ (mc = 0 → ad' = ad0) ∧ va_P D zw_cl (zw_ws tc ad' S') t.heap ∧ va_D A (zw_ws tc ad' S')) ∧ va_F A st t
def zw_rm (d mc ms : Nat) : Room := { frames := d, cells := mc, slots := ms, locals := 60 * d }
def zw_C (D : va_G) (tc : Nat → ClassId) (A : Nat → Prop) (y : zw_M) (p : Program) (s : State) (m : MethodId) (args : Array Value) (meth : Method) (c : Code) (ad : Nat → Nat) : Prop :=
  p.tables.exec = Jvm.exec ∧ c.code = y.2.1 ∧ meth.sig.returnType = y.2.2.2 ∧ c.maxLocals = y.2.2.1 ∧ s.vm.findClass y.1.cls = some m.cls ∧ (∀ w ∈ zw_Tb, w.before args s = true) ∧ va_K D zw_cl (zw_tys tc) s ∧ zw_G ad A s s.heap ∧ meth.locks = false ∧ meth.name = y.1.name ∧ ∀ q : Nat, s.heap.size ≤ q → A q
def zW (l : Launch) (D : va_G) (tc : Nat → ClassId) (A : Nat → Prop) (y : zw_M) (d mc ms k n pc : Nat) (L : List (Option Value)) (st : List Value) (S : zw_S) (Q : Option Value → zw_S → Prop) : Prop :=
  ∀ (p : Program) (e : Env) (s : State) (m : MethodId) (args : Array Value) (below : List Frame) (meth : Method) (c : Code) (ad ad0 : Nat → Nat) (n0 : Nat) (H : Heap) (locs : List Loc) (ls : Array Slot),
    zw_C D tc A y p s m args meth c ad → va_P D zw_cl (zw_ws tc ad S) H → va_D A (zw_ws tc ad S) → va_S A s.heap H locs → zw_L ls y.2.2.1 ad L → n0 ≤ S.1.length ∧ zw_wf S → (∀ k, k < n0 ∨ 100000 ≤ k → ad k = ad0 k) → (mc = 0 → ad = ad0) →
    W p l e (zw_rm d mc ms) s m args below meth c H locs k n (MQ below (zw_Q D tc A ad0 n0 mc Q) args s mc ms A) (F0 m pc ls (st.map (zw_v ad)))
/-- a method, called with these arguments in this state, ends, and Q holds of its answer and of the state behind it -/
def zCall (l : Launch) (D : va_G) (tc : Nat → ClassId) (A : Nat → Prop) (y : zw_M) (d mc ms : Nat) (vs : List Value) (S : zw_S) (Q : Option Value → zw_S → Prop) : Prop := zW l D tc A y d mc ms 0 0 0 (zw_ent vs y.2.2.1) [] S Q
def zw_wsy (y : zw_M) : List Cond := Cond.code y.1 y.2.1 y.2.2.1 y.2.2.2 :: zw_Tb
set_option maxHeartbeats 4000000 in
theorem zw_met {l : Launch} {D : va_G} {tc : Nat → ClassId} {A : Nat → Prop} {y : zw_M} {d mc ms : Nat} {vs : List Value} {S : zw_S} {Q : Option Value → zw_S → Prop} (hy : plainName y.1.cls = true) (hn : (zw_en vs).length ≤ y.2.2.1) (h : zCall l D tc A y d mc ms vs S Q) (ad : Nat → Nat) :
    Met l y.1 (zw_wsy y) (zw_rm d mc ms) (zw_P D tc A ad vs S) (zw_Q D tc A ad S.1.length mc Q) mc ms A := by
  refine Met.ofW (cc := y.2.1) (maxL := y.2.2.1) (ret := y.2.2.2) (ws' := zw_Tb) hy rfl ?_
  intro p e s m args below meth c s₁ B hml hv
  obtain ⟨rfl, hP, hD, hK, hG, hA, hw⟩ := hv
  have hts : ∀ w ∈ zw_wsy y, w.before _ s = true := atoms_spec (ws := zw_wsy y) B.pre
  rw [lg_entry_eq]
  exact h p e s m _ below meth c ad ad S.1.length s.heap [] _ ⟨B.exec, B.bytes, B.returns, hml, findClass_of_methodNamed B.named, fun w hw => hts w (List.mem_cons_of_mem _ hw), hK, hG, B.notSynchronized, (name_of_methodNamed B.named B.method).1, hA⟩ hP hD va_S.rf (zw_L.entry hn) ⟨Nat.le_refl _, hw⟩ (fun _ _ => rfl) (fun _ => rfl)
theorem zW.mono {l : Launch} {D : va_G} {tc : Nat → ClassId} {A : Nat → Prop} {y : zw_M} {d mc ms k n pc : Nat} {L : List (Option Value)} {st : List Value} {S : zw_S} {Q Q' : Option Value → zw_S → Prop} (h : zW l D tc A y d mc ms k n pc L st S Q) (hQ : ∀ r S', Q r S' → Q' r S') : zW l D tc A y d mc ms k n pc L st S Q' := by
  intro p e s m args below meth c ad ad0 n0 H locs ls C hP hD hS hL hn ha hm T hT X
  obtain ⟨t, h1, o, h2, h3, ⟨⟨r, S', ad', g1, g2, g3⟩, h5⟩, h6⟩ := h p e s m args below meth c ad ad0 n0 H locs ls C hP hD hS hL hn ha hm T hT X
  exact ⟨t, h1, o, h2, h3, ⟨⟨r, S', ad', g1, hQ _ _ g2, g3⟩, h5⟩, h6⟩
theorem zw_blind {D : va_G} {tc : Nat → ClassId} {A : Nat → Prop} {ad : Nat → Nat} {vs : List Value} {S : zw_S} : FrameBlind (zw_P D tc A ad vs S) := by
  intro a U g mk ⟨h1, h2, h3, h4, h5, h6, h7⟩
  exact ⟨h1, h2, h3, va_K.moved (u := U) (U := U.calling g mk a) (Vm.Alike.refl U.vm) h4, zw_G.same (u := U) (U := U.calling g mk a) rfl h5, h6, h7⟩
theorem zw_pre {D : va_G} {tc : Nat → ClassId} {A : Nat → Prop} {y : zw_M} {p : Program} {s : State} {m : MethodId} {args : Array Value} {meth : Method} {c : Code} {ad : Nat → Nat} {S : zw_S} {H : Heap} {locs : List Loc} {vs : List Value} (C : zw_C D tc A y p s m args meth c ad) (hP : va_P D zw_cl (zw_ws tc ad S) H) (hD : va_D A (zw_ws tc ad S)) (hS : va_S A s.heap H locs) (hw : zw_wf S) :
    FrameBlind (zw_P D tc A ad vs S) ∧ ∀ U : State, U.heap = H → s.WarmedH U.vm → zw_P D tc A ad vs S (vs.map (zw_v ad)).toArray U := by
  refine ⟨zw_blind, fun U hU hW => ⟨rfl, by rw [hU]; exact hP, hD, va_K.moved hW.alike C.2.2.2.2.2.2.1, ?_, fun q hq => C.2.2.2.2.2.2.2.2.2.2 q (Nat.le_trans hS.1 (by rw [← hU]; exact hq)), hw⟩⟩
  rw [hU]
  exact zw_G.warm hW (C.2.2.2.2.2.2.2.1.kept hS.2.1)
section ZG
variable {p : Program} {l : Launch} {e : Env} {R : Room} {s : State} {m : MethodId} {args : Array Value} {below : List Frame} {meth : Method} {c : Code} {H : Heap} {locs : List Loc} {cells slots : Nat} {Q : State → Prop}
theorem zw_goes {D : va_G} {tc : Nat → ClassId} {A : Nat → Prop} {ad : Nat → Nat} {n0 mc ms : Nat} {Q' : Option Value → zw_S → Prop} {pc : Nat} {ls : Array Slot} {rest st0 : List Value} {a : Array Value}
    (hr : va_Run p l e R s m args below meth c H locs cells slots mc ms (F0 m pc ls st0) rest (zw_Q D tc A ad n0 mc Q' a) A) (hS : va_S A s.heap H locs)
    (kk : ∀ (r : Option Value) (S' : zw_S) (ad' : Nat → Nat) (H1 : Heap) (locs1 : List Loc), Q' r S' → n0 ≤ S'.1.length ∧ zw_wf S' → (∀ k, k < n0 ∨ 100000 ≤ k → ad' k = ad k) → (mc = 0 → ad' = ad) → va_P D zw_cl (zw_ws tc ad' S') H1 → va_D A (zw_ws tc ad' S') → va_S A s.heap H1 locs1 →
      W p l e R s m args below meth c H1 locs1 (cells + mc) (slots + ms) Q (F0 m (pc + 3) ls ((r.map (zw_v ad')).toList ++ rest))) : W p l e R s m args below meth c H locs cells slots Q (F0 m pc ls st0) := by
  intro T hT X
  obtain ⟨v, st₀, t, T', L, h0, X', hL, e1, e2, ⟨⟨r, S', ad', hv, hq, hw, ha, hm, hP, hD⟩, hz, hk⟩, st⟩ := hr T hT X
  cases hv
  rw [h0] at hz hk
  obtain ⟨t2, a1, b1⟩ := kk r S' ad' T'.heap (locs ++ L) hq hw ha hm (by rw [e1]; exact hP) hD
    ⟨Nat.le_trans hS.1 (by rw [e1]; exact hz), fun q h1 h2 => by rw [e1, hk q (Nat.lt_of_lt_of_le h1 hS.1) h2]; exact hS.2.1 q h1 h2, fun q hq => by
      rcases List.mem_append.mp hq with h | h
      · exact hS.2.2 q h
      · exact hL q h⟩ T' rfl X'
  exact ⟨t2, st t2 a1, b1⟩
end ZG
end
section
/-! a rule an instruction: the goal first -/
section ZX
variable {l : Launch} {D : va_G} {tc : Nat → ClassId} {A : Nat → Prop} {y : zw_M} {d mc ms k n pc q : Nat} {L : List (Option Value)} {st : List Value} {S : zw_S} {Q : Option Value → zw_S → Prop}
theorem zx_iconst {i : Int} {v : Int32} (hd : decode y.2.1 pc = .ok (.iconst i, 1)) (hv : Int32.ofInt i = v) (hq : pc + 1 = q) (kk : zW l D tc A y d mc ms k n q L (.int v :: st) S Q) : zW l D tc A y d mc ms k n pc L (st) S Q := by
  subst hq
  intro p e s m args below meth c ad ad0 n0 H locs ls C hP hD hS hL hn ha hm
  exact lv_iconst C.1 C.2.1 hd hv (kk p e s m args below meth c ad ad0 n0 H locs ls C hP hD hS hL hn ha hm)
theorem zx_bipush {i : Int} {v : Int32} (hd : decode y.2.1 pc = .ok (.bipush i, 2)) (hv : (Int8.ofInt i).toInt32 = v) (hq : pc + 2 = q) (kk : zW l D tc A y d mc ms k n q L (.int v :: st) S Q) : zW l D tc A y d mc ms k n pc L (st) S Q := by
  subst hq
  intro p e s m args below meth c ad ad0 n0 H locs ls C hP hD hS hL hn ha hm
  exact lv_bipush C.1 C.2.1 hd hv (kk p e s m args below meth c ad ad0 n0 H locs ls C hP hD hS hL hn ha hm)
theorem zx_sipush {i : Int} {v : Int32} (hd : decode y.2.1 pc = .ok (.sipush i, 3)) (hv : (Int16.ofInt i).toInt32 = v) (hq : pc + 3 = q) (kk : zW l D tc A y d mc ms k n q L (.int v :: st) S Q) : zW l D tc A y d mc ms k n pc L (st) S Q := by
  subst hq
  intro p e s m args below meth c ad ad0 n0 H locs ls C hP hD hS hL hn ha hm
  exact lv_sipush C.1 C.2.1 hd hv (kk p e s m args below meth c ad ad0 n0 H locs ls C hP hD hS hL hn ha hm)
theorem zx_lconst {i : Fin 2} {v : Int64} (hd : decode y.2.1 pc = .ok (.lconst i, 1)) (hv : Int64.ofNat (i : Nat) = v) (hq : pc + 1 = q) (kk : zW l D tc A y d mc ms k n q L (.long v :: st) S Q) : zW l D tc A y d mc ms k n pc L (st) S Q := by
  subst hq
  intro p e s m args below meth c ad ad0 n0 H locs ls C hP hD hS hL hn ha hm
  exact lv_lconst C.1 C.2.1 hd hv (kk p e s m args below meth c ad ad0 n0 H locs ls C hP hD hS hL hn ha hm)
theorem zx_iadd {x y2 : Int32} (hd : decode y.2.1 pc = .ok (.iadd, 1)) (hq : pc + 1 = q) (kk : zW l D tc A y d mc ms k n q L (.int (x + y2) :: st) S Q) : zW l D tc A y d mc ms k n pc L (.int y2 :: .int x :: st) S Q := by
  subst hq
  intro p e s m args below meth c ad ad0 n0 H locs ls C hP hD hS hL hn ha hm
  exact lv_iadd C.1 C.2.1 hd (kk p e s m args below meth c ad ad0 n0 H locs ls C hP hD hS hL hn ha hm)
theorem zx_isub {x y2 : Int32} (hd : decode y.2.1 pc = .ok (.isub, 1)) (hq : pc + 1 = q) (kk : zW l D tc A y d mc ms k n q L (.int (x - y2) :: st) S Q) : zW l D tc A y d mc ms k n pc L (.int y2 :: .int x :: st) S Q := by
  subst hq
  intro p e s m args below meth c ad ad0 n0 H locs ls C hP hD hS hL hn ha hm
  exact lv_isub C.1 C.2.1 hd (kk p e s m args below meth c ad ad0 n0 H locs ls C hP hD hS hL hn ha hm)
theorem zx_imul {x y2 : Int32} (hd : decode y.2.1 pc = .ok (.imul, 1)) (hq : pc + 1 = q) (kk : zW l D tc A y d mc ms k n q L (.int (x * y2) :: st) S Q) : zW l D tc A y d mc ms k n pc L (.int y2 :: .int x :: st) S Q := by
  subst hq
  intro p e s m args below meth c ad ad0 n0 H locs ls C hP hD hS hL hn ha hm
  exact lv_imul C.1 C.2.1 hd (kk p e s m args below meth c ad ad0 n0 H locs ls C hP hD hS hL hn ha hm)
theorem zx_iand {x y2 : Int32} (hd : decode y.2.1 pc = .ok (.iand, 1)) (hq : pc + 1 = q) (kk : zW l D tc A y d mc ms k n q L (.int (x &&& y2) :: st) S Q) : zW l D tc A y d mc ms k n pc L (.int y2 :: .int x :: st) S Q := by
  subst hq
  intro p e s m args below meth c ad ad0 n0 H locs ls C hP hD hS hL hn ha hm
  exact lv_iand C.1 C.2.1 hd (kk p e s m args below meth c ad ad0 n0 H locs ls C hP hD hS hL hn ha hm)
theorem zx_ior {x y2 : Int32} (hd : decode y.2.1 pc = .ok (.ior, 1)) (hq : pc + 1 = q) (kk : zW l D tc A y d mc ms k n q L (.int (x ||| y2) :: st) S Q) : zW l D tc A y d mc ms k n pc L (.int y2 :: .int x :: st) S Q := by
  subst hq
  intro p e s m args below meth c ad ad0 n0 H locs ls C hP hD hS hL hn ha hm
  exact lv_ior C.1 C.2.1 hd (kk p e s m args below meth c ad ad0 n0 H locs ls C hP hD hS hL hn ha hm)
theorem zx_ixor {x y2 : Int32} (hd : decode y.2.1 pc = .ok (.ixor, 1)) (hq : pc + 1 = q) (kk : zW l D tc A y d mc ms k n q L (.int (x ^^^ y2) :: st) S Q) : zW l D tc A y d mc ms k n pc L (.int y2 :: .int x :: st) S Q := by
  subst hq
  intro p e s m args below meth c ad ad0 n0 H locs ls C hP hD hS hL hn ha hm
  exact lv_ixor C.1 C.2.1 hd (kk p e s m args below meth c ad ad0 n0 H locs ls C hP hD hS hL hn ha hm)
theorem zx_land {x y2 : Int64} (hd : decode y.2.1 pc = .ok (.land, 1)) (hq : pc + 1 = q) (kk : zW l D tc A y d mc ms k n q L (.long (x &&& y2) :: st) S Q) : zW l D tc A y d mc ms k n pc L (.long y2 :: .long x :: st) S Q := by
  subst hq
  intro p e s m args below meth c ad ad0 n0 H locs ls C hP hD hS hL hn ha hm
  exact lv_land C.1 C.2.1 hd (kk p e s m args below meth c ad ad0 n0 H locs ls C hP hD hS hL hn ha hm)
theorem zx_lor {x y2 : Int64} (hd : decode y.2.1 pc = .ok (.lor, 1)) (hq : pc + 1 = q) (kk : zW l D tc A y d mc ms k n q L (.long (x ||| y2) :: st) S Q) : zW l D tc A y d mc ms k n pc L (.long y2 :: .long x :: st) S Q := by
  subst hq
  intro p e s m args below meth c ad ad0 n0 H locs ls C hP hD hS hL hn ha hm
  exact lv_lor C.1 C.2.1 hd (kk p e s m args below meth c ad ad0 n0 H locs ls C hP hD hS hL hn ha hm)
theorem zx_idiv {x y2 : Int32} (hd : decode y.2.1 pc = .ok (.idiv, 1)) (hne : ¬ y2 = 0) (hq : pc + 1 = q) (kk : zW l D tc A y d mc ms k n q L (.int (x / y2) :: st) S Q) : zW l D tc A y d mc ms k n pc L (.int y2 :: .int x :: st) S Q := by
  subst hq
  intro p e s m args below meth c ad ad0 n0 H locs ls C hP hD hS hL hn ha hm
  exact lv_idiv C.1 C.2.1 hd hne (kk p e s m args below meth c ad ad0 n0 H locs ls C hP hD hS hL hn ha hm)
theorem zx_irem {x y2 : Int32} (hd : decode y.2.1 pc = .ok (.irem, 1)) (hne : ¬ y2 = 0) (hq : pc + 1 = q) (kk : zW l D tc A y d mc ms k n q L (.int (x - x / y2 * y2) :: st) S Q) : zW l D tc A y d mc ms k n pc L (.int y2 :: .int x :: st) S Q := by
  subst hq
  intro p e s m args below meth c ad ad0 n0 H locs ls C hP hD hS hL hn ha hm
  exact lv_irem C.1 C.2.1 hd hne (kk p e s m args below meth c ad ad0 n0 H locs ls C hP hD hS hL hn ha hm)
theorem zx_ldiv {x y2 : Int64} (hd : decode y.2.1 pc = .ok (.ldiv, 1)) (hne : ¬ y2 = 0) (hq : pc + 1 = q) (kk : zW l D tc A y d mc ms k n q L (.long (x / y2) :: st) S Q) : zW l D tc A y d mc ms k n pc L (.long y2 :: .long x :: st) S Q := by
  subst hq
  intro p e s m args below meth c ad ad0 n0 H locs ls C hP hD hS hL hn ha hm
  exact lv_ldiv C.1 C.2.1 hd hne (kk p e s m args below meth c ad ad0 n0 H locs ls C hP hD hS hL hn ha hm)
theorem zx_lrem {x y2 : Int64} (hd : decode y.2.1 pc = .ok (.lrem, 1)) (hne : ¬ y2 = 0) (hq : pc + 1 = q) (kk : zW l D tc A y d mc ms k n q L (.long (x - x / y2 * y2) :: st) S Q) : zW l D tc A y d mc ms k n pc L (.long y2 :: .long x :: st) S Q := by
  subst hq
  intro p e s m args below meth c ad ad0 n0 H locs ls C hP hD hS hL hn ha hm
  exact lv_lrem C.1 C.2.1 hd hne (kk p e s m args below meth c ad ad0 n0 H locs ls C hP hD hS hL hn ha hm)
theorem zx_ineg {x : Int32} (hd : decode y.2.1 pc = .ok (.ineg, 1)) (hq : pc + 1 = q) (kk : zW l D tc A y d mc ms k n q L (.int (-x) :: st) S Q) : zW l D tc A y d mc ms k n pc L (.int x :: st) S Q := by
  subst hq
  intro p e s m args below meth c ad ad0 n0 H locs ls C hP hD hS hL hn ha hm
  exact lv_ineg C.1 C.2.1 hd (kk p e s m args below meth c ad ad0 n0 H locs ls C hP hD hS hL hn ha hm)
theorem zx_ishl {x y2 : Int32} (hd : decode y.2.1 pc = .ok (.ishl, 1)) (hq : pc + 1 = q) (kk : zW l D tc A y d mc ms k n q L (.int (x <<< (y2 &&& 31)) :: st) S Q) : zW l D tc A y d mc ms k n pc L (.int y2 :: .int x :: st) S Q := by
  subst hq
  intro p e s m args below meth c ad ad0 n0 H locs ls C hP hD hS hL hn ha hm
  exact lv_ishl C.1 C.2.1 hd (kk p e s m args below meth c ad ad0 n0 H locs ls C hP hD hS hL hn ha hm)
theorem zx_ishr {x y2 : Int32} (hd : decode y.2.1 pc = .ok (.ishr, 1)) (hq : pc + 1 = q) (kk : zW l D tc A y d mc ms k n q L (.int (x >>> (y2 &&& 31)) :: st) S Q) : zW l D tc A y d mc ms k n pc L (.int y2 :: .int x :: st) S Q := by
  subst hq
  intro p e s m args below meth c ad ad0 n0 H locs ls C hP hD hS hL hn ha hm
  exact lv_ishr C.1 C.2.1 hd (kk p e s m args below meth c ad ad0 n0 H locs ls C hP hD hS hL hn ha hm)
theorem zx_iushr {x y2 v : Int32} (hd : decode y.2.1 pc = .ok (.iushr, 1)) (hv : (x.toUInt32 >>> (y2.toUInt32 &&& Int32.toUInt32 31)).toInt32 = v) (hq : pc + 1 = q) (kk : zW l D tc A y d mc ms k n q L (.int v :: st) S Q) : zW l D tc A y d mc ms k n pc L (.int y2 :: .int x :: st) S Q := by
  subst hq
  intro p e s m args below meth c ad ad0 n0 H locs ls C hP hD hS hL hn ha hm
  exact lv_iushr C.1 C.2.1 hd hv (kk p e s m args below meth c ad ad0 n0 H locs ls C hP hD hS hL hn ha hm)
theorem zx_lshl {x v : Int64} {y2 : Int32} (hd : decode y.2.1 pc = .ok (.lshl, 1)) (hv : x <<< (y2.toInt64 &&& 63) = v) (hq : pc + 1 = q) (kk : zW l D tc A y d mc ms k n q L (.long v :: st) S Q) : zW l D tc A y d mc ms k n pc L (.int y2 :: .long x :: st) S Q := by
  subst hq
  intro p e s m args below meth c ad ad0 n0 H locs ls C hP hD hS hL hn ha hm
  exact lv_lshl C.1 C.2.1 hd hv (kk p e s m args below meth c ad ad0 n0 H locs ls C hP hD hS hL hn ha hm)
theorem zx_i2l {x : Int32} (hd : decode y.2.1 pc = .ok (.i2l, 1)) (hq : pc + 1 = q) (kk : zW l D tc A y d mc ms k n q L (.long (x.toInt64) :: st) S Q) : zW l D tc A y d mc ms k n pc L (.int x :: st) S Q := by
  subst hq
  intro p e s m args below meth c ad ad0 n0 H locs ls C hP hD hS hL hn ha hm
  exact lv_i2l C.1 C.2.1 hd rfl (kk p e s m args below meth c ad ad0 n0 H locs ls C hP hD hS hL hn ha hm)
theorem zx_l2i {x : Int64} (hd : decode y.2.1 pc = .ok (.l2i, 1)) (hq : pc + 1 = q) (kk : zW l D tc A y d mc ms k n q L (.int (x.toInt32) :: st) S Q) : zW l D tc A y d mc ms k n pc L (.long x :: st) S Q := by
  subst hq
  intro p e s m args below meth c ad ad0 n0 H locs ls C hP hD hS hL hn ha hm
  exact lv_l2i C.1 C.2.1 hd rfl (kk p e s m args below meth c ad ad0 n0 H locs ls C hP hD hS hL hn ha hm)
theorem zx_i2b {x : Int32} (hd : decode y.2.1 pc = .ok (.i2b, 1)) (hq : pc + 1 = q) (kk : zW l D tc A y d mc ms k n q L (.int (x.toInt8.toInt32) :: st) S Q) : zW l D tc A y d mc ms k n pc L (.int x :: st) S Q := by
  subst hq
  intro p e s m args below meth c ad ad0 n0 H locs ls C hP hD hS hL hn ha hm
  exact lv_i2b C.1 C.2.1 hd rfl (kk p e s m args below meth c ad ad0 n0 H locs ls C hP hD hS hL hn ha hm)
theorem zx_i2s {x : Int32} (hd : decode y.2.1 pc = .ok (.i2s, 1)) (hq : pc + 1 = q) (kk : zW l D tc A y d mc ms k n q L (.int (x.toInt16.toInt32) :: st) S Q) : zW l D tc A y d mc ms k n pc L (.int x :: st) S Q := by
  subst hq
  intro p e s m args below meth c ad ad0 n0 H locs ls C hP hD hS hL hn ha hm
  exact lv_i2s C.1 C.2.1 hd rfl (kk p e s m args below meth c ad ad0 n0 H locs ls C hP hD hS hL hn ha hm)
theorem zx_i2c {x : Int32} (hd : decode y.2.1 pc = .ok (.i2c, 1)) (hq : pc + 1 = q) (kk : zW l D tc A y d mc ms k n q L (.int ((x.toUInt32 % 65536).toInt32) :: st) S Q) : zW l D tc A y d mc ms k n pc L (.int x :: st) S Q := by
  subst hq
  intro p e s m args below meth c ad ad0 n0 H locs ls C hP hD hS hL hn ha hm
  exact lv_i2c C.1 C.2.1 hd rfl (kk p e s m args below meth c ad ad0 n0 H locs ls C hP hD hS hL hn ha hm)
theorem zx_lcmp {x y2 : Int64} (hd : decode y.2.1 pc = .ok (.lcmp, 1)) (hq : pc + 1 = q) (kk : zW l D tc A y d mc ms k n q L (.int (lg_cmp x y2) :: st) S Q) : zW l D tc A y d mc ms k n pc L (.long y2 :: .long x :: st) S Q := by
  subst hq
  intro p e s m args below meth c ad ad0 n0 H locs ls C hP hD hS hL hn ha hm
  exact W.lcmp C.1 C.2.1 hd (kk p e s m args below meth c ad ad0 n0 H locs ls C hP hD hS hL hn ha hm)
theorem zx_dup {va : Value} (hd : decode y.2.1 pc = .ok (.dup, 1)) (hc : va.category = 1) (hq : pc + 1 = q) (kk : zW l D tc A y d mc ms k n q L (va :: va :: st) S Q) : zW l D tc A y d mc ms k n pc L (va :: st) S Q := by
  subst hq
  intro p e s m args below meth c ad ad0 n0 H locs ls C hP hD hS hL hn ha hm
  exact lv_dup C.1 C.2.1 hd ((zw_v_cat _ _).trans hc) (kk p e s m args below meth c ad ad0 n0 H locs ls C hP hD hS hL hn ha hm)
theorem zx_pop {va : Value} (hd : decode y.2.1 pc = .ok (.pop, 1)) (hc : va.category = 1) (hq : pc + 1 = q) (kk : zW l D tc A y d mc ms k n q L (st) S Q) : zW l D tc A y d mc ms k n pc L (va :: st) S Q := by
  subst hq
  intro p e s m args below meth c ad ad0 n0 H locs ls C hP hD hS hL hn ha hm
  exact lv_pop C.1 C.2.1 hd ((zw_v_cat _ _).trans hc) (kk p e s m args below meth c ad ad0 n0 H locs ls C hP hD hS hL hn ha hm)
theorem zx_dup2 {va vb : Value} (hd : decode y.2.1 pc = .ok (.dup2, 1)) (hc : va.category = 1) (hc2 : vb.category = 1) (hq : pc + 1 = q) (kk : zW l D tc A y d mc ms k n q L (va :: vb :: va :: vb :: st) S Q) : zW l D tc A y d mc ms k n pc L (va :: vb :: st) S Q := by
  subst hq
  intro p e s m args below meth c ad ad0 n0 H locs ls C hP hD hS hL hn ha hm
  exact lv_dup2_11 C.1 C.2.1 hd ((zw_v_cat _ _).trans hc) ((zw_v_cat _ _).trans hc2) (kk p e s m args below meth c ad ad0 n0 H locs ls C hP hD hS hL hn ha hm)
theorem zx_iload_n {j : Fin 4} {i : Nat} {x : Int32} (hd : decode y.2.1 pc = .ok (.iload_n j, 1)) (hi : (j : Nat) = i) (hl : L[i]? = some (some (.int x))) (hq : pc + 1 = q) (kk : zW l D tc A y d mc ms k n q L (.int x :: st) S Q) : zW l D tc A y d mc ms k n pc L (st) S Q := by
  subst hq
  intro p e s m args below meth c ad ad0 n0 H locs ls C hP hD hS hL hn ha hm
  exact lv_iload_n C.1 C.2.1 hd hi (hL.at hl) (kk p e s m args below meth c ad ad0 n0 H locs ls C hP hD hS hL hn ha hm)
theorem zx_iload {i : Nat} {x : Int32} (hd : decode y.2.1 pc = .ok (.iload i, 2)) (hl : L[i]? = some (some (.int x))) (hq : pc + 2 = q) (kk : zW l D tc A y d mc ms k n q L (.int x :: st) S Q) : zW l D tc A y d mc ms k n pc L (st) S Q := by
  subst hq
  intro p e s m args below meth c ad ad0 n0 H locs ls C hP hD hS hL hn ha hm
  exact lv_iload C.1 C.2.1 hd (hL.at hl) (kk p e s m args below meth c ad ad0 n0 H locs ls C hP hD hS hL hn ha hm)
theorem zx_lload_n {j : Fin 4} {i : Nat} {x : Int64} (hd : decode y.2.1 pc = .ok (.lload_n j, 1)) (hi : (j : Nat) = i) (hl : L[i]? = some (some (.long x))) (hq : pc + 1 = q) (kk : zW l D tc A y d mc ms k n q L (.long x :: st) S Q) : zW l D tc A y d mc ms k n pc L (st) S Q := by
  subst hq
  intro p e s m args below meth c ad ad0 n0 H locs ls C hP hD hS hL hn ha hm
  exact lv_lload_n C.1 C.2.1 hd hi (hL.at hl) (kk p e s m args below meth c ad ad0 n0 H locs ls C hP hD hS hL hn ha hm)
theorem zx_lload {i : Nat} {x : Int64} (hd : decode y.2.1 pc = .ok (.lload i, 2)) (hl : L[i]? = some (some (.long x))) (hq : pc + 2 = q) (kk : zW l D tc A y d mc ms k n q L (.long x :: st) S Q) : zW l D tc A y d mc ms k n pc L (st) S Q := by
  subst hq
  intro p e s m args below meth c ad ad0 n0 H locs ls C hP hD hS hL hn ha hm
  exact lv_lload C.1 C.2.1 hd (hL.at hl) (kk p e s m args below meth c ad ad0 n0 H locs ls C hP hD hS hL hn ha hm)
theorem zx_aload_n {j : Fin 4} {i : Nat} {x : Nat} (hd : decode y.2.1 pc = .ok (.aload_n j, 1)) (hi : (j : Nat) = i) (hl : L[i]? = some (some (.ref x))) (hq : pc + 1 = q) (kk : zW l D tc A y d mc ms k n q L (.ref x :: st) S Q) : zW l D tc A y d mc ms k n pc L (st) S Q := by
  subst hq
  intro p e s m args below meth c ad ad0 n0 H locs ls C hP hD hS hL hn ha hm
  exact lv_aload_n C.1 C.2.1 hd hi (hL.at hl) (kk p e s m args below meth c ad ad0 n0 H locs ls C hP hD hS hL hn ha hm)
theorem zx_aload {i : Nat} {x : Nat} (hd : decode y.2.1 pc = .ok (.aload i, 2)) (hl : L[i]? = some (some (.ref x))) (hq : pc + 2 = q) (kk : zW l D tc A y d mc ms k n q L (.ref x :: st) S Q) : zW l D tc A y d mc ms k n pc L (st) S Q := by
  subst hq
  intro p e s m args below meth c ad ad0 n0 H locs ls C hP hD hS hL hn ha hm
  exact lv_aload C.1 C.2.1 hd (hL.at hl) (kk p e s m args below meth c ad ad0 n0 H locs ls C hP hD hS hL hn ha hm)
theorem zx_istore_n {j : Fin 4} {i : Nat} {x : Int32} (hd : decode y.2.1 pc = .ok (.istore_n j, 1)) (hi : (j : Nat) = i) (hlt : i < L.length) (hz : zw_nl L i = true) (hq : pc + 1 = q) (kk : zW l D tc A y d mc ms k n q (L.set i (some (.int x))) st S Q) : zW l D tc A y d mc ms k n pc L (.int x :: st) S Q := by
  subst hq
  intro p e s m args below meth c ad ad0 n0 H locs ls C hP hD hS hL hn ha hm
  exact lv_istore_n C.1 C.2.1 hd hi hL.1 (by rw [← hL.2]; exact hlt) rfl (fun ls' h => kk p e s m args below meth c ad ad0 n0 H locs ls' C hP hD hS (by exact zw_L.st1 hL.2 hlt hz h) hn ha hm)
theorem zx_istore {i : Nat} {x : Int32} (hd : decode y.2.1 pc = .ok (.istore i, 2)) (hlt : i < L.length) (hz : zw_nl L i = true) (hq : pc + 2 = q) (kk : zW l D tc A y d mc ms k n q (L.set i (some (.int x))) st S Q) : zW l D tc A y d mc ms k n pc L (.int x :: st) S Q := by
  subst hq
  intro p e s m args below meth c ad ad0 n0 H locs ls C hP hD hS hL hn ha hm
  exact lv_istore C.1 C.2.1 hd hL.1 (by rw [← hL.2]; exact hlt) rfl (fun ls' h => kk p e s m args below meth c ad ad0 n0 H locs ls' C hP hD hS (by exact zw_L.st1 hL.2 hlt hz h) hn ha hm)
theorem zx_astore_n {j : Fin 4} {i : Nat} {x : Nat} (hd : decode y.2.1 pc = .ok (.astore_n j, 1)) (hi : (j : Nat) = i) (hlt : i < L.length) (hz : zw_nl L i = true) (hq : pc + 1 = q) (kk : zW l D tc A y d mc ms k n q (L.set i (some (.ref x))) st S Q) : zW l D tc A y d mc ms k n pc L (.ref x :: st) S Q := by
  subst hq
  intro p e s m args below meth c ad ad0 n0 H locs ls C hP hD hS hL hn ha hm
  exact lv_astore_n C.1 C.2.1 hd hi hL.1 (by rw [← hL.2]; exact hlt) rfl (fun ls' h => kk p e s m args below meth c ad ad0 n0 H locs ls' C hP hD hS (by exact zw_L.st1 hL.2 hlt hz h) hn ha hm)
theorem zx_astore {i : Nat} {x : Nat} (hd : decode y.2.1 pc = .ok (.astore i, 2)) (hlt : i < L.length) (hz : zw_nl L i = true) (hq : pc + 2 = q) (kk : zW l D tc A y d mc ms k n q (L.set i (some (.ref x))) st S Q) : zW l D tc A y d mc ms k n pc L (.ref x :: st) S Q := by
  subst hq
  intro p e s m args below meth c ad ad0 n0 H locs ls C hP hD hS hL hn ha hm
  exact lv_astore C.1 C.2.1 hd hL.1 (by rw [← hL.2]; exact hlt) rfl (fun ls' h => kk p e s m args below meth c ad ad0 n0 H locs ls' C hP hD hS (by exact zw_L.st1 hL.2 hlt hz h) hn ha hm)
theorem zx_lstore_n {j : Fin 4} {i : Nat} {x : Int64} (hd : decode y.2.1 pc = .ok (.lstore_n j, 1)) (hi : (j : Nat) = i) (hlt : i + 1 < L.length) (hz : zw_nl L i = true) (hq : pc + 1 = q) (kk : zW l D tc A y d mc ms k n q ((L.set i (some (.long x))).set (i + 1) none) st S Q) : zW l D tc A y d mc ms k n pc L (.long x :: st) S Q := by
  subst hq
  intro p e s m args below meth c ad ad0 n0 H locs ls C hP hD hS hL hn ha hm
  exact lv_lstore_n C.1 C.2.1 hd hi hL.1 (by rw [← hL.2]; exact hlt) rfl (fun ls' h => kk p e s m args below meth c ad ad0 n0 H locs ls' C hP hD hS (by exact zw_L.st2 hL.2 (by omega) hz h) hn ha hm)
theorem zx_lstore {i : Nat} {x : Int64} (hd : decode y.2.1 pc = .ok (.lstore i, 2)) (hlt : i + 1 < L.length) (hz : zw_nl L i = true) (hq : pc + 2 = q) (kk : zW l D tc A y d mc ms k n q ((L.set i (some (.long x))).set (i + 1) none) st S Q) : zW l D tc A y d mc ms k n pc L (.long x :: st) S Q := by
  subst hq
  intro p e s m args below meth c ad ad0 n0 H locs ls C hP hD hS hL hn ha hm
  exact lv_lstore C.1 C.2.1 hd hL.1 (by rw [← hL.2]; exact hlt) rfl (fun ls' h => kk p e s m args below meth c ad ad0 n0 H locs ls' C hP hD hS (by exact zw_L.st2 hL.2 (by omega) hz h) hn ha hm)
theorem zx_iinc {i : Nat} {w : Int} {x : Int32} (hd : decode y.2.1 pc = .ok (.iinc i w, 3)) (hl : L[i]? = some (some (.int x))) (hz : zw_nl L i = true) (hq : pc + 3 = q) (kk : zW l D tc A y d mc ms k n q (L.set i (some (.int (x + Int32.ofInt w)))) st S Q) : zW l D tc A y d mc ms k n pc L st S Q := by
  subst hq
  intro p e s m args below meth c ad ad0 n0 H locs ls C hP hD hS hL hn ha hm
  obtain ⟨kp, hkp⟩ := List.getElem?_of_mem (zw_lv_mem.mpr ⟨i, .int x, (Nat.zero_add i).symm, hl, rfl⟩ : (i, zw_v ad (.int x)) ∈ zw_lv ad 0 L)
  have hlt : i < L.length := (List.getElem?_eq_some_iff.mp hl).1
  exact lv_iinc C.1 C.2.1 hd hL.1 hkp rfl (by rw [← hL.2]; exact hlt) rfl (fun ls' h => kk p e s m args below meth c ad ad0 n0 H locs ls' C hP hD hS (zw_L.st1 (x := .int (x + Int32.ofInt w)) hL.2 hlt hz h) hn ha hm)
theorem zx_istore0 {v0 : Option Value} {x : Int32} (hd : decode y.2.1 pc = .ok (.istore_n 0, 1)) (hq : pc + 1 = q) (kk : zW l D tc A y d mc ms k n q (some (.int x) :: L) st S Q) : zW l D tc A y d mc ms k n pc (v0 :: L) (.int x :: st) S Q := zx_istore_n (i := 0) hd rfl (by simp) rfl hq kk
theorem zx_istore1 {v0 v1 : Option Value} {x : Int32} (hd : decode y.2.1 pc = .ok (.istore_n 1, 1)) (hz : zw_nl [v0] 1 = true) (hq : pc + 1 = q) (kk : zW l D tc A y d mc ms k n q (v0 :: some (.int x) :: L) st S Q) : zW l D tc A y d mc ms k n pc (v0 :: v1 :: L) (.int x :: st) S Q := zx_istore_n (i := 1) hd rfl (by simp) hz hq kk
theorem zx_istore2 {v0 v1 v2 : Option Value} {x : Int32} (hd : decode y.2.1 pc = .ok (.istore_n 2, 1)) (hz : zw_nl [v1] 1 = true) (hq : pc + 1 = q) (kk : zW l D tc A y d mc ms k n q (v0 :: v1 :: some (.int x) :: L) st S Q) : zW l D tc A y d mc ms k n pc (v0 :: v1 :: v2 :: L) (.int x :: st) S Q := zx_istore_n (i := 2) hd rfl (by simp) hz hq kk
theorem zx_istore3 {v0 v1 v2 v3 : Option Value} {x : Int32} (hd : decode y.2.1 pc = .ok (.istore_n 3, 1)) (hz : zw_nl [v2] 1 = true) (hq : pc + 1 = q) (kk : zW l D tc A y d mc ms k n q (v0 :: v1 :: v2 :: some (.int x) :: L) st S Q) : zW l D tc A y d mc ms k n pc (v0 :: v1 :: v2 :: v3 :: L) (.int x :: st) S Q := zx_istore_n (i := 3) hd rfl (by simp) hz hq kk
theorem zx_istore4 {v0 v1 v2 v3 v4 : Option Value} {x : Int32} (hd : decode y.2.1 pc = .ok (.istore 4, 2)) (hz : zw_nl [v3] 1 = true) (hq : pc + 2 = q) (kk : zW l D tc A y d mc ms k n q (v0 :: v1 :: v2 :: v3 :: some (.int x) :: L) st S Q) : zW l D tc A y d mc ms k n pc (v0 :: v1 :: v2 :: v3 :: v4 :: L) (.int x :: st) S Q := zx_istore (i := 4) hd (by simp) hz hq kk
theorem zx_istore5 {v0 v1 v2 v3 v4 v5 : Option Value} {x : Int32} (hd : decode y.2.1 pc = .ok (.istore 5, 2)) (hz : zw_nl [v4] 1 = true) (hq : pc + 2 = q) (kk : zW l D tc A y d mc ms k n q (v0 :: v1 :: v2 :: v3 :: v4 :: some (.int x) :: L) st S Q) : zW l D tc A y d mc ms k n pc (v0 :: v1 :: v2 :: v3 :: v4 :: v5 :: L) (.int x :: st) S Q := zx_istore (i := 5) hd (by simp) hz hq kk
theorem zx_istore6 {v0 v1 v2 v3 v4 v5 v6 : Option Value} {x : Int32} (hd : decode y.2.1 pc = .ok (.istore 6, 2)) (hz : zw_nl [v5] 1 = true) (hq : pc + 2 = q) (kk : zW l D tc A y d mc ms k n q (v0 :: v1 :: v2 :: v3 :: v4 :: v5 :: some (.int x) :: L) st S Q) : zW l D tc A y d mc ms k n pc (v0 :: v1 :: v2 :: v3 :: v4 :: v5 :: v6 :: L) (.int x :: st) S Q := zx_istore (i := 6) hd (by simp) hz hq kk
theorem zx_istore7 {v0 v1 v2 v3 v4 v5 v6 v7 : Option Value} {x : Int32} (hd : decode y.2.1 pc = .ok (.istore 7, 2)) (hz : zw_nl [v6] 1 = true) (hq : pc + 2 = q) (kk : zW l D tc A y d mc ms k n q (v0 :: v1 :: v2 :: v3 :: v4 :: v5 :: v6 :: some (.int x) :: L) st S Q) : zW l D tc A y d mc ms k n pc (v0 :: v1 :: v2 :: v3 :: v4 :: v5 :: v6 :: v7 :: L) (.int x :: st) S Q := zx_istore (i := 7) hd (by simp) hz hq kk
theorem zx_istore8 {v0 v1 v2 v3 v4 v5 v6 v7 v8 : Option Value} {x : Int32} (hd : decode y.2.1 pc = .ok (.istore 8, 2)) (hz : zw_nl [v7] 1 = true) (hq : pc + 2 = q) (kk : zW l D tc A y d mc ms k n q (v0 :: v1 :: v2 :: v3 :: v4 :: v5 :: v6 :: v7 :: some (.int x) :: L) st S Q) : zW l D tc A y d mc ms k n pc (v0 :: v1 :: v2 :: v3 :: v4 :: v5 :: v6 :: v7 :: v8 :: L) (.int x :: st) S Q := zx_istore (i := 8) hd (by simp) hz hq kk
theorem zx_istore9 {v0 v1 v2 v3 v4 v5 v6 v7 v8 v9 : Option Value} {x : Int32} (hd : decode y.2.1 pc = .ok (.istore 9, 2)) (hz : zw_nl [v8] 1 = true) (hq : pc + 2 = q) (kk : zW l D tc A y d mc ms k n q (v0 :: v1 :: v2 :: v3 :: v4 :: v5 :: v6 :: v7 :: v8 :: some (.int x) :: L) st S Q) : zW l D tc A y d mc ms k n pc (v0 :: v1 :: v2 :: v3 :: v4 :: v5 :: v6 :: v7 :: v8 :: v9 :: L) (.int x :: st) S Q := zx_istore (i := 9) hd (by simp) hz hq kk
theorem zx_istore10 {v0 v1 v2 v3 v4 v5 v6 v7 v8 v9 v10 : Option Value} {x : Int32} (hd : decode y.2.1 pc = .ok (.istore 10, 2)) (hz : zw_nl [v9] 1 = true) (hq : pc + 2 = q) (kk : zW l D tc A y d mc ms k n q (v0 :: v1 :: v2 :: v3 :: v4 :: v5 :: v6 :: v7 :: v8 :: v9 :: some (.int x) :: L) st S Q) : zW l D tc A y d mc ms k n pc (v0 :: v1 :: v2 :: v3 :: v4 :: v5 :: v6 :: v7 :: v8 :: v9 :: v10 :: L) (.int x :: st) S Q := zx_istore (i := 10) hd (by simp) hz hq kk
theorem zx_istore11 {v0 v1 v2 v3 v4 v5 v6 v7 v8 v9 v10 v11 : Option Value} {x : Int32} (hd : decode y.2.1 pc = .ok (.istore 11, 2)) (hz : zw_nl [v10] 1 = true) (hq : pc + 2 = q) (kk : zW l D tc A y d mc ms k n q (v0 :: v1 :: v2 :: v3 :: v4 :: v5 :: v6 :: v7 :: v8 :: v9 :: v10 :: some (.int x) :: L) st S Q) : zW l D tc A y d mc ms k n pc (v0 :: v1 :: v2 :: v3 :: v4 :: v5 :: v6 :: v7 :: v8 :: v9 :: v10 :: v11 :: L) (.int x :: st) S Q := zx_istore (i := 11) hd (by simp) hz hq kk
theorem zx_istore12 {v0 v1 v2 v3 v4 v5 v6 v7 v8 v9 v10 v11 v12 : Option Value} {x : Int32} (hd : decode y.2.1 pc = .ok (.istore 12, 2)) (hz : zw_nl [v11] 1 = true) (hq : pc + 2 = q) (kk : zW l D tc A y d mc ms k n q (v0 :: v1 :: v2 :: v3 :: v4 :: v5 :: v6 :: v7 :: v8 :: v9 :: v10 :: v11 :: some (.int x) :: L) st S Q) : zW l D tc A y d mc ms k n pc (v0 :: v1 :: v2 :: v3 :: v4 :: v5 :: v6 :: v7 :: v8 :: v9 :: v10 :: v11 :: v12 :: L) (.int x :: st) S Q := zx_istore (i := 12) hd (by simp) hz hq kk
theorem zx_istore13 {v0 v1 v2 v3 v4 v5 v6 v7 v8 v9 v10 v11 v12 v13 : Option Value} {x : Int32} (hd : decode y.2.1 pc = .ok (.istore 13, 2)) (hz : zw_nl [v12] 1 = true) (hq : pc + 2 = q) (kk : zW l D tc A y d mc ms k n q (v0 :: v1 :: v2 :: v3 :: v4 :: v5 :: v6 :: v7 :: v8 :: v9 :: v10 :: v11 :: v12 :: some (.int x) :: L) st S Q) : zW l D tc A y d mc ms k n pc (v0 :: v1 :: v2 :: v3 :: v4 :: v5 :: v6 :: v7 :: v8 :: v9 :: v10 :: v11 :: v12 :: v13 :: L) (.int x :: st) S Q := zx_istore (i := 13) hd (by simp) hz hq kk
theorem zx_istore14 {v0 v1 v2 v3 v4 v5 v6 v7 v8 v9 v10 v11 v12 v13 v14 : Option Value} {x : Int32} (hd : decode y.2.1 pc = .ok (.istore 14, 2)) (hz : zw_nl [v13] 1 = true) (hq : pc + 2 = q) (kk : zW l D tc A y d mc ms k n q (v0 :: v1 :: v2 :: v3 :: v4 :: v5 :: v6 :: v7 :: v8 :: v9 :: v10 :: v11 :: v12 :: v13 :: some (.int x) :: L) st S Q) : zW l D tc A y d mc ms k n pc (v0 :: v1 :: v2 :: v3 :: v4 :: v5 :: v6 :: v7 :: v8 :: v9 :: v10 :: v11 :: v12 :: v13 :: v14 :: L) (.int x :: st) S Q := zx_istore (i := 14) hd (by simp) hz hq kk
theorem zx_astore0 {v0 : Option Value} {x : Nat} (hd : decode y.2.1 pc = .ok (.astore_n 0, 1)) (hq : pc + 1 = q) (kk : zW l D tc A y d mc ms k n q (some (.ref x) :: L) st S Q) : zW l D tc A y d mc ms k n pc (v0 :: L) (.ref x :: st) S Q := zx_astore_n (i := 0) hd rfl (by simp) rfl hq kk
theorem zx_astore1 {v0 v1 : Option Value} {x : Nat} (hd : decode y.2.1 pc = .ok (.astore_n 1, 1)) (hz : zw_nl [v0] 1 = true) (hq : pc + 1 = q) (kk : zW l D tc A y d mc ms k n q (v0 :: some (.ref x) :: L) st S Q) : zW l D tc A y d mc ms k n pc (v0 :: v1 :: L) (.ref x :: st) S Q := zx_astore_n (i := 1) hd rfl (by simp) hz hq kk
theorem zx_astore2 {v0 v1 v2 : Option Value} {x : Nat} (hd : decode y.2.1 pc = .ok (.astore_n 2, 1)) (hz : zw_nl [v1] 1 = true) (hq : pc + 1 = q) (kk : zW l D tc A y d mc ms k n q (v0 :: v1 :: some (.ref x) :: L) st S Q) : zW l D tc A y d mc ms k n pc (v0 :: v1 :: v2 :: L) (.ref x :: st) S Q := zx_astore_n (i := 2) hd rfl (by simp) hz hq kk
theorem zx_astore3 {v0 v1 v2 v3 : Option Value} {x : Nat} (hd : decode y.2.1 pc = .ok (.astore_n 3, 1)) (hz : zw_nl [v2] 1 = true) (hq : pc + 1 = q) (kk : zW l D tc A y d mc ms k n q (v0 :: v1 :: v2 :: some (.ref x) :: L) st S Q) : zW l D tc A y d mc ms k n pc (v0 :: v1 :: v2 :: v3 :: L) (.ref x :: st) S Q := zx_astore_n (i := 3) hd rfl (by simp) hz hq kk
theorem zx_astore4 {v0 v1 v2 v3 v4 : Option Value} {x : Nat} (hd : decode y.2.1 pc = .ok (.astore 4, 2)) (hz : zw_nl [v3] 1 = true) (hq : pc + 2 = q) (kk : zW l D tc A y d mc ms k n q (v0 :: v1 :: v2 :: v3 :: some (.ref x) :: L) st S Q) : zW l D tc A y d mc ms k n pc (v0 :: v1 :: v2 :: v3 :: v4 :: L) (.ref x :: st) S Q := zx_astore (i := 4) hd (by simp) hz hq kk
theorem zx_astore5 {v0 v1 v2 v3 v4 v5 : Option Value} {x : Nat} (hd : decode y.2.1 pc = .ok (.astore 5, 2)) (hz : zw_nl [v4] 1 = true) (hq : pc + 2 = q) (kk : zW l D tc A y d mc ms k n q (v0 :: v1 :: v2 :: v3 :: v4 :: some (.ref x) :: L) st S Q) : zW l D tc A y d mc ms k n pc (v0 :: v1 :: v2 :: v3 :: v4 :: v5 :: L) (.ref x :: st) S Q := zx_astore (i := 5) hd (by simp) hz hq kk
theorem zx_astore6 {v0 v1 v2 v3 v4 v5 v6 : Option Value} {x : Nat} (hd : decode y.2.1 pc = .ok (.astore 6, 2)) (hz : zw_nl [v5] 1 = true) (hq : pc + 2 = q) (kk : zW l D tc A y d mc ms k n q (v0 :: v1 :: v2 :: v3 :: v4 :: v5 :: some (.ref x) :: L) st S Q) : zW l D tc A y d mc ms k n pc (v0 :: v1 :: v2 :: v3 :: v4 :: v5 :: v6 :: L) (.ref x :: st) S Q := zx_astore (i := 6) hd (by simp) hz hq kk
theorem zx_astore7 {v0 v1 v2 v3 v4 v5 v6 v7 : Option Value} {x : Nat} (hd : decode y.2.1 pc = .ok (.astore 7, 2)) (hz : zw_nl [v6] 1 = true) (hq : pc + 2 = q) (kk : zW l D tc A y d mc ms k n q (v0 :: v1 :: v2 :: v3 :: v4 :: v5 :: v6 :: some (.ref x) :: L) st S Q) : zW l D tc A y d mc ms k n pc (v0 :: v1 :: v2 :: v3 :: v4 :: v5 :: v6 :: v7 :: L) (.ref x :: st) S Q := zx_astore (i := 7) hd (by simp) hz hq kk
theorem zx_astore8 {v0 v1 v2 v3 v4 v5 v6 v7 v8 : Option Value} {x : Nat} (hd : decode y.2.1 pc = .ok (.astore 8, 2)) (hz : zw_nl [v7] 1 = true) (hq : pc + 2 = q) (kk : zW l D tc A y d mc ms k n q (v0 :: v1 :: v2 :: v3 :: v4 :: v5 :: v6 :: v7 :: some (.ref x) :: L) st S Q) : zW l D tc A y d mc ms k n pc (v0 :: v1 :: v2 :: v3 :: v4 :: v5 :: v6 :: v7 :: v8 :: L) (.ref x :: st) S Q := zx_astore (i := 8) hd (by simp) hz hq kk
theorem zx_astore9 {v0 v1 v2 v3 v4 v5 v6 v7 v8 v9 : Option Value} {x : Nat} (hd : decode y.2.1 pc = .ok (.astore 9, 2)) (hz : zw_nl [v8] 1 = true) (hq : pc + 2 = q) (kk : zW l D tc A y d mc ms k n q (v0 :: v1 :: v2 :: v3 :: v4 :: v5 :: v6 :: v7 :: v8 :: some (.ref x) :: L) st S Q) : zW l D tc A y d mc ms k n pc (v0 :: v1 :: v2 :: v3 :: v4 :: v5 :: v6 :: v7 :: v8 :: v9 :: L) (.ref x :: st) S Q := zx_astore (i := 9) hd (by simp) hz hq kk
theorem zx_astore10 {v0 v1 v2 v3 v4 v5 v6 v7 v8 v9 v10 : Option Value} {x : Nat} (hd : decode y.2.1 pc = .ok (.astore 10, 2)) (hz : zw_nl [v9] 1 = true) (hq : pc + 2 = q) (kk : zW l D tc A y d mc ms k n q (v0 :: v1 :: v2 :: v3 :: v4 :: v5 :: v6 :: v7 :: v8 :: v9 :: some (.ref x) :: L) st S Q) : zW l D tc A y d mc ms k n pc (v0 :: v1 :: v2 :: v3 :: v4 :: v5 :: v6 :: v7 :: v8 :: v9 :: v10 :: L) (.ref x :: st) S Q := zx_astore (i := 10) hd (by simp) hz hq kk
theorem zx_astore11 {v0 v1 v2 v3 v4 v5 v6 v7 v8 v9 v10 v11 : Option Value} {x : Nat} (hd : decode y.2.1 pc = .ok (.astore 11, 2)) (hz : zw_nl [v10] 1 = true) (hq : pc + 2 = q) (kk : zW l D tc A y d mc ms k n q (v0 :: v1 :: v2 :: v3 :: v4 :: v5 :: v6 :: v7 :: v8 :: v9 :: v10 :: some (.ref x) :: L) st S Q) : zW l D tc A y d mc ms k n pc (v0 :: v1 :: v2 :: v3 :: v4 :: v5 :: v6 :: v7 :: v8 :: v9 :: v10 :: v11 :: L) (.ref x :: st) S Q := zx_astore (i := 11) hd (by simp) hz hq kk
theorem zx_astore12 {v0 v1 v2 v3 v4 v5 v6 v7 v8 v9 v10 v11 v12 : Option Value} {x : Nat} (hd : decode y.2.1 pc = .ok (.astore 12, 2)) (hz : zw_nl [v11] 1 = true) (hq : pc + 2 = q) (kk : zW l D tc A y d mc ms k n q (v0 :: v1 :: v2 :: v3 :: v4 :: v5 :: v6 :: v7 :: v8 :: v9 :: v10 :: v11 :: some (.ref x) :: L) st S Q) : zW l D tc A y d mc ms k n pc (v0 :: v1 :: v2 :: v3 :: v4 :: v5 :: v6 :: v7 :: v8 :: v9 :: v10 :: v11 :: v12 :: L) (.ref x :: st) S Q := zx_astore (i := 12) hd (by simp) hz hq kk
theorem zx_astore13 {v0 v1 v2 v3 v4 v5 v6 v7 v8 v9 v10 v11 v12 v13 : Option Value} {x : Nat} (hd : decode y.2.1 pc = .ok (.astore 13, 2)) (hz : zw_nl [v12] 1 = true) (hq : pc + 2 = q) (kk : zW l D tc A y d mc ms k n q (v0 :: v1 :: v2 :: v3 :: v4 :: v5 :: v6 :: v7 :: v8 :: v9 :: v10 :: v11 :: v12 :: some (.ref x) :: L) st S Q) : zW l D tc A y d mc ms k n pc (v0 :: v1 :: v2 :: v3 :: v4 :: v5 :: v6 :: v7 :: v8 :: v9 :: v10 :: v11 :: v12 :: v13 :: L) (.ref x :: st) S Q := zx_astore (i := 13) hd (by simp) hz hq kk
theorem zx_astore14 {v0 v1 v2 v3 v4 v5 v6 v7 v8 v9 v10 v11 v12 v13 v14 : Option Value} {x : Nat} (hd : decode y.2.1 pc = .ok (.astore 14, 2)) (hz : zw_nl [v13] 1 = true) (hq : pc + 2 = q) (kk : zW l D tc A y d mc ms k n q (v0 :: v1 :: v2 :: v3 :: v4 :: v5 :: v6 :: v7 :: v8 :: v9 :: v10 :: v11 :: v12 :: v13 :: some (.ref x) :: L) st S Q) : zW l D tc A y d mc ms k n pc (v0 :: v1 :: v2 :: v3 :: v4 :: v5 :: v6 :: v7 :: v8 :: v9 :: v10 :: v11 :: v12 :: v13 :: v14 :: L) (.ref x :: st) S Q := zx_astore (i := 14) hd (by simp) hz hq kk
theorem zx_iinc0 {w : Int} {x : Int32} (hd : decode y.2.1 pc = .ok (.iinc 0 w, 3)) (hq : pc + 3 = q) (kk : zW l D tc A y d mc ms k n q (some (.int (x + Int32.ofInt w)) :: L) st S Q) : zW l D tc A y d mc ms k n pc (some (.int x) :: L) st S Q := zx_iinc (i := 0) hd rfl rfl hq kk
theorem zx_iinc1 {v0 : Option Value} {w : Int} {x : Int32} (hd : decode y.2.1 pc = .ok (.iinc 1 w, 3)) (hz : zw_nl [v0] 1 = true) (hq : pc + 3 = q) (kk : zW l D tc A y d mc ms k n q (v0 :: some (.int (x + Int32.ofInt w)) :: L) st S Q) : zW l D tc A y d mc ms k n pc (v0 :: some (.int x) :: L) st S Q := zx_iinc (i := 1) hd rfl hz hq kk
theorem zx_iinc2 {v0 v1 : Option Value} {w : Int} {x : Int32} (hd : decode y.2.1 pc = .ok (.iinc 2 w, 3)) (hz : zw_nl [v1] 1 = true) (hq : pc + 3 = q) (kk : zW l D tc A y d mc ms k n q (v0 :: v1 :: some (.int (x + Int32.ofInt w)) :: L) st S Q) : zW l D tc A y d mc ms k n pc (v0 :: v1 :: some (.int x) :: L) st S Q := zx_iinc (i := 2) hd rfl hz hq kk
theorem zx_iinc3 {v0 v1 v2 : Option Value} {w : Int} {x : Int32} (hd : decode y.2.1 pc = .ok (.iinc 3 w, 3)) (hz : zw_nl [v2] 1 = true) (hq : pc + 3 = q) (kk : zW l D tc A y d mc ms k n q (v0 :: v1 :: v2 :: some (.int (x + Int32.ofInt w)) :: L) st S Q) : zW l D tc A y d mc ms k n pc (v0 :: v1 :: v2 :: some (.int x) :: L) st S Q := zx_iinc (i := 3) hd rfl hz hq kk
theorem zx_iinc4 {v0 v1 v2 v3 : Option Value} {w : Int} {x : Int32} (hd : decode y.2.1 pc = .ok (.iinc 4 w, 3)) (hz : zw_nl [v3] 1 = true) (hq : pc + 3 = q) (kk : zW l D tc A y d mc ms k n q (v0 :: v1 :: v2 :: v3 :: some (.int (x + Int32.ofInt w)) :: L) st S Q) : zW l D tc A y d mc ms k n pc (v0 :: v1 :: v2 :: v3 :: some (.int x) :: L) st S Q := zx_iinc (i := 4) hd rfl hz hq kk
theorem zx_iinc5 {v0 v1 v2 v3 v4 : Option Value} {w : Int} {x : Int32} (hd : decode y.2.1 pc = .ok (.iinc 5 w, 3)) (hz : zw_nl [v4] 1 = true) (hq : pc + 3 = q) (kk : zW l D tc A y d mc ms k n q (v0 :: v1 :: v2 :: v3 :: v4 :: some (.int (x + Int32.ofInt w)) :: L) st S Q) : zW l D tc A y d mc ms k n pc (v0 :: v1 :: v2 :: v3 :: v4 :: some (.int x) :: L) st S Q := zx_iinc (i := 5) hd rfl hz hq kk
theorem zx_iinc6 {v0 v1 v2 v3 v4 v5 : Option Value} {w : Int} {x : Int32} (hd : decode y.2.1 pc = .ok (.iinc 6 w, 3)) (hz : zw_nl [v5] 1 = true) (hq : pc + 3 = q) (kk : zW l D tc A y d mc ms k n q (v0 :: v1 :: v2 :: v3 :: v4 :: v5 :: some (.int (x + Int32.ofInt w)) :: L) st S Q) : zW l D tc A y d mc ms k n pc (v0 :: v1 :: v2 :: v3 :: v4 :: v5 :: some (.int x) :: L) st S Q := zx_iinc (i := 6) hd rfl hz hq kk
theorem zx_iinc7 {v0 v1 v2 v3 v4 v5 v6 : Option Value} {w : Int} {x : Int32} (hd : decode y.2.1 pc = .ok (.iinc 7 w, 3)) (hz : zw_nl [v6] 1 = true) (hq : pc + 3 = q) (kk : zW l D tc A y d mc ms k n q (v0 :: v1 :: v2 :: v3 :: v4 :: v5 :: v6 :: some (.int (x + Int32.ofInt w)) :: L) st S Q) : zW l D tc A y d mc ms k n pc (v0 :: v1 :: v2 :: v3 :: v4 :: v5 :: v6 :: some (.int x) :: L) st S Q := zx_iinc (i := 7) hd rfl hz hq kk
theorem zx_iinc8 {v0 v1 v2 v3 v4 v5 v6 v7 : Option Value} {w : Int} {x : Int32} (hd : decode y.2.1 pc = .ok (.iinc 8 w, 3)) (hz : zw_nl [v7] 1 = true) (hq : pc + 3 = q) (kk : zW l D tc A y d mc ms k n q (v0 :: v1 :: v2 :: v3 :: v4 :: v5 :: v6 :: v7 :: some (.int (x + Int32.ofInt w)) :: L) st S Q) : zW l D tc A y d mc ms k n pc (v0 :: v1 :: v2 :: v3 :: v4 :: v5 :: v6 :: v7 :: some (.int x) :: L) st S Q := zx_iinc (i := 8) hd rfl hz hq kk
theorem zx_iinc9 {v0 v1 v2 v3 v4 v5 v6 v7 v8 : Option Value} {w : Int} {x : Int32} (hd : decode y.2.1 pc = .ok (.iinc 9 w, 3)) (hz : zw_nl [v8] 1 = true) (hq : pc + 3 = q) (kk : zW l D tc A y d mc ms k n q (v0 :: v1 :: v2 :: v3 :: v4 :: v5 :: v6 :: v7 :: v8 :: some (.int (x + Int32.ofInt w)) :: L) st S Q) : zW l D tc A y d mc ms k n pc (v0 :: v1 :: v2 :: v3 :: v4 :: v5 :: v6 :: v7 :: v8 :: some (.int x) :: L) st S Q := zx_iinc (i := 9) hd rfl hz hq kk
theorem zx_iinc10 {v0 v1 v2 v3 v4 v5 v6 v7 v8 v9 : Option Value} {w : Int} {x : Int32} (hd : decode y.2.1 pc = .ok (.iinc 10 w, 3)) (hz : zw_nl [v9] 1 = true) (hq : pc + 3 = q) (kk : zW l D tc A y d mc ms k n q (v0 :: v1 :: v2 :: v3 :: v4 :: v5 :: v6 :: v7 :: v8 :: v9 :: some (.int (x + Int32.ofInt w)) :: L) st S Q) : zW l D tc A y d mc ms k n pc (v0 :: v1 :: v2 :: v3 :: v4 :: v5 :: v6 :: v7 :: v8 :: v9 :: some (.int x) :: L) st S Q := zx_iinc (i := 10) hd rfl hz hq kk
theorem zx_iinc11 {v0 v1 v2 v3 v4 v5 v6 v7 v8 v9 v10 : Option Value} {w : Int} {x : Int32} (hd : decode y.2.1 pc = .ok (.iinc 11 w, 3)) (hz : zw_nl [v10] 1 = true) (hq : pc + 3 = q) (kk : zW l D tc A y d mc ms k n q (v0 :: v1 :: v2 :: v3 :: v4 :: v5 :: v6 :: v7 :: v8 :: v9 :: v10 :: some (.int (x + Int32.ofInt w)) :: L) st S Q) : zW l D tc A y d mc ms k n pc (v0 :: v1 :: v2 :: v3 :: v4 :: v5 :: v6 :: v7 :: v8 :: v9 :: v10 :: some (.int x) :: L) st S Q := zx_iinc (i := 11) hd rfl hz hq kk
theorem zx_iinc12 {v0 v1 v2 v3 v4 v5 v6 v7 v8 v9 v10 v11 : Option Value} {w : Int} {x : Int32} (hd : decode y.2.1 pc = .ok (.iinc 12 w, 3)) (hz : zw_nl [v11] 1 = true) (hq : pc + 3 = q) (kk : zW l D tc A y d mc ms k n q (v0 :: v1 :: v2 :: v3 :: v4 :: v5 :: v6 :: v7 :: v8 :: v9 :: v10 :: v11 :: some (.int (x + Int32.ofInt w)) :: L) st S Q) : zW l D tc A y d mc ms k n pc (v0 :: v1 :: v2 :: v3 :: v4 :: v5 :: v6 :: v7 :: v8 :: v9 :: v10 :: v11 :: some (.int x) :: L) st S Q := zx_iinc (i := 12) hd rfl hz hq kk
theorem zx_iinc13 {v0 v1 v2 v3 v4 v5 v6 v7 v8 v9 v10 v11 v12 : Option Value} {w : Int} {x : Int32} (hd : decode y.2.1 pc = .ok (.iinc 13 w, 3)) (hz : zw_nl [v12] 1 = true) (hq : pc + 3 = q) (kk : zW l D tc A y d mc ms k n q (v0 :: v1 :: v2 :: v3 :: v4 :: v5 :: v6 :: v7 :: v8 :: v9 :: v10 :: v11 :: v12 :: some (.int (x + Int32.ofInt w)) :: L) st S Q) : zW l D tc A y d mc ms k n pc (v0 :: v1 :: v2 :: v3 :: v4 :: v5 :: v6 :: v7 :: v8 :: v9 :: v10 :: v11 :: v12 :: some (.int x) :: L) st S Q := zx_iinc (i := 13) hd rfl hz hq kk
theorem zx_iinc14 {v0 v1 v2 v3 v4 v5 v6 v7 v8 v9 v10 v11 v12 v13 : Option Value} {w : Int} {x : Int32} (hd : decode y.2.1 pc = .ok (.iinc 14 w, 3)) (hz : zw_nl [v13] 1 = true) (hq : pc + 3 = q) (kk : zW l D tc A y d mc ms k n q (v0 :: v1 :: v2 :: v3 :: v4 :: v5 :: v6 :: v7 :: v8 :: v9 :: v10 :: v11 :: v12 :: v13 :: some (.int (x + Int32.ofInt w)) :: L) st S Q) : zW l D tc A y d mc ms k n pc (v0 :: v1 :: v2 :: v3 :: v4 :: v5 :: v6 :: v7 :: v8 :: v9 :: v10 :: v11 :: v12 :: v13 :: some (.int x) :: L) st S Q := zx_iinc (i := 14) hd rfl hz hq kk
theorem zx_lstore0 {v0 v1 : Option Value} {x : Int64} (hd : decode y.2.1 pc = .ok (.lstore_n 0, 1)) (hq : pc + 1 = q) (kk : zW l D tc A y d mc ms k n q (some (.long x) :: none :: L) st S Q) : zW l D tc A y d mc ms k n pc (v0 :: v1 :: L) (.long x :: st) S Q := zx_lstore_n (i := 0) hd rfl (by simp) rfl hq kk
theorem zx_lstore1 {v0 v1 v2 : Option Value} {x : Int64} (hd : decode y.2.1 pc = .ok (.lstore_n 1, 1)) (hz : zw_nl [v0] 1 = true) (hq : pc + 1 = q) (kk : zW l D tc A y d mc ms k n q (v0 :: some (.long x) :: none :: L) st S Q) : zW l D tc A y d mc ms k n pc (v0 :: v1 :: v2 :: L) (.long x :: st) S Q := zx_lstore_n (i := 1) hd rfl (by simp) hz hq kk
theorem zx_lstore2 {v0 v1 v2 v3 : Option Value} {x : Int64} (hd : decode y.2.1 pc = .ok (.lstore_n 2, 1)) (hz : zw_nl [v1] 1 = true) (hq : pc + 1 = q) (kk : zW l D tc A y d mc ms k n q (v0 :: v1 :: some (.long x) :: none :: L) st S Q) : zW l D tc A y d mc ms k n pc (v0 :: v1 :: v2 :: v3 :: L) (.long x :: st) S Q := zx_lstore_n (i := 2) hd rfl (by simp) hz hq kk
theorem zx_lstore3 {v0 v1 v2 v3 v4 : Option Value} {x : Int64} (hd : decode y.2.1 pc = .ok (.lstore_n 3, 1)) (hz : zw_nl [v2] 1 = true) (hq : pc + 1 = q) (kk : zW l D tc A y d mc ms k n q (v0 :: v1 :: v2 :: some (.long x) :: none :: L) st S Q) : zW l D tc A y d mc ms k n pc (v0 :: v1 :: v2 :: v3 :: v4 :: L) (.long x :: st) S Q := zx_lstore_n (i := 3) hd rfl (by simp) hz hq kk
theorem zx_lstore4 {v0 v1 v2 v3 v4 v5 : Option Value} {x : Int64} (hd : decode y.2.1 pc = .ok (.lstore 4, 2)) (hz : zw_nl [v3] 1 = true) (hq : pc + 2 = q) (kk : zW l D tc A y d mc ms k n q (v0 :: v1 :: v2 :: v3 :: some (.long x) :: none :: L) st S Q) : zW l D tc A y d mc ms k n pc (v0 :: v1 :: v2 :: v3 :: v4 :: v5 :: L) (.long x :: st) S Q := zx_lstore (i := 4) hd (by simp) hz hq kk
theorem zx_lstore5 {v0 v1 v2 v3 v4 v5 v6 : Option Value} {x : Int64} (hd : decode y.2.1 pc = .ok (.lstore 5, 2)) (hz : zw_nl [v4] 1 = true) (hq : pc + 2 = q) (kk : zW l D tc A y d mc ms k n q (v0 :: v1 :: v2 :: v3 :: v4 :: some (.long x) :: none :: L) st S Q) : zW l D tc A y d mc ms k n pc (v0 :: v1 :: v2 :: v3 :: v4 :: v5 :: v6 :: L) (.long x :: st) S Q := zx_lstore (i := 5) hd (by simp) hz hq kk
theorem zx_lstore6 {v0 v1 v2 v3 v4 v5 v6 v7 : Option Value} {x : Int64} (hd : decode y.2.1 pc = .ok (.lstore 6, 2)) (hz : zw_nl [v5] 1 = true) (hq : pc + 2 = q) (kk : zW l D tc A y d mc ms k n q (v0 :: v1 :: v2 :: v3 :: v4 :: v5 :: some (.long x) :: none :: L) st S Q) : zW l D tc A y d mc ms k n pc (v0 :: v1 :: v2 :: v3 :: v4 :: v5 :: v6 :: v7 :: L) (.long x :: st) S Q := zx_lstore (i := 6) hd (by simp) hz hq kk
theorem zx_lstore7 {v0 v1 v2 v3 v4 v5 v6 v7 v8 : Option Value} {x : Int64} (hd : decode y.2.1 pc = .ok (.lstore 7, 2)) (hz : zw_nl [v6] 1 = true) (hq : pc + 2 = q) (kk : zW l D tc A y d mc ms k n q (v0 :: v1 :: v2 :: v3 :: v4 :: v5 :: v6 :: some (.long x) :: none :: L) st S Q) : zW l D tc A y d mc ms k n pc (v0 :: v1 :: v2 :: v3 :: v4 :: v5 :: v6 :: v7 :: v8 :: L) (.long x :: st) S Q := zx_lstore (i := 7) hd (by simp) hz hq kk
theorem zx_lstore8 {v0 v1 v2 v3 v4 v5 v6 v7 v8 v9 : Option Value} {x : Int64} (hd : decode y.2.1 pc = .ok (.lstore 8, 2)) (hz : zw_nl [v7] 1 = true) (hq : pc + 2 = q) (kk : zW l D tc A y d mc ms k n q (v0 :: v1 :: v2 :: v3 :: v4 :: v5 :: v6 :: v7 :: some (.long x) :: none :: L) st S Q) : zW l D tc A y d mc ms k n pc (v0 :: v1 :: v2 :: v3 :: v4 :: v5 :: v6 :: v7 :: v8 :: v9 :: L) (.long x :: st) S Q := zx_lstore (i := 8) hd (by simp) hz hq kk
theorem zx_lstore9 {v0 v1 v2 v3 v4 v5 v6 v7 v8 v9 v10 : Option Value} {x : Int64} (hd : decode y.2.1 pc = .ok (.lstore 9, 2)) (hz : zw_nl [v8] 1 = true) (hq : pc + 2 = q) (kk : zW l D tc A y d mc ms k n q (v0 :: v1 :: v2 :: v3 :: v4 :: v5 :: v6 :: v7 :: v8 :: some (.long x) :: none :: L) st S Q) : zW l D tc A y d mc ms k n pc (v0 :: v1 :: v2 :: v3 :: v4 :: v5 :: v6 :: v7 :: v8 :: v9 :: v10 :: L) (.long x :: st) S Q := zx_lstore (i := 9) hd (by simp) hz hq kk
theorem zx_if_eq {x : Int32} {off : Int} {t : Nat} (hd : decode y.2.1 pc = .ok (.ifCond .eq off, 3)) (ht : (pc : Int) + off = (t : Int)) (hq : pc + 3 = q) (kt : x = 0 → zW l D tc A y d mc ms k n t L st S Q) (kf : ¬ x = 0 → zW l D tc A y d mc ms k n q L st S Q) : zW l D tc A y d mc ms k n pc L (.int x :: st) S Q := by
  subst hq
  intro p e s m args below meth c ad ad0 n0 H locs ls C hP hD hS hL hn ha hm
  exact lv_if_eq C.1 C.2.1 hd ht (fun h => kt h p e s m args below meth c ad ad0 n0 H locs ls C hP hD hS hL hn ha hm) (fun h => kf h p e s m args below meth c ad ad0 n0 H locs ls C hP hD hS hL hn ha hm)
theorem zx_if_ne {x : Int32} {off : Int} {t : Nat} (hd : decode y.2.1 pc = .ok (.ifCond .ne off, 3)) (ht : (pc : Int) + off = (t : Int)) (hq : pc + 3 = q) (kt : ¬ x = 0 → zW l D tc A y d mc ms k n t L st S Q) (kf : x = 0 → zW l D tc A y d mc ms k n q L st S Q) : zW l D tc A y d mc ms k n pc L (.int x :: st) S Q := by
  subst hq
  intro p e s m args below meth c ad ad0 n0 H locs ls C hP hD hS hL hn ha hm
  exact lv_if_ne C.1 C.2.1 hd ht (fun h => kt h p e s m args below meth c ad ad0 n0 H locs ls C hP hD hS hL hn ha hm) (fun h => kf h p e s m args below meth c ad ad0 n0 H locs ls C hP hD hS hL hn ha hm)
theorem zx_if_lt {x : Int32} {off : Int} {t : Nat} (hd : decode y.2.1 pc = .ok (.ifCond .lt off, 3)) (ht : (pc : Int) + off = (t : Int)) (hq : pc + 3 = q) (kt : x < 0 → zW l D tc A y d mc ms k n t L st S Q) (kf : ¬ x < 0 → zW l D tc A y d mc ms k n q L st S Q) : zW l D tc A y d mc ms k n pc L (.int x :: st) S Q := by
  subst hq
  intro p e s m args below meth c ad ad0 n0 H locs ls C hP hD hS hL hn ha hm
  exact lv_if_lt C.1 C.2.1 hd ht (fun h => kt h p e s m args below meth c ad ad0 n0 H locs ls C hP hD hS hL hn ha hm) (fun h => kf h p e s m args below meth c ad ad0 n0 H locs ls C hP hD hS hL hn ha hm)
theorem zx_if_ge {x : Int32} {off : Int} {t : Nat} (hd : decode y.2.1 pc = .ok (.ifCond .ge off, 3)) (ht : (pc : Int) + off = (t : Int)) (hq : pc + 3 = q) (kt : 0 ≤ x → zW l D tc A y d mc ms k n t L st S Q) (kf : ¬ 0 ≤ x → zW l D tc A y d mc ms k n q L st S Q) : zW l D tc A y d mc ms k n pc L (.int x :: st) S Q := by
  subst hq
  intro p e s m args below meth c ad ad0 n0 H locs ls C hP hD hS hL hn ha hm
  exact lv_if_ge C.1 C.2.1 hd ht (fun h => kt h p e s m args below meth c ad ad0 n0 H locs ls C hP hD hS hL hn ha hm) (fun h => kf h p e s m args below meth c ad ad0 n0 H locs ls C hP hD hS hL hn ha hm)
theorem zx_if_gt {x : Int32} {off : Int} {t : Nat} (hd : decode y.2.1 pc = .ok (.ifCond .gt off, 3)) (ht : (pc : Int) + off = (t : Int)) (hq : pc + 3 = q) (kt : 0 < x → zW l D tc A y d mc ms k n t L st S Q) (kf : ¬ 0 < x → zW l D tc A y d mc ms k n q L st S Q) : zW l D tc A y d mc ms k n pc L (.int x :: st) S Q := by
  subst hq
  intro p e s m args below meth c ad ad0 n0 H locs ls C hP hD hS hL hn ha hm
  exact lv_if_gt C.1 C.2.1 hd ht (fun h => kt h p e s m args below meth c ad ad0 n0 H locs ls C hP hD hS hL hn ha hm) (fun h => kf h p e s m args below meth c ad ad0 n0 H locs ls C hP hD hS hL hn ha hm)
theorem zx_if_le {x : Int32} {off : Int} {t : Nat} (hd : decode y.2.1 pc = .ok (.ifCond .le off, 3)) (ht : (pc : Int) + off = (t : Int)) (hq : pc + 3 = q) (kt : x ≤ 0 → zW l D tc A y d mc ms k n t L st S Q) (kf : ¬ x ≤ 0 → zW l D tc A y d mc ms k n q L st S Q) : zW l D tc A y d mc ms k n pc L (.int x :: st) S Q := by
  subst hq
  intro p e s m args below meth c ad ad0 n0 H locs ls C hP hD hS hL hn ha hm
  exact lv_if_le C.1 C.2.1 hd ht (fun h => kt h p e s m args below meth c ad ad0 n0 H locs ls C hP hD hS hL hn ha hm) (fun h => kf h p e s m args below meth c ad ad0 n0 H locs ls C hP hD hS hL hn ha hm)
theorem zx_icmp_eq {x y2 : Int32} {off : Int} {t : Nat} (hd : decode y.2.1 pc = .ok (.if_icmp .eq off, 3)) (ht : (pc : Int) + off = (t : Int)) (hq : pc + 3 = q) (kt : x = y2 → zW l D tc A y d mc ms k n t L st S Q) (kf : ¬ x = y2 → zW l D tc A y d mc ms k n q L st S Q) : zW l D tc A y d mc ms k n pc L (.int y2 :: .int x :: st) S Q := by
  subst hq
  intro p e s m args below meth c ad ad0 n0 H locs ls C hP hD hS hL hn ha hm
  exact lv_icmp_eq C.1 C.2.1 hd ht (fun h => kt h p e s m args below meth c ad ad0 n0 H locs ls C hP hD hS hL hn ha hm) (fun h => kf h p e s m args below meth c ad ad0 n0 H locs ls C hP hD hS hL hn ha hm)
theorem zx_icmp_ne {x y2 : Int32} {off : Int} {t : Nat} (hd : decode y.2.1 pc = .ok (.if_icmp .ne off, 3)) (ht : (pc : Int) + off = (t : Int)) (hq : pc + 3 = q) (kt : ¬ x = y2 → zW l D tc A y d mc ms k n t L st S Q) (kf : x = y2 → zW l D tc A y d mc ms k n q L st S Q) : zW l D tc A y d mc ms k n pc L (.int y2 :: .int x :: st) S Q := by
  subst hq
  intro p e s m args below meth c ad ad0 n0 H locs ls C hP hD hS hL hn ha hm
  exact lv_icmp_ne C.1 C.2.1 hd ht (fun h => kt h p e s m args below meth c ad ad0 n0 H locs ls C hP hD hS hL hn ha hm) (fun h => kf h p e s m args below meth c ad ad0 n0 H locs ls C hP hD hS hL hn ha hm)
theorem zx_icmp_lt {x y2 : Int32} {off : Int} {t : Nat} (hd : decode y.2.1 pc = .ok (.if_icmp .lt off, 3)) (ht : (pc : Int) + off = (t : Int)) (hq : pc + 3 = q) (kt : x < y2 → zW l D tc A y d mc ms k n t L st S Q) (kf : ¬ x < y2 → zW l D tc A y d mc ms k n q L st S Q) : zW l D tc A y d mc ms k n pc L (.int y2 :: .int x :: st) S Q := by
  subst hq
  intro p e s m args below meth c ad ad0 n0 H locs ls C hP hD hS hL hn ha hm
  exact lv_icmp_lt C.1 C.2.1 hd ht (fun h => kt h p e s m args below meth c ad ad0 n0 H locs ls C hP hD hS hL hn ha hm) (fun h => kf h p e s m args below meth c ad ad0 n0 H locs ls C hP hD hS hL hn ha hm)
theorem zx_icmp_ge {x y2 : Int32} {off : Int} {t : Nat} (hd : decode y.2.1 pc = .ok (.if_icmp .ge off, 3)) (ht : (pc : Int) + off = (t : Int)) (hq : pc + 3 = q) (kt : y2 ≤ x → zW l D tc A y d mc ms k n t L st S Q) (kf : ¬ y2 ≤ x → zW l D tc A y d mc ms k n q L st S Q) : zW l D tc A y d mc ms k n pc L (.int y2 :: .int x :: st) S Q := by
  subst hq
  intro p e s m args below meth c ad ad0 n0 H locs ls C hP hD hS hL hn ha hm
  exact lv_icmp_ge C.1 C.2.1 hd ht (fun h => kt h p e s m args below meth c ad ad0 n0 H locs ls C hP hD hS hL hn ha hm) (fun h => kf h p e s m args below meth c ad ad0 n0 H locs ls C hP hD hS hL hn ha hm)
theorem zx_icmp_gt {x y2 : Int32} {off : Int} {t : Nat} (hd : decode y.2.1 pc = .ok (.if_icmp .gt off, 3)) (ht : (pc : Int) + off = (t : Int)) (hq : pc + 3 = q) (kt : y2 < x → zW l D tc A y d mc ms k n t L st S Q) (kf : ¬ y2 < x → zW l D tc A y d mc ms k n q L st S Q) : zW l D tc A y d mc ms k n pc L (.int y2 :: .int x :: st) S Q := by
  subst hq
  intro p e s m args below meth c ad ad0 n0 H locs ls C hP hD hS hL hn ha hm
  exact lv_icmp_gt C.1 C.2.1 hd ht (fun h => kt h p e s m args below meth c ad ad0 n0 H locs ls C hP hD hS hL hn ha hm) (fun h => kf h p e s m args below meth c ad ad0 n0 H locs ls C hP hD hS hL hn ha hm)
theorem zx_icmp_le {x y2 : Int32} {off : Int} {t : Nat} (hd : decode y.2.1 pc = .ok (.if_icmp .le off, 3)) (ht : (pc : Int) + off = (t : Int)) (hq : pc + 3 = q) (kt : x ≤ y2 → zW l D tc A y d mc ms k n t L st S Q) (kf : ¬ x ≤ y2 → zW l D tc A y d mc ms k n q L st S Q) : zW l D tc A y d mc ms k n pc L (.int y2 :: .int x :: st) S Q := by
  subst hq
  intro p e s m args below meth c ad ad0 n0 H locs ls C hP hD hS hL hn ha hm
  exact lv_icmp_le C.1 C.2.1 hd ht (fun h => kt h p e s m args below meth c ad ad0 n0 H locs ls C hP hD hS hL hn ha hm) (fun h => kf h p e s m args below meth c ad ad0 n0 H locs ls C hP hD hS hL hn ha hm)
theorem zx_goto {off : Int} {t : Nat} (hd : decode y.2.1 pc = .ok (.goto off, 3)) (ht : (pc : Int) + off = (t : Int)) (kk : zW l D tc A y d mc ms k n t L st S Q) : zW l D tc A y d mc ms k n pc L st S Q := by
  intro p e s m args below meth c ad ad0 n0 H locs ls C hP hD hS hL hn ha hm
  exact lv_goto C.1 C.2.1 hd ht (kk p e s m args below meth c ad ad0 n0 H locs ls C hP hD hS hL hn ha hm)
theorem zx_lookup {dflt : Int} {ps : Array (Int × Int)} {len : Nat} {x : Int32} {off : Int} {t : Nat} (hd : decode y.2.1 pc = .ok (.lookupswitch dflt ps, len)) (hp : (ps.toList.zip (ps.toList.drop 1)).all (fun (a, next) => a.1 < next.1) = true) (ho : Op.lookupswitch.offset ps.toList dflt x.toInt = off) (ht : (pc : Int) + off = (t : Int)) (kk : zW l D tc A y d mc ms k n t L st S Q) : zW l D tc A y d mc ms k n pc L (.int x :: st) S Q := by
  intro p e s m args below meth c ad ad0 n0 H locs ls C hP hD hS hL hn ha hm
  exact lv_lookup C.1 C.2.1 hd hp ho ht (kk p e s m args below meth c ad ad0 n0 H locs ls C hP hD hS hL hn ha hm)
theorem zx_tblIn {dflt lo hi : Int} {offs : Array Int} {len : Nat} {x : Int32} {off : Int} {t : Nat} (hd : decode y.2.1 pc = .ok (.tableswitch dflt lo hi offs, len)) (h1 : ¬ x.toInt < lo) (h2 : ¬ hi < x.toInt) (ho : offs[(x.toInt - lo).toNat]? = some off) (ht : (pc : Int) + off = (t : Int)) (kk : zW l D tc A y d mc ms k n t L st S Q) : zW l D tc A y d mc ms k n pc L (.int x :: st) S Q := by
  intro p e s m args below meth c ad ad0 n0 H locs ls C hP hD hS hL hn ha hm
  exact lv_tableIn C.1 C.2.1 hd h1 h2 ho ht (kk p e s m args below meth c ad ad0 n0 H locs ls C hP hD hS hL hn ha hm)
theorem zx_tblOut {dflt lo hi : Int} {offs : Array Int} {len : Nat} {x : Int32} {t : Nat} (hd : decode y.2.1 pc = .ok (.tableswitch dflt lo hi offs, len)) (h1 : x.toInt < lo ∨ hi < x.toInt) (ht : (pc : Int) + dflt = (t : Int)) (kk : zW l D tc A y d mc ms k n t L st S Q) : zW l D tc A y d mc ms k n pc L (.int x :: st) S Q := by
  intro p e s m args below meth c ad ad0 n0 H locs ls C hP hD hS hL hn ha hm
  exact lv_tableOut C.1 C.2.1 hd h1 ht (kk p e s m args below meth c ad ad0 n0 H locs ls C hP hD hS hL hn ha hm)
theorem zx_ldc {idx : Nat} {v : Int32} (hd : decode y.2.1 pc = .ok (.ldc idx, 2)) (hw : Cond.constant y.1.cls idx v ∈ zw_Tb) (hq : pc + 2 = q) (kk : zW l D tc A y d mc ms k n q L (.int v :: st) S Q) : zW l D tc A y d mc ms k n pc L (st) S Q := by
  subst hq
  intro p e s m args below meth c ad ad0 n0 H locs ls C hP hD hS hL hn ha hm
  exact lv_ldc C.1 C.2.1 C.2.2.2.2.1 (C.2.2.2.2.2.1 _ hw) hd (kk p e s m args below meth c ad ad0 n0 H locs ls C hP hD hS hL hn ha hm)
theorem zx_ldcw {idx : Nat} {v : Int32} (hd : decode y.2.1 pc = .ok (.ldc_w idx, 3)) (hw : Cond.constant y.1.cls idx v ∈ zw_Tb) (hq : pc + 3 = q) (kk : zW l D tc A y d mc ms k n q L (.int v :: st) S Q) : zW l D tc A y d mc ms k n pc L (st) S Q := by
  subst hq
  intro p e s m args below meth c ad ad0 n0 H locs ls C hP hD hS hL hn ha hm
  exact lv_ldcw C.1 C.2.1 C.2.2.2.2.1 (C.2.2.2.2.2.1 _ hw) hd (kk p e s m args below meth c ad ad0 n0 H locs ls C hP hD hS hL hn ha hm)
theorem zx_ldc2 {idx : Nat} {v : Int64} (hd : decode y.2.1 pc = .ok (.ldc2_w idx, 3)) (hw : Cond.constantLong y.1.cls idx v ∈ zw_Tb) (hq : pc + 3 = q) (kk : zW l D tc A y d mc ms k n q L (.long v :: st) S Q) : zW l D tc A y d mc ms k n pc L (st) S Q := by
  subst hq
  intro p e s m args below meth c ad ad0 n0 H locs ls C hP hD hS hL hn ha hm
  exact lv_ldc2 C.1 C.2.1 C.2.2.2.2.1 (C.2.2.2.2.2.1 _ hw) hd (kk p e s m args below meth c ad ad0 n0 H locs ls C hP hD hS hL hn ha hm)
theorem zx_ldcS {i : Nat} (hd : decode y.2.1 pc = .ok (.ldc (zw_tn i), 2)) (hi : i < 8) (ho : y.1.cls = RX2) (hq : pc + 2 = q) (kk : zW l D tc A y d mc ms k n q L (.ref (100000 + i) :: st) S Q) : zW l D tc A y d mc ms k n pc L (st) S Q := by
  subst hq
  intro p e s m args below meth c ad ad0 n0 H locs ls C hP hD hS hL hn ha hm
  exact va_ldcS C.1 C.2.1 C.2.2.2.2.1 (by rw [ho]; exact C.2.2.2.2.2.2.2.1.2.2.2.2.2.1 i hi) hd (kk p e s m args below meth c ad ad0 n0 H locs ls C hP hD hS hL hn ha hm)
theorem zx_iret {x : Int32} (hd : decode y.2.1 pc = .ok (.ireturn, 1)) (hr : y.2.2.2 = some .int) (hk : k ≤ mc) (hks : n ≤ ms) (h : Q (some (.int x)) S) : zW l D tc A y d mc ms k n pc L [.int x] S Q := by
  intro p e s m args below meth c ad ad0 n0 H locs ls C hP hD hS hL hn ha hm
  exact W.widen hk hks (W.iret C.1 C.2.1 (C.2.2.1.trans hr) (fun t ht _ => ⟨⟨(some (.int x)), S, ad, rfl, h, hn, ha, hm, by rw [ht]; exact hP, hD⟩, hS.F ht⟩) hS.2.2 hd C.2.2.2.2.2.2.2.2.1)
theorem zx_zret {x : Int32} {ty : FieldType} (hd : decode y.2.1 pc = .ok (.ireturn, 1)) (hr : y.2.2.2 = some ty) (hx : narrow ty (.int x) = .int x) (hk : k ≤ mc) (hks : n ≤ ms) (h : Q (some (.int x)) S) : zW l D tc A y d mc ms k n pc L [.int x] S Q := by
  intro p e s m args below meth c ad ad0 n0 H locs ls C hP hD hS hL hn ha hm
  exact W.widen hk hks (W.zret C.1 C.2.1 (C.2.2.1.trans hr) hx (fun t ht _ => ⟨⟨(some (.int x)), S, ad, rfl, h, hn, ha, hm, by rw [ht]; exact hP, hD⟩, hS.F ht⟩) hS.2.2 hd C.2.2.2.2.2.2.2.2.1)
theorem zx_lret {x : Int64} (hd : decode y.2.1 pc = .ok (.lreturn, 1)) (hr : y.2.2.2 = some .long) (hk : k ≤ mc) (hks : n ≤ ms) (h : Q (some (.long x)) S) : zW l D tc A y d mc ms k n pc L [.long x] S Q := by
  intro p e s m args below meth c ad ad0 n0 H locs ls C hP hD hS hL hn ha hm
  exact W.widen hk hks (W.lret C.1 C.2.1 (C.2.2.1.trans hr) (fun t ht _ => ⟨⟨(some (.long x)), S, ad, rfl, h, hn, ha, hm, by rw [ht]; exact hP, hD⟩, hS.F ht⟩) hS.2.2 hd C.2.2.2.2.2.2.2.2.1)
theorem zx_vret (hd : decode y.2.1 pc = .ok (.return_, 1)) (hr : y.2.2.2 = none) (hk : k ≤ mc) (hks : n ≤ ms) (h : Q none S) : zW l D tc A y d mc ms k n pc L [] S Q := by
  intro p e s m args below meth c ad ad0 n0 H locs ls C hP hD hS hL hn ha hm
  exact W.widen hk hks (W.vret C.1 C.2.1 (C.2.2.1.trans hr) (fun t ht _ => ⟨⟨none, S, ad, rfl, h, hn, ha, hm, by rw [ht]; exact hP, hD⟩, hS.F ht⟩) hS.2.2 hd C.2.2.2.2.2.2.2.2.1)
theorem zx_aret {x : Nat} {nm : String} (hd : decode y.2.1 pc = .ok (.areturn, 1)) (hr : y.2.2.2 = some (.object nm)) (hk : k ≤ mc) (hks : n ≤ ms) (h : Q (some (.ref x)) S) : zW l D tc A y d mc ms k n pc L [.ref x] S Q := by
  intro p e s m args below meth c ad ad0 n0 H locs ls C hP hD hS hL hn ha hm
  exact W.widen hk hks (W.aret C.1 C.2.1 (C.2.2.1.trans hr) (Or.inl ⟨_, rfl⟩) (Or.inr ⟨_, rfl⟩) (fun t ht _ => ⟨⟨(some (.ref x)), S, ad, rfl, h, hn, ha, hm, by rw [ht]; exact hP, hD⟩, hS.F ht⟩) hS.2.2 hd C.2.2.2.2.2.2.2.2.1)
/-- the number idx in own's pool names the field j of class ci -/
def zw_fl (own : String) (idx ci j : Nat) : Prop := ci < 9 ∧ j < zw_N ci ∧ Cond.fieldLink own idx (zw_T ci j).1 (zw_T ci j).2.1 (zw_T ci j).2.2.1 ∈ zw_Tb
theorem zx_get {idx ci b j : Nat} {v : Value} (hd : decode y.2.1 pc = .ok (.getfield idx, 3)) (hf : zw_fl y.1.cls idx ci j) (hsh : S.1[b]? = some (0, ci)) (hv : ∀ ad, zw_fv ad S b j (zw_ft ci j) = zw_v ad v) (hq : pc + 3 = q) (kk : zW l D tc A y d mc ms k n q L (v :: st) S Q) : zW l D tc A y d mc ms k n pc L (.ref b :: st) S Q := by
  subst hq
  intro p e s m args below meth c ad ad0 n0 H locs ls C hP hD hS hL hn ha hm
  refine va_get C.1 C.2.1 (Ts := zw_Tb) C.2.2.2.2.2.1 (zw_lays_ok hf.1) C.2.2.2.2.1 C.2.2.2.2.2.2.1 hP b (fs := zw_fs ad S b ci) (zw_get hsh) (zw_cl_at hf.1) j hf.2.1 (C.2.2.2.2.2.1 _ hf.2.2) (fun _ h => h) (v := zw_v ad v) ?_ hd (kk p e s m args below meth c ad ad0 n0 H locs ls C hP hD hS hL hn ha hm)
  rw [zw_fs_at hf.2.1, hv]
theorem zx_getI {idx ci b j : Nat} (hd : decode y.2.1 pc = .ok (.getfield idx, 3)) (hf : zw_fl y.1.cls idx ci j) (ht : zw_isI (zw_ft ci j) = true) (hsh : S.1[b]? = some (0, ci)) (hq : pc + 3 = q) (kk : zW l D tc A y d mc ms k n q L (.int (S.2.1 b j) :: st) S Q) : zW l D tc A y d mc ms k n pc L (.ref b :: st) S Q := by
  refine zx_get hd hf hsh (fun ad => ?_) hq kk
  generalize zw_ft ci j = ty at ht ⊢
  cases ty <;> first | (simp [zw_isI] at ht; done) | rfl
theorem zx_getR {idx ci b j r : Nat} (hd : decode y.2.1 pc = .ok (.getfield idx, 3)) (hf : zw_fl y.1.cls idx ci j) (ht : zw_isR (zw_ft ci j) = true) (hsh : S.1[b]? = some (0, ci)) (hr : S.2.2.2 b j = some r) (hq : pc + 3 = q) (kk : zW l D tc A y d mc ms k n q L (.ref r :: st) S Q) : zW l D tc A y d mc ms k n pc L (.ref b :: st) S Q := by
  refine zx_get hd hf hsh (fun ad => ?_) hq kk
  generalize zw_ft ci j = ty at ht ⊢
  cases ty <;> first | (simp [zw_isR] at ht; done) | (simp [zw_fv, hr, va_rf, zw_v]; done)
theorem zx_putI {idx ci b j : Nat} {x : Int32} (hd : decode y.2.1 pc = .ok (.putfield idx, 3)) (hf : zw_fl y.1.cls idx ci j) (ht : zw_isI (zw_ft ci j) = true) (hfin : (zw_T ci j).2.2.2 = false) (hx : narrow (zw_ft ci j) (.int x) = .int x ∧ fits (zw_ft ci j) (.int x) = true) (hsh : S.1[b]? = some (0, ci)) (hq : pc + 3 = q) (kk : zW l D tc A y d mc ms k n q L st (zw_pi S b j x) Q) : zW l D tc A y d mc ms k n pc L (.int x :: .ref b :: st) S Q := by
  subst hq
  intro p e s m args below meth c ad ad0 n0 H locs ls C hP hD hS hL hn ha hm
  refine va_put C.1 C.2.1 (Ts := zw_Tb) C.2.2.2.2.2.1 (zw_lays_ok hf.1) (zw_ft ci) (zw_ty hf.1) (zw_nm hf.1) C.2.2.2.2.1 C.2.2.2.2.2.2.1 hP hD hS b (fs := zw_fs ad S b ci) (zw_get hsh) (zw_cl_at hf.1) j hf.2.1 (C.2.2.2.2.2.1 _ hf.2.2) (fun _ h => h) hfin (ty := zw_ft ci j) (v := .int x) (zw_ty hf.1 _ hf.2.1) hx.1 hx.2 (by rw [zw_fs_len]; exact hf.2.1) hd (fun H1 locs1 hP1 hD1 hS1 => ?_)
  rw [zw_putfi hsh ht] at hP1 hD1
  exact kk p e s m args below meth c ad ad0 n0 H1 locs1 ls C hP1 hD1 hS1 hL hn ha hm
theorem zw_wf_pr {S : zw_S} {b j v : Nat} (hw : zw_wf S) (hv : v < S.1.length) : zw_wf (zw_pr S b j (some v)) := by
  intro k i r h
  by_cases hki : k = b ∧ i = j
  · have e : (zw_pr S b j (some v)).2.2.2 k i = some v := by simp [zw_pr, zw_u, hki]
    rw [e] at h
    cases h
    exact Or.inl hv
  · have e : (zw_pr S b j (some v)).2.2.2 k i = S.2.2.2 k i := by simp [zw_pr, zw_u, hki]
    rw [e] at h
    exact hw k i r h
theorem zw_fitR {ty : FieldType} {a : Nat} (h : zw_isR ty = true) : narrow ty (.ref a) = .ref a ∧ fits ty (.ref a) = true := by
  cases ty <;> first | (simp [zw_isR] at h; done) | exact ⟨rfl, rfl⟩
theorem zx_putR {idx ci b j v : Nat} (hd : decode y.2.1 pc = .ok (.putfield idx, 3)) (hf : zw_fl y.1.cls idx ci j) (ht : zw_isR (zw_ft ci j) = true) (hfin : (zw_T ci j).2.2.2 = false) (hsh : S.1[b]? = some (0, ci)) (hv : v < S.1.length) (hq : pc + 3 = q) (kk : zW l D tc A y d mc ms k n q L st (zw_pr S b j (some v)) Q) : zW l D tc A y d mc ms k n pc L (.ref v :: .ref b :: st) S Q := by
  subst hq
  intro p e s m args below meth c ad ad0 n0 H locs ls C hP hD hS hL hn ha hm
  refine va_put C.1 C.2.1 (Ts := zw_Tb) C.2.2.2.2.2.1 (zw_lays_ok hf.1) (zw_ft ci) (zw_ty hf.1) (zw_nm hf.1) C.2.2.2.2.1 C.2.2.2.2.2.2.1 hP hD hS b (fs := zw_fs ad S b ci) (zw_get hsh) (zw_cl_at hf.1) j hf.2.1 (C.2.2.2.2.2.1 _ hf.2.2) (fun _ h => h) hfin (ty := zw_ft ci j) (v := .ref (ad v)) (zw_ty hf.1 _ hf.2.1) (zw_fitR ht).1 (zw_fitR ht).2 (by rw [zw_fs_len]; exact hf.2.1) hd (fun H1 locs1 hP1 hD1 hS1 => ?_)
  rw [zw_putfr hsh ht] at hP1 hD1
  exact kk p e s m args below meth c ad ad0 n0 H1 locs1 ls C hP1 hD1 hS1 hL ⟨hn.1, zw_wf_pr hn.2 hv⟩ ha hm
theorem zx_putRF {idx ci b j v : Nat} (hd : decode y.2.1 pc = .ok (.putfield idx, 3)) (hf : zw_fl y.1.cls idx ci j) (ht : zw_isR (zw_ft ci j) = true) (hfin : (zw_T ci j).2.2.2 = true) (hin : y.1.name = "<init>") (hdc : (zw_T ci j).1 = y.1.cls) (hsh : S.1[b]? = some (0, ci)) (hv : v < S.1.length) (hq : pc + 3 = q) (kk : zW l D tc A y d mc ms k n q L st (zw_pr S b j (some v)) Q) : zW l D tc A y d mc ms k n pc L (.ref v :: .ref b :: st) S Q := by
  subst hq
  intro p e s m args below meth c ad ad0 n0 H locs ls C hP hD hS hL hn ha hm
  refine va_putF C.1 C.2.1 (Ts := zw_Tb) C.2.2.2.2.2.1 (zw_lays_ok hf.1) (zw_ft ci) (zw_ty hf.1) (zw_nm hf.1) C.2.2.2.2.1 C.2.2.2.2.2.2.1 hP hD hS b (fs := zw_fs ad S b ci) (zw_get hsh) (zw_cl_at hf.1) j hf.2.1 (C.2.2.2.2.2.1 _ hf.2.2) (fun _ h => h) hfin (C.2.2.2.2.2.2.2.2.2.1.trans hin) hdc (ty := zw_ft ci j) (v := .ref (ad v)) (zw_ty hf.1 _ hf.2.1) (zw_fitR ht).1 (zw_fitR ht).2 (by rw [zw_fs_len]; exact hf.2.1) hd (fun H1 locs1 hP1 hD1 hS1 => ?_)
  rw [zw_putfr hsh ht] at hP1 hD1
  exact kk p e s m args below meth c ad ad0 n0 H1 locs1 ls C hP1 hD1 hS1 hL ⟨hn.1, zw_wf_pr hn.2 hv⟩ ha hm
theorem zx_iald {b w : Nat} {i : Int32} (hd : decode y.2.1 pc = .ok (.iaload, 1)) (hsh : S.1[b]? = some (1, w)) (hin : vp_in i w) (hq : pc + 1 = q) (kk : zW l D tc A y d mc ms k n q L (.int (S.2.1 b i.toNatClampNeg) :: st) S Q) : zW l D tc A y d mc ms k n pc L (.int i :: .ref b :: st) S Q := by
  subst hq
  intro p e s m args below meth c ad ad0 n0 H locs ls C hP hD hS hL hn ha hm
  exact va_iald C.1 C.2.1 C.2.2.2.2.2.2.1 hP b 1 (zw_get hsh) (zw_tys_at tc (by decide)) hin hd (kk p e s m args below meth c ad ad0 n0 H locs ls C hP hD hS hL hn ha hm)
theorem zx_bald {b w : Nat} {i : Int32} (hd : decode y.2.1 pc = .ok (.baload, 1)) (hsh : S.1[b]? = some (2, w)) (hin : vp_in i w) (hq : pc + 1 = q) (kk : zW l D tc A y d mc ms k n q L (.int (S.2.1 b i.toNatClampNeg) :: st) S Q) : zW l D tc A y d mc ms k n pc L (.int i :: .ref b :: st) S Q := by
  subst hq
  intro p e s m args below meth c ad ad0 n0 H locs ls C hP hD hS hL hn ha hm
  exact va_bald C.1 C.2.1 C.2.2.2.2.2.2.1 hP b 2 (zw_get hsh) (zw_tys_at tc (by decide)) hin hd (kk p e s m args below meth c ad ad0 n0 H locs ls C hP hD hS hL hn ha hm)
theorem zx_zald {b w : Nat} {i : Int32} (hd : decode y.2.1 pc = .ok (.baload, 1)) (hsh : S.1[b]? = some (3, w)) (hin : vp_in i w) (hq : pc + 1 = q) (kk : zW l D tc A y d mc ms k n q L (.int (S.2.1 b i.toNatClampNeg) :: st) S Q) : zW l D tc A y d mc ms k n pc L (.int i :: .ref b :: st) S Q := by
  subst hq
  intro p e s m args below meth c ad ad0 n0 H locs ls C hP hD hS hL hn ha hm
  exact va_zald C.1 C.2.1 C.2.2.2.2.2.2.1 hP b 3 (zw_get hsh) (zw_tys_at tc (by decide)) hin hd (kk p e s m args below meth c ad ad0 n0 H locs ls C hP hD hS hL hn ha hm)
theorem zx_lald {b w : Nat} {i : Int32} (hd : decode y.2.1 pc = .ok (.laload, 1)) (hsh : S.1[b]? = some (4, w)) (hin : vp_in i w) (hq : pc + 1 = q) (kk : zW l D tc A y d mc ms k n q L (.long (S.2.2.1 b i.toNatClampNeg) :: st) S Q) : zW l D tc A y d mc ms k n pc L (.int i :: .ref b :: st) S Q := by
  subst hq
  intro p e s m args below meth c ad ad0 n0 H locs ls C hP hD hS hL hn ha hm
  exact va_lald C.1 C.2.1 C.2.2.2.2.2.2.1 hP b 4 (zw_get hsh) (zw_tys_at tc (by decide)) hin hd (kk p e s m args below meth c ad ad0 n0 H locs ls C hP hD hS hL hn ha hm)
theorem zx_iast {b w : Nat} {i : Int32} {x : Int32} (hd : decode y.2.1 pc = .ok (.iastore, 1)) (hsh : S.1[b]? = some (1, w)) (hin : vp_in i w) (hq : pc + 1 = q) (kk : zW l D tc A y d mc ms k n q L st (zw_pi S b i.toNatClampNeg x) Q) : zW l D tc A y d mc ms k n pc L (.int x :: .int i :: .ref b :: st) S Q := by
  subst hq
  intro p e s m args below meth c ad ad0 n0 H locs ls C hP hD hS hL hn ha hm
  refine va_iast C.1 C.2.1 C.2.2.2.2.2.2.1 hP hD hS b 1 (zw_get hsh) (zw_tys_at tc (by decide)) hin hd (fun H1 locs1 hP1 hD1 hS1 => ?_)
  rw [zw_put_i (t := 1) (Or.inl rfl) hsh] at hP1 hD1
  exact kk p e s m args below meth c ad ad0 n0 H1 locs1 ls C hP1 hD1 hS1 hL hn ha hm
theorem zx_bast {b w : Nat} {i : Int32} {x : Int32} (hd : decode y.2.1 pc = .ok (.bastore, 1)) (hsh : S.1[b]? = some (2, w)) (hin : vp_in i w) (hq : pc + 1 = q) (kk : zW l D tc A y d mc ms k n q L st (zw_pi S b i.toNatClampNeg (vp_nar .byte x)) Q) : zW l D tc A y d mc ms k n pc L (.int x :: .int i :: .ref b :: st) S Q := by
  subst hq
  intro p e s m args below meth c ad ad0 n0 H locs ls C hP hD hS hL hn ha hm
  refine va_bast C.1 C.2.1 C.2.2.2.2.2.2.1 hP hD hS b 2 (zw_get hsh) (zw_tys_at tc (by decide)) hin hd (fun H1 locs1 hP1 hD1 hS1 => ?_)
  rw [zw_put_i (t := 2) (Or.inr (Or.inl rfl)) hsh] at hP1 hD1
  exact kk p e s m args below meth c ad ad0 n0 H1 locs1 ls C hP1 hD1 hS1 hL hn ha hm
theorem zx_zast {b w : Nat} {i : Int32} {x : Int32} (hd : decode y.2.1 pc = .ok (.bastore, 1)) (hsh : S.1[b]? = some (3, w)) (hin : vp_in i w) (hq : pc + 1 = q) (kk : zW l D tc A y d mc ms k n q L st (zw_pi S b i.toNatClampNeg (vp_nar .boolean x)) Q) : zW l D tc A y d mc ms k n pc L (.int x :: .int i :: .ref b :: st) S Q := by
  subst hq
  intro p e s m args below meth c ad ad0 n0 H locs ls C hP hD hS hL hn ha hm
  refine va_zast C.1 C.2.1 C.2.2.2.2.2.2.1 hP hD hS b 3 (zw_get hsh) (zw_tys_at tc (by decide)) hin hd (fun H1 locs1 hP1 hD1 hS1 => ?_)
  rw [zw_put_i (t := 3) (Or.inr (Or.inr rfl)) hsh] at hP1 hD1
  exact kk p e s m args below meth c ad ad0 n0 H1 locs1 ls C hP1 hD1 hS1 hL hn ha hm
theorem zx_last {b w : Nat} {i : Int32} {x : Int64} (hd : decode y.2.1 pc = .ok (.lastore, 1)) (hsh : S.1[b]? = some (4, w)) (hin : vp_in i w) (hq : pc + 1 = q) (kk : zW l D tc A y d mc ms k n q L st (zw_pl S b i.toNatClampNeg x) Q) : zW l D tc A y d mc ms k n pc L (.long x :: .int i :: .ref b :: st) S Q := by
  subst hq
  intro p e s m args below meth c ad ad0 n0 H locs ls C hP hD hS hL hn ha hm
  refine va_last C.1 C.2.1 C.2.2.2.2.2.2.1 hP hD hS b 4 (zw_get hsh) (zw_tys_at tc (by decide)) hin hd (fun H1 locs1 hP1 hD1 hS1 => ?_)
  rw [zw_put_l hsh] at hP1 hD1
  exact kk p e s m args below meth c ad ad0 n0 H1 locs1 ls C hP1 hD1 hS1 hL hn ha hm
theorem zx_alen {b t w : Nat} {v : Int32} (hd : decode y.2.1 pc = .ok (.arraylength, 1)) (hsh : S.1[b]? = some (t, w)) (ht : 1 ≤ t ∧ t < 8) (hv : Int32.ofNat w = v) (hq : pc + 1 = q) (kk : zW l D tc A y d mc ms k n q L (.int v :: st) S Q) : zW l D tc A y d mc ms k n pc L (.ref b :: st) S Q := by
  subst hq
  intro p e s m args below meth c ad ad0 n0 H locs ls C hP hD hS hL hn ha hm
  have e : ∃ x : vp_A, zw_ac tc ad S b (t, w) = .inl (tc t, x) ∧ x.1 = w := by
    rcases (by omega : t = 1 ∨ t = 2 ∨ t = 3 ∨ t = 4 ∨ t = 5 ∨ t = 6 ∨ t = 7) with h | h | h | h | h | h | h <;> subst h <;> exact ⟨_, rfl, rfl⟩
  obtain ⟨x, e1, e2⟩ := e
  exact va_alen C.1 C.2.1 C.2.2.2.2.2.2.1 hP b t (x := x) (by rw [zw_get hsh, e1]) (zw_tys_at tc ht.2) (by rw [e2]; exact hv) hd (kk p e s m args below meth c ad ad0 n0 H locs ls C hP hD hS hL hn ha hm)
theorem zx_aald {b t w r : Nat} {i : Int32} (hd : decode y.2.1 pc = .ok (.aaload, 1)) (hsh : S.1[b]? = some (t, w)) (ht : 5 ≤ t ∧ t < 8) (hin : vp_in i w) (hr : S.2.2.2 b i.toNatClampNeg = some r) (hq : pc + 1 = q) (kk : zW l D tc A y d mc ms k n q L (.ref r :: st) S Q) : zW l D tc A y d mc ms k n pc L (.int i :: .ref b :: st) S Q := by
  subst hq
  intro p e s m args below meth c ad ad0 n0 H locs ls C hP hD hS hL hn ha hm
  have e1 : zw_ac tc ad S b (t, w) = .inl (tc t, w, .inr (.inr (.inr (.inr (fun j => (S.2.2.2 b j).map ad))))) := by
    rcases (by omega : t = 5 ∨ t = 6 ∨ t = 7) with h | h | h <;> subst h <;> rfl
  have e2 : (zw_at t).isReference = true := by
    rcases (by omega : t = 5 ∨ t = 6 ∨ t = 7) with h | h | h <;> subst h <;> rfl
  have hlt : i.toNatClampNeg < w := Nat.not_le.mp fun q => hin (Or.inr q)
  have hcell := hP b _ (zw_get hsh)
  rw [e1] at hcell
  exact W.aald (v := .ref (ad r)) (ty := zw_at t) C.1 C.2.1 hcell ((C.2.2.2.2.2.2.1.2 t _ (zw_tys_at tc ht.2)).1 w (fun j => va_rf ((S.2.2.2 b j).map ad))) e2 (fun q => by cases q) (by show ¬ (i < 0 ∨ (arrV _ _ _).slots.size ≤ _); rw [arrV_size]; exact hin) (by show (arrV _ _ _).slots[_]? = _; rw [arrV_read _ _ hlt]; show some (va_rf ((S.2.2.2 b i.toNatClampNeg).map ad)) = _; rw [hr]; rfl) rfl rfl hd (kk p e s m args below meth c ad ad0 n0 H locs ls C hP hD hS hL hn ha hm)
theorem zx_aast {b t w v ci : Nat} {i : Int32} (hd : decode y.2.1 pc = .ok (.aastore, 1)) (hsh : S.1[b]? = some (t, w)) (ht : 5 ≤ t ∧ t < 8) (hin : vp_in i w) (hv : S.1[v]? = some (0, ci)) (hci : ci < 9) (hty : zw_at t = .object (zw_R ci)) (hq : pc + 1 = q) (kk : zW l D tc A y d mc ms k n q L st (zw_pr S b i.toNatClampNeg (some v)) Q) : zW l D tc A y d mc ms k n pc L (.ref v :: .int i :: .ref b :: st) S Q := by
  subst hq
  intro p e s m args below meth c ad ad0 n0 H locs ls C hP hD hS hL hn ha hm
  have e1 : zw_ac tc ad S b (t, w) = .inl (tc t, w, .inr (.inr (.inr (.inr (fun j => (S.2.2.2 b j).map ad))))) := by
    rcases (by omega : t = 5 ∨ t = 6 ∨ t = 7) with h | h | h <;> subst h <;> rfl
  refine va_astq (r := (zw_R ci, zw_T ci, zw_N ci)) (v := ad v) (vs := zw_fs ad S v ci) (f := fun j => (S.2.2.2 b j).map ad) C.1 C.2.1 C.2.2.2.2.2.2.1 hP hD hS b t v ci (by rw [zw_get hsh, e1]) (by rw [zw_tys_at tc ht.2, hty]) (zw_get hv) (zw_cl_at hci) hin hd (fun H1 locs1 hP1 hD1 hS1 => ?_)
  rw [zw_put_q ht.1 hsh] at hP1 hD1
  exact kk p e s m args below meth c ad ad0 n0 H1 locs1 ls C hP1 hD1 hS1 hL ⟨hn.1, zw_wf_pr hn.2 (List.getElem?_eq_some_iff.mp hv).1⟩ ha hm
end ZX
end
section
/-! calls -/
def zw_okM (y' : zw_M) (nP : Nat) : Prop := plainName y'.1.cls = true ∧ Cond.code y'.1 y'.2.1 y'.2.2.1 y'.2.2.2 ∈ zw_Tb ∧ Cond.initialized y'.1.cls ∈ zw_Tb ∧ (y'.1.cls ≠ "java/lang/invoke/MethodHandle" ∧ y'.1.cls ≠ "java/lang/invoke/VarHandle" ∧ (parseMethodDescriptor y'.1.desc).map (fun d => d.parameters.length) = some nP) ∧ y'.2.2.1 ≤ 41
def zw_okV (y' : zw_M) (nP : Nat) : Prop := zw_okM y' nP ∧ Cond.instanceMethod y'.1 ∈ zw_Tb ∧ Cond.selects y'.1.cls y'.1 y'.1 ∈ zw_Tb
def zw_okS (y' : zw_M) (nP : Nat) : Prop := zw_okM y' nP ∧ Cond.static y'.1 ∈ zw_Tb
def zw_okI (y' : zw_M) (nP : Nat) : Prop := zw_okM y' nP ∧ Cond.instanceMethod y'.1 ∈ zw_Tb ∧ y'.1.name = "<init>" ∧ y'.2.2.2 = none
theorem zw_g1 {w : Cond} (h : w ∈ zw_Tb) : w ∈ zw_Tb ∧ ((w.onTables && w.keeps) = true ∨ ∃ ty, w = .arrayClass ty) := zw_good w h
theorem zw_gY {y' : zw_M} {nP : Nat} (h : zw_okM y' nP) : GoodIn zw_Tb (zw_wsy y') := fun w hw => (List.mem_cons.mp hw).elim (fun e => by subst e; exact zw_g1 h.2.1) (fun h => zw_g1 h)
def zw_wv (N : Nat) : Value → Bool
  | .ref k => decide (k < N) || decide (100000 ≤ k)
  | _ => true
def zw_wl (N : Nat) (L : List (Option Value)) : Bool := L.all fun o => match o with
  | some v => zw_wv N v
  | none => true
theorem zw_v_re {N : Nat} {ad ad' : Nat → Nat} (h : ∀ k, k < N ∨ 100000 ≤ k → ad' k = ad k) {v : Value} (hv : zw_wv N v = true) : zw_v ad' v = zw_v ad v := by
  cases v <;> first | rfl | (simp only [zw_wv, Bool.or_eq_true, decide_eq_true_eq] at hv; simp only [zw_v, h _ hv])
theorem zw_lv_re {N : Nat} {ad ad' : Nat → Nat} (h : ∀ k, k < N ∨ 100000 ≤ k → ad' k = ad k) : ∀ (L : List (Option Value)) (i : Nat), zw_wl N L = true → zw_lv ad' i L = zw_lv ad i L := by
  intro L
  induction L with
  | nil => intro i _; rfl
  | cons o L ih =>
    intro i hw
    simp only [zw_wl, List.all_cons, Bool.and_eq_true] at hw
    cases o with
    | none => rw [zw_lv, zw_lv, ih _ hw.2]
    | some v => rw [zw_lv, zw_lv, ih _ hw.2, zw_v_re h hw.1]
theorem zw_map_re {N : Nat} {ad ad' : Nat → Nat} (h : ∀ k, k < N ∨ 100000 ≤ k → ad' k = ad k) : ∀ (st : List Value), st.all (zw_wv N) = true → st.map (zw_v ad') = st.map (zw_v ad) := by
  intro st
  induction st with
  | nil => intro _; rfl
  | cons v st ih =>
    intro hw
    simp only [List.all_cons, Bool.and_eq_true] at hw
    rw [List.map_cons, List.map_cons, ih hw.2, zw_v_re h hw.1]
theorem zw_C.re {D : va_G} {tc : Nat → ClassId} {A : Nat → Prop} {y : zw_M} {p : Program} {s : State} {m : MethodId} {args : Array Value} {meth : Method} {c : Code} {ad ad' : Nat → Nat} (C : zw_C D tc A y p s m args meth c ad) (h : ∀ k, 100000 ≤ k → ad' k = ad k) : zw_C D tc A y p s m args meth c ad' :=
  ⟨C.1, C.2.1, C.2.2.1, C.2.2.2.1, C.2.2.2.2.1, C.2.2.2.2.2.1, C.2.2.2.2.2.2.1, C.2.2.2.2.2.2.2.1.re h, C.2.2.2.2.2.2.2.2⟩
theorem zw_sum (ad : Nat → Nat) (st : List Value) : ((st.map (zw_v ad)).map fun v => v.category) = st.map fun v => v.category := by
  rw [List.map_map]
  exact List.map_congr_left (fun v _ => zw_v_cat ad v)
section ZA
variable {l : Launch} {D : va_G} {tc : Nat → ClassId} {A : Nat → Prop} {y y' : zw_M} {d mc ms k n mc' ms' pc q : Nat} {L : List (Option Value)} {st : List Value} {S : zw_S} {Q Q' : Option Value → zw_S → Prop}
variable {p : Program} {e : Env} {s : State} {m : MethodId} {args : Array Value} {below : List Frame} {meth : Method} {c : Code} {ad ad0 : Nat → Nat} {n0 : Nat} {H : Heap} {locs : List Loc} {ls : Array Slot}
theorem zw_after {a : Array Value} {st0 : List Value} (C : zw_C D tc A y p s m args meth c ad) (hS : va_S A s.heap H locs) (hL : zw_L ls y.2.2.1 ad L) (hn : n0 ≤ S.1.length ∧ zw_wf S) (ha : ∀ k, k < n0 ∨ 100000 ≤ k → ad k = ad0 k) (hm : mc = 0 → ad = ad0)
    (hwf : mc' = 0 ∨ (zw_wl S.1.length L = true ∧ st.all (zw_wv S.1.length) = true)) (hk : k + mc' ≤ mc)
    (hr : va_Run p l e (zw_rm (d + 1) mc ms) s m args below meth c H locs k n mc' ms' (F0 m pc ls st0) (st.map (zw_v ad)) (zw_Q D tc A ad S.1.length mc' Q' a) A)
    (kk : ∀ (r : Option Value) (S' : zw_S), Q' r S' → zW l D tc A y (d + 1) mc ms (k + mc') (n + ms') (pc + 3) L (r.toList ++ st) S' Q) :
    W p l e (zw_rm (d + 1) mc ms) s m args below meth c H locs k n (MQ below (zw_Q D tc A ad0 n0 mc Q) args s mc ms A) (F0 m pc ls st0) := by
  refine zw_goes hr hS fun r S' ad' H1 locs1 hq hw ha' hm' hP1 hD1 hS1 => ?_
  have e1 : zw_L ls y.2.2.1 ad' L := by
    rcases hwf with h | ⟨h, -⟩
    · rw [hm' h]; exact hL
    · exact ⟨by rw [zw_lv_re ha' L 0 h]; exact hL.1, hL.2⟩
  have e2 : st.map (zw_v ad') = st.map (zw_v ad) := by
    rcases hwf with h | ⟨-, h⟩
    · rw [hm' h]
    · exact zw_map_re ha' st h
  have h := kk r S' hq p e s m args below meth c ad' ad0 n0 H1 locs1 ls (C.re (fun j hj => ha' j (Or.inr hj))) hP1 hD1 hS1 e1 ⟨Nat.le_trans hn.1 hw.1, hw.2⟩ (fun j hj => (ha' j (hj.imp (fun z => Nat.lt_of_lt_of_le z hn.1) id)).trans (ha j hj)) (fun z => (hm' (by omega)).trans (hm z))
  rw [List.map_append, e2] at h
  have e3 : (r.map (zw_v ad')).toList = r.toList.map (zw_v ad') := by cases r <;> rfl
  rw [e3]
  exact h
theorem zw_room (h : y'.2.2.1 ≤ 41) : (zw_rm d mc' ms').frames + 1 ≤ (zw_rm (d + 1) mc ms).frames ∧ 8 + (y'.2.2.1 + 11) + (zw_rm d mc' ms').locals ≤ (zw_rm (d + 1) mc ms).locals := by
  unfold zw_rm
  dsimp only
  exact ⟨Nat.le_refl _, by omega⟩
theorem zw_sum8 (ls : Array Slot) (st0 : List Value) (hst : (st.map fun v => v.category).sum ≤ 8) : 2 * (F0 m pc ls st0).monitorRoom + ((st.map (zw_v ad)).map fun v => v.category).sum ≤ 8 := by
  rw [zw_sum]
  show 2 * 0 + _ ≤ 8
  omega
theorem zx_callV {As : List Value} {b idx ci : Nat} (hd : decode y.2.1 pc = .ok (.invokevirtual idx, 3)) (hl : Cond.methodLink y.1.cls idx y'.1 ∈ zw_Tb) (hok : zw_okV y' As.length) (hsh : S.1[b]? = some (0, ci)) (hci : ci < 9) (hcls : y'.1.cls = zw_R ci)
    (hen : (zw_en (.ref b :: As)).length ≤ y'.2.2.1) (hst : (st.map fun v => v.category).sum ≤ 8) (hk : k + mc' ≤ mc) (hks : n + ms' ≤ ms) (hwf : mc' = 0 ∨ (zw_wl S.1.length L = true ∧ st.all (zw_wv S.1.length) = true))
    (hz : zCall l D tc A y' d mc' ms' (.ref b :: As) S Q') (kk : ∀ (r : Option Value) (S' : zw_S), Q' r S' → zW l D tc A y (d + 1) mc ms (k + mc') (n + ms') (pc + 3) L (r.toList ++ st) S' Q) : zW l D tc A y (d + 1) mc ms k n pc L (As.reverse ++ .ref b :: st) S Q := by
  intro p e s m args below meth c ad ad0 n0 H locs ls C hP hD hS hL hn ha hm
  have hgo : GoodIn zw_Tb (wsV y.1.cls idx y'.1.cls y'.1 (zw_wsy y')) := fun w hw => by
    rcases List.mem_append.mp hw with h | h
    · simp only [List.mem_cons, List.not_mem_nil, or_false] at h
      rcases h with h | h | h | h <;> subst h
      · exact zw_g1 hl
      · exact zw_g1 hok.2.1
      · exact zw_g1 hok.2.2
      · exact zw_g1 hok.1.2.2.1
    · exact zw_gY hok.1 w h
  have hr : va_Run p l e (zw_rm (d + 1) mc ms) s m args below meth c H locs k n mc' ms' (F0 m pc ls ((As.reverse ++ .ref b :: st).map (zw_v ad))) (st.map (zw_v ad)) (zw_Q D tc A ad S.1.length mc' Q' (Value.ref (ad b) :: As.map (zw_v ad)).toArray) A := va_runV (As := As.map (zw_v ad)) (b := ad b) (rest := st.map (zw_v ad)) (g := F0 m pc ls ((As.reverse ++ .ref b :: st).map (zw_v ad))) (cells := k) (slots := n) ⟨C.1, C.2.1, C.2.2.2.1, C.2.2.2.2.1, C.2.2.2.2.2.1⟩ (zw_met hok.1.1 hen hz ad) (cwV (R := zw_rm (d + 1) mc ms) As.length C.2.2.2.2.2.1 hgo rfl rfl rfl ⟨rfl, hok.1.2.2.2.1⟩ (zw_room hok.1.2.2.2.2))
    ⟨(zw_pre C hP hD hS hn.2).1, by rw [hcls]; exact va_recv C.2.2.2.2.2.2.1 hP (zw_cl_at hci) (zw_get hsh), (zw_pre C hP hD hS hn.2).2⟩ rfl (by rw [List.length_map]) hL.1.1 (by simp [zw_v]) (zw_sum8 ls _ hst) hd ⟨hk, hks⟩
  exact zw_after C hS hL hn ha hm hwf hk hr kk
theorem zx_callS {As : List Value} {idx : Nat} (hd : decode y.2.1 pc = .ok (.invokestatic idx, 3)) (hl : Cond.methodLink y.1.cls idx y'.1 ∈ zw_Tb) (hok : zw_okS y' As.length)
    (hen : (zw_en As).length ≤ y'.2.2.1) (hst : (st.map fun v => v.category).sum ≤ 8) (hk : k + mc' ≤ mc) (hks : n + ms' ≤ ms) (hwf : mc' = 0 ∨ (zw_wl S.1.length L = true ∧ st.all (zw_wv S.1.length) = true))
    (hz : zCall l D tc A y' d mc' ms' As S Q') (kk : ∀ (r : Option Value) (S' : zw_S), Q' r S' → zW l D tc A y (d + 1) mc ms (k + mc') (n + ms') (pc + 3) L (r.toList ++ st) S' Q) : zW l D tc A y (d + 1) mc ms k n pc L (As.reverse ++ st) S Q := by
  intro p e s m args below meth c ad ad0 n0 H locs ls C hP hD hS hL hn ha hm
  have hgo : GoodIn zw_Tb (va_wsS y.1.cls idx y'.1 (zw_wsy y')) := fun w hw => by
    rcases List.mem_append.mp hw with h | h
    · simp only [List.mem_cons, List.not_mem_nil, or_false] at h
      rcases h with h | h | h <;> subst h
      · exact zw_g1 hl
      · exact zw_g1 hok.2
      · exact zw_g1 hok.1.2.2.1
    · exact zw_gY hok.1 w h
  have hr : va_Run p l e (zw_rm (d + 1) mc ms) s m args below meth c H locs k n mc' ms' (F0 m pc ls ((As.reverse ++ st).map (zw_v ad))) (st.map (zw_v ad)) (zw_Q D tc A ad S.1.length mc' Q' (As.map (zw_v ad)).toArray) A := va_runS (As := As.map (zw_v ad)) (rest := st.map (zw_v ad)) (g := F0 m pc ls ((As.reverse ++ st).map (zw_v ad))) (cells := k) (slots := n) ⟨C.1, C.2.1, C.2.2.2.1, C.2.2.2.2.1, C.2.2.2.2.2.1⟩ (zw_met hok.1.1 hen hz ad) (va_cwS (R := zw_rm (d + 1) mc ms) As.length C.2.2.2.2.2.1 hgo rfl rfl rfl hok.1.2.2.2.1 (zw_room hok.1.2.2.2.2))
    (zw_pre C hP hD hS hn.2) rfl (by rw [List.length_map]) hL.1.1 (by simp) (zw_sum8 ls _ hst) hd ⟨hk, hks⟩
  exact zw_after C hS hL hn ha hm hwf hk hr kk
theorem zx_callI {As : List Value} {b idx : Nat} (hd : decode y.2.1 pc = .ok (.invokespecial idx, 3)) (hl : Cond.methodLink y.1.cls idx y'.1 ∈ zw_Tb) (hok : zw_okI y' As.length)
    (hen : (zw_en (.ref b :: As)).length ≤ y'.2.2.1) (hst : (st.map fun v => v.category).sum ≤ 8) (hk : k + mc' ≤ mc) (hks : n + ms' ≤ ms) (hwf : mc' = 0 ∨ (zw_wl S.1.length L = true ∧ st.all (zw_wv S.1.length) = true))
    (hz : zCall l D tc A y' d mc' ms' (.ref b :: As) S Q') (kk : ∀ (r : Option Value) (S' : zw_S), Q' r S' → zW l D tc A y (d + 1) mc ms (k + mc') (n + ms') (pc + 3) L (r.toList ++ st) S' Q) : zW l D tc A y (d + 1) mc ms k n pc L (As.reverse ++ .ref b :: st) S Q := by
  intro p e s m args below meth c ad ad0 n0 H locs ls C hP hD hS hL hn ha hm
  have hw : ∀ w ∈ zw_Tb, w.before args s = true := C.2.2.2.2.2.1
  have hws : zw_wsy y' = Cond.code y'.1 y'.2.1 y'.2.2.1 none :: zw_Tb := by unfold zw_wsy; rw [hok.2.2.2]
  have hr : va_Run p l e (zw_rm (d + 1) mc ms) s m args below meth c H locs k n mc' ms' (F0 m pc ls ((As.reverse ++ .ref b :: st).map (zw_v ad))) (st.map (zw_v ad)) (zw_Q D tc A ad S.1.length mc' Q' (Value.ref (ad b) :: As.map (zw_v ad)).toArray) A := va_runI (As := As.map (zw_v ad)) (b := ad b) (rest := st.map (zw_v ad)) (g := F0 m pc ls ((As.reverse ++ .ref b :: st).map (zw_v ad))) (cells := k) (slots := n) ⟨C.1, C.2.1, C.2.2.2.1, C.2.2.2.2.1, C.2.2.2.2.2.1⟩ (zw_met hok.1.1 hen hz ad) (cwI (R := zw_rm (d + 1) mc ms) As.length C.2.2.2.2.2.1 (zw_gY hok.1) hws rfl rfl (hw _ hok.1.2.2.1) (hw _ hl) (hw _ hok.2.1) hok.2.2.1 hok.1.2.2.2.1 (zw_room hok.1.2.2.2.2))
    (zw_pre (vs := .ref b :: As) C hP hD hS hn.2) rfl (by rw [List.length_map]) hL.1.1 (by simp [zw_v]) (zw_sum8 ls _ hst) hd ⟨hk, hks⟩
  exact zw_after C hS hL hn ha hm hwf hk hr kk
theorem zx_callIN {As : List Value} {b idx : Nat} (hd : decode y.2.1 pc = .ok (.invokespecial idx, 3)) (hl : (y.1.cls, (idx, y'.1)) ∈ zw_nest) (hok : zw_okI y' As.length)
    (hen : (zw_en (.ref b :: As)).length ≤ y'.2.2.1) (hst : (st.map fun v => v.category).sum ≤ 8) (hk : k + mc' ≤ mc) (hks : n + ms' ≤ ms) (hwf : mc' = 0 ∨ (zw_wl S.1.length L = true ∧ st.all (zw_wv S.1.length) = true))
    (hz : zCall l D tc A y' d mc' ms' (.ref b :: As) S Q') (kk : ∀ (r : Option Value) (S' : zw_S), Q' r S' → zW l D tc A y (d + 1) mc ms (k + mc') (n + ms') (pc + 3) L (r.toList ++ st) S' Q) : zW l D tc A y (d + 1) mc ms k n pc L (As.reverse ++ .ref b :: st) S Q := by
  intro p e s m args below meth c ad ad0 n0 H locs ls C hP hD hS hL hn ha hm
  have hw : ∀ w ∈ zw_Tb, w.before args s = true := C.2.2.2.2.2.1
  have hws : zw_wsy y' = Cond.code y'.1 y'.2.1 y'.2.2.1 none :: zw_Tb := by unfold zw_wsy; rw [hok.2.2.2]
  have hr : va_Run p l e (zw_rm (d + 1) mc ms) s m args below meth c H locs k n mc' ms' (F0 m pc ls ((As.reverse ++ .ref b :: st).map (zw_v ad))) (st.map (zw_v ad)) (zw_Q D tc A ad S.1.length mc' Q' (Value.ref (ad b) :: As.map (zw_v ad)).toArray) A := va_runIN (As := As.map (zw_v ad)) (b := ad b) (rest := st.map (zw_v ad)) (g := F0 m pc ls ((As.reverse ++ .ref b :: st).map (zw_v ad))) (cells := k) (slots := n) ⟨C.1, C.2.1, C.2.2.2.1, C.2.2.2.2.1, C.2.2.2.2.2.1⟩ (zw_met hok.1.1 hen hz ad) ⟨va_cnB (R := zw_rm (d + 1) mc ms) (args := args) As.length C.2.2.2.2.2.1 (zw_gY hok.1) hws rfl rfl (C.2.2.2.2.2.2.2.1.2.2.2.2.2.2 _ hl) (hw _ hok.1.2.2.1) hok.1.2.2.2.1 (zw_room hok.1.2.2.2.2), hok.2.2.1, hw _ hok.2.1⟩
    (zw_pre (vs := .ref b :: As) C hP hD hS hn.2) rfl (by rw [List.length_map]) hL.1.1 (by simp [zw_v]) (zw_sum8 ls _ hst) hd ⟨hk, hks⟩
  exact zw_after C hS hL hn ha hm hwf hk hr kk
theorem zx_callSN {As : List Value} {idx : Nat} (hd : decode y.2.1 pc = .ok (.invokestatic idx, 3)) (hl : (y.1.cls, (idx, y'.1)) ∈ zw_nest) (hok : zw_okS y' As.length)
    (hen : (zw_en As).length ≤ y'.2.2.1) (hst : (st.map fun v => v.category).sum ≤ 8) (hk : k + mc' ≤ mc) (hks : n + ms' ≤ ms) (hwf : mc' = 0 ∨ (zw_wl S.1.length L = true ∧ st.all (zw_wv S.1.length) = true))
    (hz : zCall l D tc A y' d mc' ms' As S Q') (kk : ∀ (r : Option Value) (S' : zw_S), Q' r S' → zW l D tc A y (d + 1) mc ms (k + mc') (n + ms') (pc + 3) L (r.toList ++ st) S' Q) : zW l D tc A y (d + 1) mc ms k n pc L (As.reverse ++ st) S Q := by
  intro p e s m args below meth c ad ad0 n0 H locs ls C hP hD hS hL hn ha hm
  have hw : ∀ w ∈ zw_Tb, w.before args s = true := C.2.2.2.2.2.1
  have hr : va_Run p l e (zw_rm (d + 1) mc ms) s m args below meth c H locs k n mc' ms' (F0 m pc ls ((As.reverse ++ st).map (zw_v ad))) (st.map (zw_v ad)) (zw_Q D tc A ad S.1.length mc' Q' (As.map (zw_v ad)).toArray) A := va_runSN (As := As.map (zw_v ad)) (rest := st.map (zw_v ad)) (g := F0 m pc ls ((As.reverse ++ st).map (zw_v ad))) (cells := k) (slots := n) ⟨C.1, C.2.1, C.2.2.2.1, C.2.2.2.2.1, C.2.2.2.2.2.1⟩ (zw_met hok.1.1 hen hz ad) ⟨va_cnB (R := zw_rm (d + 1) mc ms) (args := args) As.length C.2.2.2.2.2.1 (zw_gY hok.1) rfl rfl rfl (C.2.2.2.2.2.2.2.1.2.2.2.2.2.2 _ hl) (hw _ hok.1.2.2.1) hok.1.2.2.2.1 (zw_room hok.1.2.2.2.2), hw _ hok.2, trivial⟩
    (zw_pre C hP hD hS hn.2) rfl (by rw [List.length_map]) hL.1.1 (by simp) (zw_sum8 ls _ hst) hd ⟨hk, hks⟩
  exact zw_after C hS hL hn ha hm hwf hk hr kk
/-- a method of a text -/
theorem zx_callT {As : List Value} {i idx : Nat} (hd : decode y.2.1 pc = .ok (.invokevirtual idx, 3)) (hl : Cond.methodLink y.1.cls idx y'.1 ∈ zw_Tb) (hok : zw_okV y' As.length) (hi : i < 8) (hcls : y'.1.cls = RJ0)
    (hen : (zw_en (.ref (100000 + i) :: As)).length ≤ y'.2.2.1) (hst : (st.map fun v => v.category).sum ≤ 8) (hk : k + mc' ≤ mc) (hks : n + ms' ≤ ms) (hwf : mc' = 0 ∨ (zw_wl S.1.length L = true ∧ st.all (zw_wv S.1.length) = true))
    (hz : zCall l D tc A y' d mc' ms' (.ref (100000 + i) :: As) S Q') (kk : ∀ (r : Option Value) (S' : zw_S), Q' r S' → zW l D tc A y (d + 1) mc ms (k + mc') (n + ms') (pc + 3) L (r.toList ++ st) S' Q) : zW l D tc A y (d + 1) mc ms k n pc L (As.reverse ++ .ref (100000 + i) :: st) S Q := by
  intro p e s m args below meth c ad ad0 n0 H locs ls C hP hD hS hL hn ha hm
  have hgo : GoodIn zw_Tb (wsV y.1.cls idx y'.1.cls y'.1 (zw_wsy y')) := fun w hw => by
    rcases List.mem_append.mp hw with h | h
    · simp only [List.mem_cons, List.not_mem_nil, or_false] at h
      rcases h with h | h | h | h <;> subst h
      · exact zw_g1 hl
      · exact zw_g1 hok.2.1
      · exact zw_g1 hok.2.2
      · exact zw_g1 hok.1.2.2.1
    · exact zw_gY hok.1 w h
  have hr : va_Run p l e (zw_rm (d + 1) mc ms) s m args below meth c H locs k n mc' ms' (F0 m pc ls ((As.reverse ++ .ref (100000 + i) :: st).map (zw_v ad))) (st.map (zw_v ad)) (zw_Q D tc A ad S.1.length mc' Q' (Value.ref (ad (100000 + i)) :: As.map (zw_v ad)).toArray) A := va_runV (As := As.map (zw_v ad)) (b := ad (100000 + i)) (rest := st.map (zw_v ad)) (g := F0 m pc ls ((As.reverse ++ .ref (100000 + i) :: st).map (zw_v ad))) (cells := k) (slots := n) ⟨C.1, C.2.1, C.2.2.2.1, C.2.2.2.2.1, C.2.2.2.2.2.1⟩ (zw_met hok.1.1 hen hz ad) (cwV (R := zw_rm (d + 1) mc ms) As.length C.2.2.2.2.2.1 hgo rfl rfl rfl ⟨rfl, hok.1.2.2.2.1⟩ (zw_room hok.1.2.2.2.2))
    ⟨(zw_pre C hP hD hS hn.2).1, by rw [hcls]; exact vk_recv (adK := fun i => ad (100000 + i)) (i := i) C.2.2.2.2.2.2.2.1.2.2.2.2.1 hi hS, (zw_pre C hP hD hS hn.2).2⟩ rfl (by rw [List.length_map]) hL.1.1 (by simp [zw_v]) (zw_sum8 ls _ hst) hd ⟨hk, hks⟩
  exact zw_after C hS hL hn ha hm hwf hk hr kk
end ZA
def zQi (P : Int32 → zw_S → Prop) : Option Value → zw_S → Prop := fun r S => ∃ x, r = some (.int x) ∧ P x S
def zQl (P : Int64 → zw_S → Prop) : Option Value → zw_S → Prop := fun r S => ∃ x, r = some (.long x) ∧ P x S
def zQr (P : Nat → zw_S → Prop) : Option Value → zw_S → Prop := fun r S => ∃ x, r = some (.ref x) ∧ P x S
def zQv (P : zw_S → Prop) : Option Value → zw_S → Prop := fun r S => r = none ∧ P S
section ZB
variable {l : Launch} {D : va_G} {tc : Nat → ClassId} {A : Nat → Prop} {y y' : zw_M} {d mc ms k n mc' ms' pc q : Nat} {L : List (Option Value)} {st : List Value} {S : zw_S} {Q Q' : Option Value → zw_S → Prop}
theorem zx_callV0i {b idx ci : Nat} {P : Int32 → zw_S → Prop} (hd : decode y.2.1 pc = .ok (.invokevirtual idx, 3)) (hl : Cond.methodLink y.1.cls idx y'.1 ∈ zw_Tb) (hok : zw_okV y' 0) (hsh : S.1[b]? = some (0, ci)) (hci : ci < 9) (hcls : y'.1.cls = zw_R ci) (hen : (zw_en [.ref b]).length ≤ y'.2.2.1) (hst : (st.map fun v => v.category).sum ≤ 8) (hk : k ≤ mc) (hks : n ≤ ms) (hq : pc + 3 = q) (hz : zCall l D tc A y' d 0 0 [.ref b] S (zQi P)) (kk : ∀ x S', P x S' → zW l D tc A y (d + 1) mc ms k n q L (.int x :: st) S' Q) : zW l D tc A y (d + 1) mc ms k n pc L (.ref b :: st) S Q := by
  subst hq
  exact zx_callV (As := []) hd hl hok hsh hci hcls hen hst hk hks (Or.inl rfl) hz (fun r S' ⟨x, e, h⟩ => by subst e; exact kk x S' h)
theorem zx_callV0l {b idx ci : Nat} {P : Int64 → zw_S → Prop} (hd : decode y.2.1 pc = .ok (.invokevirtual idx, 3)) (hl : Cond.methodLink y.1.cls idx y'.1 ∈ zw_Tb) (hok : zw_okV y' 0) (hsh : S.1[b]? = some (0, ci)) (hci : ci < 9) (hcls : y'.1.cls = zw_R ci) (hen : (zw_en [.ref b]).length ≤ y'.2.2.1) (hst : (st.map fun v => v.category).sum ≤ 8) (hk : k ≤ mc) (hks : n ≤ ms) (hq : pc + 3 = q) (hz : zCall l D tc A y' d 0 0 [.ref b] S (zQl P)) (kk : ∀ x S', P x S' → zW l D tc A y (d + 1) mc ms k n q L (.long x :: st) S' Q) : zW l D tc A y (d + 1) mc ms k n pc L (.ref b :: st) S Q := by
  subst hq
  exact zx_callV (As := []) hd hl hok hsh hci hcls hen hst hk hks (Or.inl rfl) hz (fun r S' ⟨x, e, h⟩ => by subst e; exact kk x S' h)
theorem zx_callV0r {b idx ci : Nat} {P : Nat → zw_S → Prop} (hd : decode y.2.1 pc = .ok (.invokevirtual idx, 3)) (hl : Cond.methodLink y.1.cls idx y'.1 ∈ zw_Tb) (hok : zw_okV y' 0) (hsh : S.1[b]? = some (0, ci)) (hci : ci < 9) (hcls : y'.1.cls = zw_R ci) (hen : (zw_en [.ref b]).length ≤ y'.2.2.1) (hst : (st.map fun v => v.category).sum ≤ 8) (hk : k ≤ mc) (hks : n ≤ ms) (hq : pc + 3 = q) (hz : zCall l D tc A y' d 0 0 [.ref b] S (zQr P)) (kk : ∀ x S', P x S' → zW l D tc A y (d + 1) mc ms k n q L (.ref x :: st) S' Q) : zW l D tc A y (d + 1) mc ms k n pc L (.ref b :: st) S Q := by
  subst hq
  exact zx_callV (As := []) hd hl hok hsh hci hcls hen hst hk hks (Or.inl rfl) hz (fun r S' ⟨x, e, h⟩ => by subst e; exact kk x S' h)
theorem zx_callV0v {b idx ci : Nat} {P : zw_S → Prop} (hd : decode y.2.1 pc = .ok (.invokevirtual idx, 3)) (hl : Cond.methodLink y.1.cls idx y'.1 ∈ zw_Tb) (hok : zw_okV y' 0) (hsh : S.1[b]? = some (0, ci)) (hci : ci < 9) (hcls : y'.1.cls = zw_R ci) (hen : (zw_en [.ref b]).length ≤ y'.2.2.1) (hst : (st.map fun v => v.category).sum ≤ 8) (hk : k ≤ mc) (hks : n ≤ ms) (hq : pc + 3 = q) (hz : zCall l D tc A y' d 0 0 [.ref b] S (zQv P)) (kk : ∀ S', P S' → zW l D tc A y (d + 1) mc ms k n q L st S' Q) : zW l D tc A y (d + 1) mc ms k n pc L (.ref b :: st) S Q := by
  subst hq
  exact zx_callV (As := []) hd hl hok hsh hci hcls hen hst hk hks (Or.inl rfl) hz (fun r S' ⟨e, h⟩ => by subst e; exact kk S' h)
theorem zx_callV1i {a0 : Value} {b idx ci : Nat} {P : Int32 → zw_S → Prop} (hd : decode y.2.1 pc = .ok (.invokevirtual idx, 3)) (hl : Cond.methodLink y.1.cls idx y'.1 ∈ zw_Tb) (hok : zw_okV y' 1) (hsh : S.1[b]? = some (0, ci)) (hci : ci < 9) (hcls : y'.1.cls = zw_R ci) (hen : (zw_en [.ref b, a0]).length ≤ y'.2.2.1) (hst : (st.map fun v => v.category).sum ≤ 8) (hk : k ≤ mc) (hks : n ≤ ms) (hq : pc + 3 = q) (hz : zCall l D tc A y' d 0 0 [.ref b, a0] S (zQi P)) (kk : ∀ x S', P x S' → zW l D tc A y (d + 1) mc ms k n q L (.int x :: st) S' Q) : zW l D tc A y (d + 1) mc ms k n pc L (a0 :: .ref b :: st) S Q := by
  subst hq
  exact zx_callV (As := [a0]) hd hl hok hsh hci hcls hen hst hk hks (Or.inl rfl) hz (fun r S' ⟨x, e, h⟩ => by subst e; exact kk x S' h)
theorem zx_callV1l {a0 : Value} {b idx ci : Nat} {P : Int64 → zw_S → Prop} (hd : decode y.2.1 pc = .ok (.invokevirtual idx, 3)) (hl : Cond.methodLink y.1.cls idx y'.1 ∈ zw_Tb) (hok : zw_okV y' 1) (hsh : S.1[b]? = some (0, ci)) (hci : ci < 9) (hcls : y'.1.cls = zw_R ci) (hen : (zw_en [.ref b, a0]).length ≤ y'.2.2.1) (hst : (st.map fun v => v.category).sum ≤ 8) (hk : k ≤ mc) (hks : n ≤ ms) (hq : pc + 3 = q) (hz : zCall l D tc A y' d 0 0 [.ref b, a0] S (zQl P)) (kk : ∀ x S', P x S' → zW l D tc A y (d + 1) mc ms k n q L (.long x :: st) S' Q) : zW l D tc A y (d + 1) mc ms k n pc L (a0 :: .ref b :: st) S Q := by
  subst hq
  exact zx_callV (As := [a0]) hd hl hok hsh hci hcls hen hst hk hks (Or.inl rfl) hz (fun r S' ⟨x, e, h⟩ => by subst e; exact kk x S' h)
theorem zx_callV1v {a0 : Value} {b idx ci : Nat} {P : zw_S → Prop} (hd : decode y.2.1 pc = .ok (.invokevirtual idx, 3)) (hl : Cond.methodLink y.1.cls idx y'.1 ∈ zw_Tb) (hok : zw_okV y' 1) (hsh : S.1[b]? = some (0, ci)) (hci : ci < 9) (hcls : y'.1.cls = zw_R ci) (hen : (zw_en [.ref b, a0]).length ≤ y'.2.2.1) (hst : (st.map fun v => v.category).sum ≤ 8) (hk : k ≤ mc) (hks : n ≤ ms) (hq : pc + 3 = q) (hz : zCall l D tc A y' d 0 0 [.ref b, a0] S (zQv P)) (kk : ∀ S', P S' → zW l D tc A y (d + 1) mc ms k n q L st S' Q) : zW l D tc A y (d + 1) mc ms k n pc L (a0 :: .ref b :: st) S Q := by
  subst hq
  exact zx_callV (As := [a0]) hd hl hok hsh hci hcls hen hst hk hks (Or.inl rfl) hz (fun r S' ⟨e, h⟩ => by subst e; exact kk S' h)
theorem zx_callV2i {a0 a1 : Value} {b idx ci : Nat} {P : Int32 → zw_S → Prop} (hd : decode y.2.1 pc = .ok (.invokevirtual idx, 3)) (hl : Cond.methodLink y.1.cls idx y'.1 ∈ zw_Tb) (hok : zw_okV y' 2) (hsh : S.1[b]? = some (0, ci)) (hci : ci < 9) (hcls : y'.1.cls = zw_R ci) (hen : (zw_en [.ref b, a0, a1]).length ≤ y'.2.2.1) (hst : (st.map fun v => v.category).sum ≤ 8) (hk : k ≤ mc) (hks : n ≤ ms) (hq : pc + 3 = q) (hz : zCall l D tc A y' d 0 0 [.ref b, a0, a1] S (zQi P)) (kk : ∀ x S', P x S' → zW l D tc A y (d + 1) mc ms k n q L (.int x :: st) S' Q) : zW l D tc A y (d + 1) mc ms k n pc L (a1 :: a0 :: .ref b :: st) S Q := by
  subst hq
  exact zx_callV (As := [a0, a1]) hd hl hok hsh hci hcls hen hst hk hks (Or.inl rfl) hz (fun r S' ⟨x, e, h⟩ => by subst e; exact kk x S' h)
theorem zx_callV2l {a0 a1 : Value} {b idx ci : Nat} {P : Int64 → zw_S → Prop} (hd : decode y.2.1 pc = .ok (.invokevirtual idx, 3)) (hl : Cond.methodLink y.1.cls idx y'.1 ∈ zw_Tb) (hok : zw_okV y' 2) (hsh : S.1[b]? = some (0, ci)) (hci : ci < 9) (hcls : y'.1.cls = zw_R ci) (hen : (zw_en [.ref b, a0, a1]).length ≤ y'.2.2.1) (hst : (st.map fun v => v.category).sum ≤ 8) (hk : k ≤ mc) (hks : n ≤ ms) (hq : pc + 3 = q) (hz : zCall l D tc A y' d 0 0 [.ref b, a0, a1] S (zQl P)) (kk : ∀ x S', P x S' → zW l D tc A y (d + 1) mc ms k n q L (.long x :: st) S' Q) : zW l D tc A y (d + 1) mc ms k n pc L (a1 :: a0 :: .ref b :: st) S Q := by
  subst hq
  exact zx_callV (As := [a0, a1]) hd hl hok hsh hci hcls hen hst hk hks (Or.inl rfl) hz (fun r S' ⟨x, e, h⟩ => by subst e; exact kk x S' h)
theorem zx_callV2v {a0 a1 : Value} {b idx ci : Nat} {P : zw_S → Prop} (hd : decode y.2.1 pc = .ok (.invokevirtual idx, 3)) (hl : Cond.methodLink y.1.cls idx y'.1 ∈ zw_Tb) (hok : zw_okV y' 2) (hsh : S.1[b]? = some (0, ci)) (hci : ci < 9) (hcls : y'.1.cls = zw_R ci) (hen : (zw_en [.ref b, a0, a1]).length ≤ y'.2.2.1) (hst : (st.map fun v => v.category).sum ≤ 8) (hk : k ≤ mc) (hks : n ≤ ms) (hq : pc + 3 = q) (hz : zCall l D tc A y' d 0 0 [.ref b, a0, a1] S (zQv P)) (kk : ∀ S', P S' → zW l D tc A y (d + 1) mc ms k n q L st S' Q) : zW l D tc A y (d + 1) mc ms k n pc L (a1 :: a0 :: .ref b :: st) S Q := by
  subst hq
  exact zx_callV (As := [a0, a1]) hd hl hok hsh hci hcls hen hst hk hks (Or.inl rfl) hz (fun r S' ⟨e, h⟩ => by subst e; exact kk S' h)
theorem zx_callV3i {a0 a1 a2 : Value} {b idx ci : Nat} {P : Int32 → zw_S → Prop} (hd : decode y.2.1 pc = .ok (.invokevirtual idx, 3)) (hl : Cond.methodLink y.1.cls idx y'.1 ∈ zw_Tb) (hok : zw_okV y' 3) (hsh : S.1[b]? = some (0, ci)) (hci : ci < 9) (hcls : y'.1.cls = zw_R ci) (hen : (zw_en [.ref b, a0, a1, a2]).length ≤ y'.2.2.1) (hst : (st.map fun v => v.category).sum ≤ 8) (hk : k ≤ mc) (hks : n ≤ ms) (hq : pc + 3 = q) (hz : zCall l D tc A y' d 0 0 [.ref b, a0, a1, a2] S (zQi P)) (kk : ∀ x S', P x S' → zW l D tc A y (d + 1) mc ms k n q L (.int x :: st) S' Q) : zW l D tc A y (d + 1) mc ms k n pc L (a2 :: a1 :: a0 :: .ref b :: st) S Q := by
  subst hq
  exact zx_callV (As := [a0, a1, a2]) hd hl hok hsh hci hcls hen hst hk hks (Or.inl rfl) hz (fun r S' ⟨x, e, h⟩ => by subst e; exact kk x S' h)
theorem zx_callV3l {a0 a1 a2 : Value} {b idx ci : Nat} {P : Int64 → zw_S → Prop} (hd : decode y.2.1 pc = .ok (.invokevirtual idx, 3)) (hl : Cond.methodLink y.1.cls idx y'.1 ∈ zw_Tb) (hok : zw_okV y' 3) (hsh : S.1[b]? = some (0, ci)) (hci : ci < 9) (hcls : y'.1.cls = zw_R ci) (hen : (zw_en [.ref b, a0, a1, a2]).length ≤ y'.2.2.1) (hst : (st.map fun v => v.category).sum ≤ 8) (hk : k ≤ mc) (hks : n ≤ ms) (hq : pc + 3 = q) (hz : zCall l D tc A y' d 0 0 [.ref b, a0, a1, a2] S (zQl P)) (kk : ∀ x S', P x S' → zW l D tc A y (d + 1) mc ms k n q L (.long x :: st) S' Q) : zW l D tc A y (d + 1) mc ms k n pc L (a2 :: a1 :: a0 :: .ref b :: st) S Q := by
  subst hq
  exact zx_callV (As := [a0, a1, a2]) hd hl hok hsh hci hcls hen hst hk hks (Or.inl rfl) hz (fun r S' ⟨x, e, h⟩ => by subst e; exact kk x S' h)
theorem zx_callV3v {a0 a1 a2 : Value} {b idx ci : Nat} {P : zw_S → Prop} (hd : decode y.2.1 pc = .ok (.invokevirtual idx, 3)) (hl : Cond.methodLink y.1.cls idx y'.1 ∈ zw_Tb) (hok : zw_okV y' 3) (hsh : S.1[b]? = some (0, ci)) (hci : ci < 9) (hcls : y'.1.cls = zw_R ci) (hen : (zw_en [.ref b, a0, a1, a2]).length ≤ y'.2.2.1) (hst : (st.map fun v => v.category).sum ≤ 8) (hk : k ≤ mc) (hks : n ≤ ms) (hq : pc + 3 = q) (hz : zCall l D tc A y' d 0 0 [.ref b, a0, a1, a2] S (zQv P)) (kk : ∀ S', P S' → zW l D tc A y (d + 1) mc ms k n q L st S' Q) : zW l D tc A y (d + 1) mc ms k n pc L (a2 :: a1 :: a0 :: .ref b :: st) S Q := by
  subst hq
  exact zx_callV (As := [a0, a1, a2]) hd hl hok hsh hci hcls hen hst hk hks (Or.inl rfl) hz (fun r S' ⟨e, h⟩ => by subst e; exact kk S' h)
theorem zx_callV4i {a0 a1 a2 a3 : Value} {b idx ci : Nat} {P : Int32 → zw_S → Prop} (hd : decode y.2.1 pc = .ok (.invokevirtual idx, 3)) (hl : Cond.methodLink y.1.cls idx y'.1 ∈ zw_Tb) (hok : zw_okV y' 4) (hsh : S.1[b]? = some (0, ci)) (hci : ci < 9) (hcls : y'.1.cls = zw_R ci) (hen : (zw_en [.ref b, a0, a1, a2, a3]).length ≤ y'.2.2.1) (hst : (st.map fun v => v.category).sum ≤ 8) (hk : k ≤ mc) (hks : n ≤ ms) (hq : pc + 3 = q) (hz : zCall l D tc A y' d 0 0 [.ref b, a0, a1, a2, a3] S (zQi P)) (kk : ∀ x S', P x S' → zW l D tc A y (d + 1) mc ms k n q L (.int x :: st) S' Q) : zW l D tc A y (d + 1) mc ms k n pc L (a3 :: a2 :: a1 :: a0 :: .ref b :: st) S Q := by
  subst hq
  exact zx_callV (As := [a0, a1, a2, a3]) hd hl hok hsh hci hcls hen hst hk hks (Or.inl rfl) hz (fun r S' ⟨x, e, h⟩ => by subst e; exact kk x S' h)
theorem zx_callV4l {a0 a1 a2 a3 : Value} {b idx ci : Nat} {P : Int64 → zw_S → Prop} (hd : decode y.2.1 pc = .ok (.invokevirtual idx, 3)) (hl : Cond.methodLink y.1.cls idx y'.1 ∈ zw_Tb) (hok : zw_okV y' 4) (hsh : S.1[b]? = some (0, ci)) (hci : ci < 9) (hcls : y'.1.cls = zw_R ci) (hen : (zw_en [.ref b, a0, a1, a2, a3]).length ≤ y'.2.2.1) (hst : (st.map fun v => v.category).sum ≤ 8) (hk : k ≤ mc) (hks : n ≤ ms) (hq : pc + 3 = q) (hz : zCall l D tc A y' d 0 0 [.ref b, a0, a1, a2, a3] S (zQl P)) (kk : ∀ x S', P x S' → zW l D tc A y (d + 1) mc ms k n q L (.long x :: st) S' Q) : zW l D tc A y (d + 1) mc ms k n pc L (a3 :: a2 :: a1 :: a0 :: .ref b :: st) S Q := by
  subst hq
  exact zx_callV (As := [a0, a1, a2, a3]) hd hl hok hsh hci hcls hen hst hk hks (Or.inl rfl) hz (fun r S' ⟨x, e, h⟩ => by subst e; exact kk x S' h)
theorem zx_callV4v {a0 a1 a2 a3 : Value} {b idx ci : Nat} {P : zw_S → Prop} (hd : decode y.2.1 pc = .ok (.invokevirtual idx, 3)) (hl : Cond.methodLink y.1.cls idx y'.1 ∈ zw_Tb) (hok : zw_okV y' 4) (hsh : S.1[b]? = some (0, ci)) (hci : ci < 9) (hcls : y'.1.cls = zw_R ci) (hen : (zw_en [.ref b, a0, a1, a2, a3]).length ≤ y'.2.2.1) (hst : (st.map fun v => v.category).sum ≤ 8) (hk : k ≤ mc) (hks : n ≤ ms) (hq : pc + 3 = q) (hz : zCall l D tc A y' d 0 0 [.ref b, a0, a1, a2, a3] S (zQv P)) (kk : ∀ S', P S' → zW l D tc A y (d + 1) mc ms k n q L st S' Q) : zW l D tc A y (d + 1) mc ms k n pc L (a3 :: a2 :: a1 :: a0 :: .ref b :: st) S Q := by
  subst hq
  exact zx_callV (As := [a0, a1, a2, a3]) hd hl hok hsh hci hcls hen hst hk hks (Or.inl rfl) hz (fun r S' ⟨e, h⟩ => by subst e; exact kk S' h)
theorem zx_callV5i {a0 a1 a2 a3 a4 : Value} {b idx ci : Nat} {P : Int32 → zw_S → Prop} (hd : decode y.2.1 pc = .ok (.invokevirtual idx, 3)) (hl : Cond.methodLink y.1.cls idx y'.1 ∈ zw_Tb) (hok : zw_okV y' 5) (hsh : S.1[b]? = some (0, ci)) (hci : ci < 9) (hcls : y'.1.cls = zw_R ci) (hen : (zw_en [.ref b, a0, a1, a2, a3, a4]).length ≤ y'.2.2.1) (hst : (st.map fun v => v.category).sum ≤ 8) (hk : k ≤ mc) (hks : n ≤ ms) (hq : pc + 3 = q) (hz : zCall l D tc A y' d 0 0 [.ref b, a0, a1, a2, a3, a4] S (zQi P)) (kk : ∀ x S', P x S' → zW l D tc A y (d + 1) mc ms k n q L (.int x :: st) S' Q) : zW l D tc A y (d + 1) mc ms k n pc L (a4 :: a3 :: a2 :: a1 :: a0 :: .ref b :: st) S Q := by
  subst hq
  exact zx_callV (As := [a0, a1, a2, a3, a4]) hd hl hok hsh hci hcls hen hst hk hks (Or.inl rfl) hz (fun r S' ⟨x, e, h⟩ => by subst e; exact kk x S' h)
theorem zx_callV5l {a0 a1 a2 a3 a4 : Value} {b idx ci : Nat} {P : Int64 → zw_S → Prop} (hd : decode y.2.1 pc = .ok (.invokevirtual idx, 3)) (hl : Cond.methodLink y.1.cls idx y'.1 ∈ zw_Tb) (hok : zw_okV y' 5) (hsh : S.1[b]? = some (0, ci)) (hci : ci < 9) (hcls : y'.1.cls = zw_R ci) (hen : (zw_en [.ref b, a0, a1, a2, a3, a4]).length ≤ y'.2.2.1) (hst : (st.map fun v => v.category).sum ≤ 8) (hk : k ≤ mc) (hks : n ≤ ms) (hq : pc + 3 = q) (hz : zCall l D tc A y' d 0 0 [.ref b, a0, a1, a2, a3, a4] S (zQl P)) (kk : ∀ x S', P x S' → zW l D tc A y (d + 1) mc ms k n q L (.long x :: st) S' Q) : zW l D tc A y (d + 1) mc ms k n pc L (a4 :: a3 :: a2 :: a1 :: a0 :: .ref b :: st) S Q := by
  subst hq
  exact zx_callV (As := [a0, a1, a2, a3, a4]) hd hl hok hsh hci hcls hen hst hk hks (Or.inl rfl) hz (fun r S' ⟨x, e, h⟩ => by subst e; exact kk x S' h)
theorem zx_callV5v {a0 a1 a2 a3 a4 : Value} {b idx ci : Nat} {P : zw_S → Prop} (hd : decode y.2.1 pc = .ok (.invokevirtual idx, 3)) (hl : Cond.methodLink y.1.cls idx y'.1 ∈ zw_Tb) (hok : zw_okV y' 5) (hsh : S.1[b]? = some (0, ci)) (hci : ci < 9) (hcls : y'.1.cls = zw_R ci) (hen : (zw_en [.ref b, a0, a1, a2, a3, a4]).length ≤ y'.2.2.1) (hst : (st.map fun v => v.category).sum ≤ 8) (hk : k ≤ mc) (hks : n ≤ ms) (hq : pc + 3 = q) (hz : zCall l D tc A y' d 0 0 [.ref b, a0, a1, a2, a3, a4] S (zQv P)) (kk : ∀ S', P S' → zW l D tc A y (d + 1) mc ms k n q L st S' Q) : zW l D tc A y (d + 1) mc ms k n pc L (a4 :: a3 :: a2 :: a1 :: a0 :: .ref b :: st) S Q := by
  subst hq
  exact zx_callV (As := [a0, a1, a2, a3, a4]) hd hl hok hsh hci hcls hen hst hk hks (Or.inl rfl) hz (fun r S' ⟨e, h⟩ => by subst e; exact kk S' h)
theorem zx_callV6i {a0 a1 a2 a3 a4 a5 : Value} {b idx ci : Nat} {P : Int32 → zw_S → Prop} (hd : decode y.2.1 pc = .ok (.invokevirtual idx, 3)) (hl : Cond.methodLink y.1.cls idx y'.1 ∈ zw_Tb) (hok : zw_okV y' 6) (hsh : S.1[b]? = some (0, ci)) (hci : ci < 9) (hcls : y'.1.cls = zw_R ci) (hen : (zw_en [.ref b, a0, a1, a2, a3, a4, a5]).length ≤ y'.2.2.1) (hst : (st.map fun v => v.category).sum ≤ 8) (hk : k ≤ mc) (hks : n ≤ ms) (hq : pc + 3 = q) (hz : zCall l D tc A y' d 0 0 [.ref b, a0, a1, a2, a3, a4, a5] S (zQi P)) (kk : ∀ x S', P x S' → zW l D tc A y (d + 1) mc ms k n q L (.int x :: st) S' Q) : zW l D tc A y (d + 1) mc ms k n pc L (a5 :: a4 :: a3 :: a2 :: a1 :: a0 :: .ref b :: st) S Q := by
  subst hq
  exact zx_callV (As := [a0, a1, a2, a3, a4, a5]) hd hl hok hsh hci hcls hen hst hk hks (Or.inl rfl) hz (fun r S' ⟨x, e, h⟩ => by subst e; exact kk x S' h)
theorem zx_callV6l {a0 a1 a2 a3 a4 a5 : Value} {b idx ci : Nat} {P : Int64 → zw_S → Prop} (hd : decode y.2.1 pc = .ok (.invokevirtual idx, 3)) (hl : Cond.methodLink y.1.cls idx y'.1 ∈ zw_Tb) (hok : zw_okV y' 6) (hsh : S.1[b]? = some (0, ci)) (hci : ci < 9) (hcls : y'.1.cls = zw_R ci) (hen : (zw_en [.ref b, a0, a1, a2, a3, a4, a5]).length ≤ y'.2.2.1) (hst : (st.map fun v => v.category).sum ≤ 8) (hk : k ≤ mc) (hks : n ≤ ms) (hq : pc + 3 = q) (hz : zCall l D tc A y' d 0 0 [.ref b, a0, a1, a2, a3, a4, a5] S (zQl P)) (kk : ∀ x S', P x S' → zW l D tc A y (d + 1) mc ms k n q L (.long x :: st) S' Q) : zW l D tc A y (d + 1) mc ms k n pc L (a5 :: a4 :: a3 :: a2 :: a1 :: a0 :: .ref b :: st) S Q := by
  subst hq
  exact zx_callV (As := [a0, a1, a2, a3, a4, a5]) hd hl hok hsh hci hcls hen hst hk hks (Or.inl rfl) hz (fun r S' ⟨x, e, h⟩ => by subst e; exact kk x S' h)
theorem zx_callV6v {a0 a1 a2 a3 a4 a5 : Value} {b idx ci : Nat} {P : zw_S → Prop} (hd : decode y.2.1 pc = .ok (.invokevirtual idx, 3)) (hl : Cond.methodLink y.1.cls idx y'.1 ∈ zw_Tb) (hok : zw_okV y' 6) (hsh : S.1[b]? = some (0, ci)) (hci : ci < 9) (hcls : y'.1.cls = zw_R ci) (hen : (zw_en [.ref b, a0, a1, a2, a3, a4, a5]).length ≤ y'.2.2.1) (hst : (st.map fun v => v.category).sum ≤ 8) (hk : k ≤ mc) (hks : n ≤ ms) (hq : pc + 3 = q) (hz : zCall l D tc A y' d 0 0 [.ref b, a0, a1, a2, a3, a4, a5] S (zQv P)) (kk : ∀ S', P S' → zW l D tc A y (d + 1) mc ms k n q L st S' Q) : zW l D tc A y (d + 1) mc ms k n pc L (a5 :: a4 :: a3 :: a2 :: a1 :: a0 :: .ref b :: st) S Q := by
  subst hq
  exact zx_callV (As := [a0, a1, a2, a3, a4, a5]) hd hl hok hsh hci hcls hen hst hk hks (Or.inl rfl) hz (fun r S' ⟨e, h⟩ => by subst e; exact kk S' h)
theorem zx_callS1i {a0 : Value} {idx : Nat} {P : Int32 → zw_S → Prop} (hd : decode y.2.1 pc = .ok (.invokestatic idx, 3)) (hl : Cond.methodLink y.1.cls idx y'.1 ∈ zw_Tb) (hok : zw_okS y' 1) (hen : (zw_en [a0]).length ≤ y'.2.2.1) (hst : (st.map fun v => v.category).sum ≤ 8) (hk : k ≤ mc) (hks : n ≤ ms) (hq : pc + 3 = q) (hz : zCall l D tc A y' d 0 0 [a0] S (zQi P)) (kk : ∀ x S', P x S' → zW l D tc A y (d + 1) mc ms k n q L (.int x :: st) S' Q) : zW l D tc A y (d + 1) mc ms k n pc L (a0 :: st) S Q := by
  subst hq
  exact zx_callS (As := [a0]) hd hl hok hen hst hk hks (Or.inl rfl) hz (fun r S' ⟨x, e, h⟩ => by subst e; exact kk x S' h)
theorem zx_callS1l {a0 : Value} {idx : Nat} {P : Int64 → zw_S → Prop} (hd : decode y.2.1 pc = .ok (.invokestatic idx, 3)) (hl : Cond.methodLink y.1.cls idx y'.1 ∈ zw_Tb) (hok : zw_okS y' 1) (hen : (zw_en [a0]).length ≤ y'.2.2.1) (hst : (st.map fun v => v.category).sum ≤ 8) (hk : k ≤ mc) (hks : n ≤ ms) (hq : pc + 3 = q) (hz : zCall l D tc A y' d 0 0 [a0] S (zQl P)) (kk : ∀ x S', P x S' → zW l D tc A y (d + 1) mc ms k n q L (.long x :: st) S' Q) : zW l D tc A y (d + 1) mc ms k n pc L (a0 :: st) S Q := by
  subst hq
  exact zx_callS (As := [a0]) hd hl hok hen hst hk hks (Or.inl rfl) hz (fun r S' ⟨x, e, h⟩ => by subst e; exact kk x S' h)
theorem zx_callS1v {a0 : Value} {idx : Nat} {P : zw_S → Prop} (hd : decode y.2.1 pc = .ok (.invokestatic idx, 3)) (hl : Cond.methodLink y.1.cls idx y'.1 ∈ zw_Tb) (hok : zw_okS y' 1) (hen : (zw_en [a0]).length ≤ y'.2.2.1) (hst : (st.map fun v => v.category).sum ≤ 8) (hk : k ≤ mc) (hks : n ≤ ms) (hq : pc + 3 = q) (hz : zCall l D tc A y' d 0 0 [a0] S (zQv P)) (kk : ∀ S', P S' → zW l D tc A y (d + 1) mc ms k n q L st S' Q) : zW l D tc A y (d + 1) mc ms k n pc L (a0 :: st) S Q := by
  subst hq
  exact zx_callS (As := [a0]) hd hl hok hen hst hk hks (Or.inl rfl) hz (fun r S' ⟨e, h⟩ => by subst e; exact kk S' h)
theorem zx_callS2i {a0 a1 : Value} {idx : Nat} {P : Int32 → zw_S → Prop} (hd : decode y.2.1 pc = .ok (.invokestatic idx, 3)) (hl : Cond.methodLink y.1.cls idx y'.1 ∈ zw_Tb) (hok : zw_okS y' 2) (hen : (zw_en [a0, a1]).length ≤ y'.2.2.1) (hst : (st.map fun v => v.category).sum ≤ 8) (hk : k ≤ mc) (hks : n ≤ ms) (hq : pc + 3 = q) (hz : zCall l D tc A y' d 0 0 [a0, a1] S (zQi P)) (kk : ∀ x S', P x S' → zW l D tc A y (d + 1) mc ms k n q L (.int x :: st) S' Q) : zW l D tc A y (d + 1) mc ms k n pc L (a1 :: a0 :: st) S Q := by
  subst hq
  exact zx_callS (As := [a0, a1]) hd hl hok hen hst hk hks (Or.inl rfl) hz (fun r S' ⟨x, e, h⟩ => by subst e; exact kk x S' h)
theorem zx_callS2l {a0 a1 : Value} {idx : Nat} {P : Int64 → zw_S → Prop} (hd : decode y.2.1 pc = .ok (.invokestatic idx, 3)) (hl : Cond.methodLink y.1.cls idx y'.1 ∈ zw_Tb) (hok : zw_okS y' 2) (hen : (zw_en [a0, a1]).length ≤ y'.2.2.1) (hst : (st.map fun v => v.category).sum ≤ 8) (hk : k ≤ mc) (hks : n ≤ ms) (hq : pc + 3 = q) (hz : zCall l D tc A y' d 0 0 [a0, a1] S (zQl P)) (kk : ∀ x S', P x S' → zW l D tc A y (d + 1) mc ms k n q L (.long x :: st) S' Q) : zW l D tc A y (d + 1) mc ms k n pc L (a1 :: a0 :: st) S Q := by
  subst hq
  exact zx_callS (As := [a0, a1]) hd hl hok hen hst hk hks (Or.inl rfl) hz (fun r S' ⟨x, e, h⟩ => by subst e; exact kk x S' h)
theorem zx_callS2v {a0 a1 : Value} {idx : Nat} {P : zw_S → Prop} (hd : decode y.2.1 pc = .ok (.invokestatic idx, 3)) (hl : Cond.methodLink y.1.cls idx y'.1 ∈ zw_Tb) (hok : zw_okS y' 2) (hen : (zw_en [a0, a1]).length ≤ y'.2.2.1) (hst : (st.map fun v => v.category).sum ≤ 8) (hk : k ≤ mc) (hks : n ≤ ms) (hq : pc + 3 = q) (hz : zCall l D tc A y' d 0 0 [a0, a1] S (zQv P)) (kk : ∀ S', P S' → zW l D tc A y (d + 1) mc ms k n q L st S' Q) : zW l D tc A y (d + 1) mc ms k n pc L (a1 :: a0 :: st) S Q := by
  subst hq
  exact zx_callS (As := [a0, a1]) hd hl hok hen hst hk hks (Or.inl rfl) hz (fun r S' ⟨e, h⟩ => by subst e; exact kk S' h)
theorem zx_callS3i {a0 a1 a2 : Value} {idx : Nat} {P : Int32 → zw_S → Prop} (hd : decode y.2.1 pc = .ok (.invokestatic idx, 3)) (hl : Cond.methodLink y.1.cls idx y'.1 ∈ zw_Tb) (hok : zw_okS y' 3) (hen : (zw_en [a0, a1, a2]).length ≤ y'.2.2.1) (hst : (st.map fun v => v.category).sum ≤ 8) (hk : k ≤ mc) (hks : n ≤ ms) (hq : pc + 3 = q) (hz : zCall l D tc A y' d 0 0 [a0, a1, a2] S (zQi P)) (kk : ∀ x S', P x S' → zW l D tc A y (d + 1) mc ms k n q L (.int x :: st) S' Q) : zW l D tc A y (d + 1) mc ms k n pc L (a2 :: a1 :: a0 :: st) S Q := by
  subst hq
  exact zx_callS (As := [a0, a1, a2]) hd hl hok hen hst hk hks (Or.inl rfl) hz (fun r S' ⟨x, e, h⟩ => by subst e; exact kk x S' h)
theorem zx_callS3l {a0 a1 a2 : Value} {idx : Nat} {P : Int64 → zw_S → Prop} (hd : decode y.2.1 pc = .ok (.invokestatic idx, 3)) (hl : Cond.methodLink y.1.cls idx y'.1 ∈ zw_Tb) (hok : zw_okS y' 3) (hen : (zw_en [a0, a1, a2]).length ≤ y'.2.2.1) (hst : (st.map fun v => v.category).sum ≤ 8) (hk : k ≤ mc) (hks : n ≤ ms) (hq : pc + 3 = q) (hz : zCall l D tc A y' d 0 0 [a0, a1, a2] S (zQl P)) (kk : ∀ x S', P x S' → zW l D tc A y (d + 1) mc ms k n q L (.long x :: st) S' Q) : zW l D tc A y (d + 1) mc ms k n pc L (a2 :: a1 :: a0 :: st) S Q := by
  subst hq
  exact zx_callS (As := [a0, a1, a2]) hd hl hok hen hst hk hks (Or.inl rfl) hz (fun r S' ⟨x, e, h⟩ => by subst e; exact kk x S' h)
theorem zx_callS3v {a0 a1 a2 : Value} {idx : Nat} {P : zw_S → Prop} (hd : decode y.2.1 pc = .ok (.invokestatic idx, 3)) (hl : Cond.methodLink y.1.cls idx y'.1 ∈ zw_Tb) (hok : zw_okS y' 3) (hen : (zw_en [a0, a1, a2]).length ≤ y'.2.2.1) (hst : (st.map fun v => v.category).sum ≤ 8) (hk : k ≤ mc) (hks : n ≤ ms) (hq : pc + 3 = q) (hz : zCall l D tc A y' d 0 0 [a0, a1, a2] S (zQv P)) (kk : ∀ S', P S' → zW l D tc A y (d + 1) mc ms k n q L st S' Q) : zW l D tc A y (d + 1) mc ms k n pc L (a2 :: a1 :: a0 :: st) S Q := by
  subst hq
  exact zx_callS (As := [a0, a1, a2]) hd hl hok hen hst hk hks (Or.inl rfl) hz (fun r S' ⟨e, h⟩ => by subst e; exact kk S' h)
theorem zx_callS4i {a0 a1 a2 a3 : Value} {idx : Nat} {P : Int32 → zw_S → Prop} (hd : decode y.2.1 pc = .ok (.invokestatic idx, 3)) (hl : Cond.methodLink y.1.cls idx y'.1 ∈ zw_Tb) (hok : zw_okS y' 4) (hen : (zw_en [a0, a1, a2, a3]).length ≤ y'.2.2.1) (hst : (st.map fun v => v.category).sum ≤ 8) (hk : k ≤ mc) (hks : n ≤ ms) (hq : pc + 3 = q) (hz : zCall l D tc A y' d 0 0 [a0, a1, a2, a3] S (zQi P)) (kk : ∀ x S', P x S' → zW l D tc A y (d + 1) mc ms k n q L (.int x :: st) S' Q) : zW l D tc A y (d + 1) mc ms k n pc L (a3 :: a2 :: a1 :: a0 :: st) S Q := by
  subst hq
  exact zx_callS (As := [a0, a1, a2, a3]) hd hl hok hen hst hk hks (Or.inl rfl) hz (fun r S' ⟨x, e, h⟩ => by subst e; exact kk x S' h)
theorem zx_callS4l {a0 a1 a2 a3 : Value} {idx : Nat} {P : Int64 → zw_S → Prop} (hd : decode y.2.1 pc = .ok (.invokestatic idx, 3)) (hl : Cond.methodLink y.1.cls idx y'.1 ∈ zw_Tb) (hok : zw_okS y' 4) (hen : (zw_en [a0, a1, a2, a3]).length ≤ y'.2.2.1) (hst : (st.map fun v => v.category).sum ≤ 8) (hk : k ≤ mc) (hks : n ≤ ms) (hq : pc + 3 = q) (hz : zCall l D tc A y' d 0 0 [a0, a1, a2, a3] S (zQl P)) (kk : ∀ x S', P x S' → zW l D tc A y (d + 1) mc ms k n q L (.long x :: st) S' Q) : zW l D tc A y (d + 1) mc ms k n pc L (a3 :: a2 :: a1 :: a0 :: st) S Q := by
  subst hq
  exact zx_callS (As := [a0, a1, a2, a3]) hd hl hok hen hst hk hks (Or.inl rfl) hz (fun r S' ⟨x, e, h⟩ => by subst e; exact kk x S' h)
theorem zx_callS4v {a0 a1 a2 a3 : Value} {idx : Nat} {P : zw_S → Prop} (hd : decode y.2.1 pc = .ok (.invokestatic idx, 3)) (hl : Cond.methodLink y.1.cls idx y'.1 ∈ zw_Tb) (hok : zw_okS y' 4) (hen : (zw_en [a0, a1, a2, a3]).length ≤ y'.2.2.1) (hst : (st.map fun v => v.category).sum ≤ 8) (hk : k ≤ mc) (hks : n ≤ ms) (hq : pc + 3 = q) (hz : zCall l D tc A y' d 0 0 [a0, a1, a2, a3] S (zQv P)) (kk : ∀ S', P S' → zW l D tc A y (d + 1) mc ms k n q L st S' Q) : zW l D tc A y (d + 1) mc ms k n pc L (a3 :: a2 :: a1 :: a0 :: st) S Q := by
  subst hq
  exact zx_callS (As := [a0, a1, a2, a3]) hd hl hok hen hst hk hks (Or.inl rfl) hz (fun r S' ⟨e, h⟩ => by subst e; exact kk S' h)
theorem zx_callS5i {a0 a1 a2 a3 a4 : Value} {idx : Nat} {P : Int32 → zw_S → Prop} (hd : decode y.2.1 pc = .ok (.invokestatic idx, 3)) (hl : Cond.methodLink y.1.cls idx y'.1 ∈ zw_Tb) (hok : zw_okS y' 5) (hen : (zw_en [a0, a1, a2, a3, a4]).length ≤ y'.2.2.1) (hst : (st.map fun v => v.category).sum ≤ 8) (hk : k ≤ mc) (hks : n ≤ ms) (hq : pc + 3 = q) (hz : zCall l D tc A y' d 0 0 [a0, a1, a2, a3, a4] S (zQi P)) (kk : ∀ x S', P x S' → zW l D tc A y (d + 1) mc ms k n q L (.int x :: st) S' Q) : zW l D tc A y (d + 1) mc ms k n pc L (a4 :: a3 :: a2 :: a1 :: a0 :: st) S Q := by
  subst hq
  exact zx_callS (As := [a0, a1, a2, a3, a4]) hd hl hok hen hst hk hks (Or.inl rfl) hz (fun r S' ⟨x, e, h⟩ => by subst e; exact kk x S' h)
theorem zx_callS5l {a0 a1 a2 a3 a4 : Value} {idx : Nat} {P : Int64 → zw_S → Prop} (hd : decode y.2.1 pc = .ok (.invokestatic idx, 3)) (hl : Cond.methodLink y.1.cls idx y'.1 ∈ zw_Tb) (hok : zw_okS y' 5) (hen : (zw_en [a0, a1, a2, a3, a4]).length ≤ y'.2.2.1) (hst : (st.map fun v => v.category).sum ≤ 8) (hk : k ≤ mc) (hks : n ≤ ms) (hq : pc + 3 = q) (hz : zCall l D tc A y' d 0 0 [a0, a1, a2, a3, a4] S (zQl P)) (kk : ∀ x S', P x S' → zW l D tc A y (d + 1) mc ms k n q L (.long x :: st) S' Q) : zW l D tc A y (d + 1) mc ms k n pc L (a4 :: a3 :: a2 :: a1 :: a0 :: st) S Q := by
  subst hq
  exact zx_callS (As := [a0, a1, a2, a3, a4]) hd hl hok hen hst hk hks (Or.inl rfl) hz (fun r S' ⟨x, e, h⟩ => by subst e; exact kk x S' h)
theorem zx_callS5v {a0 a1 a2 a3 a4 : Value} {idx : Nat} {P : zw_S → Prop} (hd : decode y.2.1 pc = .ok (.invokestatic idx, 3)) (hl : Cond.methodLink y.1.cls idx y'.1 ∈ zw_Tb) (hok : zw_okS y' 5) (hen : (zw_en [a0, a1, a2, a3, a4]).length ≤ y'.2.2.1) (hst : (st.map fun v => v.category).sum ≤ 8) (hk : k ≤ mc) (hks : n ≤ ms) (hq : pc + 3 = q) (hz : zCall l D tc A y' d 0 0 [a0, a1, a2, a3, a4] S (zQv P)) (kk : ∀ S', P S' → zW l D tc A y (d + 1) mc ms k n q L st S' Q) : zW l D tc A y (d + 1) mc ms k n pc L (a4 :: a3 :: a2 :: a1 :: a0 :: st) S Q := by
  subst hq
  exact zx_callS (As := [a0, a1, a2, a3, a4]) hd hl hok hen hst hk hks (Or.inl rfl) hz (fun r S' ⟨e, h⟩ => by subst e; exact kk S' h)
theorem zx_callS6i {a0 a1 a2 a3 a4 a5 : Value} {idx : Nat} {P : Int32 → zw_S → Prop} (hd : decode y.2.1 pc = .ok (.invokestatic idx, 3)) (hl : Cond.methodLink y.1.cls idx y'.1 ∈ zw_Tb) (hok : zw_okS y' 6) (hen : (zw_en [a0, a1, a2, a3, a4, a5]).length ≤ y'.2.2.1) (hst : (st.map fun v => v.category).sum ≤ 8) (hk : k ≤ mc) (hks : n ≤ ms) (hq : pc + 3 = q) (hz : zCall l D tc A y' d 0 0 [a0, a1, a2, a3, a4, a5] S (zQi P)) (kk : ∀ x S', P x S' → zW l D tc A y (d + 1) mc ms k n q L (.int x :: st) S' Q) : zW l D tc A y (d + 1) mc ms k n pc L (a5 :: a4 :: a3 :: a2 :: a1 :: a0 :: st) S Q := by
  subst hq
  exact zx_callS (As := [a0, a1, a2, a3, a4, a5]) hd hl hok hen hst hk hks (Or.inl rfl) hz (fun r S' ⟨x, e, h⟩ => by subst e; exact kk x S' h)
theorem zx_callS6l {a0 a1 a2 a3 a4 a5 : Value} {idx : Nat} {P : Int64 → zw_S → Prop} (hd : decode y.2.1 pc = .ok (.invokestatic idx, 3)) (hl : Cond.methodLink y.1.cls idx y'.1 ∈ zw_Tb) (hok : zw_okS y' 6) (hen : (zw_en [a0, a1, a2, a3, a4, a5]).length ≤ y'.2.2.1) (hst : (st.map fun v => v.category).sum ≤ 8) (hk : k ≤ mc) (hks : n ≤ ms) (hq : pc + 3 = q) (hz : zCall l D tc A y' d 0 0 [a0, a1, a2, a3, a4, a5] S (zQl P)) (kk : ∀ x S', P x S' → zW l D tc A y (d + 1) mc ms k n q L (.long x :: st) S' Q) : zW l D tc A y (d + 1) mc ms k n pc L (a5 :: a4 :: a3 :: a2 :: a1 :: a0 :: st) S Q := by
  subst hq
  exact zx_callS (As := [a0, a1, a2, a3, a4, a5]) hd hl hok hen hst hk hks (Or.inl rfl) hz (fun r S' ⟨x, e, h⟩ => by subst e; exact kk x S' h)
theorem zx_callS6v {a0 a1 a2 a3 a4 a5 : Value} {idx : Nat} {P : zw_S → Prop} (hd : decode y.2.1 pc = .ok (.invokestatic idx, 3)) (hl : Cond.methodLink y.1.cls idx y'.1 ∈ zw_Tb) (hok : zw_okS y' 6) (hen : (zw_en [a0, a1, a2, a3, a4, a5]).length ≤ y'.2.2.1) (hst : (st.map fun v => v.category).sum ≤ 8) (hk : k ≤ mc) (hks : n ≤ ms) (hq : pc + 3 = q) (hz : zCall l D tc A y' d 0 0 [a0, a1, a2, a3, a4, a5] S (zQv P)) (kk : ∀ S', P S' → zW l D tc A y (d + 1) mc ms k n q L st S' Q) : zW l D tc A y (d + 1) mc ms k n pc L (a5 :: a4 :: a3 :: a2 :: a1 :: a0 :: st) S Q := by
  subst hq
  exact zx_callS (As := [a0, a1, a2, a3, a4, a5]) hd hl hok hen hst hk hks (Or.inl rfl) hz (fun r S' ⟨e, h⟩ => by subst e; exact kk S' h)
theorem zx_callSN2i {a0 a1 : Value} {idx : Nat} {P : Int32 → zw_S → Prop} (hd : decode y.2.1 pc = .ok (.invokestatic idx, 3)) (hl : (y.1.cls, (idx, y'.1)) ∈ zw_nest) (hok : zw_okS y' 2) (hen : (zw_en [a0, a1]).length ≤ y'.2.2.1) (hst : (st.map fun v => v.category).sum ≤ 8) (hk : k ≤ mc) (hks : n ≤ ms) (hq : pc + 3 = q) (hz : zCall l D tc A y' d 0 0 [a0, a1] S (zQi P)) (kk : ∀ x S', P x S' → zW l D tc A y (d + 1) mc ms k n q L (.int x :: st) S' Q) : zW l D tc A y (d + 1) mc ms k n pc L (a1 :: a0 :: st) S Q := by
  subst hq
  exact zx_callSN (As := [a0, a1]) hd hl hok hen hst hk hks (Or.inl rfl) hz (fun r S' ⟨x, e, h⟩ => by subst e; exact kk x S' h)
theorem zx_callSN3i {a0 a1 a2 : Value} {idx : Nat} {P : Int32 → zw_S → Prop} (hd : decode y.2.1 pc = .ok (.invokestatic idx, 3)) (hl : (y.1.cls, (idx, y'.1)) ∈ zw_nest) (hok : zw_okS y' 3) (hen : (zw_en [a0, a1, a2]).length ≤ y'.2.2.1) (hst : (st.map fun v => v.category).sum ≤ 8) (hk : k ≤ mc) (hks : n ≤ ms) (hq : pc + 3 = q) (hz : zCall l D tc A y' d 0 0 [a0, a1, a2] S (zQi P)) (kk : ∀ x S', P x S' → zW l D tc A y (d + 1) mc ms k n q L (.int x :: st) S' Q) : zW l D tc A y (d + 1) mc ms k n pc L (a2 :: a1 :: a0 :: st) S Q := by
  subst hq
  exact zx_callSN (As := [a0, a1, a2]) hd hl hok hen hst hk hks (Or.inl rfl) hz (fun r S' ⟨x, e, h⟩ => by subst e; exact kk x S' h)
theorem zx_callT0i {i idx : Nat} {P : Int32 → zw_S → Prop} (hd : decode y.2.1 pc = .ok (.invokevirtual idx, 3)) (hl : Cond.methodLink y.1.cls idx y'.1 ∈ zw_Tb) (hok : zw_okV y' 0) (hi : i < 8) (hcls : y'.1.cls = RJ0) (hen : (zw_en [.ref (100000 + i)]).length ≤ y'.2.2.1) (hst : (st.map fun v => v.category).sum ≤ 8) (hk : k ≤ mc) (hks : n ≤ ms) (hq : pc + 3 = q) (hz : zCall l D tc A y' d 0 0 [.ref (100000 + i)] S (zQi P)) (kk : ∀ x S', P x S' → zW l D tc A y (d + 1) mc ms k n q L (.int x :: st) S' Q) : zW l D tc A y (d + 1) mc ms k n pc L (.ref (100000 + i) :: st) S Q := by
  subst hq
  exact zx_callT (As := []) hd hl hok hi hcls hen hst hk hks (Or.inl rfl) hz (fun r S' ⟨x, e, h⟩ => by subst e; exact kk x S' h)
theorem zx_callT1i {a0 : Value} {i idx : Nat} {P : Int32 → zw_S → Prop} (hd : decode y.2.1 pc = .ok (.invokevirtual idx, 3)) (hl : Cond.methodLink y.1.cls idx y'.1 ∈ zw_Tb) (hok : zw_okV y' 1) (hi : i < 8) (hcls : y'.1.cls = RJ0) (hen : (zw_en [.ref (100000 + i), a0]).length ≤ y'.2.2.1) (hst : (st.map fun v => v.category).sum ≤ 8) (hk : k ≤ mc) (hks : n ≤ ms) (hq : pc + 3 = q) (hz : zCall l D tc A y' d 0 0 [.ref (100000 + i), a0] S (zQi P)) (kk : ∀ x S', P x S' → zW l D tc A y (d + 1) mc ms k n q L (.int x :: st) S' Q) : zW l D tc A y (d + 1) mc ms k n pc L (a0 :: .ref (100000 + i) :: st) S Q := by
  subst hq
  exact zx_callT (As := [a0]) hd hl hok hi hcls hen hst hk hks (Or.inl rfl) hz (fun r S' ⟨x, e, h⟩ => by subst e; exact kk x S' h)
theorem zx_callT2i {a0 a1 : Value} {i idx : Nat} {P : Int32 → zw_S → Prop} (hd : decode y.2.1 pc = .ok (.invokevirtual idx, 3)) (hl : Cond.methodLink y.1.cls idx y'.1 ∈ zw_Tb) (hok : zw_okV y' 2) (hi : i < 8) (hcls : y'.1.cls = RJ0) (hen : (zw_en [.ref (100000 + i), a0, a1]).length ≤ y'.2.2.1) (hst : (st.map fun v => v.category).sum ≤ 8) (hk : k ≤ mc) (hks : n ≤ ms) (hq : pc + 3 = q) (hz : zCall l D tc A y' d 0 0 [.ref (100000 + i), a0, a1] S (zQi P)) (kk : ∀ x S', P x S' → zW l D tc A y (d + 1) mc ms k n q L (.int x :: st) S' Q) : zW l D tc A y (d + 1) mc ms k n pc L (a1 :: a0 :: .ref (100000 + i) :: st) S Q := by
  subst hq
  exact zx_callT (As := [a0, a1]) hd hl hok hi hcls hen hst hk hks (Or.inl rfl) hz (fun r S' ⟨x, e, h⟩ => by subst e; exact kk x S' h)
theorem zw_ac_words : Cond.native arraycopyName ∈ zw_Tb ∧ Cond.static arraycopyName ∈ zw_Tb ∧ Cond.initialized "java/lang/System" ∈ zw_Tb := by
  refine ⟨List.mem_filter.mpr ⟨?_, rfl⟩, List.mem_filter.mpr ⟨?_, rfl⟩, List.mem_filter.mpr ⟨?_, rfl⟩⟩ <;> decide +kernel
theorem zw_copy_room {ad : Nat → Nat} (hst : (st.map fun v => v.category).sum ≤ 8) : 1 ≤ (zw_rm (d + 1) mc ms).frames ∧ ((st.map (zw_v ad)).map fun v => v.category).sum + (nativeFrameWords "java/lang/System" "arraycopy" 5 + 11) ≤ (zw_rm (d + 1) mc ms).locals := by
  rw [zw_sum]
  have e : nativeFrameWords "java/lang/System" "arraycopy" 5 = 7 := by decide
  rw [e]
  unfold zw_rm
  dsimp only
  exact ⟨by omega, by omega⟩
theorem zx_copyI {b0 b1 w0 w1 idx : Nat} {sp dp w : Int32} (hd : decode y.2.1 pc = .ok (.invokestatic idx, 3)) (hl : Cond.methodLink y.1.cls idx arraycopyName ∈ zw_Tb) (h0 : S.1[b0]? = some (1, w0)) (h1 : S.1[b1]? = some (1, w1)) (g1 : ¬ sp < 0) (g2 : ¬ dp < 0) (g3 : ¬ w < 0) (g4 : sp.toNatClampNeg + w.toNatClampNeg ≤ w0) (g5 : dp.toNatClampNeg + w.toNatClampNeg ≤ w1) (hst : (st.map fun v => v.category).sum ≤ 8) (hq : pc + 3 = q)
    (kk : zW l D tc A y (d + 1) mc ms k n q L st (zw_ri S b1 (va_cpy (S.2.1 b0) (S.2.1 b1) sp.toNatClampNeg dp.toNatClampNeg w.toNatClampNeg)) Q) : zW l D tc A y (d + 1) mc ms k n pc L (.int w :: .int dp :: .ref b1 :: .int sp :: .ref b0 :: st) S Q := by
  subst hq
  intro p e s m args below meth c ad ad0 n0 H locs ls C hP hD hS hL hn ha hm
  have hw := C.2.2.2.2.2.1
  refine va_copyi C.1 C.2.1 (C.2.2.2.1.trans hL.1.1.symm) C.2.2.2.2.1 (hw _ hl) (hw _ zw_ac_words.1) (hw _ zw_ac_words.2.1) (hw _ zw_ac_words.2.2) C.2.2.2.2.2.2.1 hP hD hS b0 b1 1 1 (zw_get h0) (zw_get h1) (zw_tys_at tc (by decide)) (zw_tys_at tc (by decide)) rfl g1 g2 g3 g4 g5 (fun i _ => rfl) (zw_copy_room (ad := ad) hst).1 (zw_copy_room (ad := ad) hst).2 hd (fun H1 locs1 hP1 hD1 hS1 => ?_)
  rw [zw_row_i h1] at hP1 hD1
  exact kk p e s m args below meth c ad ad0 n0 H1 locs1 ls C hP1 hD1 hS1 hL hn ha hm
theorem zx_copyL {b0 b1 w0 w1 idx : Nat} {sp dp w : Int32} (hd : decode y.2.1 pc = .ok (.invokestatic idx, 3)) (hl : Cond.methodLink y.1.cls idx arraycopyName ∈ zw_Tb) (h0 : S.1[b0]? = some (4, w0)) (h1 : S.1[b1]? = some (4, w1)) (g1 : ¬ sp < 0) (g2 : ¬ dp < 0) (g3 : ¬ w < 0) (g4 : sp.toNatClampNeg + w.toNatClampNeg ≤ w0) (g5 : dp.toNatClampNeg + w.toNatClampNeg ≤ w1) (hst : (st.map fun v => v.category).sum ≤ 8) (hq : pc + 3 = q)
    (kk : zW l D tc A y (d + 1) mc ms k n q L st (zw_rl S b1 (va_cpy (S.2.2.1 b0) (S.2.2.1 b1) sp.toNatClampNeg dp.toNatClampNeg w.toNatClampNeg)) Q) : zW l D tc A y (d + 1) mc ms k n pc L (.int w :: .int dp :: .ref b1 :: .int sp :: .ref b0 :: st) S Q := by
  subst hq
  intro p e s m args below meth c ad ad0 n0 H locs ls C hP hD hS hL hn ha hm
  have hw := C.2.2.2.2.2.1
  refine va_copyl C.1 C.2.1 (C.2.2.2.1.trans hL.1.1.symm) C.2.2.2.2.1 (hw _ hl) (hw _ zw_ac_words.1) (hw _ zw_ac_words.2.1) (hw _ zw_ac_words.2.2) C.2.2.2.2.2.2.1 hP hD hS b0 b1 4 4 (zw_get h0) (zw_get h1) (zw_tys_at tc (by decide)) (zw_tys_at tc (by decide)) rfl g1 g2 g3 g4 g5 (fun i _ => rfl) (zw_copy_room (ad := ad) hst).1 (zw_copy_room (ad := ad) hst).2 hd (fun H1 locs1 hP1 hD1 hS1 => ?_)
  rw [zw_row_l h1] at hP1 hD1
  exact kk p e s m args below meth c ad ad0 n0 H1 locs1 ls C hP1 hD1 hS1 hL hn ha hm
theorem zx_gsKA {idx : Nat} (hd : decode y.2.1 pc = .ok (.getstatic idx, 3)) (hl : Cond.fieldLink y.1.cls idx RX7 "KIND_ABOVE" "[I" ∈ zw_Tb) (hq : pc + 3 = q) (kk : zW l D tc A y d mc ms k n q L (.ref 300000 :: st) S Q) : zW l D tc A y d mc ms k n pc L st S Q := by
  subst hq
  intro p e s m args below meth c ad ad0 n0 H locs ls C hP hD hS hL hn ha hm
  exact va_gets C.1 C.2.1 C.2.2.2.2.2.2.2.1.1.1 hS C.2.2.2.2.1 (C.2.2.2.2.2.1 _ hl) (fun _ h => h) hd (kk p e s m args below meth c ad ad0 n0 H locs ls C hP hD hS hL hn ha hm)
theorem zx_gsBD {idx : Nat} (hd : decode y.2.1 pc = .ok (.getstatic idx, 3)) (hl : Cond.fieldLink y.1.cls idx RX0 "BODIES" "[I" ∈ zw_Tb) (hq : pc + 3 = q) (kk : zW l D tc A y d mc ms k n q L (.ref 300001 :: st) S Q) : zW l D tc A y d mc ms k n pc L st S Q := by
  subst hq
  intro p e s m args below meth c ad ad0 n0 H locs ls C hP hD hS hL hn ha hm
  exact va_gets C.1 C.2.1 C.2.2.2.2.2.2.2.1.2.1.1 hS C.2.2.2.2.1 (C.2.2.2.2.2.1 _ hl) (fun _ h => h) hd (kk p e s m args below meth c ad ad0 n0 H locs ls C hP hD hS hL hn ha hm)
theorem zx_gsCS {idx : Nat} (hd : decode y.2.1 pc = .ok (.getstatic idx, 3)) (hl : Cond.fieldLink y.1.cls idx RJ0 "COMPACT_STRINGS" "Z" ∈ zw_Tb) (hq : pc + 3 = q) (kk : zW l D tc A y d mc ms k n q L (.int 1 :: st) S Q) : zW l D tc A y d mc ms k n pc L st S Q := by
  subst hq
  intro p e s m args below meth c ad ad0 n0 H locs ls C hP hD hS hL hn ha hm
  exact va_gets C.1 C.2.1 C.2.2.2.2.2.2.2.1.2.2.1 hS C.2.2.2.2.1 (C.2.2.2.2.2.1 _ hl) (fun _ h => h) hd (kk p e s m args below meth c ad ad0 n0 H locs ls C hP hD hS hL hn ha hm)
theorem zx_gsFM {idx : Nat} (hd : decode y.2.1 pc = .ok (.getstatic idx, 3)) (hl : Cond.fieldLink y.1.cls idx RJ3 "SIOOBE_FORMATTER" "Ljava/util/function/BiFunction;" ∈ zw_Tb) (hq : pc + 3 = q) (kk : ∀ v : Value, v = .null ∨ v = .ref 400000 → zW l D tc A y d mc ms k n q L (v :: st) S Q) : zW l D tc A y d mc ms k n pc L st S Q := by
  subst hq
  intro p e s m args below meth c ad ad0 n0 H locs ls C hP hD hS hL hn ha hm
  rcases C.2.2.2.2.2.2.2.1.2.2.2.1 with h | h
  · exact va_gets C.1 C.2.1 h hS C.2.2.2.2.1 (C.2.2.2.2.2.1 _ hl) (fun _ h => h) hd (kk .null (Or.inl rfl) p e s m args below meth c ad ad0 n0 H locs ls C hP hD hS hL hn ha hm)
  · exact va_gets C.1 C.2.1 h hS C.2.2.2.2.1 (C.2.2.2.2.2.1 _ hl) (fun _ h => h) hd (kk (.ref 400000) (Or.inr rfl) p e s m args below meth c ad ad0 n0 H locs ls C hP hD hS hL hn ha hm)
theorem zx_taKA {i : Int32} (hd : decode y.2.1 pc = .ok (.iaload, 1)) (hin : vp_in i 7) (hq : pc + 1 = q) (kk : zW l D tc A y d mc ms k n q L (.int (zw_KA i.toNatClampNeg) :: st) S Q) : zW l D tc A y d mc ms k n pc L (.int i :: .ref 300000 :: st) S Q := by
  subst hq
  intro p e s m args below meth c ad ad0 n0 H locs ls C hP hD hS hL hn ha hm
  exact va_ti C.1 C.2.1 C.2.2.2.2.2.2.2.1.1.2 hS hin rfl hd (kk p e s m args below meth c ad ad0 n0 H locs ls C hP hD hS hL hn ha hm)
theorem zx_taBD {i : Int32} (hd : decode y.2.1 pc = .ok (.iaload, 1)) (hin : vp_in i 21) (hq : pc + 1 = q) (kk : zW l D tc A y d mc ms k n q L (.int (zw_BD i.toNatClampNeg) :: st) S Q) : zW l D tc A y d mc ms k n pc L (.int i :: .ref 300001 :: st) S Q := by
  subst hq
  intro p e s m args below meth c ad ad0 n0 H locs ls C hP hD hS hL hn ha hm
  exact va_ti C.1 C.2.1 C.2.2.2.2.2.2.2.1.2.1.2 hS hin rfl hd (kk p e s m args below meth c ad ad0 n0 H locs ls C hP hD hS hL hn ha hm)
theorem zx_txVal {i idx : Nat} (hd : decode y.2.1 pc = .ok (.getfield idx, 3)) (hi : i < 8) (hl : Cond.fieldLink y.1.cls idx "java/lang/String" "value" "[B" ∈ zw_Tb) (hq : pc + 3 = q) (kk : zW l D tc A y d mc ms k n q L (.ref (200000 + i) :: st) S Q) : zW l D tc A y d mc ms k n pc L (.ref (100000 + i) :: st) S Q := by
  subst hq
  intro p e s m args below meth c ad ad0 n0 H locs ls C hP hD hS hL hn ha hm
  exact vk_getf C.1 C.2.1 (C.2.2.2.2.2.2.2.1.2.2.2.2.1.1 i hi).2.2.1 hS C.2.2.2.2.1 (C.2.2.2.2.2.1 _ hl) (fun _ h => h) hd (kk p e s m args below meth c ad ad0 n0 H locs ls C hP hD hS hL hn ha hm)
theorem zx_txCod {i idx : Nat} (hd : decode y.2.1 pc = .ok (.getfield idx, 3)) (hi : i < 8) (hl : Cond.fieldLink y.1.cls idx "java/lang/String" "coder" "B" ∈ zw_Tb) (hq : pc + 3 = q) (kk : zW l D tc A y d mc ms k n q L (.int 0 :: st) S Q) : zW l D tc A y d mc ms k n pc L (.ref (100000 + i) :: st) S Q := by
  subst hq
  intro p e s m args below meth c ad ad0 n0 H locs ls C hP hD hS hL hn ha hm
  exact vk_getf C.1 C.2.1 (C.2.2.2.2.2.2.2.1.2.2.2.2.1.1 i hi).2.1 hS C.2.2.2.2.1 (C.2.2.2.2.2.1 _ hl) (fun _ h => h) hd (kk p e s m args below meth c ad ad0 n0 H locs ls C hP hD hS hL hn ha hm)
theorem zx_txLen {i : Nat} (hd : decode y.2.1 pc = .ok (.arraylength, 1)) (hi : i < 8) (hq : pc + 1 = q) (kk : zW l D tc A y d mc ms k n q L (.int (Int32.ofNat (zw_tl.getD i 0)) :: st) S Q) : zW l D tc A y d mc ms k n pc L (.ref (200000 + i) :: st) S Q := by
  subst hq
  intro p e s m args below meth c ad ad0 n0 H locs ls C hP hD hS hL hn ha hm
  exact va_tlen C.1 C.2.1 (C.2.2.2.2.2.2.2.1.2.2.2.2.1.1 i hi).2.2.2 hS rfl hd (kk p e s m args below meth c ad ad0 n0 H locs ls C hP hD hS hL hn ha hm)
theorem zx_txByt {i : Nat} {j : Int32} (hd : decode y.2.1 pc = .ok (.baload, 1)) (hi : i < 8) (hin : vp_in j (zw_tl.getD i 0)) (hq : pc + 1 = q) (kk : zW l D tc A y d mc ms k n q L (.int ((zw_tb.getD i []).getD j.toNatClampNeg 0) :: st) S Q) : zW l D tc A y d mc ms k n pc L (.int j :: .ref (200000 + i) :: st) S Q := by
  subst hq
  intro p e s m args below meth c ad ad0 n0 H locs ls C hP hD hS hL hn ha hm
  exact va_tb C.1 C.2.1 (C.2.2.2.2.2.2.2.1.2.2.2.2.1.1 i hi).2.2.2 hS hin rfl hd (kk p e s m args below meth c ad ad0 n0 H locs ls C hP hD hS hL hn ha hm)
end ZB
end
