-- ===== PART A: goes FIRST, ahead of the names: the tables' words, and 'selects' of the private methods out of them =====
/-- a private method of a class that the tables say can be made, by its rows of tables_1 -/
def lw_okq (q : MethodName × Nat) : Prop := (q.1.cls ≠ "java/lang/invoke/MethodHandle" ∧ q.1.cls ≠ "java/lang/invoke/VarHandle") ∧ Cond.instantiable q.1.cls q.2 ∈ tables_1 ∧ Cond.privateMethod q.1 ∈ tables_1 ∧ Cond.instanceMethod q.1 ∈ tables_1
theorem lw_p0 : lw_okq (⟨"ThreeMeasures$Reader", "read", "([II)LThreeMeasures$Room;"⟩, 8) := ⟨⟨by decide +kernel, by decide +kernel⟩, List.mem_of_getElem? (i := 113) (by decide +kernel), List.mem_of_getElem? (i := 199) (by decide +kernel), List.mem_of_getElem? (i := 200) (by decide +kernel)⟩
theorem lw_p1 : lw_okq (⟨"ThreeMeasures$Reader", "takesClause", "()Z"⟩, 8) := ⟨⟨by decide +kernel, by decide +kernel⟩, List.mem_of_getElem? (i := 113) (by decide +kernel), List.mem_of_getElem? (i := 203) (by decide +kernel), List.mem_of_getElem? (i := 204) (by decide +kernel)⟩
theorem lw_p2 : lw_okq (⟨"ThreeMeasures$Reader", "next", "()C"⟩, 8) := ⟨⟨by decide +kernel, by decide +kernel⟩, List.mem_of_getElem? (i := 113) (by decide +kernel), List.mem_of_getElem? (i := 207) (by decide +kernel), List.mem_of_getElem? (i := 208) (by decide +kernel)⟩
theorem lw_p3 : lw_okq (⟨"ThreeMeasures$Reader", "takesWordAndNumber", "(Ljava/lang/String;)Z"⟩, 8) := ⟨⟨by decide +kernel, by decide +kernel⟩, List.mem_of_getElem? (i := 113) (by decide +kernel), List.mem_of_getElem? (i := 218) (by decide +kernel), List.mem_of_getElem? (i := 219) (by decide +kernel)⟩
theorem lw_p4 : lw_okq (⟨"ThreeMeasures$Reader", "takes", "(C)Z"⟩, 8) := ⟨⟨by decide +kernel, by decide +kernel⟩, List.mem_of_getElem? (i := 113) (by decide +kernel), List.mem_of_getElem? (i := 270) (by decide +kernel), List.mem_of_getElem? (i := 271) (by decide +kernel)⟩
theorem lw_p5 : lw_okq (⟨"ThreeMeasures$Reader", "takesNumber", "()Z"⟩, 8) := ⟨⟨by decide +kernel, by decide +kernel⟩, List.mem_of_getElem? (i := 113) (by decide +kernel), List.mem_of_getElem? (i := 274) (by decide +kernel), List.mem_of_getElem? (i := 275) (by decide +kernel)⟩
theorem lw_p6 : lw_okq (⟨"ThreeMeasures$Reader", "takesEither", "(I)Z"⟩, 8) := ⟨⟨by decide +kernel, by decide +kernel⟩, List.mem_of_getElem? (i := 113) (by decide +kernel), List.mem_of_getElem? (i := 278) (by decide +kernel), List.mem_of_getElem? (i := 279) (by decide +kernel)⟩
theorem lw_p7 : lw_okq (⟨"ThreeMeasures$Reader", "takesFactor", "(I)Z"⟩, 8) := ⟨⟨by decide +kernel, by decide +kernel⟩, List.mem_of_getElem? (i := 113) (by decide +kernel), List.mem_of_getElem? (i := 282) (by decide +kernel), List.mem_of_getElem? (i := 283) (by decide +kernel)⟩
theorem lw_p8 : lw_okq (⟨"ThreeMeasures$Reader", "takesTest", "()Z"⟩, 8) := ⟨⟨by decide +kernel, by decide +kernel⟩, List.mem_of_getElem? (i := 113) (by decide +kernel), List.mem_of_getElem? (i := 286) (by decide +kernel), List.mem_of_getElem? (i := 287) (by decide +kernel)⟩
theorem lw_p9 : lw_okq (⟨"ThreeMeasures$Reader", "emit", "(II)V"⟩, 8) := ⟨⟨by decide +kernel, by decide +kernel⟩, List.mem_of_getElem? (i := 113) (by decide +kernel), List.mem_of_getElem? (i := 354) (by decide +kernel), List.mem_of_getElem? (i := 355) (by decide +kernel)⟩
theorem lw_p10 : lw_okq (⟨"ThreeMeasures$State", "stickAt", "(I)LThreeMeasures$Stick;"⟩, 18) := ⟨⟨by decide +kernel, by decide +kernel⟩, List.mem_of_getElem? (i := 31) (by decide +kernel), List.mem_of_getElem? (i := 517) (by decide +kernel), List.mem_of_getElem? (i := 518) (by decide +kernel)⟩
theorem lw_p11 : lw_okq (⟨"ThreeMeasures$Told", "changed", "(II)LThreeMeasures$Told;"⟩, 5) := ⟨⟨by decide +kernel, by decide +kernel⟩, List.mem_of_getElem? (i := 491) (by decide +kernel), List.mem_of_getElem? (i := 525) (by decide +kernel), List.mem_of_getElem? (i := 526) (by decide +kernel)⟩
theorem lw_p12 : lw_okq (⟨"ThreeMeasures$Told", "more", "(I)I"⟩, 5) := ⟨⟨by decide +kernel, by decide +kernel⟩, List.mem_of_getElem? (i := 491) (by decide +kernel), List.mem_of_getElem? (i := 534) (by decide +kernel), List.mem_of_getElem? (i := 535) (by decide +kernel)⟩
theorem lw_p13 : lw_okq (⟨"ThreeMeasures$State", "isWall", "(I)Z"⟩, 18) := ⟨⟨by decide +kernel, by decide +kernel⟩, List.mem_of_getElem? (i := 31) (by decide +kernel), List.mem_of_getElem? (i := 546) (by decide +kernel), List.mem_of_getElem? (i := 547) (by decide +kernel)⟩
theorem lw_p14 : lw_okq (⟨"ThreeMeasures$State", "gap", "(I)I"⟩, 18) := ⟨⟨by decide +kernel, by decide +kernel⟩, List.mem_of_getElem? (i := 31) (by decide +kernel), List.mem_of_getElem? (i := 550) (by decide +kernel), List.mem_of_getElem? (i := 551) (by decide +kernel)⟩
theorem lw_p15 : lw_okq (⟨"ThreeMeasures$State", "board", "()I"⟩, 18) := ⟨⟨by decide +kernel, by decide +kernel⟩, List.mem_of_getElem? (i := 31) (by decide +kernel), List.mem_of_getElem? (i := 562) (by decide +kernel), List.mem_of_getElem? (i := 563) (by decide +kernel)⟩
def lw_privs_1 : List (MethodName × Nat) := [(⟨"ThreeMeasures$Reader", "read", "([II)LThreeMeasures$Room;"⟩, 8), (⟨"ThreeMeasures$Reader", "takesClause", "()Z"⟩, 8), (⟨"ThreeMeasures$Reader", "next", "()C"⟩, 8), (⟨"ThreeMeasures$Reader", "takesWordAndNumber", "(Ljava/lang/String;)Z"⟩, 8), (⟨"ThreeMeasures$Reader", "takes", "(C)Z"⟩, 8), (⟨"ThreeMeasures$Reader", "takesNumber", "()Z"⟩, 8), (⟨"ThreeMeasures$Reader", "takesEither", "(I)Z"⟩, 8), (⟨"ThreeMeasures$Reader", "takesFactor", "(I)Z"⟩, 8), (⟨"ThreeMeasures$Reader", "takesTest", "()Z"⟩, 8), (⟨"ThreeMeasures$Reader", "emit", "(II)V"⟩, 8), (⟨"ThreeMeasures$State", "stickAt", "(I)LThreeMeasures$Stick;"⟩, 18), (⟨"ThreeMeasures$Told", "changed", "(II)LThreeMeasures$Told;"⟩, 5), (⟨"ThreeMeasures$Told", "more", "(I)I"⟩, 5), (⟨"ThreeMeasures$State", "isWall", "(I)Z"⟩, 18), (⟨"ThreeMeasures$State", "gap", "(I)I"⟩, 18), (⟨"ThreeMeasures$State", "board", "()I"⟩, 18)]
theorem lw_r1 : ∀ q ∈ lw_privs_1, lw_okq q := List.forall_mem_cons.mpr ⟨lw_p0, List.forall_mem_cons.mpr ⟨lw_p1, List.forall_mem_cons.mpr ⟨lw_p2, List.forall_mem_cons.mpr ⟨lw_p3, List.forall_mem_cons.mpr ⟨lw_p4, List.forall_mem_cons.mpr ⟨lw_p5, List.forall_mem_cons.mpr ⟨lw_p6, List.forall_mem_cons.mpr ⟨lw_p7, List.forall_mem_cons.mpr ⟨lw_p8, List.forall_mem_cons.mpr ⟨lw_p9, List.forall_mem_cons.mpr ⟨lw_p10, List.forall_mem_cons.mpr ⟨lw_p11, List.forall_mem_cons.mpr ⟨lw_p12, List.forall_mem_cons.mpr ⟨lw_p13, List.forall_mem_cons.mpr ⟨lw_p14, List.forall_mem_cons.mpr ⟨lw_p15, fun _ h => absurd h List.not_mem_nil⟩⟩⟩⟩⟩⟩⟩⟩⟩⟩⟩⟩⟩⟩⟩⟩
theorem lw_p16 : lw_okq (⟨"ThreeMeasures$State", "perStep", "()I"⟩, 18) := ⟨⟨by decide +kernel, by decide +kernel⟩, List.mem_of_getElem? (i := 31) (by decide +kernel), List.mem_of_getElem? (i := 566) (by decide +kernel), List.mem_of_getElem? (i := 567) (by decide +kernel)⟩
theorem lw_p17 : lw_okq (⟨"ThreeMeasures$State", "least", "(LThreeMeasures$Stick;II)I"⟩, 18) := ⟨⟨by decide +kernel, by decide +kernel⟩, List.mem_of_getElem? (i := 31) (by decide +kernel), List.mem_of_getElem? (i := 577) (by decide +kernel), List.mem_of_getElem? (i := 578) (by decide +kernel)⟩
theorem lw_p18 : lw_okq (⟨"ThreeMeasures$State", "middle", "(LThreeMeasures$Stick;II)I"⟩, 18) := ⟨⟨by decide +kernel, by decide +kernel⟩, List.mem_of_getElem? (i := 31) (by decide +kernel), List.mem_of_getElem? (i := 581) (by decide +kernel), List.mem_of_getElem? (i := 582) (by decide +kernel)⟩
theorem lw_p19 : lw_okq (⟨"ThreeMeasures$Room", "total", "(ILThreeMeasures$Stick;II)I"⟩, 3) := ⟨⟨by decide +kernel, by decide +kernel⟩, List.mem_of_getElem? (i := 358) (by decide +kernel), List.mem_of_getElem? (i := 585) (by decide +kernel), List.mem_of_getElem? (i := 586) (by decide +kernel)⟩
theorem lw_p20 : lw_okq (⟨"ThreeMeasures$State", "slack", "(LThreeMeasures$Stick;II)I"⟩, 18) := ⟨⟨by decide +kernel, by decide +kernel⟩, List.mem_of_getElem? (i := 31) (by decide +kernel), List.mem_of_getElem? (i := 616) (by decide +kernel), List.mem_of_getElem? (i := 617) (by decide +kernel)⟩
theorem lw_p21 : lw_okq (⟨"ThreeMeasures$State", "most", "(LThreeMeasures$Stick;II)I"⟩, 18) := ⟨⟨by decide +kernel, by decide +kernel⟩, List.mem_of_getElem? (i := 31) (by decide +kernel), List.mem_of_getElem? (i := 636) (by decide +kernel), List.mem_of_getElem? (i := 637) (by decide +kernel)⟩
theorem lw_p22 : lw_okq (⟨"ThreeMeasures", "findSurest", "(II)Z"⟩, 10) := ⟨⟨by decide +kernel, by decide +kernel⟩, List.mem_of_getElem? (i := 23) (by decide +kernel), List.mem_of_getElem? (i := 651) (by decide +kernel), List.mem_of_getElem? (i := 652) (by decide +kernel)⟩
theorem lw_p23 : lw_okq (⟨"ThreeMeasures", "tellMiddles", "(I)V"⟩, 10) := ⟨⟨by decide +kernel, by decide +kernel⟩, List.mem_of_getElem? (i := 23) (by decide +kernel), List.mem_of_getElem? (i := 659) (by decide +kernel), List.mem_of_getElem? (i := 660) (by decide +kernel)⟩
theorem lw_p24 : lw_okq (⟨"ThreeMeasures", "findTwice", "(I)Z"⟩, 10) := ⟨⟨by decide +kernel, by decide +kernel⟩, List.mem_of_getElem? (i := 23) (by decide +kernel), List.mem_of_getElem? (i := 663) (by decide +kernel), List.mem_of_getElem? (i := 664) (by decide +kernel)⟩
theorem lw_p25 : lw_okq (⟨"ThreeMeasures", "nearestTimes", "(LThreeMeasures$Stick;I)I"⟩, 10) := ⟨⟨by decide +kernel, by decide +kernel⟩, List.mem_of_getElem? (i := 23) (by decide +kernel), List.mem_of_getElem? (i := 671) (by decide +kernel), List.mem_of_getElem? (i := 672) (by decide +kernel)⟩
theorem lw_p26 : lw_okq (⟨"ThreeMeasures", "canBeCorner", "(III)Z"⟩, 10) := ⟨⟨by decide +kernel, by decide +kernel⟩, List.mem_of_getElem? (i := 23) (by decide +kernel), List.mem_of_getElem? (i := 682) (by decide +kernel), List.mem_of_getElem? (i := 683) (by decide +kernel)⟩
theorem lw_p27 : lw_okq (⟨"ThreeMeasures", "offAlong", "(I)I"⟩, 10) := ⟨⟨by decide +kernel, by decide +kernel⟩, List.mem_of_getElem? (i := 23) (by decide +kernel), List.mem_of_getElem? (i := 697) (by decide +kernel), List.mem_of_getElem? (i := 698) (by decide +kernel)⟩
theorem lw_p28 : lw_okq (⟨"ThreeMeasures", "isAlong", "(II)Z"⟩, 10) := ⟨⟨by decide +kernel, by decide +kernel⟩, List.mem_of_getElem? (i := 23) (by decide +kernel), List.mem_of_getElem? (i := 701) (by decide +kernel), List.mem_of_getElem? (i := 702) (by decide +kernel)⟩
theorem lw_p29 : lw_okq (⟨"ThreeMeasures", "isForward", "(I)Z"⟩, 10) := ⟨⟨by decide +kernel, by decide +kernel⟩, List.mem_of_getElem? (i := 23) (by decide +kernel), List.mem_of_getElem? (i := 705) (by decide +kernel), List.mem_of_getElem? (i := 706) (by decide +kernel)⟩
theorem lw_p30 : lw_okq (⟨"ThreeMeasures", "shareOf", "(II)I"⟩, 10) := ⟨⟨by decide +kernel, by decide +kernel⟩, List.mem_of_getElem? (i := 23) (by decide +kernel), List.mem_of_getElem? (i := 713) (by decide +kernel), List.mem_of_getElem? (i := 714) (by decide +kernel)⟩
theorem lw_p31 : lw_okq (⟨"ThreeMeasures", "bestCut", "(I)I"⟩, 10) := ⟨⟨by decide +kernel, by decide +kernel⟩, List.mem_of_getElem? (i := 23) (by decide +kernel), List.mem_of_getElem? (i := 721) (by decide +kernel), List.mem_of_getElem? (i := 722) (by decide +kernel)⟩
def lw_privs_2 : List (MethodName × Nat) := [(⟨"ThreeMeasures$State", "perStep", "()I"⟩, 18), (⟨"ThreeMeasures$State", "least", "(LThreeMeasures$Stick;II)I"⟩, 18), (⟨"ThreeMeasures$State", "middle", "(LThreeMeasures$Stick;II)I"⟩, 18), (⟨"ThreeMeasures$Room", "total", "(ILThreeMeasures$Stick;II)I"⟩, 3), (⟨"ThreeMeasures$State", "slack", "(LThreeMeasures$Stick;II)I"⟩, 18), (⟨"ThreeMeasures$State", "most", "(LThreeMeasures$Stick;II)I"⟩, 18), (⟨"ThreeMeasures", "findSurest", "(II)Z"⟩, 10), (⟨"ThreeMeasures", "tellMiddles", "(I)V"⟩, 10), (⟨"ThreeMeasures", "findTwice", "(I)Z"⟩, 10), (⟨"ThreeMeasures", "nearestTimes", "(LThreeMeasures$Stick;I)I"⟩, 10), (⟨"ThreeMeasures", "canBeCorner", "(III)Z"⟩, 10), (⟨"ThreeMeasures", "offAlong", "(I)I"⟩, 10), (⟨"ThreeMeasures", "isAlong", "(II)Z"⟩, 10), (⟨"ThreeMeasures", "isForward", "(I)Z"⟩, 10), (⟨"ThreeMeasures", "shareOf", "(II)I"⟩, 10), (⟨"ThreeMeasures", "bestCut", "(I)I"⟩, 10)]
theorem lw_r2 : ∀ q ∈ lw_privs_2, lw_okq q := List.forall_mem_cons.mpr ⟨lw_p16, List.forall_mem_cons.mpr ⟨lw_p17, List.forall_mem_cons.mpr ⟨lw_p18, List.forall_mem_cons.mpr ⟨lw_p19, List.forall_mem_cons.mpr ⟨lw_p20, List.forall_mem_cons.mpr ⟨lw_p21, List.forall_mem_cons.mpr ⟨lw_p22, List.forall_mem_cons.mpr ⟨lw_p23, List.forall_mem_cons.mpr ⟨lw_p24, List.forall_mem_cons.mpr ⟨lw_p25, List.forall_mem_cons.mpr ⟨lw_p26, List.forall_mem_cons.mpr ⟨lw_p27, List.forall_mem_cons.mpr ⟨lw_p28, List.forall_mem_cons.mpr ⟨lw_p29, List.forall_mem_cons.mpr ⟨lw_p30, List.forall_mem_cons.mpr ⟨lw_p31, fun _ h => absurd h List.not_mem_nil⟩⟩⟩⟩⟩⟩⟩⟩⟩⟩⟩⟩⟩⟩⟩⟩
theorem lw_p32 : lw_okq (⟨"ThreeMeasures", "costOfAll", "(II)J"⟩, 10) := ⟨⟨by decide +kernel, by decide +kernel⟩, List.mem_of_getElem? (i := 23) (by decide +kernel), List.mem_of_getElem? (i := 726) (by decide +kernel), List.mem_of_getElem? (i := 727) (by decide +kernel)⟩
theorem lw_p33 : lw_okq (⟨"ThreeMeasures", "whoseWithout", "(II)I"⟩, 10) := ⟨⟨by decide +kernel, by decide +kernel⟩, List.mem_of_getElem? (i := 23) (by decide +kernel), List.mem_of_getElem? (i := 757) (by decide +kernel), List.mem_of_getElem? (i := 758) (by decide +kernel)⟩
theorem lw_p34 : lw_okq (⟨"ThreeMeasures", "isMarkedBy", "(LThreeMeasures$Stick;II)Z"⟩, 10) := ⟨⟨by decide +kernel, by decide +kernel⟩, List.mem_of_getElem? (i := 23) (by decide +kernel), List.mem_of_getElem? (i := 761) (by decide +kernel), List.mem_of_getElem? (i := 762) (by decide +kernel)⟩
theorem lw_p35 : lw_okq (⟨"ThreeMeasures$Trace", "begin", "(I)V"⟩, 2) := ⟨⟨by decide +kernel, by decide +kernel⟩, List.mem_of_getElem? (i := 145) (by decide +kernel), List.mem_of_getElem? (i := 801) (by decide +kernel), List.mem_of_getElem? (i := 802) (by decide +kernel)⟩
theorem lw_p36 : lw_okq (⟨"ThreeMeasures$State", "become", "(LThreeMeasures$State;)V"⟩, 18) := ⟨⟨by decide +kernel, by decide +kernel⟩, List.mem_of_getElem? (i := 31) (by decide +kernel), List.mem_of_getElem? (i := 880) (by decide +kernel), List.mem_of_getElem? (i := 881) (by decide +kernel)⟩
theorem lw_p37 : lw_okq (⟨"ThreeMeasuresModel", "clauseHere", "()V"⟩, 29) := ⟨⟨by decide +kernel, by decide +kernel⟩, List.mem_of_getElem? (i := 893) (by decide +kernel), List.mem_of_getElem? (i := 998) (by decide +kernel), List.mem_of_getElem? (i := 999) (by decide +kernel)⟩
theorem lw_p38 : lw_okq (⟨"ThreeMeasuresModel", "here", "()I"⟩, 29) := ⟨⟨by decide +kernel, by decide +kernel⟩, List.mem_of_getElem? (i := 893) (by decide +kernel), List.mem_of_getElem? (i := 1002) (by decide +kernel), List.mem_of_getElem? (i := 1003) (by decide +kernel)⟩
theorem lw_p39 : lw_okq (⟨"ThreeMeasuresModel", "tellsHere", "(ILjava/lang/String;)V"⟩, 29) := ⟨⟨by decide +kernel, by decide +kernel⟩, List.mem_of_getElem? (i := 893) (by decide +kernel), List.mem_of_getElem? (i := 1007) (by decide +kernel), List.mem_of_getElem? (i := 1008) (by decide +kernel)⟩
theorem lw_p40 : lw_okq (⟨"ThreeMeasuresModel", "spells", "(Ljava/lang/String;)V"⟩, 29) := ⟨⟨by decide +kernel, by decide +kernel⟩, List.mem_of_getElem? (i := 893) (by decide +kernel), List.mem_of_getElem? (i := 1011) (by decide +kernel), List.mem_of_getElem? (i := 1012) (by decide +kernel)⟩
theorem lw_p41 : lw_okq (⟨"ThreeMeasuresModel", "must", "(I)V"⟩, 29) := ⟨⟨by decide +kernel, by decide +kernel⟩, List.mem_of_getElem? (i := 893) (by decide +kernel), List.mem_of_getElem? (i := 1017) (by decide +kernel), List.mem_of_getElem? (i := 1018) (by decide +kernel)⟩
theorem lw_p42 : lw_okq (⟨"ThreeMeasuresModel", "figures", "()I"⟩, 29) := ⟨⟨by decide +kernel, by decide +kernel⟩, List.mem_of_getElem? (i := 893) (by decide +kernel), List.mem_of_getElem? (i := 1021) (by decide +kernel), List.mem_of_getElem? (i := 1022) (by decide +kernel)⟩
theorem lw_p43 : lw_okq (⟨"ThreeMeasuresModel", "much", "(ILjava/lang/String;)V"⟩, 29) := ⟨⟨by decide +kernel, by decide +kernel⟩, List.mem_of_getElem? (i := 893) (by decide +kernel), List.mem_of_getElem? (i := 1027) (by decide +kernel), List.mem_of_getElem? (i := 1028) (by decide +kernel)⟩
theorem lw_p44 : lw_okq (⟨"ThreeMeasuresModel", "some", "()V"⟩, 29) := ⟨⟨by decide +kernel, by decide +kernel⟩, List.mem_of_getElem? (i := 893) (by decide +kernel), List.mem_of_getElem? (i := 1031) (by decide +kernel), List.mem_of_getElem? (i := 1032) (by decide +kernel)⟩
theorem lw_p45 : lw_okq (⟨"ThreeMeasuresModel", "every", "()V"⟩, 29) := ⟨⟨by decide +kernel, by decide +kernel⟩, List.mem_of_getElem? (i := 893) (by decide +kernel), List.mem_of_getElem? (i := 1035) (by decide +kernel), List.mem_of_getElem? (i := 1036) (by decide +kernel)⟩
theorem lw_p46 : lw_okq (⟨"ThreeMeasuresModel", "factor", "()V"⟩, 29) := ⟨⟨by decide +kernel, by decide +kernel⟩, List.mem_of_getElem? (i := 893) (by decide +kernel), List.mem_of_getElem? (i := 1039) (by decide +kernel), List.mem_of_getElem? (i := 1040) (by decide +kernel)⟩
theorem lw_p47 : lw_okq (⟨"ThreeMeasuresModel", "emits", "(I)V"⟩, 29) := ⟨⟨by decide +kernel, by decide +kernel⟩, List.mem_of_getElem? (i := 893) (by decide +kernel), List.mem_of_getElem? (i := 1043) (by decide +kernel), List.mem_of_getElem? (i := 1044) (by decide +kernel)⟩
def lw_privs_3 : List (MethodName × Nat) := [(⟨"ThreeMeasures", "costOfAll", "(II)J"⟩, 10), (⟨"ThreeMeasures", "whoseWithout", "(II)I"⟩, 10), (⟨"ThreeMeasures", "isMarkedBy", "(LThreeMeasures$Stick;II)Z"⟩, 10), (⟨"ThreeMeasures$Trace", "begin", "(I)V"⟩, 2), (⟨"ThreeMeasures$State", "become", "(LThreeMeasures$State;)V"⟩, 18), (⟨"ThreeMeasuresModel", "clauseHere", "()V"⟩, 29), (⟨"ThreeMeasuresModel", "here", "()I"⟩, 29), (⟨"ThreeMeasuresModel", "tellsHere", "(ILjava/lang/String;)V"⟩, 29), (⟨"ThreeMeasuresModel", "spells", "(Ljava/lang/String;)V"⟩, 29), (⟨"ThreeMeasuresModel", "must", "(I)V"⟩, 29), (⟨"ThreeMeasuresModel", "figures", "()I"⟩, 29), (⟨"ThreeMeasuresModel", "much", "(ILjava/lang/String;)V"⟩, 29), (⟨"ThreeMeasuresModel", "some", "()V"⟩, 29), (⟨"ThreeMeasuresModel", "every", "()V"⟩, 29), (⟨"ThreeMeasuresModel", "factor", "()V"⟩, 29), (⟨"ThreeMeasuresModel", "emits", "(I)V"⟩, 29)]
theorem lw_r3 : ∀ q ∈ lw_privs_3, lw_okq q := List.forall_mem_cons.mpr ⟨lw_p32, List.forall_mem_cons.mpr ⟨lw_p33, List.forall_mem_cons.mpr ⟨lw_p34, List.forall_mem_cons.mpr ⟨lw_p35, List.forall_mem_cons.mpr ⟨lw_p36, List.forall_mem_cons.mpr ⟨lw_p37, List.forall_mem_cons.mpr ⟨lw_p38, List.forall_mem_cons.mpr ⟨lw_p39, List.forall_mem_cons.mpr ⟨lw_p40, List.forall_mem_cons.mpr ⟨lw_p41, List.forall_mem_cons.mpr ⟨lw_p42, List.forall_mem_cons.mpr ⟨lw_p43, List.forall_mem_cons.mpr ⟨lw_p44, List.forall_mem_cons.mpr ⟨lw_p45, List.forall_mem_cons.mpr ⟨lw_p46, List.forall_mem_cons.mpr ⟨lw_p47, fun _ h => absurd h List.not_mem_nil⟩⟩⟩⟩⟩⟩⟩⟩⟩⟩⟩⟩⟩⟩⟩⟩
theorem lw_p48 : lw_okq (⟨"ThreeMeasuresModel", "among", "(Ljava/lang/String;)I"⟩, 29) := ⟨⟨by decide +kernel, by decide +kernel⟩, List.mem_of_getElem? (i := 893) (by decide +kernel), List.mem_of_getElem? (i := 1048) (by decide +kernel), List.mem_of_getElem? (i := 1049) (by decide +kernel)⟩
theorem lw_p49 : lw_okq (⟨"ThreeMeasuresModel", "isStick", "(I)Z"⟩, 29) := ⟨⟨by decide +kernel, by decide +kernel⟩, List.mem_of_getElem? (i := 893) (by decide +kernel), List.mem_of_getElem? (i := 1062) (by decide +kernel), List.mem_of_getElem? (i := 1063) (by decide +kernel)⟩
theorem lw_p50 : lw_okq (⟨"ThreeMeasuresModel", "isWall", "(I)Z"⟩, 29) := ⟨⟨by decide +kernel, by decide +kernel⟩, List.mem_of_getElem? (i := 893) (by decide +kernel), List.mem_of_getElem? (i := 1078) (by decide +kernel), List.mem_of_getElem? (i := 1079) (by decide +kernel)⟩
theorem lw_p51 : lw_okq (⟨"ThreeMeasuresModel", "gapOf", "(I)I"⟩, 29) := ⟨⟨by decide +kernel, by decide +kernel⟩, List.mem_of_getElem? (i := 893) (by decide +kernel), List.mem_of_getElem? (i := 1082) (by decide +kernel), List.mem_of_getElem? (i := 1083) (by decide +kernel)⟩
theorem lw_p52 : lw_okq (⟨"ThreeMeasuresModel", "tellsOf", "(II)I"⟩, 29) := ⟨⟨by decide +kernel, by decide +kernel⟩, List.mem_of_getElem? (i := 893) (by decide +kernel), List.mem_of_getElem? (i := 1094) (by decide +kernel), List.mem_of_getElem? (i := 1095) (by decide +kernel)⟩
theorem lw_p53 : lw_okq (⟨"ThreeMeasuresModel", "sets", "(III)V"⟩, 29) := ⟨⟨by decide +kernel, by decide +kernel⟩, List.mem_of_getElem? (i := 893) (by decide +kernel), List.mem_of_getElem? (i := 1102) (by decide +kernel), List.mem_of_getElem? (i := 1103) (by decide +kernel)⟩
theorem lw_p54 : lw_okq (⟨"ThreeMeasuresModel", "looks", "(III)V"⟩, 29) := ⟨⟨by decide +kernel, by decide +kernel⟩, List.mem_of_getElem? (i := 893) (by decide +kernel), List.mem_of_getElem? (i := 1106) (by decide +kernel), List.mem_of_getElem? (i := 1107) (by decide +kernel)⟩
theorem lw_p55 : lw_okq (⟨"ThreeMeasuresModel", "triesTwice", "(IIIII)V"⟩, 29) := ⟨⟨by decide +kernel, by decide +kernel⟩, List.mem_of_getElem? (i := 893) (by decide +kernel), List.mem_of_getElem? (i := 1128) (by decide +kernel), List.mem_of_getElem? (i := 1129) (by decide +kernel)⟩
theorem lw_p56 : lw_okq (⟨"ThreeMeasuresModel", "hasSquare", "(III)Z"⟩, 29) := ⟨⟨by decide +kernel, by decide +kernel⟩, List.mem_of_getElem? (i := 893) (by decide +kernel), List.mem_of_getElem? (i := 1141) (by decide +kernel), List.mem_of_getElem? (i := 1142) (by decide +kernel)⟩
theorem lw_p57 : lw_okq (⟨"ThreeMeasuresModel", "isOne", "(I)Z"⟩, 29) := ⟨⟨by decide +kernel, by decide +kernel⟩, List.mem_of_getElem? (i := 893) (by decide +kernel), List.mem_of_getElem? (i := 1145) (by decide +kernel), List.mem_of_getElem? (i := 1146) (by decide +kernel)⟩
theorem lw_p58 : lw_okq (⟨"ThreeMeasuresModel", "offAlong", "(I)I"⟩, 29) := ⟨⟨by decide +kernel, by decide +kernel⟩, List.mem_of_getElem? (i := 893) (by decide +kernel), List.mem_of_getElem? (i := 1157) (by decide +kernel), List.mem_of_getElem? (i := 1158) (by decide +kernel)⟩
theorem lw_p59 : lw_okq (⟨"ThreeMeasuresModel", "bestCut", "(I)I"⟩, 29) := ⟨⟨by decide +kernel, by decide +kernel⟩, List.mem_of_getElem? (i := 893) (by decide +kernel), List.mem_of_getElem? (i := 1169) (by decide +kernel), List.mem_of_getElem? (i := 1170) (by decide +kernel)⟩
theorem lw_p60 : lw_okq (⟨"ThreeMeasuresModel", "costOf", "(II)I"⟩, 29) := ⟨⟨by decide +kernel, by decide +kernel⟩, List.mem_of_getElem? (i := 893) (by decide +kernel), List.mem_of_getElem? (i := 1174) (by decide +kernel), List.mem_of_getElem? (i := 1175) (by decide +kernel)⟩
theorem lw_p61 : lw_okq (⟨"ThreeMeasuresModel", "comes", "(II)V"⟩, 29) := ⟨⟨by decide +kernel, by decide +kernel⟩, List.mem_of_getElem? (i := 893) (by decide +kernel), List.mem_of_getElem? (i := 1190) (by decide +kernel), List.mem_of_getElem? (i := 1191) (by decide +kernel)⟩
theorem lw_p62 : lw_okq (⟨"ThreeMeasuresModel", "whoseBut", "(II)I"⟩, 29) := ⟨⟨by decide +kernel, by decide +kernel⟩, List.mem_of_getElem? (i := 893) (by decide +kernel), List.mem_of_getElem? (i := 1202) (by decide +kernel), List.mem_of_getElem? (i := 1203) (by decide +kernel)⟩
theorem lw_p63 : lw_okq (⟨"ThreeMeasuresModel", "setsActs", "(I)I"⟩, 29) := ⟨⟨by decide +kernel, by decide +kernel⟩, List.mem_of_getElem? (i := 893) (by decide +kernel), List.mem_of_getElem? (i := 1235) (by decide +kernel), List.mem_of_getElem? (i := 1236) (by decide +kernel)⟩
def lw_privs_4 : List (MethodName × Nat) := [(⟨"ThreeMeasuresModel", "among", "(Ljava/lang/String;)I"⟩, 29), (⟨"ThreeMeasuresModel", "isStick", "(I)Z"⟩, 29), (⟨"ThreeMeasuresModel", "isWall", "(I)Z"⟩, 29), (⟨"ThreeMeasuresModel", "gapOf", "(I)I"⟩, 29), (⟨"ThreeMeasuresModel", "tellsOf", "(II)I"⟩, 29), (⟨"ThreeMeasuresModel", "sets", "(III)V"⟩, 29), (⟨"ThreeMeasuresModel", "looks", "(III)V"⟩, 29), (⟨"ThreeMeasuresModel", "triesTwice", "(IIIII)V"⟩, 29), (⟨"ThreeMeasuresModel", "hasSquare", "(III)Z"⟩, 29), (⟨"ThreeMeasuresModel", "isOne", "(I)Z"⟩, 29), (⟨"ThreeMeasuresModel", "offAlong", "(I)I"⟩, 29), (⟨"ThreeMeasuresModel", "bestCut", "(I)I"⟩, 29), (⟨"ThreeMeasuresModel", "costOf", "(II)I"⟩, 29), (⟨"ThreeMeasuresModel", "comes", "(II)V"⟩, 29), (⟨"ThreeMeasuresModel", "whoseBut", "(II)I"⟩, 29), (⟨"ThreeMeasuresModel", "setsActs", "(I)I"⟩, 29)]
theorem lw_r4 : ∀ q ∈ lw_privs_4, lw_okq q := List.forall_mem_cons.mpr ⟨lw_p48, List.forall_mem_cons.mpr ⟨lw_p49, List.forall_mem_cons.mpr ⟨lw_p50, List.forall_mem_cons.mpr ⟨lw_p51, List.forall_mem_cons.mpr ⟨lw_p52, List.forall_mem_cons.mpr ⟨lw_p53, List.forall_mem_cons.mpr ⟨lw_p54, List.forall_mem_cons.mpr ⟨lw_p55, List.forall_mem_cons.mpr ⟨lw_p56, List.forall_mem_cons.mpr ⟨lw_p57, List.forall_mem_cons.mpr ⟨lw_p58, List.forall_mem_cons.mpr ⟨lw_p59, List.forall_mem_cons.mpr ⟨lw_p60, List.forall_mem_cons.mpr ⟨lw_p61, List.forall_mem_cons.mpr ⟨lw_p62, List.forall_mem_cons.mpr ⟨lw_p63, fun _ h => absurd h List.not_mem_nil⟩⟩⟩⟩⟩⟩⟩⟩⟩⟩⟩⟩⟩⟩⟩⟩
theorem lw_p64 : lw_okq (⟨"ThreeMeasuresModel", "ranBody", "(I)V"⟩, 29) := ⟨⟨by decide +kernel, by decide +kernel⟩, List.mem_of_getElem? (i := 893) (by decide +kernel), List.mem_of_getElem? (i := 1242) (by decide +kernel), List.mem_of_getElem? (i := 1243) (by decide +kernel)⟩
theorem lw_p65 : lw_okq (⟨"ThreeMeasuresModel", "plainSets", "(I)I"⟩, 29) := ⟨⟨by decide +kernel, by decide +kernel⟩, List.mem_of_getElem? (i := 893) (by decide +kernel), List.mem_of_getElem? (i := 1246) (by decide +kernel), List.mem_of_getElem? (i := 1247) (by decide +kernel)⟩
theorem lw_p66 : lw_okq (⟨"ThreeMeasuresModel", "readsActs", "(I)I"⟩, 29) := ⟨⟨by decide +kernel, by decide +kernel⟩, List.mem_of_getElem? (i := 893) (by decide +kernel), List.mem_of_getElem? (i := 1250) (by decide +kernel), List.mem_of_getElem? (i := 1251) (by decide +kernel)⟩
theorem lw_p67 : lw_okq (⟨"ThreeMeasuresModel", "plainReads", "(I)I"⟩, 29) := ⟨⟨by decide +kernel, by decide +kernel⟩, List.mem_of_getElem? (i := 893) (by decide +kernel), List.mem_of_getElem? (i := 1254) (by decide +kernel), List.mem_of_getElem? (i := 1255) (by decide +kernel)⟩
theorem lw_p68 : lw_okq (⟨"ThreeMeasuresModel", "tellsActs", "(I)I"⟩, 29) := ⟨⟨by decide +kernel, by decide +kernel⟩, List.mem_of_getElem? (i := 893) (by decide +kernel), List.mem_of_getElem? (i := 1258) (by decide +kernel), List.mem_of_getElem? (i := 1259) (by decide +kernel)⟩
theorem lw_p69 : lw_okq (⟨"ThreeMeasuresModel", "plainTells", "(I)I"⟩, 29) := ⟨⟨by decide +kernel, by decide +kernel⟩, List.mem_of_getElem? (i := 893) (by decide +kernel), List.mem_of_getElem? (i := 1262) (by decide +kernel), List.mem_of_getElem? (i := 1263) (by decide +kernel)⟩
def lw_privs_5 : List (MethodName × Nat) := [(⟨"ThreeMeasuresModel", "ranBody", "(I)V"⟩, 29), (⟨"ThreeMeasuresModel", "plainSets", "(I)I"⟩, 29), (⟨"ThreeMeasuresModel", "readsActs", "(I)I"⟩, 29), (⟨"ThreeMeasuresModel", "plainReads", "(I)I"⟩, 29), (⟨"ThreeMeasuresModel", "tellsActs", "(I)I"⟩, 29), (⟨"ThreeMeasuresModel", "plainTells", "(I)I"⟩, 29)]
theorem lw_r5 : ∀ q ∈ lw_privs_5, lw_okq q := List.forall_mem_cons.mpr ⟨lw_p64, List.forall_mem_cons.mpr ⟨lw_p65, List.forall_mem_cons.mpr ⟨lw_p66, List.forall_mem_cons.mpr ⟨lw_p67, List.forall_mem_cons.mpr ⟨lw_p68, List.forall_mem_cons.mpr ⟨lw_p69, fun _ h => absurd h List.not_mem_nil⟩⟩⟩⟩⟩⟩
def lw_privs : List (MethodName × Nat) := lw_privs_1 ++ (lw_privs_2 ++ (lw_privs_3 ++ (lw_privs_4 ++ (lw_privs_5))))
def lw_tbl : List Cond := k2_sels lw_privs ++ tables_1
theorem lw_privs_ok : ∀ q ∈ lw_privs, lw_okq q := by
  show ∀ q ∈ lw_privs_1 ++ (lw_privs_2 ++ (lw_privs_3 ++ (lw_privs_4 ++ (lw_privs_5)))), lw_okq q
  exact List.forall_mem_append.mpr ⟨lw_r1, List.forall_mem_append.mpr ⟨lw_r2, List.forall_mem_append.mpr ⟨lw_r3, List.forall_mem_append.mpr ⟨lw_r4, lw_r5⟩⟩⟩⟩

def RX0 : String := "ThreeMeasures$Pace"
def TX0 : u_T := fun k => match k with
  | 0 => ("ThreeMeasures$Stick", "number", "I", true)
  | 1 => ("ThreeMeasures$Stick", "kind", "I", true)
  | 2 => ("ThreeMeasures$Stick", "v", "I", true)
  | _ => ("ThreeMeasures$Stick", "length", "I", true)
def tyX0 : Nat → FieldType := fun k => match k with
  | 0 => .int
  | 1 => .int
  | 2 => .int
  | _ => .int
abbrev wsX00 : List Cond := u_ws RX0 TX0 4
theorem nmX0 : ∀ a, a < 4 → ∀ b, b < 4 → a ≠ b → (TX0 a).2.1 ≠ (TX0 b).2.1 := by decide +kernel
theorem tyX0_ok : ∀ k, k < 4 → parseFieldDescriptor (TX0 k).2.2.1 = some (tyX0 k) := by decide +kernel
abbrev cX0_init : ByteArray := prog_2_method_1_code
def yX0_init : MethodName := ⟨RX0, "<init>", "(IIII)V"⟩
abbrev cX0_slack : ByteArray := prog_2_method_2_code
def yX0_slack : MethodName := ⟨RX0, "slack", "(I)I"⟩
abbrev cX0_tells : ByteArray := prog_2_method_3_code
def yX0_tells : MethodName := ⟨RX0, "tells", "(ILThreeMeasures$Trace;)I"⟩
def RX1 : String := "ThreeMeasures$Reader"
def TX1 : u_T := fun k => match k with
  | 0 => ("ThreeMeasures$Reader", "code", "[I", true)
  | 1 => ("ThreeMeasures$Reader", "codeSize", "I", false)
  | 2 => ("ThreeMeasures$Reader", "text", "[I", false)
  | 3 => ("ThreeMeasures$Reader", "size", "I", false)
  | 4 => ("ThreeMeasures$Reader", "place", "I", false)
  | 5 => ("ThreeMeasures$Reader", "number", "I", false)
  | 6 => ("ThreeMeasures$Reader", "board", "I", false)
  | _ => ("ThreeMeasures$Reader", "perStep", "I", false)
def tyX1 : Nat → FieldType := fun k => match k with
  | 0 => .array .int
  | 1 => .int
  | 2 => .array .int
  | 3 => .int
  | 4 => .int
  | 5 => .int
  | 6 => .int
  | _ => .int
abbrev wsX10 : List Cond := u_ws RX1 TX1 8
theorem nmX1 : ∀ a, a < 8 → ∀ b, b < 8 → a ≠ b → (TX1 a).2.1 ≠ (TX1 b).2.1 := by decide +kernel
theorem tyX1_ok : ∀ k, k < 8 → parseFieldDescriptor (TX1 k).2.2.1 = some (tyX1 k) := by decide +kernel
abbrev cX1_init : ByteArray := prog_3_method_1_code
def yX1_init : MethodName := ⟨RX1, "<init>", "()V"⟩
abbrev cX1_read : ByteArray := prog_3_method_2_code
def yX1_read : MethodName := ⟨RX1, "read", "([II)LThreeMeasures$Room;"⟩
abbrev cX1_next : ByteArray := prog_3_method_3_code
def yX1_next : MethodName := ⟨RX1, "next", "()C"⟩
abbrev cX1_takes : ByteArray := prog_3_method_4_code
def yX1_takes : MethodName := ⟨RX1, "takes", "(C)Z"⟩
abbrev cX1_emit : ByteArray := prog_3_method_5_code
def yX1_emit : MethodName := ⟨RX1, "emit", "(II)V"⟩
abbrev cX1_takesClause : ByteArray := prog_3_method_6_code
def yX1_takesClause : MethodName := ⟨RX1, "takesClause", "()Z"⟩
abbrev cX1_wordOf : ByteArray := prog_3_method_7_code
def yX1_wordOf : MethodName := ⟨RX1, "wordOf", "(C)Ljava/lang/String;"⟩
abbrev cX1_takesWordAndNumber : ByteArray := prog_3_method_8_code
def yX1_takesWordAndNumber : MethodName := ⟨RX1, "takesWordAndNumber", "(Ljava/lang/String;)Z"⟩
abbrev cX1_takesNumber : ByteArray := prog_3_method_9_code
def yX1_takesNumber : MethodName := ⟨RX1, "takesNumber", "()Z"⟩
abbrev cX1_takesEither : ByteArray := prog_3_method_10_code
def yX1_takesEither : MethodName := ⟨RX1, "takesEither", "(I)Z"⟩
abbrev cX1_takesFactor : ByteArray := prog_3_method_11_code
def yX1_takesFactor : MethodName := ⟨RX1, "takesFactor", "(I)Z"⟩
abbrev cX1_takesTest : ByteArray := prog_3_method_12_code
def yX1_takesTest : MethodName := ⟨RX1, "takesTest", "()Z"⟩
def RX2 : String := "ThreeMeasures$Room"
def TX2 : u_T := fun k => match k with
  | 0 => ("ThreeMeasures$Room", "board", "I", true)
  | 1 => ("ThreeMeasures$Room", "perStep", "I", true)
  | _ => ("ThreeMeasures$Room", "code", "[I", true)
def tyX2 : Nat → FieldType := fun k => match k with
  | 0 => .int
  | 1 => .int
  | _ => .array .int
abbrev wsX20 : List Cond := u_ws RX2 TX2 3
theorem nmX2 : ∀ a, a < 3 → ∀ b, b < 3 → a ≠ b → (TX2 a).2.1 ≠ (TX2 b).2.1 := by decide +kernel
theorem tyX2_ok : ∀ k, k < 3 → parseFieldDescriptor (TX2 k).2.2.1 = some (tyX2 k) := by decide +kernel
abbrev cX2_init : ByteArray := prog_4_method_1_code
def yX2_init : MethodName := ⟨RX2, "<init>", "(II[I)V"⟩
abbrev cX2_total : ByteArray := prog_4_method_2_code
def yX2_total : MethodName := ⟨RX2, "total", "(ILThreeMeasures$Stick;II)I"⟩
abbrev cX2_packed : ByteArray := prog_4_method_3_code
def yX2_packed : MethodName := ⟨RX2, "packed", "(III)I"⟩
abbrev cX2_holds : ByteArray := prog_4_method_4_code
def yX2_holds : MethodName := ⟨RX2, "holds", "(ILThreeMeasures$Stick;II)Z"⟩
def RX3 : String := "ThreeMeasures$Sagging"
def TX3 : u_T := fun k => match k with
  | 0 => ("ThreeMeasures$Stick", "number", "I", true)
  | 1 => ("ThreeMeasures$Stick", "kind", "I", true)
  | 2 => ("ThreeMeasures$Stick", "v", "I", true)
  | _ => ("ThreeMeasures$Stick", "length", "I", true)
def tyX3 : Nat → FieldType := fun k => match k with
  | 0 => .int
  | 1 => .int
  | 2 => .int
  | _ => .int
abbrev wsX30 : List Cond := u_ws RX3 TX3 4
theorem nmX3 : ∀ a, a < 4 → ∀ b, b < 4 → a ≠ b → (TX3 a).2.1 ≠ (TX3 b).2.1 := by decide +kernel
theorem tyX3_ok : ∀ k, k < 4 → parseFieldDescriptor (TX3 k).2.2.1 = some (tyX3 k) := by decide +kernel
abbrev cX3_init : ByteArray := prog_5_method_1_code
def yX3_init : MethodName := ⟨RX3, "<init>", "(III)V"⟩
abbrev cX3_middle : ByteArray := prog_5_method_2_code
def yX3_middle : MethodName := ⟨RX3, "middle", "(II)I"⟩
abbrev cX3_sets : ByteArray := prog_5_method_3_code
def yX3_sets : MethodName := ⟨RX3, "sets", "(ILThreeMeasures$Trace;)I"⟩
def RX4 : String := "ThreeMeasures$Slipping"
def TX4 : u_T := fun k => match k with
  | 0 => ("ThreeMeasures$Stick", "number", "I", true)
  | 1 => ("ThreeMeasures$Stick", "kind", "I", true)
  | 2 => ("ThreeMeasures$Stick", "v", "I", true)
  | _ => ("ThreeMeasures$Stick", "length", "I", true)
def tyX4 : Nat → FieldType := fun k => match k with
  | 0 => .int
  | 1 => .int
  | 2 => .int
  | _ => .int
abbrev wsX40 : List Cond := u_ws RX4 TX4 4
theorem nmX4 : ∀ a, a < 4 → ∀ b, b < 4 → a ≠ b → (TX4 a).2.1 ≠ (TX4 b).2.1 := by decide +kernel
theorem tyX4_ok : ∀ k, k < 4 → parseFieldDescriptor (TX4 k).2.2.1 = some (tyX4 k) := by decide +kernel
abbrev cX4_init : ByteArray := prog_6_method_1_code
def yX4_init : MethodName := ⟨RX4, "<init>", "(III)V"⟩
abbrev cX4_slack : ByteArray := prog_6_method_2_code
def yX4_slack : MethodName := ⟨RX4, "slack", "(I)I"⟩
abbrev cX4_tells : ByteArray := prog_6_method_3_code
def yX4_tells : MethodName := ⟨RX4, "tells", "(ILThreeMeasures$Trace;)I"⟩
def RX5 : String := "ThreeMeasures$State"
def TX5 : u_T := fun k => match k with
  | 0 => ("ThreeMeasures$State", "signs", "[I", true)
  | 1 => ("ThreeMeasures$State", "signCount", "I", false)
  | 2 => ("ThreeMeasures$State", "holding", "LThreeMeasures$Room;", false)
  | 3 => ("ThreeMeasures$State", "roomCount", "I", false)
  | 4 => ("ThreeMeasures$State", "sticks", "[LThreeMeasures$Stick;", true)
  | 5 => ("ThreeMeasures$State", "stickCount", "I", false)
  | 6 => ("ThreeMeasures$State", "lows", "[I", true)
  | 7 => ("ThreeMeasures$State", "highs", "[I", true)
  | 8 => ("ThreeMeasures$State", "wallCount", "I", false)
  | 9 => ("ThreeMeasures$State", "goes", "I", false)
  | 10 => ("ThreeMeasures$State", "stepWays", "[I", true)
  | 11 => ("ThreeMeasures$State", "stepLengths", "[I", true)
  | 12 => ("ThreeMeasures$State", "stepCount", "I", false)
  | 13 => ("ThreeMeasures$State", "marks", "[I", true)
  | 14 => ("ThreeMeasures$State", "markCount", "I", false)
  | 15 => ("ThreeMeasures$State", "rowWalls", "[I", true)
  | 16 => ("ThreeMeasures$State", "rowLengths", "[I", true)
  | _ => ("ThreeMeasures$State", "rowCount", "I", false)
def tyX5 : Nat → FieldType := fun k => match k with
  | 0 => .array .int
  | 1 => .int
  | 2 => .object "ThreeMeasures$Room"
  | 3 => .int
  | 4 => .array (.object "ThreeMeasures$Stick")
  | 5 => .int
  | 6 => .array .int
  | 7 => .array .int
  | 8 => .int
  | 9 => .int
  | 10 => .array .int
  | 11 => .array .int
  | 12 => .int
  | 13 => .array .int
  | 14 => .int
  | 15 => .array .int
  | 16 => .array .int
  | _ => .int
abbrev wsX50 : List Cond := u_ws RX5 TX5 18
theorem nmX5 : ∀ a, a < 18 → ∀ b, b < 18 → a ≠ b → (TX5 a).2.1 ≠ (TX5 b).2.1 := by decide +kernel
theorem tyX5_ok : ∀ k, k < 18 → parseFieldDescriptor (TX5 k).2.2.1 = some (tyX5 k) := by decide +kernel
abbrev cX5_init : ByteArray := prog_7_method_1_code
def yX5_init : MethodName := ⟨RX5, "<init>", "()V"⟩
abbrev cX5_become : ByteArray := prog_7_method_2_code
def yX5_become : MethodName := ⟨RX5, "become", "(LThreeMeasures$State;)V"⟩
abbrev cX5_isWall : ByteArray := prog_7_method_3_code
def yX5_isWall : MethodName := ⟨RX5, "isWall", "(I)Z"⟩
abbrev cX5_stickAt : ByteArray := prog_7_method_4_code
def yX5_stickAt : MethodName := ⟨RX5, "stickAt", "(I)LThreeMeasures$Stick;"⟩
abbrev cX5_gap : ByteArray := prog_7_method_5_code
def yX5_gap : MethodName := ⟨RX5, "gap", "(I)I"⟩
abbrev cX5_board : ByteArray := prog_7_method_6_code
def yX5_board : MethodName := ⟨RX5, "board", "()I"⟩
abbrev cX5_perStep : ByteArray := prog_7_method_7_code
def yX5_perStep : MethodName := ⟨RX5, "perStep", "()I"⟩
abbrev cX5_middle : ByteArray := prog_7_method_8_code
def yX5_middle : MethodName := ⟨RX5, "middle", "(LThreeMeasures$Stick;II)I"⟩
abbrev cX5_slack : ByteArray := prog_7_method_9_code
def yX5_slack : MethodName := ⟨RX5, "slack", "(LThreeMeasures$Stick;II)I"⟩
abbrev cX5_least : ByteArray := prog_7_method_10_code
def yX5_least : MethodName := ⟨RX5, "least", "(LThreeMeasures$Stick;II)I"⟩
abbrev cX5_most : ByteArray := prog_7_method_11_code
def yX5_most : MethodName := ⟨RX5, "most", "(LThreeMeasures$Stick;II)I"⟩
def RX6 : String := "ThreeMeasures$Stick"
def TX6 : u_T := fun k => match k with
  | 0 => ("ThreeMeasures$Stick", "number", "I", true)
  | 1 => ("ThreeMeasures$Stick", "kind", "I", true)
  | 2 => ("ThreeMeasures$Stick", "v", "I", true)
  | _ => ("ThreeMeasures$Stick", "length", "I", true)
def tyX6 : Nat → FieldType := fun k => match k with
  | 0 => .int
  | 1 => .int
  | 2 => .int
  | _ => .int
abbrev wsX60 : List Cond := u_ws RX6 TX6 4
theorem nmX6 : ∀ a, a < 4 → ∀ b, b < 4 → a ≠ b → (TX6 a).2.1 ≠ (TX6 b).2.1 := by decide +kernel
theorem tyX6_ok : ∀ k, k < 4 → parseFieldDescriptor (TX6 k).2.2.1 = some (tyX6 k) := by decide +kernel
abbrev cX6_init : ByteArray := prog_8_method_1_code
def yX6_init : MethodName := ⟨RX6, "<init>", "(IIII)V"⟩
abbrev cX6_middle : ByteArray := prog_8_method_2_code
def yX6_middle : MethodName := ⟨RX6, "middle", "(II)I"⟩
abbrev cX6_slack : ByteArray := prog_8_method_3_code
def yX6_slack : MethodName := ⟨RX6, "slack", "(I)I"⟩
abbrev cX6_sets : ByteArray := prog_8_method_4_code
def yX6_sets : MethodName := ⟨RX6, "sets", "(ILThreeMeasures$Trace;)I"⟩
abbrev cX6_reads : ByteArray := prog_8_method_5_code
def yX6_reads : MethodName := ⟨RX6, "reads", "(ILThreeMeasures$Trace;)I"⟩
abbrev cX6_tells : ByteArray := prog_8_method_6_code
def yX6_tells : MethodName := ⟨RX6, "tells", "(ILThreeMeasures$Trace;)I"⟩
def RX7 : String := "ThreeMeasures$Tape"
def TX7 : u_T := fun k => match k with
  | 0 => ("ThreeMeasures$Stick", "number", "I", true)
  | 1 => ("ThreeMeasures$Stick", "kind", "I", true)
  | 2 => ("ThreeMeasures$Stick", "v", "I", true)
  | _ => ("ThreeMeasures$Stick", "length", "I", true)
def tyX7 : Nat → FieldType := fun k => match k with
  | 0 => .int
  | 1 => .int
  | 2 => .int
  | _ => .int
abbrev wsX70 : List Cond := u_ws RX7 TX7 4
theorem nmX7 : ∀ a, a < 4 → ∀ b, b < 4 → a ≠ b → (TX7 a).2.1 ≠ (TX7 b).2.1 := by decide +kernel
theorem tyX7_ok : ∀ k, k < 4 → parseFieldDescriptor (TX7 k).2.2.1 = some (tyX7 k) := by decide +kernel
abbrev cX7_init : ByteArray := prog_9_method_1_code
def yX7_init : MethodName := ⟨RX7, "<init>", "(IIII)V"⟩
abbrev cX7_middle : ByteArray := prog_9_method_2_code
def yX7_middle : MethodName := ⟨RX7, "middle", "(II)I"⟩
abbrev cX7_reads : ByteArray := prog_9_method_3_code
def yX7_reads : MethodName := ⟨RX7, "reads", "(ILThreeMeasures$Trace;)I"⟩
def RX8 : String := "ThreeMeasures$Told"
def TX8 : u_T := fun k => match k with
  | 0 => ("ThreeMeasures$Stick", "number", "I", true)
  | 1 => ("ThreeMeasures$Stick", "kind", "I", true)
  | 2 => ("ThreeMeasures$Stick", "v", "I", true)
  | 3 => ("ThreeMeasures$Stick", "length", "I", true)
  | _ => ("ThreeMeasures$Told", "mores", "[I", true)
def tyX8 : Nat → FieldType := fun k => match k with
  | 0 => .int
  | 1 => .int
  | 2 => .int
  | 3 => .int
  | _ => .array .int
abbrev wsX80 : List Cond := u_ws RX8 TX8 5
theorem nmX8 : ∀ a, a < 5 → ∀ b, b < 5 → a ≠ b → (TX8 a).2.1 ≠ (TX8 b).2.1 := by decide +kernel
theorem tyX8_ok : ∀ k, k < 5 → parseFieldDescriptor (TX8 k).2.2.1 = some (tyX8 k) := by decide +kernel
abbrev cX8_init : ByteArray := prog_10_method_1_code
def yX8_init : MethodName := ⟨RX8, "<init>", "(III)V"⟩
abbrev cX8_init_ : ByteArray := prog_10_method_2_code
def yX8_init_ : MethodName := ⟨RX8, "<init>", "(LThreeMeasures$Told;II)V"⟩
abbrev cX8_changed : ByteArray := prog_10_method_3_code
def yX8_changed : MethodName := ⟨RX8, "changed", "(II)LThreeMeasures$Told;"⟩
abbrev cX8_more : ByteArray := prog_10_method_4_code
def yX8_more : MethodName := ⟨RX8, "more", "(I)I"⟩
abbrev cX8_middle : ByteArray := prog_10_method_5_code
def yX8_middle : MethodName := ⟨RX8, "middle", "(II)I"⟩
abbrev cX8_reads : ByteArray := prog_10_method_6_code
def yX8_reads : MethodName := ⟨RX8, "reads", "(ILThreeMeasures$Trace;)I"⟩
def RX9 : String := "ThreeMeasures$Trace"
def TX9 : u_T := fun k => match k with
  | 0 => ("ThreeMeasures$Trace", "numbers", "[I", true)
  | _ => ("ThreeMeasures$Trace", "ran", "I", false)
def tyX9 : Nat → FieldType := fun k => match k with
  | 0 => .array .int
  | _ => .int
abbrev wsX90 : List Cond := u_ws RX9 TX9 2
theorem nmX9 : ∀ a, a < 2 → ∀ b, b < 2 → a ≠ b → (TX9 a).2.1 ≠ (TX9 b).2.1 := by decide +kernel
theorem tyX9_ok : ∀ k, k < 2 → parseFieldDescriptor (TX9 k).2.2.1 = some (tyX9 k) := by decide +kernel
abbrev cX9_init : ByteArray := prog_11_method_1_code
def yX9_init : MethodName := ⟨RX9, "<init>", "()V"⟩
abbrev cX9_begin : ByteArray := prog_11_method_2_code
def yX9_begin : MethodName := ⟨RX9, "begin", "(I)V"⟩
def RX10 : String := "ThreeMeasures$Worn"
def TX10 : u_T := fun k => match k with
  | 0 => ("ThreeMeasures$Stick", "number", "I", true)
  | 1 => ("ThreeMeasures$Stick", "kind", "I", true)
  | 2 => ("ThreeMeasures$Stick", "v", "I", true)
  | _ => ("ThreeMeasures$Stick", "length", "I", true)
def tyX10 : Nat → FieldType := fun k => match k with
  | 0 => .int
  | 1 => .int
  | 2 => .int
  | _ => .int
abbrev wsX100 : List Cond := u_ws RX10 TX10 4
theorem nmX10 : ∀ a, a < 4 → ∀ b, b < 4 → a ≠ b → (TX10 a).2.1 ≠ (TX10 b).2.1 := by decide +kernel
theorem tyX10_ok : ∀ k, k < 4 → parseFieldDescriptor (TX10 k).2.2.1 = some (tyX10 k) := by decide +kernel
abbrev cX10_init : ByteArray := prog_12_method_1_code
def yX10_init : MethodName := ⟨RX10, "<init>", "(IIII)V"⟩
abbrev cX10_middle : ByteArray := prog_12_method_2_code
def yX10_middle : MethodName := ⟨RX10, "middle", "(II)I"⟩
abbrev cX10_sets : ByteArray := prog_12_method_3_code
def yX10_sets : MethodName := ⟨RX10, "sets", "(ILThreeMeasures$Trace;)I"⟩
def RX11 : String := "ThreeMeasures"
def TX11 : u_T := fun k => match k with
  | 0 => ("ThreeMeasures", "now", "LThreeMeasures$State;", true)
  | 1 => ("ThreeMeasures", "kept", "LThreeMeasures$State;", true)
  | 2 => ("ThreeMeasures", "isKept", "Z", false)
  | 3 => ("ThreeMeasures", "reader", "LThreeMeasures$Reader;", true)
  | 4 => ("ThreeMeasures", "bodies", "LThreeMeasures$Trace;", true)
  | 5 => ("ThreeMeasures", "found", "[I", true)
  | 6 => ("ThreeMeasures", "middles", "[I", true)
  | 7 => ("ThreeMeasures", "slacks", "[I", true)
  | 8 => ("ThreeMeasures", "moves", "[I", true)
  | _ => ("ThreeMeasures", "reached", "[I", true)
def tyX11 : Nat → FieldType := fun k => match k with
  | 0 => .object "ThreeMeasures$State"
  | 1 => .object "ThreeMeasures$State"
  | 2 => .boolean
  | 3 => .object "ThreeMeasures$Reader"
  | 4 => .object "ThreeMeasures$Trace"
  | 5 => .array .int
  | 6 => .array .int
  | 7 => .array .int
  | 8 => .array .int
  | _ => .array .int
abbrev wsX110 : List Cond := u_ws RX11 TX11 10
theorem nmX11 : ∀ a, a < 10 → ∀ b, b < 10 → a ≠ b → (TX11 a).2.1 ≠ (TX11 b).2.1 := by decide +kernel
theorem tyX11_ok : ∀ k, k < 10 → parseFieldDescriptor (TX11 k).2.2.1 = some (tyX11 k) := by decide +kernel
abbrev cX11_init : ByteArray := prog_1_method_1_code
def yX11_init : MethodName := ⟨RX11, "<init>", "()V"⟩
abbrev cX11_feed : ByteArray := prog_1_method_2_code
def yX11_feed : MethodName := ⟨RX11, "feed", "(I)I"⟩
abbrev cX11_room : ByteArray := prog_1_method_3_code
def yX11_room : MethodName := ⟨RX11, "room", "()I"⟩
abbrev cX11_stick : ByteArray := prog_1_method_4_code
def yX11_stick : MethodName := ⟨RX11, "stick", "(III)I"⟩
abbrev cX11_of : ByteArray := prog_1_method_5_code
def yX11_of : MethodName := ⟨RX11, "of", "(II)I"⟩
abbrev cX11_row : ByteArray := prog_1_method_6_code
def yX11_row : MethodName := ⟨RX11, "row", "(III)I"⟩
abbrev cX11_wall : ByteArray := prog_1_method_7_code
def yX11_wall : MethodName := ⟨RX11, "wall", "()I"⟩
abbrev cX11_at : ByteArray := prog_1_method_8_code
def yX11_at : MethodName := ⟨RX11, "at", "(II)I"⟩
abbrev cX11_known : ByteArray := prog_1_method_9_code
def yX11_known : MethodName := ⟨RX11, "known", "(III)I"⟩
abbrev cX11_told : ByteArray := prog_1_method_10_code
def yX11_told : MethodName := ⟨RX11, "told", "(I)I"⟩
abbrev cX11_measure : ByteArray := prog_1_method_11_code
def yX11_measure : MethodName := ⟨RX11, "measure", "(IIIIZ)I"⟩
abbrev cX11_between : ByteArray := prog_1_method_12_code
def yX11_between : MethodName := ⟨RX11, "between", "(IIII)I"⟩
abbrev cX11_newStick : ByteArray := prog_1_method_13_code
def yX11_newStick : MethodName := ⟨RX11, "newStick", "(IIII)LThreeMeasures$Stick;"⟩
abbrev cX11_isTimes : ByteArray := prog_1_method_14_code
def yX11_isTimes : MethodName := ⟨RX11, "isTimes", "(I)Z"⟩
abbrev cX11_surest : ByteArray := prog_1_method_15_code
def yX11_surest : MethodName := ⟨RX11, "surest", "(III)I"⟩
abbrev cX11_twice : ByteArray := prog_1_method_16_code
def yX11_twice : MethodName := ⟨RX11, "twice", "(III)I"⟩
abbrev cX11_again : ByteArray := prog_1_method_17_code
def yX11_again : MethodName := ⟨RX11, "again", "(III)I"⟩
abbrev cX11_square : ByteArray := prog_1_method_18_code
def yX11_square : MethodName := ⟨RX11, "square", "(III)I"⟩
abbrev cX11_findSurest : ByteArray := prog_1_method_19_code
def yX11_findSurest : MethodName := ⟨RX11, "findSurest", "(II)Z"⟩
abbrev cX11_tellMiddles : ByteArray := prog_1_method_20_code
def yX11_tellMiddles : MethodName := ⟨RX11, "tellMiddles", "(I)V"⟩
abbrev cX11_findTwice : ByteArray := prog_1_method_21_code
def yX11_findTwice : MethodName := ⟨RX11, "findTwice", "(I)Z"⟩
abbrev cX11_nearestTimes : ByteArray := prog_1_method_22_code
def yX11_nearestTimes : MethodName := ⟨RX11, "nearestTimes", "(LThreeMeasures$Stick;I)I"⟩
abbrev cX11_canBeCorner : ByteArray := prog_1_method_23_code
def yX11_canBeCorner : MethodName := ⟨RX11, "canBeCorner", "(III)Z"⟩
abbrev cX11_root : ByteArray := prog_1_method_24_code
def yX11_root : MethodName := ⟨RX11, "root", "(I)I"⟩
abbrev cX11_step : ByteArray := prog_1_method_25_code
def yX11_step : MethodName := ⟨RX11, "step", "(II)I"⟩
abbrev cX11_off : ByteArray := prog_1_method_26_code
def yX11_off : MethodName := ⟨RX11, "off", "(I)I"⟩
abbrev cX11_closed : ByteArray := prog_1_method_27_code
def yX11_closed : MethodName := ⟨RX11, "closed", "(I)I"⟩
abbrev cX11_isForward : ByteArray := prog_1_method_28_code
def yX11_isForward : MethodName := ⟨RX11, "isForward", "(I)Z"⟩
abbrev cX11_isAlong : ByteArray := prog_1_method_29_code
def yX11_isAlong : MethodName := ⟨RX11, "isAlong", "(II)Z"⟩
abbrev cX11_offAlong : ByteArray := prog_1_method_30_code
def yX11_offAlong : MethodName := ⟨RX11, "offAlong", "(I)I"⟩
abbrev cX11_shareOf : ByteArray := prog_1_method_31_code
def yX11_shareOf : MethodName := ⟨RX11, "shareOf", "(II)I"⟩
abbrev cX11_cut : ByteArray := prog_1_method_32_code
def yX11_cut : MethodName := ⟨RX11, "cut", "(I)I"⟩
abbrev cX11_cost : ByteArray := prog_1_method_33_code
def yX11_cost : MethodName := ⟨RX11, "cost", "(II)J"⟩
abbrev cX11_cups : ByteArray := prog_1_method_34_code
def yX11_cups : MethodName := ⟨RX11, "cups", "(III)I"⟩
abbrev cX11_bestCut : ByteArray := prog_1_method_35_code
def yX11_bestCut : MethodName := ⟨RX11, "bestCut", "(I)I"⟩
abbrev cX11_costOfAll : ByteArray := prog_1_method_36_code
def yX11_costOfAll : MethodName := ⟨RX11, "costOfAll", "(II)J"⟩
abbrev cX11_afterMove : ByteArray := prog_1_method_37_code
def yX11_afterMove : MethodName := ⟨RX11, "afterMove", "(IIIII)I"⟩
abbrev cX11_fraction : ByteArray := prog_1_method_38_code
def yX11_fraction : MethodName := ⟨RX11, "fraction", "(JJI)J"⟩
abbrev cX11_mark : ByteArray := prog_1_method_39_code
def yX11_mark : MethodName := ⟨RX11, "mark", "(I)I"⟩
abbrev cX11_whose : ByteArray := prog_1_method_40_code
def yX11_whose : MethodName := ⟨RX11, "whose", "(I)I"⟩
abbrev cX11_wrong : ByteArray := prog_1_method_41_code
def yX11_wrong : MethodName := ⟨RX11, "wrong", "(I)I"⟩
abbrev cX11_odds : ByteArray := prog_1_method_42_code
def yX11_odds : MethodName := ⟨RX11, "odds", "(III)J"⟩
abbrev cX11_mean : ByteArray := prog_1_method_43_code
def yX11_mean : MethodName := ⟨RX11, "mean", "(I)J"⟩
abbrev cX11_spread : ByteArray := prog_1_method_44_code
def yX11_spread : MethodName := ⟨RX11, "spread", "()I"⟩
abbrev cX11_book : ByteArray := prog_1_method_45_code
def yX11_book : MethodName := ⟨RX11, "book", "(II)I"⟩
abbrev cX11_looked : ByteArray := prog_1_method_46_code
def yX11_looked : MethodName := ⟨RX11, "looked", "()I"⟩
abbrev cX11_whoseWithout : ByteArray := prog_1_method_47_code
def yX11_whoseWithout : MethodName := ⟨RX11, "whoseWithout", "(II)I"⟩
abbrev cX11_isMarkedBy : ByteArray := prog_1_method_48_code
def yX11_isMarkedBy : MethodName := ⟨RX11, "isMarkedBy", "(LThreeMeasures$Stick;II)Z"⟩
abbrev cX11_act : ByteArray := prog_1_method_49_code
def yX11_act : MethodName := ⟨RX11, "act", "(III)I"⟩
abbrev cX11_trace : ByteArray := prog_1_method_50_code
def yX11_trace : MethodName := ⟨RX11, "trace", "(I)I"⟩
abbrev cX11_as : ByteArray := prog_1_method_51_code
def yX11_as : MethodName := ⟨RX11, "as", "(II)I"⟩
abbrev cX11_image : ByteArray := prog_1_method_52_code
def yX11_image : MethodName := ⟨RX11, "image", "()I"⟩
abbrev cX11_undo : ByteArray := prog_1_method_53_code
def yX11_undo : MethodName := ⟨RX11, "undo", "()I"⟩
abbrev cX11_count : ByteArray := prog_1_method_54_code
def yX11_count : MethodName := ⟨RX11, "count", "(I)I"⟩
def RX12 : String := "ThreeMeasuresModel"
def TX12 : u_T := fun k => match k with
  | 0 => ("ThreeMeasuresModel", "thrown", "I", false)
  | 1 => ("ThreeMeasuresModel", "s", "[I", true)
  | 2 => ("ThreeMeasuresModel", "image", "[I", true)
  | 3 => ("ThreeMeasuresModel", "hasImage", "Z", false)
  | 4 => ("ThreeMeasuresModel", "act", "I", false)
  | 5 => ("ThreeMeasuresModel", "spot", "I", false)
  | 6 => ("ThreeMeasuresModel", "end", "I", false)
  | 7 => ("ThreeMeasuresModel", "isWrong", "Z", false)
  | 8 => ("ThreeMeasuresModel", "open", "I", false)
  | 9 => ("ThreeMeasuresModel", "by", "[I", true)
  | 10 => ("ThreeMeasuresModel", "truths", "[Z", true)
  | 11 => ("ThreeMeasuresModel", "offs", "I", false)
  | 12 => ("ThreeMeasuresModel", "wears", "I", false)
  | 13 => ("ThreeMeasuresModel", "middle", "I", false)
  | 14 => ("ThreeMeasuresModel", "slack", "I", false)
  | 15 => ("ThreeMeasuresModel", "least", "I", false)
  | 16 => ("ThreeMeasuresModel", "most", "I", false)
  | 17 => ("ThreeMeasuresModel", "middles", "[I", true)
  | 18 => ("ThreeMeasuresModel", "slacks", "[I", true)
  | 19 => ("ThreeMeasuresModel", "bestWay", "[I", true)
  | 20 => ("ThreeMeasuresModel", "bestCost", "I", false)
  | 21 => ("ThreeMeasuresModel", "steps0", "[I", true)
  | 22 => ("ThreeMeasuresModel", "queue", "[I", true)
  | 23 => ("ThreeMeasuresModel", "tail", "I", false)
  | 24 => ("ThreeMeasuresModel", "bodies", "[I", true)
  | 25 => ("ThreeMeasuresModel", "ran", "I", false)
  | 26 => ("ThreeMeasuresModel", "kind", "I", false)
  | 27 => ("ThreeMeasuresModel", "number", "I", false)
  | _ => ("ThreeMeasuresModel", "tellsV", "I", false)
def tyX12 : Nat → FieldType := fun k => match k with
  | 0 => .int
  | 1 => .array .int
  | 2 => .array .int
  | 3 => .boolean
  | 4 => .int
  | 5 => .int
  | 6 => .int
  | 7 => .boolean
  | 8 => .int
  | 9 => .array .int
  | 10 => .array .boolean
  | 11 => .int
  | 12 => .int
  | 13 => .int
  | 14 => .int
  | 15 => .int
  | 16 => .int
  | 17 => .array .int
  | 18 => .array .int
  | 19 => .array .int
  | 20 => .int
  | 21 => .array .int
  | 22 => .array .int
  | 23 => .int
  | 24 => .array .int
  | 25 => .int
  | 26 => .int
  | 27 => .int
  | _ => .int
abbrev wsX120 : List Cond := u_ws RX12 TX12 29
theorem nmX12 : ∀ a, a < 29 → ∀ b, b < 29 → a ≠ b → (TX12 a).2.1 ≠ (TX12 b).2.1 := by decide +kernel
theorem tyX12_ok : ∀ k, k < 29 → parseFieldDescriptor (TX12 k).2.2.1 = some (tyX12 k) := by decide +kernel
abbrev cX12_init : ByteArray := prog_14_method_1_code
def yX12_init : MethodName := ⟨RX12, "<init>", "()V"⟩
abbrev cX12_in : ByteArray := prog_14_method_3_code
def yX12_in : MethodName := ⟨RX12, "in", "(III)Z"⟩
abbrev cX12_greater : ByteArray := prog_14_method_4_code
def yX12_greater : MethodName := ⟨RX12, "greater", "(II)I"⟩
abbrev cX12_lesser : ByteArray := prog_14_method_5_code
def yX12_lesser : MethodName := ⟨RX12, "lesser", "(II)I"⟩
abbrev cX12_isStick : ByteArray := prog_14_method_6_code
def yX12_isStick : MethodName := ⟨RX12, "isStick", "(I)Z"⟩
abbrev cX12_isWall : ByteArray := prog_14_method_7_code
def yX12_isWall : MethodName := ⟨RX12, "isWall", "(I)Z"⟩
abbrev cX12_feed : ByteArray := prog_14_method_8_code
def yX12_feed : MethodName := ⟨RX12, "feed", "(I)I"⟩
abbrev cX12_here : ByteArray := prog_14_method_9_code
def yX12_here : MethodName := ⟨RX12, "here", "()I"⟩
abbrev cX12_must : ByteArray := prog_14_method_10_code
def yX12_must : MethodName := ⟨RX12, "must", "(I)V"⟩
abbrev cX12_spells : ByteArray := prog_14_method_11_code
def yX12_spells : MethodName := ⟨RX12, "spells", "(Ljava/lang/String;)V"⟩
abbrev cX12_figures : ByteArray := prog_14_method_12_code
def yX12_figures : MethodName := ⟨RX12, "figures", "()I"⟩
abbrev cX12_among : ByteArray := prog_14_method_13_code
def yX12_among : MethodName := ⟨RX12, "among", "(Ljava/lang/String;)I"⟩
abbrev cX12_emits : ByteArray := prog_14_method_14_code
def yX12_emits : MethodName := ⟨RX12, "emits", "(I)V"⟩
abbrev cX12_factor : ByteArray := prog_14_method_15_code
def yX12_factor : MethodName := ⟨RX12, "factor", "()V"⟩
abbrev cX12_every : ByteArray := prog_14_method_16_code
def yX12_every : MethodName := ⟨RX12, "every", "()V"⟩
abbrev cX12_some : ByteArray := prog_14_method_17_code
def yX12_some : MethodName := ⟨RX12, "some", "()V"⟩
abbrev cX12_much : ByteArray := prog_14_method_18_code
def yX12_much : MethodName := ⟨RX12, "much", "(ILjava/lang/String;)V"⟩
abbrev cX12_tellsHere : ByteArray := prog_14_method_19_code
def yX12_tellsHere : MethodName := ⟨RX12, "tellsHere", "(ILjava/lang/String;)V"⟩
abbrev cX12_clauseHere : ByteArray := prog_14_method_20_code
def yX12_clauseHere : MethodName := ⟨RX12, "clauseHere", "()V"⟩
abbrev cX12_room : ByteArray := prog_14_method_21_code
def yX12_room : MethodName := ⟨RX12, "room", "()I"⟩
abbrev cX12_tellsOf : ByteArray := prog_14_method_22_code
def yX12_tellsOf : MethodName := ⟨RX12, "tellsOf", "(II)I"⟩
abbrev cX12_looks : ByteArray := prog_14_method_23_code
def yX12_looks : MethodName := ⟨RX12, "looks", "(III)V"⟩
abbrev cX12_sets : ByteArray := prog_14_method_24_code
def yX12_sets : MethodName := ⟨RX12, "sets", "(III)V"⟩
abbrev cX12_stick : ByteArray := prog_14_method_25_code
def yX12_stick : MethodName := ⟨RX12, "stick", "(III)I"⟩
abbrev cX12_of : ByteArray := prog_14_method_26_code
def yX12_of : MethodName := ⟨RX12, "of", "(II)I"⟩
abbrev cX12_row : ByteArray := prog_14_method_27_code
def yX12_row : MethodName := ⟨RX12, "row", "(III)I"⟩
abbrev cX12_wall : ByteArray := prog_14_method_28_code
def yX12_wall : MethodName := ⟨RX12, "wall", "()I"⟩
abbrev cX12_gapOf : ByteArray := prog_14_method_29_code
def yX12_gapOf : MethodName := ⟨RX12, "gapOf", "(I)I"⟩
abbrev cX12_at : ByteArray := prog_14_method_30_code
def yX12_at : MethodName := ⟨RX12, "at", "(II)I"⟩
abbrev cX12_known : ByteArray := prog_14_method_31_code
def yX12_known : MethodName := ⟨RX12, "known", "(III)I"⟩
abbrev cX12_told : ByteArray := prog_14_method_32_code
def yX12_told : MethodName := ⟨RX12, "told", "(I)I"⟩
abbrev cX12_measure : ByteArray := prog_14_method_33_code
def yX12_measure : MethodName := ⟨RX12, "measure", "(IIIIZ)I"⟩
abbrev cX12_between : ByteArray := prog_14_method_34_code
def yX12_between : MethodName := ⟨RX12, "between", "(IIII)I"⟩
abbrev cX12_surest : ByteArray := prog_14_method_35_code
def yX12_surest : MethodName := ⟨RX12, "surest", "(III)I"⟩
abbrev cX12_triesTwice : ByteArray := prog_14_method_36_code
def yX12_triesTwice : MethodName := ⟨RX12, "triesTwice", "(IIIII)V"⟩
abbrev cX12_twice : ByteArray := prog_14_method_37_code
def yX12_twice : MethodName := ⟨RX12, "twice", "(III)I"⟩
abbrev cX12_again : ByteArray := prog_14_method_38_code
def yX12_again : MethodName := ⟨RX12, "again", "(III)I"⟩
abbrev cX12_isOne : ByteArray := prog_14_method_39_code
def yX12_isOne : MethodName := ⟨RX12, "isOne", "(I)Z"⟩
abbrev cX12_hasSquare : ByteArray := prog_14_method_40_code
def yX12_hasSquare : MethodName := ⟨RX12, "hasSquare", "(III)Z"⟩
abbrev cX12_square : ByteArray := prog_14_method_41_code
def yX12_square : MethodName := ⟨RX12, "square", "(III)I"⟩
abbrev cX12_step : ByteArray := prog_14_method_42_code
def yX12_step : MethodName := ⟨RX12, "step", "(II)I"⟩
abbrev cX12_offAlong : ByteArray := prog_14_method_43_code
def yX12_offAlong : MethodName := ⟨RX12, "offAlong", "(I)I"⟩
abbrev cX12_off : ByteArray := prog_14_method_44_code
def yX12_off : MethodName := ⟨RX12, "off", "(I)I"⟩
abbrev cX12_closed : ByteArray := prog_14_method_45_code
def yX12_closed : MethodName := ⟨RX12, "closed", "(I)I"⟩
abbrev cX12_costOf : ByteArray := prog_14_method_46_code
def yX12_costOf : MethodName := ⟨RX12, "costOf", "(II)I"⟩
abbrev cX12_bestCut : ByteArray := prog_14_method_47_code
def yX12_bestCut : MethodName := ⟨RX12, "bestCut", "(I)I"⟩
abbrev cX12_cut : ByteArray := prog_14_method_48_code
def yX12_cut : MethodName := ⟨RX12, "cut", "(I)I"⟩
abbrev cX12_lowest : ByteArray := prog_14_method_49_code
def yX12_lowest : MethodName := ⟨RX12, "lowest", "(JJI)J"⟩
abbrev cX12_cost : ByteArray := prog_14_method_50_code
def yX12_cost : MethodName := ⟨RX12, "cost", "(II)J"⟩
abbrev cX12_comes : ByteArray := prog_14_method_51_code
def yX12_comes : MethodName := ⟨RX12, "comes", "(II)V"⟩
abbrev cX12_cups : ByteArray := prog_14_method_52_code
def yX12_cups : MethodName := ⟨RX12, "cups", "(III)I"⟩
abbrev cX12_mark : ByteArray := prog_14_method_53_code
def yX12_mark : MethodName := ⟨RX12, "mark", "(I)I"⟩
abbrev cX12_whoseBut : ByteArray := prog_14_method_54_code
def yX12_whoseBut : MethodName := ⟨RX12, "whoseBut", "(II)I"⟩
abbrev cX12_whose : ByteArray := prog_14_method_55_code
def yX12_whose : MethodName := ⟨RX12, "whose", "(I)I"⟩
abbrev cX12_wrong : ByteArray := prog_14_method_56_code
def yX12_wrong : MethodName := ⟨RX12, "wrong", "(I)I"⟩
abbrev cX12_odds : ByteArray := prog_14_method_57_code
def yX12_odds : MethodName := ⟨RX12, "odds", "(III)J"⟩
abbrev cX12_mean : ByteArray := prog_14_method_58_code
def yX12_mean : MethodName := ⟨RX12, "mean", "(I)J"⟩
abbrev cX12_spread : ByteArray := prog_14_method_59_code
def yX12_spread : MethodName := ⟨RX12, "spread", "()I"⟩
abbrev cX12_book : ByteArray := prog_14_method_60_code
def yX12_book : MethodName := ⟨RX12, "book", "(II)I"⟩
abbrev cX12_looked : ByteArray := prog_14_method_61_code
def yX12_looked : MethodName := ⟨RX12, "looked", "()I"⟩
abbrev cX12_ranBody : ByteArray := prog_14_method_62_code
def yX12_ranBody : MethodName := ⟨RX12, "ranBody", "(I)V"⟩
abbrev cX12_isUnder : ByteArray := prog_14_method_63_code
def yX12_isUnder : MethodName := ⟨RX12, "isUnder", "(II)Z"⟩
abbrev cX12_plainSets : ByteArray := prog_14_method_64_code
def yX12_plainSets : MethodName := ⟨RX12, "plainSets", "(I)I"⟩
abbrev cX12_setsActs : ByteArray := prog_14_method_65_code
def yX12_setsActs : MethodName := ⟨RX12, "setsActs", "(I)I"⟩
abbrev cX12_plainReads : ByteArray := prog_14_method_66_code
def yX12_plainReads : MethodName := ⟨RX12, "plainReads", "(I)I"⟩
abbrev cX12_readsActs : ByteArray := prog_14_method_67_code
def yX12_readsActs : MethodName := ⟨RX12, "readsActs", "(I)I"⟩
abbrev cX12_plainTells : ByteArray := prog_14_method_68_code
def yX12_plainTells : MethodName := ⟨RX12, "plainTells", "(I)I"⟩
abbrev cX12_tellsActs : ByteArray := prog_14_method_69_code
def yX12_tellsActs : MethodName := ⟨RX12, "tellsActs", "(I)I"⟩
abbrev cX12_act : ByteArray := prog_14_method_70_code
def yX12_act : MethodName := ⟨RX12, "act", "(III)I"⟩
abbrev cX12_trace : ByteArray := prog_14_method_71_code
def yX12_trace : MethodName := ⟨RX12, "trace", "(I)I"⟩
abbrev cX12_as : ByteArray := prog_14_method_72_code
def yX12_as : MethodName := ⟨RX12, "as", "(II)I"⟩
abbrev cX12_image : ByteArray := prog_14_method_73_code
def yX12_image : MethodName := ⟨RX12, "image", "()I"⟩
abbrev cX12_undo : ByteArray := prog_14_method_74_code
def yX12_undo : MethodName := ⟨RX12, "undo", "()I"⟩
abbrev cX12_count : ByteArray := prog_14_method_75_code
def yX12_count : MethodName := ⟨RX12, "count", "(I)I"⟩
def RJx145de : String := "java/io/Serializable"
def RJx9f9b0 : String := "java/lang/CharSequence"
def RJ11 : String := "java/lang/Character"
abbrev cJ11_isValidCodePoint_9a6ad : ByteArray := prog_15_method_11_code
def yJ11_isValidCodePoint_9a6ad : MethodName := ⟨RJ11, "isValidCodePoint", "(I)Z"⟩
abbrev cJ11_highSurrogate_5068e : ByteArray := prog_15_method_28_code
def yJ11_highSurrogate_5068e : MethodName := ⟨RJ11, "highSurrogate", "(I)C"⟩
abbrev cJ11_lowSurrogate_5068e : ByteArray := prog_15_method_29_code
def yJ11_lowSurrogate_5068e : MethodName := ⟨RJ11, "lowSurrogate", "(I)C"⟩
def RJx8e188 : String := "java/lang/Cloneable"
def RJxb160c : String := "java/lang/Comparable"
def RJ9 : String := "java/lang/Math"
abbrev cJ9_abs_0f7a4 : ByteArray := prog_17_method_59_code
def yJ9_abs_0f7a4 : MethodName := ⟨RJ9, "abs", "(I)I"⟩
abbrev cJ9_max_7cf53 : ByteArray := prog_17_method_65_code
def yJ9_max_7cf53 : MethodName := ⟨RJ9, "max", "(II)I"⟩
abbrev cJ9_min_7cf53 : ByteArray := prog_17_method_69_code
def yJ9_min_7cf53 : MethodName := ⟨RJ9, "min", "(II)I"⟩
def RJ0 : String := "java/lang/String"
abbrev cJ0_length_8abf5 : ByteArray := prog_18_method_54_code
def yJ0_length_8abf5 : MethodName := ⟨RJ0, "length", "()I"⟩
abbrev cJ0_charAt_5068e : ByteArray := prog_18_method_56_code
def yJ0_charAt_5068e : MethodName := ⟨RJ0, "charAt", "(I)C"⟩
abbrev cJ0_indexOf_0f7a4 : ByteArray := prog_18_method_79_code
def yJ0_indexOf_0f7a4 : MethodName := ⟨RJ0, "indexOf", "(I)I"⟩
abbrev cJ0_indexOf_7cf53 : ByteArray := prog_18_method_80_code
def yJ0_indexOf_7cf53 : MethodName := ⟨RJ0, "indexOf", "(II)I"⟩
abbrev cJ0_coder_7d493 : ByteArray := prog_18_method_152_code
def yJ0_coder_7d493 : MethodName := ⟨RJ0, "coder", "()B"⟩
abbrev cJ0_isLatin1_aae02 : ByteArray := prog_18_method_154_code
def yJ0_isLatin1_aae02 : MethodName := ⟨RJ0, "isLatin1", "()Z"⟩
abbrev cJ0_checkIndex_df160 : ByteArray := prog_18_method_155_code
def yJ0_checkIndex_df160 : MethodName := ⟨RJ0, "checkIndex", "(II)V"⟩
abbrev cJ0_checkBoundsBeginEnd_23922 : ByteArray := prog_18_method_158_code
def yJ0_checkBoundsBeginEnd_23922 : MethodName := ⟨RJ0, "checkBoundsBeginEnd", "(III)V"⟩
def RJ1 : String := "java/lang/StringLatin1"
abbrev cJ1_charAt_3b067 : ByteArray := prog_19_method_2_code
def yJ1_charAt_3b067 : MethodName := ⟨RJ1, "charAt", "([BI)C"⟩
abbrev cJ1_canEncode_9a6ad : ByteArray := prog_19_method_4_code
def yJ1_canEncode_9a6ad : MethodName := ⟨RJ1, "canEncode", "(I)Z"⟩
abbrev cJ1_indexOf_4cfef : ByteArray := prog_19_method_22_code
def yJ1_indexOf_4cfef : MethodName := ⟨RJ1, "indexOf", "([BIII)I"⟩
abbrev cJ1_indexOfChar_4cfef : ByteArray := prog_19_method_23_code
def yJ1_indexOfChar_4cfef : MethodName := ⟨RJ1, "indexOfChar", "([BIII)I"⟩
def RJ2 : String := "java/lang/StringUTF16"
abbrev cJ2_getChar_3b067 : ByteArray := prog_20_method_5_code
def yJ2_getChar_3b067 : MethodName := ⟨RJ2, "getChar", "([BI)C"⟩
abbrev cJ2_length_9d52b : ByteArray := prog_20_method_6_code
def yJ2_length_9d52b : MethodName := ⟨RJ2, "length", "([B)I"⟩
abbrev cJ2_indexOf_4cfef : ByteArray := prog_20_method_40_code
def yJ2_indexOf_4cfef : MethodName := ⟨RJ2, "indexOf", "([BIII)I"⟩
abbrev cJ2_indexOfChar_4cfef : ByteArray := prog_20_method_47_code
def yJ2_indexOfChar_4cfef : MethodName := ⟨RJ2, "indexOfChar", "([BIII)I"⟩
abbrev cJ2_indexOfCharUnsafe_4cfef : ByteArray := prog_20_method_48_code
def yJ2_indexOfCharUnsafe_4cfef : MethodName := ⟨RJ2, "indexOfCharUnsafe", "([BIII)I"⟩
abbrev cJ2_indexOfSupplementary_4cfef : ByteArray := prog_20_method_49_code
def yJ2_indexOfSupplementary_4cfef : MethodName := ⟨RJ2, "indexOfSupplementary", "([BIII)I"⟩
abbrev cJ2_charAt_3b067 : ByteArray := prog_20_method_83_code
def yJ2_charAt_3b067 : MethodName := ⟨RJ2, "charAt", "([BI)C"⟩
abbrev cJ2_checkIndex_2214a : ByteArray := prog_20_method_91_code
def yJ2_checkIndex_2214a : MethodName := ⟨RJ2, "checkIndex", "(I[B)V"⟩
abbrev cJ2_checkBoundsBeginEnd_d044e : ByteArray := prog_20_method_93_code
def yJ2_checkBoundsBeginEnd_d044e : MethodName := ⟨RJ2, "checkBoundsBeginEnd", "(II[B)V"⟩
def RJ10 : String := "java/lang/System"
def RJxfd54e : String := "java/lang/constant/Constable"
def RJx3cf43 : String := "java/lang/constant/ConstantDesc"
def RJ7 : String := "java/util/Arrays"
abbrev cJ7_fill_53178 : ByteArray := prog_22_method_103_code
def yJ7_fill_53178 : MethodName := ⟨RJ7, "fill", "([II)V"⟩
abbrev cJ7_copyOf_59c91 : ByteArray := prog_22_method_123_code
def yJ7_copyOf_59c91 : MethodName := ⟨RJ7, "copyOf", "([II)[I"⟩
def RJ3 : String := "jdk/internal/util/Preconditions"
abbrev cJ3_checkIndex_8e157 : ByteArray := prog_23_method_11_code
def yJ3_checkIndex_8e157 : MethodName := ⟨RJ3, "checkIndex", "(IILjava/util/function/BiFunction;)I"⟩
abbrev cJ3_checkFromToIndex_8c36e : ByteArray := prog_23_method_12_code
def yJ3_checkFromToIndex_8c36e : MethodName := ⟨RJ3, "checkFromToIndex", "(IIILjava/util/function/BiFunction;)I"⟩
def RL : String := "ThreeMeasuresLaw"
abbrev cL_law : ByteArray := code
def yL_law : MethodName := ⟨RL, "law", "([I)Z"⟩
abbrev vwCl : List vw_C := [(RX0, TX0, 4), (RX1, TX1, 8), (RX2, TX2, 3), (RX3, TX3, 4), (RX4, TX4, 4), (RX5, TX5, 18), (RX6, TX6, 4), (RX7, TX7, 4), (RX8, TX8, 5), (RX9, TX9, 2), (RX10, TX10, 4), (RX11, TX11, 10), (RX12, TX12, 29)]

/-- the words that a contract may carry -/
def TB : List Cond := lw_tbl.filter goodWord
theorem inTB {w : Cond} (h : w ∈ lw_tbl) (g : goodWord w = true) : w ∈ TB := List.mem_filter.mpr ⟨h, g⟩
theorem goodTB {w : Cond} (h : w ∈ TB) : (w.onTables && w.keeps) = true ∨ ∃ ty, w = .arrayClass ty := good_of_word (List.mem_filter.mp h).2
/-- the other words of the tables that a state keeps: nests, casts, declarations -/
def nbOK : Cond → Bool
  | .methodLinkNest .. => true
  | .fieldLinkNest .. => true
  | .declares _ => true
  | .castable .. => true
  | _ => false
def NB : List Cond := lw_tbl.filter nbOK
theorem inNB {w : Cond} (h : w ∈ lw_tbl) (g : nbOK w = true) : w ∈ NB := List.mem_filter.mpr ⟨h, g⟩

set_option maxRecDepth 20000 in
theorem uw_0 : ∀ w ∈ u_ws RX0 TX0 4, w ∈ TB := fun w h => inTB ((show ∀ w ∈ u_ws RX0 TX0 4, w ∈ lw_tbl by decide +kernel) w h) ((show ∀ w ∈ u_ws RX0 TX0 4, goodWord w = true by decide +kernel) w h)
set_option maxRecDepth 20000 in
theorem uw_1 : ∀ w ∈ u_ws RX1 TX1 8, w ∈ TB := fun w h => inTB ((show ∀ w ∈ u_ws RX1 TX1 8, w ∈ lw_tbl by decide +kernel) w h) ((show ∀ w ∈ u_ws RX1 TX1 8, goodWord w = true by decide +kernel) w h)
set_option maxRecDepth 20000 in
theorem uw_2 : ∀ w ∈ u_ws RX2 TX2 3, w ∈ TB := fun w h => inTB ((show ∀ w ∈ u_ws RX2 TX2 3, w ∈ lw_tbl by decide +kernel) w h) ((show ∀ w ∈ u_ws RX2 TX2 3, goodWord w = true by decide +kernel) w h)
set_option maxRecDepth 20000 in
theorem uw_3 : ∀ w ∈ u_ws RX3 TX3 4, w ∈ TB := fun w h => inTB ((show ∀ w ∈ u_ws RX3 TX3 4, w ∈ lw_tbl by decide +kernel) w h) ((show ∀ w ∈ u_ws RX3 TX3 4, goodWord w = true by decide +kernel) w h)
set_option maxRecDepth 20000 in
theorem uw_4 : ∀ w ∈ u_ws RX4 TX4 4, w ∈ TB := fun w h => inTB ((show ∀ w ∈ u_ws RX4 TX4 4, w ∈ lw_tbl by decide +kernel) w h) ((show ∀ w ∈ u_ws RX4 TX4 4, goodWord w = true by decide +kernel) w h)
set_option maxRecDepth 20000 in
theorem uw_5 : ∀ w ∈ u_ws RX5 TX5 18, w ∈ TB := fun w h => inTB ((show ∀ w ∈ u_ws RX5 TX5 18, w ∈ lw_tbl by decide +kernel) w h) ((show ∀ w ∈ u_ws RX5 TX5 18, goodWord w = true by decide +kernel) w h)
set_option maxRecDepth 20000 in
theorem uw_6 : ∀ w ∈ u_ws RX6 TX6 4, w ∈ TB := fun w h => inTB ((show ∀ w ∈ u_ws RX6 TX6 4, w ∈ lw_tbl by decide +kernel) w h) ((show ∀ w ∈ u_ws RX6 TX6 4, goodWord w = true by decide +kernel) w h)
set_option maxRecDepth 20000 in
theorem uw_7 : ∀ w ∈ u_ws RX7 TX7 4, w ∈ TB := fun w h => inTB ((show ∀ w ∈ u_ws RX7 TX7 4, w ∈ lw_tbl by decide +kernel) w h) ((show ∀ w ∈ u_ws RX7 TX7 4, goodWord w = true by decide +kernel) w h)
set_option maxRecDepth 20000 in
theorem uw_8 : ∀ w ∈ u_ws RX8 TX8 5, w ∈ TB := fun w h => inTB ((show ∀ w ∈ u_ws RX8 TX8 5, w ∈ lw_tbl by decide +kernel) w h) ((show ∀ w ∈ u_ws RX8 TX8 5, goodWord w = true by decide +kernel) w h)
set_option maxRecDepth 20000 in
theorem uw_9 : ∀ w ∈ u_ws RX9 TX9 2, w ∈ TB := fun w h => inTB ((show ∀ w ∈ u_ws RX9 TX9 2, w ∈ lw_tbl by decide +kernel) w h) ((show ∀ w ∈ u_ws RX9 TX9 2, goodWord w = true by decide +kernel) w h)
set_option maxRecDepth 20000 in
theorem uw_10 : ∀ w ∈ u_ws RX10 TX10 4, w ∈ TB := fun w h => inTB ((show ∀ w ∈ u_ws RX10 TX10 4, w ∈ lw_tbl by decide +kernel) w h) ((show ∀ w ∈ u_ws RX10 TX10 4, goodWord w = true by decide +kernel) w h)
set_option maxRecDepth 20000 in
theorem uw_11 : ∀ w ∈ u_ws RX11 TX11 10, w ∈ TB := fun w h => inTB ((show ∀ w ∈ u_ws RX11 TX11 10, w ∈ lw_tbl by decide +kernel) w h) ((show ∀ w ∈ u_ws RX11 TX11 10, goodWord w = true by decide +kernel) w h)
set_option maxRecDepth 20000 in
theorem uw_12 : ∀ w ∈ u_ws RX12 TX12 29, w ∈ TB := fun w h => inTB ((show ∀ w ∈ u_ws RX12 TX12 29, w ∈ lw_tbl by decide +kernel) w h) ((show ∀ w ∈ u_ws RX12 TX12 29, goodWord w = true by decide +kernel) w h)
