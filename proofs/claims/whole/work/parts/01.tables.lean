-- ===== PART A: goes FIRST, ahead of the names: the tables' words, and 'selects' of the private methods out of them =====
/-- a private method of a class that the tables say can be made, by its rows of tables_1 -/
def lw_okq (q : MethodName × Nat) : Prop := (q.1.cls ≠ "java/lang/invoke/MethodHandle" ∧ q.1.cls ≠ "java/lang/invoke/VarHandle") ∧ Cond.instantiable q.1.cls q.2 ∈ tables_1 ∧ Cond.privateMethod q.1 ∈ tables_1 ∧ Cond.instanceMethod q.1 ∈ tables_1
theorem lw_p0 : lw_okq (⟨"AccessJudge$Types", "putWithin", "(II)V"⟩, 16) := ⟨⟨by decide +kernel, by decide +kernel⟩, List.mem_of_getElem? (i := 50) (by decide +kernel), List.mem_of_getElem? (i := 444) (by decide +kernel), List.mem_of_getElem? (i := 445) (by decide +kernel)⟩
theorem lw_p1 : lw_okq (⟨"AccessJudge$Types", "putBelow", "(II)V"⟩, 16) := ⟨⟨by decide +kernel, by decide +kernel⟩, List.mem_of_getElem? (i := 50) (by decide +kernel), List.mem_of_getElem? (i := 452) (by decide +kernel), List.mem_of_getElem? (i := 453) (by decide +kernel)⟩
theorem lw_p2 : lw_okq (⟨"AccessJudge$Types", "putLastInOrder", "(J)V"⟩, 16) := ⟨⟨by decide +kernel, by decide +kernel⟩, List.mem_of_getElem? (i := 50) (by decide +kernel), List.mem_of_getElem? (i := 464) (by decide +kernel), List.mem_of_getElem? (i := 465) (by decide +kernel)⟩
theorem lw_p3 : lw_okq (⟨"AccessJudge", "forgetAnswers", "()V"⟩, 9) := ⟨⟨by decide +kernel, by decide +kernel⟩, List.mem_of_getElem? (i := 17) (by decide +kernel), List.mem_of_getElem? (i := 471) (by decide +kernel), List.mem_of_getElem? (i := 472) (by decide +kernel)⟩
theorem lw_p4 : lw_okq (⟨"AccessJudge$Members", "fitsInterface", "(III)Z"⟩, 12) := ⟨⟨by decide +kernel, by decide +kernel⟩, List.mem_of_getElem? (i := 146) (by decide +kernel), List.mem_of_getElem? (i := 521) (by decide +kernel), List.mem_of_getElem? (i := 522) (by decide +kernel)⟩
theorem lw_p5 : lw_okq (⟨"AccessJudge$Inheritance", "find", "(II)J"⟩, 4) := ⟨⟨by decide +kernel, by decide +kernel⟩, List.mem_of_getElem? (i := 215) (by decide +kernel), List.mem_of_getElem? (i := 558) (by decide +kernel), List.mem_of_getElem? (i := 559) (by decide +kernel)⟩
theorem lw_p6 : lw_okq (⟨"AccessJudge$Inheritance", "fromParent", "(IIJ)J"⟩, 4) := ⟨⟨by decide +kernel, by decide +kernel⟩, List.mem_of_getElem? (i := 215) (by decide +kernel), List.mem_of_getElem? (i := 563) (by decide +kernel), List.mem_of_getElem? (i := 564) (by decide +kernel)⟩
theorem lw_p7 : lw_okq (⟨"AccessJudge$Inheritance", "ofFaces", "(II)J"⟩, 4) := ⟨⟨by decide +kernel, by decide +kernel⟩, List.mem_of_getElem? (i := 215) (by decide +kernel), List.mem_of_getElem? (i := 572) (by decide +kernel), List.mem_of_getElem? (i := 573) (by decide +kernel)⟩
theorem lw_p8 : lw_okq (⟨"AccessJudge$Inheritance", "fromFaces", "(IJJJ)J"⟩, 4) := ⟨⟨by decide +kernel, by decide +kernel⟩, List.mem_of_getElem? (i := 215) (by decide +kernel), List.mem_of_getElem? (i := 580) (by decide +kernel), List.mem_of_getElem? (i := 581) (by decide +kernel)⟩
theorem lw_p9 : lw_okq (⟨"AccessJudge$Openness", "isOpenWithinOuter", "(II)Z"⟩, 3) := ⟨⟨by decide +kernel, by decide +kernel⟩, List.mem_of_getElem? (i := 256) (by decide +kernel), List.mem_of_getElem? (i := 616) (by decide +kernel), List.mem_of_getElem? (i := 617) (by decide +kernel)⟩
theorem lw_p10 : lw_okq (⟨"AccessJudge$Openness", "isMemberOpen", "(IIII)Z"⟩, 3) := ⟨⟨by decide +kernel, by decide +kernel⟩, List.mem_of_getElem? (i := 256) (by decide +kernel), List.mem_of_getElem? (i := 654) (by decide +kernel), List.mem_of_getElem? (i := 655) (by decide +kernel)⟩
theorem lw_p11 : lw_okq (⟨"AccessJudge$Openness", "isNearEnough", "(II)Z"⟩, 3) := ⟨⟨by decide +kernel, by decide +kernel⟩, List.mem_of_getElem? (i := 256) (by decide +kernel), List.mem_of_getElem? (i := 658) (by decide +kernel), List.mem_of_getElem? (i := 659) (by decide +kernel)⟩
theorem lw_p12 : lw_okq (⟨"AccessJudge$Openness", "isProtectedOpen", "(IIII)Z"⟩, 3) := ⟨⟨by decide +kernel, by decide +kernel⟩, List.mem_of_getElem? (i := 256) (by decide +kernel), List.mem_of_getElem? (i := 662) (by decide +kernel), List.mem_of_getElem? (i := 663) (by decide +kernel)⟩
theorem lw_p13 : lw_okq (⟨"AccessJudge$Uses", "preferred", "(JI)I"⟩, 4) := ⟨⟨by decide +kernel, by decide +kernel⟩, List.mem_of_getElem? (i := 272) (by decide +kernel), List.mem_of_getElem? (i := 674) (by decide +kernel), List.mem_of_getElem? (i := 675) (by decide +kernel)⟩
theorem lw_p14 : lw_okq (⟨"AccessJudge$Uses", "allowed", "(IIII)I"⟩, 4) := ⟨⟨by decide +kernel, by decide +kernel⟩, List.mem_of_getElem? (i := 272) (by decide +kernel), List.mem_of_getElem? (i := 679) (by decide +kernel), List.mem_of_getElem? (i := 680) (by decide +kernel)⟩
theorem lw_p15 : lw_okq (⟨"AccessJudge$Uses", "hasStaticAhead", "(II)Z"⟩, 4) := ⟨⟨by decide +kernel, by decide +kernel⟩, List.mem_of_getElem? (i := 272) (by decide +kernel), List.mem_of_getElem? (i := 684) (by decide +kernel), List.mem_of_getElem? (i := 685) (by decide +kernel)⟩
def lw_privs_1 : List (MethodName × Nat) := [(⟨"AccessJudge$Types", "putWithin", "(II)V"⟩, 16), (⟨"AccessJudge$Types", "putBelow", "(II)V"⟩, 16), (⟨"AccessJudge$Types", "putLastInOrder", "(J)V"⟩, 16), (⟨"AccessJudge", "forgetAnswers", "()V"⟩, 9), (⟨"AccessJudge$Members", "fitsInterface", "(III)Z"⟩, 12), (⟨"AccessJudge$Inheritance", "find", "(II)J"⟩, 4), (⟨"AccessJudge$Inheritance", "fromParent", "(IIJ)J"⟩, 4), (⟨"AccessJudge$Inheritance", "ofFaces", "(II)J"⟩, 4), (⟨"AccessJudge$Inheritance", "fromFaces", "(IJJJ)J"⟩, 4), (⟨"AccessJudge$Openness", "isOpenWithinOuter", "(II)Z"⟩, 3), (⟨"AccessJudge$Openness", "isMemberOpen", "(IIII)Z"⟩, 3), (⟨"AccessJudge$Openness", "isNearEnough", "(II)Z"⟩, 3), (⟨"AccessJudge$Openness", "isProtectedOpen", "(IIII)Z"⟩, 3), (⟨"AccessJudge$Uses", "preferred", "(JI)I"⟩, 4), (⟨"AccessJudge$Uses", "allowed", "(IIII)I"⟩, 4), (⟨"AccessJudge$Uses", "hasStaticAhead", "(II)Z"⟩, 4)]
theorem lw_r1 : ∀ q ∈ lw_privs_1, lw_okq q := List.forall_mem_cons.mpr ⟨lw_p0, List.forall_mem_cons.mpr ⟨lw_p1, List.forall_mem_cons.mpr ⟨lw_p2, List.forall_mem_cons.mpr ⟨lw_p3, List.forall_mem_cons.mpr ⟨lw_p4, List.forall_mem_cons.mpr ⟨lw_p5, List.forall_mem_cons.mpr ⟨lw_p6, List.forall_mem_cons.mpr ⟨lw_p7, List.forall_mem_cons.mpr ⟨lw_p8, List.forall_mem_cons.mpr ⟨lw_p9, List.forall_mem_cons.mpr ⟨lw_p10, List.forall_mem_cons.mpr ⟨lw_p11, List.forall_mem_cons.mpr ⟨lw_p12, List.forall_mem_cons.mpr ⟨lw_p13, List.forall_mem_cons.mpr ⟨lw_p14, List.forall_mem_cons.mpr ⟨lw_p15, fun _ h => absurd h List.not_mem_nil⟩⟩⟩⟩⟩⟩⟩⟩⟩⟩⟩⟩⟩⟩⟩⟩
theorem lw_p16 : lw_okq (⟨"AccessJudge$Overriding", "knownRow", "(I)I"⟩, 5) := ⟨⟨by decide +kernel, by decide +kernel⟩, List.mem_of_getElem? (i := 234) (by decide +kernel), List.mem_of_getElem? (i := 719) (by decide +kernel), List.mem_of_getElem? (i := 720) (by decide +kernel)⟩
theorem lw_p17 : lw_okq (⟨"AccessJudge$Overriding", "clear", "(I)V"⟩, 5) := ⟨⟨by decide +kernel, by decide +kernel⟩, List.mem_of_getElem? (i := 234) (by decide +kernel), List.mem_of_getElem? (i := 723) (by decide +kernel), List.mem_of_getElem? (i := 724) (by decide +kernel)⟩
theorem lw_p18 : lw_okq (⟨"AccessJudge$Overriding", "findOverridden", "(IJII)V"⟩, 5) := ⟨⟨by decide +kernel, by decide +kernel⟩, List.mem_of_getElem? (i := 234) (by decide +kernel), List.mem_of_getElem? (i := 728) (by decide +kernel), List.mem_of_getElem? (i := 729) (by decide +kernel)⟩
theorem lw_p19 : lw_okq (⟨"AccessJudge$Overriding", "reaches", "(IIII)Z"⟩, 5) := ⟨⟨by decide +kernel, by decide +kernel⟩, List.mem_of_getElem? (i := 234) (by decide +kernel), List.mem_of_getElem? (i := 733) (by decide +kernel), List.mem_of_getElem? (i := 734) (by decide +kernel)⟩
theorem lw_p20 : lw_okq (⟨"AccessJudge$Choice", "nearestClass", "(IJ)I"⟩, 3) := ⟨⟨by decide +kernel, by decide +kernel⟩, List.mem_of_getElem? (i := 291) (by decide +kernel), List.mem_of_getElem? (i := 755) (by decide +kernel), List.mem_of_getElem? (i := 756) (by decide +kernel)⟩
theorem lw_p21 : lw_okq (⟨"AccessJudge$Choice", "fromInterfaces", "(II)I"⟩, 3) := ⟨⟨by decide +kernel, by decide +kernel⟩, List.mem_of_getElem? (i := 291) (by decide +kernel), List.mem_of_getElem? (i := 760) (by decide +kernel), List.mem_of_getElem? (i := 761) (by decide +kernel)⟩
theorem lw_p22 : lw_okq (⟨"AccessJudge$Faults", "metBy", "(IIJ)J"⟩, 10) := ⟨⟨by decide +kernel, by decide +kernel⟩, List.mem_of_getElem? (i := 307) (by decide +kernel), List.mem_of_getElem? (i := 779) (by decide +kernel), List.mem_of_getElem? (i := 780) (by decide +kernel)⟩
theorem lw_p23 : lw_okq (⟨"AccessJudge$Faults", "findInTypesAbove", "(I)V"⟩, 10) := ⟨⟨by decide +kernel, by decide +kernel⟩, List.mem_of_getElem? (i := 307) (by decide +kernel), List.mem_of_getElem? (i := 785) (by decide +kernel), List.mem_of_getElem? (i := 786) (by decide +kernel)⟩
theorem lw_p24 : lw_okq (⟨"AccessJudge$Faults", "addIf", "(ZII)V"⟩, 10) := ⟨⟨by decide +kernel, by decide +kernel⟩, List.mem_of_getElem? (i := 307) (by decide +kernel), List.mem_of_getElem? (i := 790) (by decide +kernel), List.mem_of_getElem? (i := 791) (by decide +kernel)⟩
theorem lw_p25 : lw_okq (⟨"AccessJudge$Faults", "findInDeclared", "(I)V"⟩, 10) := ⟨⟨by decide +kernel, by decide +kernel⟩, List.mem_of_getElem? (i := 307) (by decide +kernel), List.mem_of_getElem? (i := 795) (by decide +kernel), List.mem_of_getElem? (i := 796) (by decide +kernel)⟩
theorem lw_p26 : lw_okq (⟨"AccessJudge$Faults", "clashes", "(II)Z"⟩, 10) := ⟨⟨by decide +kernel, by decide +kernel⟩, List.mem_of_getElem? (i := 307) (by decide +kernel), List.mem_of_getElem? (i := 800) (by decide +kernel), List.mem_of_getElem? (i := 801) (by decide +kernel)⟩
theorem lw_p27 : lw_okq (⟨"AccessJudge$Faults", "clashesWith", "(III)Z"⟩, 10) := ⟨⟨by decide +kernel, by decide +kernel⟩, List.mem_of_getElem? (i := 307) (by decide +kernel), List.mem_of_getElem? (i := 805) (by decide +kernel), List.mem_of_getElem? (i := 806) (by decide +kernel)⟩
theorem lw_p28 : lw_okq (⟨"AccessJudge$Faults", "findInMembers", "(I)V"⟩, 10) := ⟨⟨by decide +kernel, by decide +kernel⟩, List.mem_of_getElem? (i := 307) (by decide +kernel), List.mem_of_getElem? (i := 810) (by decide +kernel), List.mem_of_getElem? (i := 811) (by decide +kernel)⟩
theorem lw_p29 : lw_okq (⟨"AccessJudge$Faults", "isFound", "(I)Z"⟩, 10) := ⟨⟨by decide +kernel, by decide +kernel⟩, List.mem_of_getElem? (i := 307) (by decide +kernel), List.mem_of_getElem? (i := 815) (by decide +kernel), List.mem_of_getElem? (i := 816) (by decide +kernel)⟩
theorem lw_p30 : lw_okq (⟨"AccessJudge$Faults", "isRivalled", "(I)Z"⟩, 10) := ⟨⟨by decide +kernel, by decide +kernel⟩, List.mem_of_getElem? (i := 307) (by decide +kernel), List.mem_of_getElem? (i := 819) (by decide +kernel), List.mem_of_getElem? (i := 820) (by decide +kernel)⟩
theorem lw_p31 : lw_okq (⟨"AccessJudgeModel", "noModule", "(I)Z"⟩, 30) := ⟨⟨by decide +kernel, by decide +kernel⟩, List.mem_of_getElem? (i := 829) (by decide +kernel), List.mem_of_getElem? (i := 935) (by decide +kernel), List.mem_of_getElem? (i := 936) (by decide +kernel)⟩
def lw_privs_2 : List (MethodName × Nat) := [(⟨"AccessJudge$Overriding", "knownRow", "(I)I"⟩, 5), (⟨"AccessJudge$Overriding", "clear", "(I)V"⟩, 5), (⟨"AccessJudge$Overriding", "findOverridden", "(IJII)V"⟩, 5), (⟨"AccessJudge$Overriding", "reaches", "(IIII)Z"⟩, 5), (⟨"AccessJudge$Choice", "nearestClass", "(IJ)I"⟩, 3), (⟨"AccessJudge$Choice", "fromInterfaces", "(II)I"⟩, 3), (⟨"AccessJudge$Faults", "metBy", "(IIJ)J"⟩, 10), (⟨"AccessJudge$Faults", "findInTypesAbove", "(I)V"⟩, 10), (⟨"AccessJudge$Faults", "addIf", "(ZII)V"⟩, 10), (⟨"AccessJudge$Faults", "findInDeclared", "(I)V"⟩, 10), (⟨"AccessJudge$Faults", "clashes", "(II)Z"⟩, 10), (⟨"AccessJudge$Faults", "clashesWith", "(III)Z"⟩, 10), (⟨"AccessJudge$Faults", "findInMembers", "(I)V"⟩, 10), (⟨"AccessJudge$Faults", "isFound", "(I)Z"⟩, 10), (⟨"AccessJudge$Faults", "isRivalled", "(I)Z"⟩, 10), (⟨"AccessJudgeModel", "noModule", "(I)Z"⟩, 30)]
theorem lw_r2 : ∀ q ∈ lw_privs_2, lw_okq q := List.forall_mem_cons.mpr ⟨lw_p16, List.forall_mem_cons.mpr ⟨lw_p17, List.forall_mem_cons.mpr ⟨lw_p18, List.forall_mem_cons.mpr ⟨lw_p19, List.forall_mem_cons.mpr ⟨lw_p20, List.forall_mem_cons.mpr ⟨lw_p21, List.forall_mem_cons.mpr ⟨lw_p22, List.forall_mem_cons.mpr ⟨lw_p23, List.forall_mem_cons.mpr ⟨lw_p24, List.forall_mem_cons.mpr ⟨lw_p25, List.forall_mem_cons.mpr ⟨lw_p26, List.forall_mem_cons.mpr ⟨lw_p27, List.forall_mem_cons.mpr ⟨lw_p28, List.forall_mem_cons.mpr ⟨lw_p29, List.forall_mem_cons.mpr ⟨lw_p30, List.forall_mem_cons.mpr ⟨lw_p31, fun _ h => absurd h List.not_mem_nil⟩⟩⟩⟩⟩⟩⟩⟩⟩⟩⟩⟩⟩⟩⟩⟩
theorem lw_p32 : lw_okq (⟨"AccessJudgeModel", "noPack", "(I)Z"⟩, 30) := ⟨⟨by decide +kernel, by decide +kernel⟩, List.mem_of_getElem? (i := 829) (by decide +kernel), List.mem_of_getElem? (i := 947) (by decide +kernel), List.mem_of_getElem? (i := 948) (by decide +kernel)⟩
theorem lw_p33 : lw_okq (⟨"AccessJudgeModel", "noType", "(I)Z"⟩, 30) := ⟨⟨by decide +kernel, by decide +kernel⟩, List.mem_of_getElem? (i := 829) (by decide +kernel), List.mem_of_getElem? (i := 955) (by decide +kernel), List.mem_of_getElem? (i := 956) (by decide +kernel)⟩
theorem lw_p34 : lw_okq (⟨"AccessJudgeModel", "ruleOfType", "(IIIII)I"⟩, 30) := ⟨⟨by decide +kernel, by decide +kernel⟩, List.mem_of_getElem? (i := 829) (by decide +kernel), List.mem_of_getElem? (i := 962) (by decide +kernel), List.mem_of_getElem? (i := 963) (by decide +kernel)⟩
theorem lw_p35 : lw_okq (⟨"AccessJudgeModel", "isAt", "(II)Z"⟩, 30) := ⟨⟨by decide +kernel, by decide +kernel⟩, List.mem_of_getElem? (i := 829) (by decide +kernel), List.mem_of_getElem? (i := 973) (by decide +kernel), List.mem_of_getElem? (i := 974) (by decide +kernel)⟩
theorem lw_p36 : lw_okq (⟨"AccessJudgeModel", "isBelow", "(II)Z"⟩, 30) := ⟨⟨by decide +kernel, by decide +kernel⟩, List.mem_of_getElem? (i := 829) (by decide +kernel), List.mem_of_getElem? (i := 977) (by decide +kernel), List.mem_of_getElem? (i := 978) (by decide +kernel)⟩
theorem lw_p37 : lw_okq (⟨"AccessJudgeModel", "raise", "(II)V"⟩, 30) := ⟨⟨by decide +kernel, by decide +kernel⟩, List.mem_of_getElem? (i := 829) (by decide +kernel), List.mem_of_getElem? (i := 981) (by decide +kernel), List.mem_of_getElem? (i := 982) (by decide +kernel)⟩
theorem lw_p38 : lw_okq (⟨"AccessJudgeModel", "ruleOfMember", "(IIIII)I"⟩, 30) := ⟨⟨by decide +kernel, by decide +kernel⟩, List.mem_of_getElem? (i := 829) (by decide +kernel), List.mem_of_getElem? (i := 993) (by decide +kernel), List.mem_of_getElem? (i := 994) (by decide +kernel)⟩
theorem lw_p39 : lw_okq (⟨"AccessJudgeModel", "declared", "(III)I"⟩, 30) := ⟨⟨by decide +kernel, by decide +kernel⟩, List.mem_of_getElem? (i := 829) (by decide +kernel), List.mem_of_getElem? (i := 997) (by decide +kernel), List.mem_of_getElem? (i := 998) (by decide +kernel)⟩
theorem lw_p40 : lw_okq (⟨"AccessJudgeModel", "topOf", "(I)I"⟩, 30) := ⟨⟨by decide +kernel, by decide +kernel⟩, List.mem_of_getElem? (i := 829) (by decide +kernel), List.mem_of_getElem? (i := 1009) (by decide +kernel), List.mem_of_getElem? (i := 1010) (by decide +kernel)⟩
theorem lw_p41 : lw_okq (⟨"AccessJudgeModel", "find", "()V"⟩, 30) := ⟨⟨by decide +kernel, by decide +kernel⟩, List.mem_of_getElem? (i := 829) (by decide +kernel), List.mem_of_getElem? (i := 1013) (by decide +kernel), List.mem_of_getElem? (i := 1014) (by decide +kernel)⟩
theorem lw_p42 : lw_okq (⟨"AccessJudgeModel", "isReady", "(I)Z"⟩, 30) := ⟨⟨by decide +kernel, by decide +kernel⟩, List.mem_of_getElem? (i := 829) (by decide +kernel), List.mem_of_getElem? (i := 1017) (by decide +kernel), List.mem_of_getElem? (i := 1018) (by decide +kernel)⟩
theorem lw_p43 : lw_okq (⟨"AccessJudgeModel", "findMembers", "(I)V"⟩, 30) := ⟨⟨by decide +kernel, by decide +kernel⟩, List.mem_of_getElem? (i := 829) (by decide +kernel), List.mem_of_getElem? (i := 1021) (by decide +kernel), List.mem_of_getElem? (i := 1022) (by decide +kernel)⟩
theorem lw_p44 : lw_okq (⟨"AccessJudgeModel", "comesFromParent", "(II)Z"⟩, 30) := ⟨⟨by decide +kernel, by decide +kernel⟩, List.mem_of_getElem? (i := 829) (by decide +kernel), List.mem_of_getElem? (i := 1025) (by decide +kernel), List.mem_of_getElem? (i := 1026) (by decide +kernel)⟩
theorem lw_p45 : lw_okq (⟨"AccessJudgeModel", "isOfFace", "(II)Z"⟩, 30) := ⟨⟨by decide +kernel, by decide +kernel⟩, List.mem_of_getElem? (i := 829) (by decide +kernel), List.mem_of_getElem? (i := 1029) (by decide +kernel), List.mem_of_getElem? (i := 1030) (by decide +kernel)⟩
theorem lw_p46 : lw_okq (⟨"AccessJudgeModel", "isPlain", "(I)Z"⟩, 30) := ⟨⟨by decide +kernel, by decide +kernel⟩, List.mem_of_getElem? (i := 829) (by decide +kernel), List.mem_of_getElem? (i := 1033) (by decide +kernel), List.mem_of_getElem? (i := 1034) (by decide +kernel)⟩
theorem lw_p47 : lw_okq (⟨"AccessJudgeModel", "isBehind", "(II)Z"⟩, 30) := ⟨⟨by decide +kernel, by decide +kernel⟩, List.mem_of_getElem? (i := 829) (by decide +kernel), List.mem_of_getElem? (i := 1037) (by decide +kernel), List.mem_of_getElem? (i := 1038) (by decide +kernel)⟩
def lw_privs_3 : List (MethodName × Nat) := [(⟨"AccessJudgeModel", "noPack", "(I)Z"⟩, 30), (⟨"AccessJudgeModel", "noType", "(I)Z"⟩, 30), (⟨"AccessJudgeModel", "ruleOfType", "(IIIII)I"⟩, 30), (⟨"AccessJudgeModel", "isAt", "(II)Z"⟩, 30), (⟨"AccessJudgeModel", "isBelow", "(II)Z"⟩, 30), (⟨"AccessJudgeModel", "raise", "(II)V"⟩, 30), (⟨"AccessJudgeModel", "ruleOfMember", "(IIIII)I"⟩, 30), (⟨"AccessJudgeModel", "declared", "(III)I"⟩, 30), (⟨"AccessJudgeModel", "topOf", "(I)I"⟩, 30), (⟨"AccessJudgeModel", "find", "()V"⟩, 30), (⟨"AccessJudgeModel", "isReady", "(I)Z"⟩, 30), (⟨"AccessJudgeModel", "findMembers", "(I)V"⟩, 30), (⟨"AccessJudgeModel", "comesFromParent", "(II)Z"⟩, 30), (⟨"AccessJudgeModel", "isOfFace", "(II)Z"⟩, 30), (⟨"AccessJudgeModel", "isPlain", "(I)Z"⟩, 30), (⟨"AccessJudgeModel", "isBehind", "(II)Z"⟩, 30)]
theorem lw_r3 : ∀ q ∈ lw_privs_3, lw_okq q := List.forall_mem_cons.mpr ⟨lw_p32, List.forall_mem_cons.mpr ⟨lw_p33, List.forall_mem_cons.mpr ⟨lw_p34, List.forall_mem_cons.mpr ⟨lw_p35, List.forall_mem_cons.mpr ⟨lw_p36, List.forall_mem_cons.mpr ⟨lw_p37, List.forall_mem_cons.mpr ⟨lw_p38, List.forall_mem_cons.mpr ⟨lw_p39, List.forall_mem_cons.mpr ⟨lw_p40, List.forall_mem_cons.mpr ⟨lw_p41, List.forall_mem_cons.mpr ⟨lw_p42, List.forall_mem_cons.mpr ⟨lw_p43, List.forall_mem_cons.mpr ⟨lw_p44, List.forall_mem_cons.mpr ⟨lw_p45, List.forall_mem_cons.mpr ⟨lw_p46, List.forall_mem_cons.mpr ⟨lw_p47, fun _ h => absurd h List.not_mem_nil⟩⟩⟩⟩⟩⟩⟩⟩⟩⟩⟩⟩⟩⟩⟩⟩
theorem lw_p48 : lw_okq (⟨"AccessJudgeModel", "findOvers", "()V"⟩, 30) := ⟨⟨by decide +kernel, by decide +kernel⟩, List.mem_of_getElem? (i := 829) (by decide +kernel), List.mem_of_getElem? (i := 1041) (by decide +kernel), List.mem_of_getElem? (i := 1042) (by decide +kernel)⟩
theorem lw_p49 : lw_okq (⟨"AccessJudgeModel", "canOver", "(II)Z"⟩, 30) := ⟨⟨by decide +kernel, by decide +kernel⟩, List.mem_of_getElem? (i := 829) (by decide +kernel), List.mem_of_getElem? (i := 1045) (by decide +kernel), List.mem_of_getElem? (i := 1046) (by decide +kernel)⟩
theorem lw_p50 : lw_okq (⟨"AccessJudgeModel", "isOverBy", "(II)Z"⟩, 30) := ⟨⟨by decide +kernel, by decide +kernel⟩, List.mem_of_getElem? (i := 829) (by decide +kernel), List.mem_of_getElem? (i := 1049) (by decide +kernel), List.mem_of_getElem? (i := 1050) (by decide +kernel)⟩
theorem lw_p51 : lw_okq (⟨"AccessJudgeModel", "isOpen", "(II)Z"⟩, 30) := ⟨⟨by decide +kernel, by decide +kernel⟩, List.mem_of_getElem? (i := 829) (by decide +kernel), List.mem_of_getElem? (i := 1061) (by decide +kernel), List.mem_of_getElem? (i := 1062) (by decide +kernel)⟩
theorem lw_p52 : lw_okq (⟨"AccessJudgeModel", "isAround", "(II)Z"⟩, 30) := ⟨⟨by decide +kernel, by decide +kernel⟩, List.mem_of_getElem? (i := 829) (by decide +kernel), List.mem_of_getElem? (i := 1065) (by decide +kernel), List.mem_of_getElem? (i := 1066) (by decide +kernel)⟩
theorem lw_p53 : lw_okq (⟨"AccessJudgeModel", "noMember", "(I)Z"⟩, 30) := ⟨⟨by decide +kernel, by decide +kernel⟩, List.mem_of_getElem? (i := 829) (by decide +kernel), List.mem_of_getElem? (i := 1073) (by decide +kernel), List.mem_of_getElem? (i := 1074) (by decide +kernel)⟩
theorem lw_p54 : lw_okq (⟨"AccessJudgeModel", "looked", "(IIIII)I"⟩, 30) := ⟨⟨by decide +kernel, by decide +kernel⟩, List.mem_of_getElem? (i := 829) (by decide +kernel), List.mem_of_getElem? (i := 1081) (by decide +kernel), List.mem_of_getElem? (i := 1082) (by decide +kernel)⟩
theorem lw_p55 : lw_okq (⟨"AccessJudgeModel", "hasOne", "(III)Z"⟩, 30) := ⟨⟨by decide +kernel, by decide +kernel⟩, List.mem_of_getElem? (i := 829) (by decide +kernel), List.mem_of_getElem? (i := 1085) (by decide +kernel), List.mem_of_getElem? (i := 1086) (by decide +kernel)⟩
theorem lw_p56 : lw_okq (⟨"AccessJudgeModel", "isOpenMember", "(IIII)Z"⟩, 30) := ⟨⟨by decide +kernel, by decide +kernel⟩, List.mem_of_getElem? (i := 829) (by decide +kernel), List.mem_of_getElem? (i := 1089) (by decide +kernel), List.mem_of_getElem? (i := 1090) (by decide +kernel)⟩
theorem lw_p57 : lw_okq (⟨"AccessJudgeModel", "isCut", "(II)Z"⟩, 30) := ⟨⟨by decide +kernel, by decide +kernel⟩, List.mem_of_getElem? (i := 829) (by decide +kernel), List.mem_of_getElem? (i := 1093) (by decide +kernel), List.mem_of_getElem? (i := 1094) (by decide +kernel)⟩
theorem lw_p58 : lw_okq (⟨"AccessJudgeModel", "noMethod", "(I)Z"⟩, 30) := ⟨⟨by decide +kernel, by decide +kernel⟩, List.mem_of_getElem? (i := 829) (by decide +kernel), List.mem_of_getElem? (i := 1105) (by decide +kernel), List.mem_of_getElem? (i := 1106) (by decide +kernel)⟩
theorem lw_p59 : lw_okq (⟨"AccessJudgeModel", "isFaced", "(III)Z"⟩, 30) := ⟨⟨by decide +kernel, by decide +kernel⟩, List.mem_of_getElem? (i := 829) (by decide +kernel), List.mem_of_getElem? (i := 1113) (by decide +kernel), List.mem_of_getElem? (i := 1114) (by decide +kernel)⟩
theorem lw_p60 : lw_okq (⟨"AccessJudgeModel", "isUnder", "(II)Z"⟩, 30) := ⟨⟨by decide +kernel, by decide +kernel⟩, List.mem_of_getElem? (i := 829) (by decide +kernel), List.mem_of_getElem? (i := 1117) (by decide +kernel), List.mem_of_getElem? (i := 1118) (by decide +kernel)⟩
theorem lw_p61 : lw_okq (⟨"AccessJudgeModel", "look", "(I)V"⟩, 30) := ⟨⟨by decide +kernel, by decide +kernel⟩, List.mem_of_getElem? (i := 829) (by decide +kernel), List.mem_of_getElem? (i := 1125) (by decide +kernel), List.mem_of_getElem? (i := 1126) (by decide +kernel)⟩
theorem lw_p62 : lw_okq (⟨"AccessJudgeModel", "tell", "(II)V"⟩, 30) := ⟨⟨by decide +kernel, by decide +kernel⟩, List.mem_of_getElem? (i := 829) (by decide +kernel), List.mem_of_getElem? (i := 1129) (by decide +kernel), List.mem_of_getElem? (i := 1130) (by decide +kernel)⟩
theorem lw_p63 : lw_okq (⟨"AccessJudgeModel", "isMet", "(III)Z"⟩, 30) := ⟨⟨by decide +kernel, by decide +kernel⟩, List.mem_of_getElem? (i := 829) (by decide +kernel), List.mem_of_getElem? (i := 1133) (by decide +kernel), List.mem_of_getElem? (i := 1134) (by decide +kernel)⟩
def lw_privs_4 : List (MethodName × Nat) := [(⟨"AccessJudgeModel", "findOvers", "()V"⟩, 30), (⟨"AccessJudgeModel", "canOver", "(II)Z"⟩, 30), (⟨"AccessJudgeModel", "isOverBy", "(II)Z"⟩, 30), (⟨"AccessJudgeModel", "isOpen", "(II)Z"⟩, 30), (⟨"AccessJudgeModel", "isAround", "(II)Z"⟩, 30), (⟨"AccessJudgeModel", "noMember", "(I)Z"⟩, 30), (⟨"AccessJudgeModel", "looked", "(IIIII)I"⟩, 30), (⟨"AccessJudgeModel", "hasOne", "(III)Z"⟩, 30), (⟨"AccessJudgeModel", "isOpenMember", "(IIII)Z"⟩, 30), (⟨"AccessJudgeModel", "isCut", "(II)Z"⟩, 30), (⟨"AccessJudgeModel", "noMethod", "(I)Z"⟩, 30), (⟨"AccessJudgeModel", "isFaced", "(III)Z"⟩, 30), (⟨"AccessJudgeModel", "isUnder", "(II)Z"⟩, 30), (⟨"AccessJudgeModel", "look", "(I)V"⟩, 30), (⟨"AccessJudgeModel", "tell", "(II)V"⟩, 30), (⟨"AccessJudgeModel", "isMet", "(III)Z"⟩, 30)]
theorem lw_r4 : ∀ q ∈ lw_privs_4, lw_okq q := List.forall_mem_cons.mpr ⟨lw_p48, List.forall_mem_cons.mpr ⟨lw_p49, List.forall_mem_cons.mpr ⟨lw_p50, List.forall_mem_cons.mpr ⟨lw_p51, List.forall_mem_cons.mpr ⟨lw_p52, List.forall_mem_cons.mpr ⟨lw_p53, List.forall_mem_cons.mpr ⟨lw_p54, List.forall_mem_cons.mpr ⟨lw_p55, List.forall_mem_cons.mpr ⟨lw_p56, List.forall_mem_cons.mpr ⟨lw_p57, List.forall_mem_cons.mpr ⟨lw_p58, List.forall_mem_cons.mpr ⟨lw_p59, List.forall_mem_cons.mpr ⟨lw_p60, List.forall_mem_cons.mpr ⟨lw_p61, List.forall_mem_cons.mpr ⟨lw_p62, List.forall_mem_cons.mpr ⟨lw_p63, fun _ h => absurd h List.not_mem_nil⟩⟩⟩⟩⟩⟩⟩⟩⟩⟩⟩⟩⟩⟩⟩⟩
theorem lw_p64 : lw_okq (⟨"AccessJudgeModel", "isWrong", "(III)Z"⟩, 30) := ⟨⟨by decide +kernel, by decide +kernel⟩, List.mem_of_getElem? (i := 829) (by decide +kernel), List.mem_of_getElem? (i := 1137) (by decide +kernel), List.mem_of_getElem? (i := 1138) (by decide +kernel)⟩
theorem lw_p65 : lw_okq (⟨"AccessJudgeModel", "hasOther", "(II)Z"⟩, 30) := ⟨⟨by decide +kernel, by decide +kernel⟩, List.mem_of_getElem? (i := 829) (by decide +kernel), List.mem_of_getElem? (i := 1141) (by decide +kernel), List.mem_of_getElem? (i := 1142) (by decide +kernel)⟩
def lw_privs_5 : List (MethodName × Nat) := [(⟨"AccessJudgeModel", "isWrong", "(III)Z"⟩, 30), (⟨"AccessJudgeModel", "hasOther", "(II)Z"⟩, 30)]
theorem lw_r5 : ∀ q ∈ lw_privs_5, lw_okq q := List.forall_mem_cons.mpr ⟨lw_p64, List.forall_mem_cons.mpr ⟨lw_p65, fun _ h => absurd h List.not_mem_nil⟩⟩
def lw_privs : List (MethodName × Nat) := lw_privs_1 ++ (lw_privs_2 ++ (lw_privs_3 ++ (lw_privs_4 ++ (lw_privs_5))))
def lw_tbl : List Cond := k2_sels lw_privs ++ tables_1
theorem lw_privs_ok : ∀ q ∈ lw_privs, lw_okq q := by
  show ∀ q ∈ lw_privs_1 ++ (lw_privs_2 ++ (lw_privs_3 ++ (lw_privs_4 ++ (lw_privs_5)))), lw_okq q
  exact List.forall_mem_append.mpr ⟨lw_r1, List.forall_mem_append.mpr ⟨lw_r2, List.forall_mem_append.mpr ⟨lw_r3, List.forall_mem_append.mpr ⟨lw_r4, lw_r5⟩⟩⟩⟩

theorem goodIn_r {big : List Cond} (ws : List Cond) (ps : List Nat) (hp : ws = ps.filterMap (fun i => big[i]?)) (h : ws.all goodWord = true) : GoodIn big ws := by
  intro w hw
  have h1 := List.all_eq_true.mp h w hw
  rw [hp] at hw
  obtain ⟨i, -, hi⟩ := List.mem_filterMap.mp hw
  have hm : w ∈ big := by first | exact List.mem_of_getElem? hi | exact List.getElem?_mem hi
  exact ⟨hm, good_of_word h1⟩
theorem goodIn_app {big a b : List Cond} (ha : GoodIn big a) (hb : GoodIn big b) : GoodIn big (a ++ b) := fun w h => (List.mem_append.mp h).elim (ha w) (hb w)
theorem goodIn_ca {big a b : List Cond} {c : Cond} (ha : GoodIn big (c :: a)) (hb : GoodIn big b) : GoodIn big (c :: (a ++ b)) := fun w h => (List.mem_cons.mp h).elim (fun e => ha w (List.mem_cons.mpr (Or.inl e))) (fun h => (List.mem_append.mp h).elim (fun h => ha w (List.mem_cons.mpr (Or.inr h))) (hb w))
theorem goodIn_sub {big ws : List Cond} (hm : ∀ w ∈ ws, w ∈ big) (h : ws.all goodWord = true) : GoodIn big ws := fun w hw => ⟨hm w hw, good_of_word (List.all_eq_true.mp h w hw)⟩
def RX0 : String := "AccessJudge$Choice"
def TX0 : u_T := fun k => match k with
  | 0 => ("AccessJudge$Choice", "types", "LAccessJudge$Types;", true)
  | 1 => ("AccessJudge$Choice", "members", "LAccessJudge$Members;", true)
  | _ => ("AccessJudge$Choice", "overriding", "LAccessJudge$Overriding;", true)
def tyX0 : Nat → FieldType := fun k => match k with
  | 0 => .object "AccessJudge$Types"
  | 1 => .object "AccessJudge$Members"
  | _ => .object "AccessJudge$Overriding"
theorem nmX0 : ∀ a, a < 3 → ∀ b, b < 3 → a ≠ b → (TX0 a).2.1 ≠ (TX0 b).2.1 := by decide +kernel
theorem tyX0_ok : ∀ k, k < 3 → parseFieldDescriptor (TX0 k).2.2.1 = some (tyX0 k) := by decide +kernel
abbrev cX0_init : ByteArray := prog_2_method_1_code
def yX0_init : MethodName := ⟨RX0, "<init>", "(LAccessJudge$Types;LAccessJudge$Members;LAccessJudge$Overriding;)V"⟩
abbrev cX0_chosen : ByteArray := prog_2_method_2_code
def yX0_chosen : MethodName := ⟨RX0, "chosen", "(II)I"⟩
abbrev cX0_nearestClass : ByteArray := prog_2_method_3_code
def yX0_nearestClass : MethodName := ⟨RX0, "nearestClass", "(IJ)I"⟩
abbrev cX0_fromInterfaces : ByteArray := prog_2_method_4_code
def yX0_fromInterfaces : MethodName := ⟨RX0, "fromInterfaces", "(II)I"⟩
def RX1 : String := "AccessJudge$Faults"
def TX1 : u_T := fun k => match k with
  | 0 => ("AccessJudge$Faults", "types", "LAccessJudge$Types;", true)
  | 1 => ("AccessJudge$Faults", "members", "LAccessJudge$Members;", true)
  | 2 => ("AccessJudge$Faults", "inheritance", "LAccessJudge$Inheritance;", true)
  | 3 => ("AccessJudge$Faults", "overriding", "LAccessJudge$Overriding;", true)
  | 4 => ("AccessJudge$Faults", "openness", "LAccessJudge$Openness;", true)
  | 5 => ("AccessJudge$Faults", "size", "I", false)
  | 6 => ("AccessJudge$Faults", "codes", "[I", true)
  | 7 => ("AccessJudge$Faults", "numbers", "[I", true)
  | 8 => ("AccessJudge$Faults", "methodsOf", "[J", true)
  | _ => ("AccessJudge$Faults", "met", "[J", true)
def tyX1 : Nat → FieldType := fun k => match k with
  | 0 => .object "AccessJudge$Types"
  | 1 => .object "AccessJudge$Members"
  | 2 => .object "AccessJudge$Inheritance"
  | 3 => .object "AccessJudge$Overriding"
  | 4 => .object "AccessJudge$Openness"
  | 5 => .int
  | 6 => .array .int
  | 7 => .array .int
  | 8 => .array .long
  | _ => .array .long
theorem nmX1 : ∀ a, a < 10 → ∀ b, b < 10 → a ≠ b → (TX1 a).2.1 ≠ (TX1 b).2.1 := by decide +kernel
theorem tyX1_ok : ∀ k, k < 10 → parseFieldDescriptor (TX1 k).2.2.1 = some (tyX1 k) := by decide +kernel
abbrev cX1_init : ByteArray := prog_3_method_1_code
def yX1_init : MethodName := ⟨RX1, "<init>", "(LAccessJudge$Types;LAccessJudge$Members;LAccessJudge$Inheritance;LAccessJudge$Overriding;LAccessJudge$Openness;)V"⟩
abbrev cX1_find : ByteArray := prog_3_method_2_code
def yX1_find : MethodName := ⟨RX1, "find", "(I)V"⟩
abbrev cX1_metBy : ByteArray := prog_3_method_3_code
def yX1_metBy : MethodName := ⟨RX1, "metBy", "(IIJ)J"⟩
abbrev cX1_addIf : ByteArray := prog_3_method_4_code
def yX1_addIf : MethodName := ⟨RX1, "addIf", "(ZII)V"⟩
abbrev cX1_findInTypesAbove : ByteArray := prog_3_method_5_code
def yX1_findInTypesAbove : MethodName := ⟨RX1, "findInTypesAbove", "(I)V"⟩
abbrev cX1_findInDeclared : ByteArray := prog_3_method_6_code
def yX1_findInDeclared : MethodName := ⟨RX1, "findInDeclared", "(I)V"⟩
abbrev cX1_clashes : ByteArray := prog_3_method_7_code
def yX1_clashes : MethodName := ⟨RX1, "clashes", "(II)Z"⟩
abbrev cX1_clashesWith : ByteArray := prog_3_method_8_code
def yX1_clashesWith : MethodName := ⟨RX1, "clashesWith", "(III)Z"⟩
abbrev cX1_findInMembers : ByteArray := prog_3_method_9_code
def yX1_findInMembers : MethodName := ⟨RX1, "findInMembers", "(I)V"⟩
abbrev cX1_isFound : ByteArray := prog_3_method_10_code
def yX1_isFound : MethodName := ⟨RX1, "isFound", "(I)Z"⟩
abbrev cX1_isRivalled : ByteArray := prog_3_method_11_code
def yX1_isRivalled : MethodName := ⟨RX1, "isRivalled", "(I)Z"⟩
def RX2 : String := "AccessJudge$Inheritance"
def TX2 : u_T := fun k => match k with
  | 0 => ("AccessJudge$Inheritance", "types", "LAccessJudge$Types;", true)
  | 1 => ("AccessJudge$Inheritance", "members", "LAccessJudge$Members;", true)
  | 2 => ("AccessJudge$Inheritance", "found", "[J", true)
  | _ => ("AccessJudge$Inheritance", "known", "I", false)
def tyX2 : Nat → FieldType := fun k => match k with
  | 0 => .object "AccessJudge$Types"
  | 1 => .object "AccessJudge$Members"
  | 2 => .array .long
  | _ => .int
theorem nmX2 : ∀ a, a < 4 → ∀ b, b < 4 → a ≠ b → (TX2 a).2.1 ≠ (TX2 b).2.1 := by decide +kernel
theorem tyX2_ok : ∀ k, k < 4 → parseFieldDescriptor (TX2 k).2.2.1 = some (tyX2 k) := by decide +kernel
abbrev cX2_init : ByteArray := prog_4_method_1_code
def yX2_init : MethodName := ⟨RX2, "<init>", "(LAccessJudge$Types;LAccessJudge$Members;)V"⟩
abbrev cX2_forget : ByteArray := prog_4_method_2_code
def yX2_forget : MethodName := ⟨RX2, "forget", "()V"⟩
abbrev cX2_howMany : ByteArray := prog_4_method_3_code
def yX2_howMany : MethodName := ⟨RX2, "howMany", "(I)I"⟩
abbrev cX2_membersOf : ByteArray := prog_4_method_4_code
def yX2_membersOf : MethodName := ⟨RX2, "membersOf", "(II)J"⟩
abbrev cX2_find : ByteArray := prog_4_method_5_code
def yX2_find : MethodName := ⟨RX2, "find", "(II)J"⟩
abbrev cX2_fromParent : ByteArray := prog_4_method_6_code
def yX2_fromParent : MethodName := ⟨RX2, "fromParent", "(IIJ)J"⟩
abbrev cX2_fromFaces : ByteArray := prog_4_method_7_code
def yX2_fromFaces : MethodName := ⟨RX2, "fromFaces", "(IJJJ)J"⟩
abbrev cX2_ofFaces : ByteArray := prog_4_method_8_code
def yX2_ofFaces : MethodName := ⟨RX2, "ofFaces", "(II)J"⟩
def RX3 : String := "AccessJudge$Members"
def TX3 : u_T := fun k => match k with
  | 0 => ("AccessJudge$Members", "types", "LAccessJudge$Types;", true)
  | 1 => ("AccessJudge$Members", "count", "I", false)
  | 2 => ("AccessJudge$Members", "declarer", "[I", true)
  | 3 => ("AccessJudge$Members", "group", "[I", true)
  | 4 => ("AccessJudge$Members", "access", "[I", true)
  | 5 => ("AccessJudge$Members", "flags", "[I", true)
  | 6 => ("AccessJudge$Members", "numbers", "[I", true)
  | 7 => ("AccessJudge$Members", "declarers", "[J", true)
  | 8 => ("AccessJudge$Members", "privates", "[J", true)
  | 9 => ("AccessJudge$Members", "packageOnes", "[J", true)
  | 10 => ("AccessJudge$Members", "statics", "[J", true)
  | _ => ("AccessJudge$Members", "abstracts", "[J", true)
def tyX3 : Nat → FieldType := fun k => match k with
  | 0 => .object "AccessJudge$Types"
  | 1 => .int
  | 2 => .array .int
  | 3 => .array .int
  | 4 => .array .int
  | 5 => .array .int
  | 6 => .array .int
  | 7 => .array .long
  | 8 => .array .long
  | 9 => .array .long
  | 10 => .array .long
  | _ => .array .long
theorem nmX3 : ∀ a, a < 12 → ∀ b, b < 12 → a ≠ b → (TX3 a).2.1 ≠ (TX3 b).2.1 := by decide +kernel
theorem tyX3_ok : ∀ k, k < 12 → parseFieldDescriptor (TX3 k).2.2.1 = some (tyX3 k) := by decide +kernel
abbrev cX3_init : ByteArray := prog_5_method_1_code
def yX3_init : MethodName := ⟨RX3, "<init>", "(LAccessJudge$Types;)V"⟩
abbrev cX3_exists : ByteArray := prog_5_method_2_code
def yX3_exists : MethodName := ⟨RX3, "exists", "(I)Z"⟩
abbrev cX3_isMethod : ByteArray := prog_5_method_3_code
def yX3_isMethod : MethodName := ⟨RX3, "isMethod", "(I)Z"⟩
abbrev cX3_isMethodGroup : ByteArray := prog_5_method_4_code
def yX3_isMethodGroup : MethodName := ⟨RX3, "isMethodGroup", "(I)Z"⟩
abbrev cX3_hasFlag : ByteArray := prog_5_method_5_code
def yX3_hasFlag : MethodName := ⟨RX3, "hasFlag", "(II)Z"⟩
abbrev cX3_declared : ByteArray := prog_5_method_6_code
def yX3_declared : MethodName := ⟨RX3, "declared", "(II)I"⟩
abbrev cX3_overridable : ByteArray := prog_5_method_7_code
def yX3_overridable : MethodName := ⟨RX3, "overridable", "(I)J"⟩
abbrev cX3_brokenRule : ByteArray := prog_5_method_8_code
def yX3_brokenRule : MethodName := ⟨RX3, "brokenRule", "(IIIII)I"⟩
abbrev cX3_fitsInterface : ByteArray := prog_5_method_9_code
def yX3_fitsInterface : MethodName := ⟨RX3, "fitsInterface", "(III)Z"⟩
abbrev cX3_add : ByteArray := prog_5_method_10_code
def yX3_add : MethodName := ⟨RX3, "add", "(IIIII)I"⟩
def RX4 : String := "AccessJudge$Modules"
def TX4 : u_T := fun k => match k with
  | 0 => ("AccessJudge$Modules", "modules", "I", false)
  | 1 => ("AccessJudge$Modules", "packs", "I", false)
  | 2 => ("AccessJudge$Modules", "readOnes", "[I", true)
  | 3 => ("AccessJudge$Modules", "home", "[I", true)
  | _ => ("AccessJudge$Modules", "exportedTo", "[I", true)
def tyX4 : Nat → FieldType := fun k => match k with
  | 0 => .int
  | 1 => .int
  | 2 => .array .int
  | 3 => .array .int
  | _ => .array .int
theorem nmX4 : ∀ a, a < 5 → ∀ b, b < 5 → a ≠ b → (TX4 a).2.1 ≠ (TX4 b).2.1 := by decide +kernel
theorem tyX4_ok : ∀ k, k < 5 → parseFieldDescriptor (TX4 k).2.2.1 = some (tyX4 k) := by decide +kernel
abbrev cX4_init : ByteArray := prog_6_method_1_code
def yX4_init : MethodName := ⟨RX4, "<init>", "()V"⟩
abbrev cX4_hasModule : ByteArray := prog_6_method_2_code
def yX4_hasModule : MethodName := ⟨RX4, "hasModule", "(I)Z"⟩
abbrev cX4_hasPack : ByteArray := prog_6_method_3_code
def yX4_hasPack : MethodName := ⟨RX4, "hasPack", "(I)Z"⟩
abbrev cX4_addModule : ByteArray := prog_6_method_4_code
def yX4_addModule : MethodName := ⟨RX4, "addModule", "()I"⟩
abbrev cX4_addReading : ByteArray := prog_6_method_5_code
def yX4_addReading : MethodName := ⟨RX4, "addReading", "(II)I"⟩
abbrev cX4_addPack : ByteArray := prog_6_method_6_code
def yX4_addPack : MethodName := ⟨RX4, "addPack", "(I)I"⟩
abbrev cX4_addExport : ByteArray := prog_6_method_7_code
def yX4_addExport : MethodName := ⟨RX4, "addExport", "(II)I"⟩
abbrev cX4_isPublicSeen : ByteArray := prog_6_method_8_code
def yX4_isPublicSeen : MethodName := ⟨RX4, "isPublicSeen", "(II)Z"⟩
def RX5 : String := "AccessJudge$Openness"
def TX5 : u_T := fun k => match k with
  | 0 => ("AccessJudge$Openness", "modules", "LAccessJudge$Modules;", true)
  | 1 => ("AccessJudge$Openness", "types", "LAccessJudge$Types;", true)
  | _ => ("AccessJudge$Openness", "members", "LAccessJudge$Members;", true)
def tyX5 : Nat → FieldType := fun k => match k with
  | 0 => .object "AccessJudge$Modules"
  | 1 => .object "AccessJudge$Types"
  | _ => .object "AccessJudge$Members"
theorem nmX5 : ∀ a, a < 3 → ∀ b, b < 3 → a ≠ b → (TX5 a).2.1 ≠ (TX5 b).2.1 := by decide +kernel
theorem tyX5_ok : ∀ k, k < 3 → parseFieldDescriptor (TX5 k).2.2.1 = some (tyX5 k) := by decide +kernel
abbrev cX5_init : ByteArray := prog_7_method_1_code
def yX5_init : MethodName := ⟨RX5, "<init>", "(LAccessJudge$Modules;LAccessJudge$Types;LAccessJudge$Members;)V"⟩
abbrev cX5_isTypeOpen : ByteArray := prog_7_method_2_code
def yX5_isTypeOpen : MethodName := ⟨RX5, "isTypeOpen", "(II)Z"⟩
abbrev cX5_isOpenWithinOuter : ByteArray := prog_7_method_3_code
def yX5_isOpenWithinOuter : MethodName := ⟨RX5, "isOpenWithinOuter", "(II)Z"⟩
abbrev cX5_openOnes : ByteArray := prog_7_method_4_code
def yX5_openOnes : MethodName := ⟨RX5, "openOnes", "(JIIII)J"⟩
abbrev cX5_isMemberOpen : ByteArray := prog_7_method_5_code
def yX5_isMemberOpen : MethodName := ⟨RX5, "isMemberOpen", "(IIII)Z"⟩
abbrev cX5_isNearEnough : ByteArray := prog_7_method_6_code
def yX5_isNearEnough : MethodName := ⟨RX5, "isNearEnough", "(II)Z"⟩
abbrev cX5_isProtectedOpen : ByteArray := prog_7_method_7_code
def yX5_isProtectedOpen : MethodName := ⟨RX5, "isProtectedOpen", "(IIII)Z"⟩
abbrev cX5_isMakerOpen : ByteArray := prog_7_method_8_code
def yX5_isMakerOpen : MethodName := ⟨RX5, "isMakerOpen", "(III)Z"⟩
def RX6 : String := "AccessJudge$Overriding"
def TX6 : u_T := fun k => match k with
  | 0 => ("AccessJudge$Overriding", "types", "LAccessJudge$Types;", true)
  | 1 => ("AccessJudge$Overriding", "members", "LAccessJudge$Members;", true)
  | 2 => ("AccessJudge$Overriding", "overridden", "[J", true)
  | 3 => ("AccessJudge$Overriding", "overriders", "[J", true)
  | _ => ("AccessJudge$Overriding", "known", "I", false)
def tyX6 : Nat → FieldType := fun k => match k with
  | 0 => .object "AccessJudge$Types"
  | 1 => .object "AccessJudge$Members"
  | 2 => .array .long
  | 3 => .array .long
  | _ => .int
theorem nmX6 : ∀ a, a < 5 → ∀ b, b < 5 → a ≠ b → (TX6 a).2.1 ≠ (TX6 b).2.1 := by decide +kernel
theorem tyX6_ok : ∀ k, k < 5 → parseFieldDescriptor (TX6 k).2.2.1 = some (tyX6 k) := by decide +kernel
abbrev cX6_init : ByteArray := prog_8_method_1_code
def yX6_init : MethodName := ⟨RX6, "<init>", "(LAccessJudge$Types;LAccessJudge$Members;)V"⟩
abbrev cX6_forget : ByteArray := prog_8_method_2_code
def yX6_forget : MethodName := ⟨RX6, "forget", "()V"⟩
abbrev cX6_holds : ByteArray := prog_8_method_3_code
def yX6_holds : MethodName := ⟨RX6, "holds", "(II)Z"⟩
abbrev cX6_overriddenBy : ByteArray := prog_8_method_4_code
def yX6_overriddenBy : MethodName := ⟨RX6, "overriddenBy", "(II)J"⟩
abbrev cX6_overridersOf : ByteArray := prog_8_method_5_code
def yX6_overridersOf : MethodName := ⟨RX6, "overridersOf", "(II)J"⟩
abbrev cX6_knownRow : ByteArray := prog_8_method_6_code
def yX6_knownRow : MethodName := ⟨RX6, "knownRow", "(I)I"⟩
abbrev cX6_clear : ByteArray := prog_8_method_7_code
def yX6_clear : MethodName := ⟨RX6, "clear", "(I)V"⟩
abbrev cX6_findOverridden : ByteArray := prog_8_method_8_code
def yX6_findOverridden : MethodName := ⟨RX6, "findOverridden", "(IJII)V"⟩
abbrev cX6_reaches : ByteArray := prog_8_method_9_code
def yX6_reaches : MethodName := ⟨RX6, "reaches", "(IIII)Z"⟩
def RX7 : String := "AccessJudge$Sets"
def TX7 : u_T := fun k => match k with
  | _ => ("", "", "", false)
def tyX7 : Nat → FieldType := fun k => match k with
  | _ => .int
theorem nmX7 : ∀ a, a < 0 → ∀ b, b < 0 → a ≠ b → (TX7 a).2.1 ≠ (TX7 b).2.1 := by decide +kernel
theorem tyX7_ok : ∀ k, k < 0 → parseFieldDescriptor (TX7 k).2.2.1 = some (tyX7 k) := by decide +kernel
abbrev cX7_one : ByteArray := prog_9_method_2_code
def yX7_one : MethodName := ⟨RX7, "one", "(I)J"⟩
abbrev cX7_has : ByteArray := prog_9_method_3_code
def yX7_has : MethodName := ⟨RX7, "has", "(JI)Z"⟩
abbrev cX7_least : ByteArray := prog_9_method_4_code
def yX7_least : MethodName := ⟨RX7, "least", "(J)I"⟩
def RX8 : String := "AccessJudge$Types"
def TX8 : u_T := fun k => match k with
  | 0 => ("AccessJudge$Types", "count", "I", false)
  | 1 => ("AccessJudge$Types", "classes", "J", false)
  | 2 => ("AccessJudge$Types", "statics", "J", false)
  | 3 => ("AccessJudge$Types", "pack", "[I", true)
  | 4 => ("AccessJudge$Types", "outer", "[I", true)
  | 5 => ("AccessJudge$Types", "top", "[I", true)
  | 6 => ("AccessJudge$Types", "access", "[I", true)
  | 7 => ("AccessJudge$Types", "parent", "[I", true)
  | 8 => ("AccessJudge$Types", "flags", "[I", true)
  | 9 => ("AccessJudge$Types", "faces", "[J", true)
  | 10 => ("AccessJudge$Types", "above", "[J", true)
  | 11 => ("AccessJudge$Types", "below", "[J", true)
  | 12 => ("AccessJudge$Types", "around", "[J", true)
  | 13 => ("AccessJudge$Types", "order", "[I", true)
  | 14 => ("AccessJudge$Types", "nextOrder", "[I", true)
  | _ => ("AccessJudge$Types", "ofPack", "[J", true)
def tyX8 : Nat → FieldType := fun k => match k with
  | 0 => .int
  | 1 => .long
  | 2 => .long
  | 3 => .array .int
  | 4 => .array .int
  | 5 => .array .int
  | 6 => .array .int
  | 7 => .array .int
  | 8 => .array .int
  | 9 => .array .long
  | 10 => .array .long
  | 11 => .array .long
  | 12 => .array .long
  | 13 => .array .int
  | 14 => .array .int
  | _ => .array .long
theorem nmX8 : ∀ a, a < 16 → ∀ b, b < 16 → a ≠ b → (TX8 a).2.1 ≠ (TX8 b).2.1 := by decide +kernel
theorem tyX8_ok : ∀ k, k < 16 → parseFieldDescriptor (TX8 k).2.2.1 = some (tyX8 k) := by decide +kernel
abbrev cX8_init : ByteArray := prog_10_method_1_code
def yX8_init : MethodName := ⟨RX8, "<init>", "()V"⟩
abbrev cX8_exists : ByteArray := prog_10_method_2_code
def yX8_exists : MethodName := ⟨RX8, "exists", "(I)Z"⟩
abbrev cX8_isClass : ByteArray := prog_10_method_3_code
def yX8_isClass : MethodName := ⟨RX8, "isClass", "(I)Z"⟩
abbrev cX8_hasFlag : ByteArray := prog_10_method_4_code
def yX8_hasFlag : MethodName := ⟨RX8, "hasFlag", "(II)Z"⟩
abbrev cX8_faceCount : ByteArray := prog_10_method_5_code
def yX8_faceCount : MethodName := ⟨RX8, "faceCount", "(I)I"⟩
abbrev cX8_isSameOrBelow : ByteArray := prog_10_method_6_code
def yX8_isSameOrBelow : MethodName := ⟨RX8, "isSameOrBelow", "(II)Z"⟩
abbrev cX8_sameOrBelow : ByteArray := prog_10_method_7_code
def yX8_sameOrBelow : MethodName := ⟨RX8, "sameOrBelow", "(I)J"⟩
abbrev cX8_sameOrAbove : ByteArray := prog_10_method_8_code
def yX8_sameOrAbove : MethodName := ⟨RX8, "sameOrAbove", "(I)J"⟩
abbrev cX8_neighbours : ByteArray := prog_10_method_9_code
def yX8_neighbours : MethodName := ⟨RX8, "neighbours", "(I)J"⟩
abbrev cX8_brokenRule : ByteArray := prog_10_method_10_code
def yX8_brokenRule : MethodName := ⟨RX8, "brokenRule", "(IIIII)I"⟩
abbrev cX8_add : ByteArray := prog_10_method_11_code
def yX8_add : MethodName := ⟨RX8, "add", "(IIIII)I"⟩
abbrev cX8_putWithin : ByteArray := prog_10_method_12_code
def yX8_putWithin : MethodName := ⟨RX8, "putWithin", "(II)V"⟩
abbrev cX8_setParent : ByteArray := prog_10_method_13_code
def yX8_setParent : MethodName := ⟨RX8, "setParent", "(II)V"⟩
abbrev cX8_addFace : ByteArray := prog_10_method_14_code
def yX8_addFace : MethodName := ⟨RX8, "addFace", "(II)V"⟩
abbrev cX8_putBelow : ByteArray := prog_10_method_15_code
def yX8_putBelow : MethodName := ⟨RX8, "putBelow", "(II)V"⟩
abbrev cX8_putLastInOrder : ByteArray := prog_10_method_16_code
def yX8_putLastInOrder : MethodName := ⟨RX8, "putLastInOrder", "(J)V"⟩
abbrev cX8_withoutAnyBelow : ByteArray := prog_10_method_17_code
def yX8_withoutAnyBelow : MethodName := ⟨RX8, "withoutAnyBelow", "(JJ)J"⟩
def RX9 : String := "AccessJudge$Uses"
def TX9 : u_T := fun k => match k with
  | 0 => ("AccessJudge$Uses", "types", "LAccessJudge$Types;", true)
  | 1 => ("AccessJudge$Uses", "members", "LAccessJudge$Members;", true)
  | 2 => ("AccessJudge$Uses", "inheritance", "LAccessJudge$Inheritance;", true)
  | _ => ("AccessJudge$Uses", "openness", "LAccessJudge$Openness;", true)
def tyX9 : Nat → FieldType := fun k => match k with
  | 0 => .object "AccessJudge$Types"
  | 1 => .object "AccessJudge$Members"
  | 2 => .object "AccessJudge$Inheritance"
  | _ => .object "AccessJudge$Openness"
theorem nmX9 : ∀ a, a < 4 → ∀ b, b < 4 → a ≠ b → (TX9 a).2.1 ≠ (TX9 b).2.1 := by decide +kernel
theorem tyX9_ok : ∀ k, k < 4 → parseFieldDescriptor (TX9 k).2.2.1 = some (tyX9 k) := by decide +kernel
abbrev cX9_init : ByteArray := prog_11_method_1_code
def yX9_init : MethodName := ⟨RX9, "<init>", "(LAccessJudge$Types;LAccessJudge$Members;LAccessJudge$Inheritance;LAccessJudge$Openness;)V"⟩
abbrev cX9_usedType : ByteArray := prog_11_method_2_code
def yX9_usedType : MethodName := ⟨RX9, "usedType", "(IIII)I"⟩
abbrev cX9_meant : ByteArray := prog_11_method_3_code
def yX9_meant : MethodName := ⟨RX9, "meant", "(IIII)I"⟩
abbrev cX9_preferred : ByteArray := prog_11_method_4_code
def yX9_preferred : MethodName := ⟨RX9, "preferred", "(JI)I"⟩
abbrev cX9_allowed : ByteArray := prog_11_method_5_code
def yX9_allowed : MethodName := ⟨RX9, "allowed", "(IIII)I"⟩
abbrev cX9_hasStaticAhead : ByteArray := prog_11_method_6_code
def yX9_hasStaticAhead : MethodName := ⟨RX9, "hasStaticAhead", "(II)Z"⟩
abbrev cX9_maker : ByteArray := prog_11_method_7_code
def yX9_maker : MethodName := ⟨RX9, "maker", "(IIII)I"⟩
def RX10 : String := "AccessJudge"
def TX10 : u_T := fun k => match k with
  | 0 => ("AccessJudge", "modules", "LAccessJudge$Modules;", true)
  | 1 => ("AccessJudge", "types", "LAccessJudge$Types;", true)
  | 2 => ("AccessJudge", "members", "LAccessJudge$Members;", true)
  | 3 => ("AccessJudge", "inheritance", "LAccessJudge$Inheritance;", true)
  | 4 => ("AccessJudge", "overriding", "LAccessJudge$Overriding;", true)
  | 5 => ("AccessJudge", "openness", "LAccessJudge$Openness;", true)
  | 6 => ("AccessJudge", "uses", "LAccessJudge$Uses;", true)
  | 7 => ("AccessJudge", "choice", "LAccessJudge$Choice;", true)
  | _ => ("AccessJudge", "faults", "LAccessJudge$Faults;", true)
def tyX10 : Nat → FieldType := fun k => match k with
  | 0 => .object "AccessJudge$Modules"
  | 1 => .object "AccessJudge$Types"
  | 2 => .object "AccessJudge$Members"
  | 3 => .object "AccessJudge$Inheritance"
  | 4 => .object "AccessJudge$Overriding"
  | 5 => .object "AccessJudge$Openness"
  | 6 => .object "AccessJudge$Uses"
  | 7 => .object "AccessJudge$Choice"
  | _ => .object "AccessJudge$Faults"
theorem nmX10 : ∀ a, a < 9 → ∀ b, b < 9 → a ≠ b → (TX10 a).2.1 ≠ (TX10 b).2.1 := by decide +kernel
theorem tyX10_ok : ∀ k, k < 9 → parseFieldDescriptor (TX10 k).2.2.1 = some (tyX10 k) := by decide +kernel
abbrev cX10_init : ByteArray := prog_1_method_1_code
def yX10_init : MethodName := ⟨RX10, "<init>", "()V"⟩
abbrev cX10_module : ByteArray := prog_1_method_2_code
def yX10_module : MethodName := ⟨RX10, "module", "()I"⟩
abbrev cX10_reads : ByteArray := prog_1_method_3_code
def yX10_reads : MethodName := ⟨RX10, "reads", "(II)I"⟩
abbrev cX10_pack : ByteArray := prog_1_method_4_code
def yX10_pack : MethodName := ⟨RX10, "pack", "(I)I"⟩
abbrev cX10_export : ByteArray := prog_1_method_5_code
def yX10_export : MethodName := ⟨RX10, "export", "(II)I"⟩
abbrev cX10_type : ByteArray := prog_1_method_6_code
def yX10_type : MethodName := ⟨RX10, "type", "(IIIII)I"⟩
abbrev cX10_parent : ByteArray := prog_1_method_7_code
def yX10_parent : MethodName := ⟨RX10, "parent", "(II)I"⟩
abbrev cX10_face : ByteArray := prog_1_method_8_code
def yX10_face : MethodName := ⟨RX10, "face", "(II)I"⟩
abbrev cX10_member : ByteArray := prog_1_method_9_code
def yX10_member : MethodName := ⟨RX10, "member", "(IIIII)I"⟩
abbrev cX10_count : ByteArray := prog_1_method_10_code
def yX10_count : MethodName := ⟨RX10, "count", "(I)I"⟩
abbrev cX10_about : ByteArray := prog_1_method_11_code
def yX10_about : MethodName := ⟨RX10, "about", "(II)I"⟩
abbrev cX10_below : ByteArray := prog_1_method_12_code
def yX10_below : MethodName := ⟨RX10, "below", "(II)I"⟩
abbrev cX10_open : ByteArray := prog_1_method_13_code
def yX10_open : MethodName := ⟨RX10, "open", "(II)I"⟩
abbrev cX10_of : ByteArray := prog_1_method_14_code
def yX10_of : MethodName := ⟨RX10, "of", "(II)I"⟩
abbrev cX10_use : ByteArray := prog_1_method_15_code
def yX10_use : MethodName := ⟨RX10, "use", "(IIIII)I"⟩
abbrev cX10_make : ByteArray := prog_1_method_16_code
def yX10_make : MethodName := ⟨RX10, "make", "(IIII)I"⟩
abbrev cX10_overrides : ByteArray := prog_1_method_17_code
def yX10_overrides : MethodName := ⟨RX10, "overrides", "(II)I"⟩
abbrev cX10_choose : ByteArray := prog_1_method_18_code
def yX10_choose : MethodName := ⟨RX10, "choose", "(II)I"⟩
abbrev cX10_check : ByteArray := prog_1_method_19_code
def yX10_check : MethodName := ⟨RX10, "check", "(I)I"⟩
abbrev cX10_fault : ByteArray := prog_1_method_20_code
def yX10_fault : MethodName := ⟨RX10, "fault", "(III)I"⟩
abbrev cX10_forgetAnswers : ByteArray := prog_1_method_21_code
def yX10_forgetAnswers : MethodName := ⟨RX10, "forgetAnswers", "()V"⟩
abbrev cX10_isWithin : ByteArray := prog_1_method_22_code
def yX10_isWithin : MethodName := ⟨RX10, "isWithin", "(II)Z"⟩
abbrev cX10_areFlags : ByteArray := prog_1_method_23_code
def yX10_areFlags : MethodName := ⟨RX10, "areFlags", "(I)Z"⟩
abbrev cX10_typeOrNone : ByteArray := prog_1_method_24_code
def yX10_typeOrNone : MethodName := ⟨RX10, "typeOrNone", "(I)I"⟩
abbrev cX10_yesOrNo : ByteArray := prog_1_method_25_code
def yX10_yesOrNo : MethodName := ⟨RX10, "yesOrNo", "(Z)I"⟩
def RX11 : String := "AccessJudgeModel"
def TX11 : u_T := fun k => match k with
  | 0 => ("AccessJudgeModel", "modules", "I", false)
  | 1 => ("AccessJudgeModel", "doesRead", "[Z", true)
  | 2 => ("AccessJudgeModel", "packs", "I", false)
  | 3 => ("AccessJudgeModel", "moduleOf", "[I", true)
  | 4 => ("AccessJudgeModel", "isOut", "[Z", true)
  | 5 => ("AccessJudgeModel", "isOutToAll", "[Z", true)
  | 6 => ("AccessJudgeModel", "types", "I", false)
  | 7 => ("AccessJudgeModel", "packOf", "[I", true)
  | 8 => ("AccessJudgeModel", "outerOf", "[I", true)
  | 9 => ("AccessJudgeModel", "sortOf", "[I", true)
  | 10 => ("AccessJudgeModel", "accessOf", "[I", true)
  | 11 => ("AccessJudgeModel", "flagsOf", "[I", true)
  | 12 => ("AccessJudgeModel", "parentOf", "[I", true)
  | 13 => ("AccessJudgeModel", "faces", "[I", true)
  | 14 => ("AccessJudgeModel", "faceCount", "[I", true)
  | 15 => ("AccessJudgeModel", "isAbove", "[Z", true)
  | 16 => ("AccessJudgeModel", "members", "I", false)
  | 17 => ("AccessJudgeModel", "mType", "[I", true)
  | 18 => ("AccessJudgeModel", "mKind", "[I", true)
  | 19 => ("AccessJudgeModel", "mName", "[I", true)
  | 20 => ("AccessJudgeModel", "mAccess", "[I", true)
  | 21 => ("AccessJudgeModel", "mFlags", "[I", true)
  | 22 => ("AccessJudgeModel", "isFound", "Z", false)
  | 23 => ("AccessJudgeModel", "isOf", "[Z", true)
  | 24 => ("AccessJudgeModel", "isDone", "[Z", true)
  | 25 => ("AccessJudgeModel", "isOver", "[Z", true)
  | 26 => ("AccessJudgeModel", "comes", "[Z", true)
  | 27 => ("AccessJudgeModel", "faultCode", "[I", true)
  | 28 => ("AccessJudgeModel", "faultOf", "[I", true)
  | _ => ("AccessJudgeModel", "faults", "I", false)
def tyX11 : Nat → FieldType := fun k => match k with
  | 0 => .int
  | 1 => .array .boolean
  | 2 => .int
  | 3 => .array .int
  | 4 => .array .boolean
  | 5 => .array .boolean
  | 6 => .int
  | 7 => .array .int
  | 8 => .array .int
  | 9 => .array .int
  | 10 => .array .int
  | 11 => .array .int
  | 12 => .array .int
  | 13 => .array .int
  | 14 => .array .int
  | 15 => .array .boolean
  | 16 => .int
  | 17 => .array .int
  | 18 => .array .int
  | 19 => .array .int
  | 20 => .array .int
  | 21 => .array .int
  | 22 => .boolean
  | 23 => .array .boolean
  | 24 => .array .boolean
  | 25 => .array .boolean
  | 26 => .array .boolean
  | 27 => .array .int
  | 28 => .array .int
  | _ => .int
theorem nmX11 : ∀ a, a < 30 → ∀ b, b < 30 → a ≠ b → (TX11 a).2.1 ≠ (TX11 b).2.1 := by decide +kernel
theorem tyX11_ok : ∀ k, k < 30 → parseFieldDescriptor (TX11 k).2.2.1 = some (tyX11 k) := by decide +kernel
abbrev cX11_init : ByteArray := prog_13_method_1_code
def yX11_init : MethodName := ⟨RX11, "<init>", "()V"⟩
abbrev cX11_module : ByteArray := prog_13_method_2_code
def yX11_module : MethodName := ⟨RX11, "module", "()I"⟩
abbrev cX11_noModule : ByteArray := prog_13_method_3_code
def yX11_noModule : MethodName := ⟨RX11, "noModule", "(I)Z"⟩
abbrev cX11_noPack : ByteArray := prog_13_method_4_code
def yX11_noPack : MethodName := ⟨RX11, "noPack", "(I)Z"⟩
abbrev cX11_noType : ByteArray := prog_13_method_5_code
def yX11_noType : MethodName := ⟨RX11, "noType", "(I)Z"⟩
abbrev cX11_noMember : ByteArray := prog_13_method_6_code
def yX11_noMember : MethodName := ⟨RX11, "noMember", "(I)Z"⟩
abbrev cX11_reads : ByteArray := prog_13_method_7_code
def yX11_reads : MethodName := ⟨RX11, "reads", "(II)I"⟩
abbrev cX11_pack : ByteArray := prog_13_method_8_code
def yX11_pack : MethodName := ⟨RX11, "pack", "(I)I"⟩
abbrev cX11_export : ByteArray := prog_13_method_9_code
def yX11_export : MethodName := ⟨RX11, "export", "(II)I"⟩
abbrev cX11_has : ByteArray := prog_13_method_10_code
def yX11_has : MethodName := ⟨RX11, "has", "(II)Z"⟩
abbrev cX11_ruleOfType : ByteArray := prog_13_method_11_code
def yX11_ruleOfType : MethodName := ⟨RX11, "ruleOfType", "(IIIII)I"⟩
abbrev cX11_noForm : ByteArray := prog_13_method_12_code
def yX11_noForm : MethodName := ⟨RX11, "noForm", "(II)Z"⟩
abbrev cX11_type : ByteArray := prog_13_method_13_code
def yX11_type : MethodName := ⟨RX11, "type", "(IIIII)I"⟩
abbrev cX11_raise : ByteArray := prog_13_method_14_code
def yX11_raise : MethodName := ⟨RX11, "raise", "(II)V"⟩
abbrev cX11_isBelow : ByteArray := prog_13_method_15_code
def yX11_isBelow : MethodName := ⟨RX11, "isBelow", "(II)Z"⟩
abbrev cX11_isAt : ByteArray := prog_13_method_16_code
def yX11_isAt : MethodName := ⟨RX11, "isAt", "(II)Z"⟩
abbrev cX11_parent : ByteArray := prog_13_method_17_code
def yX11_parent : MethodName := ⟨RX11, "parent", "(II)I"⟩
abbrev cX11_face : ByteArray := prog_13_method_18_code
def yX11_face : MethodName := ⟨RX11, "face", "(II)I"⟩
abbrev cX11_declared : ByteArray := prog_13_method_19_code
def yX11_declared : MethodName := ⟨RX11, "declared", "(III)I"⟩
abbrev cX11_ruleOfMember : ByteArray := prog_13_method_20_code
def yX11_ruleOfMember : MethodName := ⟨RX11, "ruleOfMember", "(IIIII)I"⟩
abbrev cX11_member : ByteArray := prog_13_method_21_code
def yX11_member : MethodName := ⟨RX11, "member", "(IIIII)I"⟩
abbrev cX11_count : ByteArray := prog_13_method_22_code
def yX11_count : MethodName := ⟨RX11, "count", "(I)I"⟩
abbrev cX11_topOf : ByteArray := prog_13_method_23_code
def yX11_topOf : MethodName := ⟨RX11, "topOf", "(I)I"⟩
abbrev cX11_about : ByteArray := prog_13_method_24_code
def yX11_about : MethodName := ⟨RX11, "about", "(II)I"⟩
abbrev cX11_isPlain : ByteArray := prog_13_method_25_code
def yX11_isPlain : MethodName := ⟨RX11, "isPlain", "(I)Z"⟩
abbrev cX11_find : ByteArray := prog_13_method_26_code
def yX11_find : MethodName := ⟨RX11, "find", "()V"⟩
abbrev cX11_isReady : ByteArray := prog_13_method_27_code
def yX11_isReady : MethodName := ⟨RX11, "isReady", "(I)Z"⟩
abbrev cX11_findMembers : ByteArray := prog_13_method_28_code
def yX11_findMembers : MethodName := ⟨RX11, "findMembers", "(I)V"⟩
abbrev cX11_comesFromParent : ByteArray := prog_13_method_29_code
def yX11_comesFromParent : MethodName := ⟨RX11, "comesFromParent", "(II)Z"⟩
abbrev cX11_isOfFace : ByteArray := prog_13_method_30_code
def yX11_isOfFace : MethodName := ⟨RX11, "isOfFace", "(II)Z"⟩
abbrev cX11_isBehind : ByteArray := prog_13_method_31_code
def yX11_isBehind : MethodName := ⟨RX11, "isBehind", "(II)Z"⟩
abbrev cX11_canOver : ByteArray := prog_13_method_32_code
def yX11_canOver : MethodName := ⟨RX11, "canOver", "(II)Z"⟩
abbrev cX11_findOvers : ByteArray := prog_13_method_33_code
def yX11_findOvers : MethodName := ⟨RX11, "findOvers", "()V"⟩
abbrev cX11_isOverBy : ByteArray := prog_13_method_34_code
def yX11_isOverBy : MethodName := ⟨RX11, "isOverBy", "(II)Z"⟩
abbrev cX11_below : ByteArray := prog_13_method_35_code
def yX11_below : MethodName := ⟨RX11, "below", "(II)I"⟩
abbrev cX11_isAround : ByteArray := prog_13_method_36_code
def yX11_isAround : MethodName := ⟨RX11, "isAround", "(II)Z"⟩
abbrev cX11_isOpen : ByteArray := prog_13_method_37_code
def yX11_isOpen : MethodName := ⟨RX11, "isOpen", "(II)Z"⟩
abbrev cX11_open : ByteArray := prog_13_method_38_code
def yX11_open : MethodName := ⟨RX11, "open", "(II)I"⟩
abbrev cX11_of : ByteArray := prog_13_method_39_code
def yX11_of : MethodName := ⟨RX11, "of", "(II)I"⟩
abbrev cX11_isOpenMember : ByteArray := prog_13_method_40_code
def yX11_isOpenMember : MethodName := ⟨RX11, "isOpenMember", "(IIII)Z"⟩
abbrev cX11_hasOne : ByteArray := prog_13_method_41_code
def yX11_hasOne : MethodName := ⟨RX11, "hasOne", "(III)Z"⟩
abbrev cX11_looked : ByteArray := prog_13_method_42_code
def yX11_looked : MethodName := ⟨RX11, "looked", "(IIIII)I"⟩
abbrev cX11_use : ByteArray := prog_13_method_43_code
def yX11_use : MethodName := ⟨RX11, "use", "(IIIII)I"⟩
abbrev cX11_isCut : ByteArray := prog_13_method_44_code
def yX11_isCut : MethodName := ⟨RX11, "isCut", "(II)Z"⟩
abbrev cX11_make : ByteArray := prog_13_method_45_code
def yX11_make : MethodName := ⟨RX11, "make", "(IIII)I"⟩
abbrev cX11_noMethod : ByteArray := prog_13_method_46_code
def yX11_noMethod : MethodName := ⟨RX11, "noMethod", "(I)Z"⟩
abbrev cX11_overrides : ByteArray := prog_13_method_47_code
def yX11_overrides : MethodName := ⟨RX11, "overrides", "(II)I"⟩
abbrev cX11_choose : ByteArray := prog_13_method_48_code
def yX11_choose : MethodName := ⟨RX11, "choose", "(II)I"⟩
abbrev cX11_isFaced : ByteArray := prog_13_method_49_code
def yX11_isFaced : MethodName := ⟨RX11, "isFaced", "(III)Z"⟩
abbrev cX11_isUnder : ByteArray := prog_13_method_50_code
def yX11_isUnder : MethodName := ⟨RX11, "isUnder", "(II)Z"⟩
abbrev cX11_tell : ByteArray := prog_13_method_51_code
def yX11_tell : MethodName := ⟨RX11, "tell", "(II)V"⟩
abbrev cX11_isMet : ByteArray := prog_13_method_52_code
def yX11_isMet : MethodName := ⟨RX11, "isMet", "(III)Z"⟩
abbrev cX11_isWrong : ByteArray := prog_13_method_53_code
def yX11_isWrong : MethodName := ⟨RX11, "isWrong", "(III)Z"⟩
abbrev cX11_look : ByteArray := prog_13_method_54_code
def yX11_look : MethodName := ⟨RX11, "look", "(I)V"⟩
abbrev cX11_hasOther : ByteArray := prog_13_method_55_code
def yX11_hasOther : MethodName := ⟨RX11, "hasOther", "(II)Z"⟩
abbrev cX11_check : ByteArray := prog_13_method_56_code
def yX11_check : MethodName := ⟨RX11, "check", "(I)I"⟩
abbrev cX11_fault : ByteArray := prog_13_method_57_code
def yX11_fault : MethodName := ⟨RX11, "fault", "(III)I"⟩
def RJ13 : String := "java/lang/Long"
def TJ13 : u_T := fun k => match k with
  | _ => ("", "", "", false)
def tyJ13 : Nat → FieldType := fun k => match k with
  | _ => .int
theorem nmJ13 : ∀ a, a < 0 → ∀ b, b < 0 → a ≠ b → (TJ13 a).2.1 ≠ (TJ13 b).2.1 := by decide +kernel
theorem tyJ13_ok : ∀ k, k < 0 → parseFieldDescriptor (TJ13 k).2.2.1 = some (tyJ13 k) := by decide +kernel
abbrev cJ13_bitCount_95d88 : ByteArray := prog_14_method_50_code
def yJ13_bitCount_95d88 : MethodName := ⟨RJ13, "bitCount", "(J)I"⟩
def RJ10 : String := "java/lang/System"
def TJ10 : u_T := fun k => match k with
  | _ => ("", "", "", false)
def tyJ10 : Nat → FieldType := fun k => match k with
  | _ => .int
theorem nmJ10 : ∀ a, a < 0 → ∀ b, b < 0 → a ≠ b → (TJ10 a).2.1 ≠ (TJ10 b).2.1 := by decide +kernel
theorem tyJ10_ok : ∀ k, k < 0 → parseFieldDescriptor (TJ10 k).2.2.1 = some (tyJ10 k) := by decide +kernel
def RJ7 : String := "java/util/Arrays"
def TJ7 : u_T := fun k => match k with
  | _ => ("", "", "", false)
def tyJ7 : Nat → FieldType := fun k => match k with
  | _ => .int
theorem nmJ7 : ∀ a, a < 0 → ∀ b, b < 0 → a ≠ b → (TJ7 a).2.1 ≠ (TJ7 b).2.1 := by decide +kernel
theorem tyJ7_ok : ∀ k, k < 0 → parseFieldDescriptor (TJ7 k).2.2.1 = some (tyJ7 k) := by decide +kernel
abbrev cJ7_fill_53178 : ByteArray := prog_16_method_103_code
def yJ7_fill_53178 : MethodName := ⟨RJ7, "fill", "([II)V"⟩
def RL : String := "AccessJudgeLaw"
abbrev cL_law : ByteArray := code
def yL_law : MethodName := ⟨RL, "law", "([I)Z"⟩
abbrev vwCl : List vw_C := [(RX0, TX0, 3), (RX1, TX1, 10), (RX2, TX2, 4), (RX3, TX3, 12), (RX4, TX4, 5), (RX5, TX5, 3), (RX6, TX6, 5), (RX8, TX8, 16), (RX9, TX9, 4), (RX10, TX10, 9), (RX11, TX11, 30)]
