section
-- ===== PART A: goes FIRST, ahead of the names: the tables' words, and 'selects' of the private methods out of them =====
/-- a private method of a class that the tables say can be made, by its rows of tables_1 -/
def lw_okq (q : MethodName × Nat) : Prop := (q.1.cls ≠ "java/lang/invoke/MethodHandle" ∧ q.1.cls ≠ "java/lang/invoke/VarHandle") ∧ Cond.instantiable q.1.cls q.2 ∈ tables_1 ∧ Cond.privateMethod q.1 ∈ tables_1 ∧ Cond.instanceMethod q.1 ∈ tables_1
theorem lw_p0 : lw_okq (⟨"AccessJudge$Types", "putWithin", "(II)V"⟩, 16) := ⟨⟨by decide +kernel, by decide +kernel⟩, List.mem_of_getElem? (i := 50) (by decide +kernel), List.mem_of_getElem? (i := 444) (by decide +kernel), List.mem_of_getElem? (i := 445) (by decide +kernel)⟩
theorem lw_p1 : lw_okq (⟨"AccessJudge$Types", "putBelow", "(II)V"⟩, 16) := ⟨⟨by decide +kernel, by decide +kernel⟩, List.mem_of_getElem? (i := 50) (by decide +kernel), List.mem_of_getElem? (i := 452) (by decide +kernel), List.mem_of_getElem? (i := 453) (by decide +kernel)⟩
theorem lw_p2 : lw_okq (⟨"AccessJudge$Types", "putLastInOrder", "(J)V"⟩, 16) := ⟨⟨by decide +kernel, by decide +kernel⟩, List.mem_of_getElem? (i := 50) (by decide +kernel), List.mem_of_getElem? (i := 464) (by decide +kernel), List.mem_of_getElem? (i := 465) (by decide +kernel)⟩
theorem lw_p3 : lw_okq (⟨"AccessJudge", "forgetAnswers", "()V"⟩, 9) := ⟨⟨by decide +kernel, by decide +kernel⟩, List.mem_of_getElem? (i := 17) (by decide +kernel), List.mem_of_getElem? (i := 471) (by decide +kernel), List.mem_of_getElem? (i := 472) (by decide +kernel)⟩
theorem lw_p4 : lw_okq (⟨"AccessJudge$Members", "fitsInterface", "(III)Z"⟩, 12) := ⟨⟨by decide +kernel, by decide +kernel⟩, List.mem_of_getElem? (i := 146) (by decide +kernel), List.mem_of_getElem? (i := 521) (by decide +kernel), List.mem_of_getElem? (i := 522) (by decide +kernel)⟩
theorem lw_p5 : lw_okq (⟨"AccessJudge$Inheritance", "find", "(II)J"⟩, 4) := ⟨⟨by decide +kernel, by decide +kernel⟩, List.mem_of_getElem? (i := 215) (by decide +kernel), List.mem_of_getElem? (i := 558) (by decide +kernel), List.mem_of_getElem? (i := 559) (by decide +kernel)⟩
theorem lw_p6 : lw_okq (⟨"AccessJudge$Inheritance", "fromParent", "(IIJ)J"⟩, 4) := ⟨⟨by decide +kernel, by decide +kernel⟩, List.mem_of_getElem? (i := 215) (by decide +kernel), List.mem_of_getElem? (i := 563) (by decide +kernel), List.mem_of_getElem? (i := 564) (by decide +kernel)⟩
theorem lw_p7 : lw_okq (⟨"AccessJudge$Inheritance", "ofFaces", "(II)J"⟩, 4) := ⟨⟨by decide +kernel, by decide +kernel⟩, List.mem_of_getElem? (i := 215) (by decide +kernel), List.mem_of_getElem? (i := 572) (by decide +kernel), List.mem_of_getElem? (i := 573) (by decide +kernel)⟩
theorem lw_p8 : lw_okq (⟨"AccessJudge$Inheritance", "fromFaces", "(IJJJ)J"⟩, 4) := ⟨⟨by decide +kernel, by decide +kernel⟩, List.mem_of_getElem? (i := 215) (by decide +kernel), List.mem_of_getElem? (i := 580) (by decide +kernel), List.mem_of_getElem? (i := 581) (by decide +kernel)⟩
theorem lw_p9 : lw_okq (⟨"AccessJudge$Openness", "isOpenWithinOuter", "(II)Z"⟩, 3) := ⟨⟨by decide +kernel, by decide +kernel⟩, List.mem_of_getElem? (i := 256) (by decide +kernel), List.mem_of_getElem? (i := 616) (by decide +kernel), List.mem_of_getElem? (i := 617) (by decide +kernel)⟩
theorem lw_p10 : lw_okq (⟨"AccessJudge$Openness", "isMemberOpen", "(IIII)Z"⟩, 3) := ⟨⟨by decide +kernel, by decide +kernel⟩, List.mem_of_getElem? (i := 256) (by decide +kernel), List.mem_of_getElem? (i := 654) (by decide +kernel), List.mem_of_getElem? (i := 655) (by decide +kernel)⟩
theorem lw_p11 : lw_okq (⟨"AccessJudge$Openness", "isNearEnough", "(II)Z"⟩, 3) := ⟨⟨by decide +kernel, by decide +kernel⟩, List.mem_of_getElem? (i := 256) (by decide +kernel), List.mem_of_getElem? (i := 658) (by decide +kernel), List.mem_of_getElem? (i := 659) (by decide +kernel)⟩
theorem lw_p12 : lw_okq (⟨"AccessJudge$Openness", "isProtectedOpen", "(IIII)Z"⟩, 3) := ⟨⟨by decide +kernel, by decide +kernel⟩, List.mem_of_getElem? (i := 256) (by decide +kernel), List.mem_of_getElem? (i := 662) (by decide +kernel), List.mem_of_getElem? (i := 663) (by decide +kernel)⟩
theorem lw_p13 : lw_okq (⟨"AccessJudge$Uses", "preferred", "(JI)I"⟩, 4) := ⟨⟨by decide +kernel, by decide +kernel⟩, List.mem_of_getElem? (i := 272) (by decide +kernel), List.mem_of_getElem? (i := 674) (by decide +kernel), List.mem_of_getElem? (i := 675) (by decide +kernel)⟩
theorem lw_p14 : lw_okq (⟨"AccessJudge$Uses", "allowed", "(IIII)I"⟩, 4) := ⟨⟨by decide +kernel, by decide +kernel⟩, List.mem_of_getElem? (i := 272) (by decide +kernel), List.mem_of_getElem? (i := 679) (by decide +kernel), List.mem_of_getElem? (i := 680) (by decide +kernel)⟩
theorem lw_p15 : lw_okq (⟨"AccessJudge$Uses", "hasStaticAhead", "(II)Z"⟩, 4) := ⟨⟨by decide +kernel, by decide +kernel⟩, List.mem_of_getElem? (i := 272) (by decide +kernel), List.mem_of_getElem? (i := 684) (by decide +kernel), List.mem_of_getElem? (i := 685) (by decide +kernel)⟩
def lw_privs_1 : List (MethodName × Nat) := [(⟨"AccessJudge$Types", "putWithin", "(II)V"⟩, 16), (⟨"AccessJudge$Types", "putBelow", "(II)V"⟩, 16), (⟨"AccessJudge$Types", "putLastInOrder", "(J)V"⟩, 16), (⟨"AccessJudge", "forgetAnswers", "()V"⟩, 9), (⟨"AccessJudge$Members", "fitsInterface", "(III)Z"⟩, 12), (⟨"AccessJudge$Inheritance", "find", "(II)J"⟩, 4), (⟨"AccessJudge$Inheritance", "fromParent", "(IIJ)J"⟩, 4), (⟨"AccessJudge$Inheritance", "ofFaces", "(II)J"⟩, 4), (⟨"AccessJudge$Inheritance", "fromFaces", "(IJJJ)J"⟩, 4), (⟨"AccessJudge$Openness", "isOpenWithinOuter", "(II)Z"⟩, 3), (⟨"AccessJudge$Openness", "isMemberOpen", "(IIII)Z"⟩, 3), (⟨"AccessJudge$Openness", "isNearEnough", "(II)Z"⟩, 3), (⟨"AccessJudge$Openness", "isProtectedOpen", "(IIII)Z"⟩, 3), (⟨"AccessJudge$Uses", "preferred", "(JI)I"⟩, 4), (⟨"AccessJudge$Uses", "allowed", "(IIII)I"⟩, 4), (⟨"AccessJudge$Uses", "hasStaticAhead", "(II)Z"⟩, 4)]
theorem lw_r1 : ∀ q ∈ lw_privs_1, lw_okq q := List.forall_mem_cons.mpr ⟨lw_p0, List.forall_mem_cons.mpr ⟨lw_p1, List.forall_mem_cons.mpr ⟨lw_p2, List.forall_mem_cons.mpr ⟨lw_p3, List.forall_mem_cons.mpr ⟨lw_p4, List.forall_mem_cons.mpr ⟨lw_p5, List.forall_mem_cons.mpr ⟨lw_p6, List.forall_mem_cons.mpr ⟨lw_p7, List.forall_mem_cons.mpr ⟨lw_p8, List.forall_mem_cons.mpr ⟨lw_p9, List.forall_mem_cons.mpr ⟨lw_p10, List.forall_mem_cons.mpr ⟨lw_p11, List.forall_mem_cons.mpr ⟨lw_p12, List.forall_mem_cons.mpr ⟨lw_p13, List.forall_mem_cons.mpr ⟨lw_p14, List.forall_mem_cons.mpr ⟨lw_p15, fun _ h => absurd h List.not_mem_nil⟩⟩⟩⟩⟩⟩⟩⟩⟩⟩⟩⟩⟩⟩⟩⟩
theorem lw_p16 : lw_okq (⟨"AccessJudge$Overriding", "knownRow", "(I)I"⟩, 5) := ⟨⟨by decide +kernel, by decide +kernel⟩, List.mem_of_getElem? (i := 234) (by decide +kernel), List.mem_of_getElem? (i := 719) (by decide +kernel), List.mem_of_getElem? (i := 720) (by decide +kernel)⟩
theorem lw_p17 : lw_okq (⟨"AccessJudge$Overriding", "clear", "(I)V"⟩, 5) := ⟨⟨by decide +kernel, by decide +kernel⟩, List.mem_of_getElem? (i := 234) (by decide +kernel), List.mem_of_getElem? (i := 723) (by decide +kernel), List.mem_of_getElem? (i := 724) (by decide +kernel)⟩
theorem lw_p18 : lw_okq (⟨"AccessJudge$Overriding", "findOverridden", "(IJII)V"⟩, 5) := ⟨⟨by decide +kernel, by decide +kernel⟩, List.mem_of_getElem? (i := 234) (by decide +kernel), List.mem_of_getElem? (i := 728) (by decide +kernel), List.mem_of_getElem? (i := 729) (by decide +kernel)⟩
theorem lw_p19 : lw_okq (⟨"AccessJudge$Overriding", "reaches", "(IIII)Z"⟩, 5) := ⟨⟨by decide +kernel, by decide +kernel⟩, List.mem_of_getElem? (i := 234) (by decide +kernel), List.mem_of_getElem? (i := 733) (by decide +kernel), List.mem_of_getElem? (i := 734) (by decide +kernel)⟩
theorem lw_p20 : lw_okq (⟨"AccessJudge$Choice", "nearestClass", "(IJ)I"⟩, 3) := ⟨⟨by decide +kernel, by decide +kernel⟩, List.mem_of_getElem? (i := 291) (by decide +kernel), List.mem_of_getElem? (i := 755) (by decide +kernel), List.mem_of_getElem? (i := 756) (by decide +kernel)⟩
theorem lw_p21 : lw_okq (⟨"AccessJudge$Choice", "fromInterfaces", "(II)I"⟩, 3) := ⟨⟨by decide +kernel, by decide +kernel⟩, List.mem_of_getElem? (i := 291) (by decide +kernel), List.mem_of_getElem? (i := 760) (by decide +kernel), List.mem_of_getElem? (i := 761) (by decide +kernel)⟩
theorem lw_p22 : lw_okq (⟨"AccessJudge$Faults", "metBy", "(IIJ)J"⟩, 10) := ⟨⟨by decide +kernel, by decide +kernel⟩, List.mem_of_getElem? (i := 307) (by decide +kernel), List.mem_of_getElem? (i := 779) (by decide +kernel), List.mem_of_getElem? (i := 780) (by decide +kernel)⟩
theorem lw_p23 : lw_okq (⟨"AccessJudge$Faults", "findInTypesAbove", "(I)V"⟩, 10) := ⟨⟨by decide +kernel, by decide +kernel⟩, List.mem_of_getElem? (i := 307) (by decide +kernel), List.mem_of_getElem? (i := 785) (by decide +kernel), List.mem_of_getElem? (i := 786) (by decide +kernel)⟩
theorem lw_p24 : lw_okq (⟨"AccessJudge$Faults", "addIf", "(ZII)V"⟩, 10) := ⟨⟨by decide +kernel, by decide +kernel⟩, List.mem_of_getElem? (i := 307) (by decide +kernel), List.mem_of_getElem? (i := 790) (by decide +kernel), List.mem_of_getElem? (i := 791) (by decide +kernel)⟩
theorem lw_p25 : lw_okq (⟨"AccessJudge$Faults", "findInDeclared", "(I)V"⟩, 10) := ⟨⟨by decide +kernel, by decide +kernel⟩, List.mem_of_getElem? (i := 307) (by decide +kernel), List.mem_of_getElem? (i := 795) (by decide +kernel), List.mem_of_getElem? (i := 796) (by decide +kernel)⟩
theorem lw_p26 : lw_okq (⟨"AccessJudge$Faults", "clashes", "(II)Z"⟩, 10) := ⟨⟨by decide +kernel, by decide +kernel⟩, List.mem_of_getElem? (i := 307) (by decide +kernel), List.mem_of_getElem? (i := 800) (by decide +kernel), List.mem_of_getElem? (i := 801) (by decide +kernel)⟩
theorem lw_p27 : lw_okq (⟨"AccessJudge$Faults", "clashesWith", "(III)Z"⟩, 10) := ⟨⟨by decide +kernel, by decide +kernel⟩, List.mem_of_getElem? (i := 307) (by decide +kernel), List.mem_of_getElem? (i := 805) (by decide +kernel), List.mem_of_getElem? (i := 806) (by decide +kernel)⟩
theorem lw_p28 : lw_okq (⟨"AccessJudge$Faults", "findInMembers", "(I)V"⟩, 10) := ⟨⟨by decide +kernel, by decide +kernel⟩, List.mem_of_getElem? (i := 307) (by decide +kernel), List.mem_of_getElem? (i := 810) (by decide +kernel), List.mem_of_getElem? (i := 811) (by decide +kernel)⟩
theorem lw_p29 : lw_okq (⟨"AccessJudge$Faults", "isFound", "(I)Z"⟩, 10) := ⟨⟨by decide +kernel, by decide +kernel⟩, List.mem_of_getElem? (i := 307) (by decide +kernel), List.mem_of_getElem? (i := 815) (by decide +kernel), List.mem_of_getElem? (i := 816) (by decide +kernel)⟩
theorem lw_p30 : lw_okq (⟨"AccessJudge$Faults", "isRivalled", "(I)Z"⟩, 10) := ⟨⟨by decide +kernel, by decide +kernel⟩, List.mem_of_getElem? (i := 307) (by decide +kernel), List.mem_of_getElem? (i := 819) (by decide +kernel), List.mem_of_getElem? (i := 820) (by decide +kernel)⟩
theorem lw_p31 : lw_okq (⟨"AccessJudgeModel", "noModule", "(I)Z"⟩, 30) := ⟨⟨by decide +kernel, by decide +kernel⟩, List.mem_of_getElem? (i := 829) (by decide +kernel), List.mem_of_getElem? (i := 935) (by decide +kernel), List.mem_of_getElem? (i := 936) (by decide +kernel)⟩
def lw_privs_2 : List (MethodName × Nat) := [(⟨"AccessJudge$Overriding", "knownRow", "(I)I"⟩, 5), (⟨"AccessJudge$Overriding", "clear", "(I)V"⟩, 5), (⟨"AccessJudge$Overriding", "findOverridden", "(IJII)V"⟩, 5), (⟨"AccessJudge$Overriding", "reaches", "(IIII)Z"⟩, 5), (⟨"AccessJudge$Choice", "nearestClass", "(IJ)I"⟩, 3), (⟨"AccessJudge$Choice", "fromInterfaces", "(II)I"⟩, 3), (⟨"AccessJudge$Faults", "metBy", "(IIJ)J"⟩, 10), (⟨"AccessJudge$Faults", "findInTypesAbove", "(I)V"⟩, 10), (⟨"AccessJudge$Faults", "addIf", "(ZII)V"⟩, 10), (⟨"AccessJudge$Faults", "findInDeclared", "(I)V"⟩, 10), (⟨"AccessJudge$Faults", "clashes", "(II)Z"⟩, 10), (⟨"AccessJudge$Faults", "clashesWith", "(III)Z"⟩, 10), (⟨"AccessJudge$Faults", "findInMembers", "(I)V"⟩, 10), (⟨"AccessJudge$Faults", "isFound", "(I)Z"⟩, 10), (⟨"AccessJudge$Faults", "isRivalled", "(I)Z"⟩, 10), (⟨"AccessJudgeModel", "noModule", "(I)Z"⟩, 30)]
theorem lw_r2 : ∀ q ∈ lw_privs_2, lw_okq q := List.forall_mem_cons.mpr ⟨lw_p16, List.forall_mem_cons.mpr ⟨lw_p17, List.forall_mem_cons.mpr ⟨lw_p18, List.forall_mem_cons.mpr ⟨lw_p19, List.forall_mem_cons.mpr ⟨lw_p20, List.forall_mem_cons.mpr ⟨lw_p21, List.forall_mem_cons.mpr ⟨lw_p22, List.forall_mem_cons.mpr ⟨lw_p23, List.forall_mem_cons.mpr ⟨lw_p24, List.forall_mem_cons.mpr ⟨lw_p25, List.forall_mem_cons.mpr ⟨lw_p26, List.forall_mem_cons.mpr ⟨lw_p27, List.forall_mem_cons.mpr ⟨lw_p28, List.forall_mem_cons.mpr ⟨lw_p29, List.forall_mem_cons.mpr ⟨lw_p30, List.forall_mem_cons.mpr ⟨lw_p31, fun _ h => absurd h List.not_mem_nil⟩⟩⟩⟩⟩⟩⟩⟩⟩⟩⟩⟩⟩⟩⟩⟩
theorem lw_p32 : lw_okq (⟨"AccessJudgeModel", "noPack", "(I)Z"⟩, 30) := ⟨⟨by decide +kernel, by decide +kernel⟩, List.mem_of_getElem? (i := 829) (by decide +kernel), List.mem_of_getElem? (i := 947) (by decide +kernel), List.mem_of_getElem? (i := 948) (by decide +kernel)⟩
theorem lw_p33 : lw_okq (⟨"AccessJudgeModel", "noType", "(I)Z"⟩, 30) := ⟨⟨by decide +kernel, by decide +kernel⟩, List.mem_of_getElem? (i := 829) (by decide +kernel), List.mem_of_getElem? (i := 955) (by decide +kernel), List.mem_of_getElem? (i := 956) (by decide +kernel)⟩
theorem lw_p34 : lw_okq (⟨"AccessJudgeModel", "ruleOfType", "(IIIII)I"⟩, 30) := ⟨⟨by decide +kernel, by decide +kernel⟩, List.mem_of_getElem? (i := 829) (by decide +kernel), List.mem_of_getElem? (i := 962) (by decide +kernel), List.mem_of_getElem? (i := 963) (by decide +kernel)⟩
theorem lw_p35 : lw_okq (⟨"AccessJudgeModel", "isAt", "(II)Z"⟩, 30) := ⟨⟨by decide +kernel, by decide +kernel⟩, List.mem_of_getElem? (i := 829) (by decide +kernel), List.mem_of_getElem? (i := 973) (by decide +kernel), List.mem_of_getElem? (i := 974) (by decide +kernel)⟩
theorem lw_p36 : lw_okq (⟨"AccessJudgeModel", "isBelow", "(II)Z"⟩, 30) := ⟨⟨by decide +kernel, by decide +kernel⟩, List.mem_of_getElem? (i := 829) (by decide +kernel), List.mem_of_getElem? (i := 977) (by decide +kernel), List.mem_of_getElem? (i := 978) (by decide +kernel)⟩
theorem lw_p37 : lw_okq (⟨"AccessJudgeModel", "raise", "(II)V"⟩, 30) := ⟨⟨by decide +kernel, by decide +kernel⟩, List.mem_of_getElem? (i := 829) (by decide +kernel), List.mem_of_getElem? (i := 981) (by decide +kernel), List.mem_of_getElem? (i := 982) (by decide +kernel)⟩
theorem lw_p38 : lw_okq (⟨"AccessJudgeModel", "ruleOfMember", "(IIIII)I"⟩, 30) := ⟨⟨by decide +kernel, by decide +kernel⟩, List.mem_of_getElem? (i := 829) (by decide +kernel), List.mem_of_getElem? (i := 993) (by decide +kernel), List.mem_of_getElem? (i := 994) (by decide +kernel)⟩
theorem lw_p39 : lw_okq (⟨"AccessJudgeModel", "declared", "(III)I"⟩, 30) := ⟨⟨by decide +kernel, by decide +kernel⟩, List.mem_of_getElem? (i := 829) (by decide +kernel), List.mem_of_getElem? (i := 997) (by decide +kernel), List.mem_of_getElem? (i := 998) (by decide +kernel)⟩
theorem lw_p40 : lw_okq (⟨"AccessJudgeModel", "topOf", "(I)I"⟩, 30) := ⟨⟨by decide +kernel, by decide +kernel⟩, List.mem_of_getElem? (i := 829) (by decide +kernel), List.mem_of_getElem? (i := 1009) (by decide +kernel), List.mem_of_getElem? (i := 1010) (by decide +kernel)⟩
theorem lw_p41 : lw_okq (⟨"AccessJudgeModel", "find", "()V"⟩, 30) := ⟨⟨by decide +kernel, by decide +kernel⟩, List.mem_of_getElem? (i := 829) (by decide +kernel), List.mem_of_getElem? (i := 1013) (by decide +kernel), List.mem_of_getElem? (i := 1014) (by decide +kernel)⟩
theorem lw_p42 : lw_okq (⟨"AccessJudgeModel", "isReady", "(I)Z"⟩, 30) := ⟨⟨by decide +kernel, by decide +kernel⟩, List.mem_of_getElem? (i := 829) (by decide +kernel), List.mem_of_getElem? (i := 1017) (by decide +kernel), List.mem_of_getElem? (i := 1018) (by decide +kernel)⟩
theorem lw_p43 : lw_okq (⟨"AccessJudgeModel", "findMembers", "(I)V"⟩, 30) := ⟨⟨by decide +kernel, by decide +kernel⟩, List.mem_of_getElem? (i := 829) (by decide +kernel), List.mem_of_getElem? (i := 1021) (by decide +kernel), List.mem_of_getElem? (i := 1022) (by decide +kernel)⟩
theorem lw_p44 : lw_okq (⟨"AccessJudgeModel", "comesFromParent", "(II)Z"⟩, 30) := ⟨⟨by decide +kernel, by decide +kernel⟩, List.mem_of_getElem? (i := 829) (by decide +kernel), List.mem_of_getElem? (i := 1025) (by decide +kernel), List.mem_of_getElem? (i := 1026) (by decide +kernel)⟩
theorem lw_p45 : lw_okq (⟨"AccessJudgeModel", "isOfFace", "(II)Z"⟩, 30) := ⟨⟨by decide +kernel, by decide +kernel⟩, List.mem_of_getElem? (i := 829) (by decide +kernel), List.mem_of_getElem? (i := 1029) (by decide +kernel), List.mem_of_getElem? (i := 1030) (by decide +kernel)⟩
theorem lw_p46 : lw_okq (⟨"AccessJudgeModel", "isPlain", "(I)Z"⟩, 30) := ⟨⟨by decide +kernel, by decide +kernel⟩, List.mem_of_getElem? (i := 829) (by decide +kernel), List.mem_of_getElem? (i := 1033) (by decide +kernel), List.mem_of_getElem? (i := 1034) (by decide +kernel)⟩
theorem lw_p47 : lw_okq (⟨"AccessJudgeModel", "isBehind", "(II)Z"⟩, 30) := ⟨⟨by decide +kernel, by decide +kernel⟩, List.mem_of_getElem? (i := 829) (by decide +kernel), List.mem_of_getElem? (i := 1037) (by decide +kernel), List.mem_of_getElem? (i := 1038) (by decide +kernel)⟩
def lw_privs_3 : List (MethodName × Nat) := [(⟨"AccessJudgeModel", "noPack", "(I)Z"⟩, 30), (⟨"AccessJudgeModel", "noType", "(I)Z"⟩, 30), (⟨"AccessJudgeModel", "ruleOfType", "(IIIII)I"⟩, 30), (⟨"AccessJudgeModel", "isAt", "(II)Z"⟩, 30), (⟨"AccessJudgeModel", "isBelow", "(II)Z"⟩, 30), (⟨"AccessJudgeModel", "raise", "(II)V"⟩, 30), (⟨"AccessJudgeModel", "ruleOfMember", "(IIIII)I"⟩, 30), (⟨"AccessJudgeModel", "declared", "(III)I"⟩, 30), (⟨"AccessJudgeModel", "topOf", "(I)I"⟩, 30), (⟨"AccessJudgeModel", "find", "()V"⟩, 30), (⟨"AccessJudgeModel", "isReady", "(I)Z"⟩, 30), (⟨"AccessJudgeModel", "findMembers", "(I)V"⟩, 30), (⟨"AccessJudgeModel", "comesFromParent", "(II)Z"⟩, 30), (⟨"AccessJudgeModel", "isOfFace", "(II)Z"⟩, 30), (⟨"AccessJudgeModel", "isPlain", "(I)Z"⟩, 30), (⟨"AccessJudgeModel", "isBehind", "(II)Z"⟩, 30)]
theorem lw_r3 : ∀ q ∈ lw_privs_3, lw_okq q := List.forall_mem_cons.mpr ⟨lw_p32, List.forall_mem_cons.mpr ⟨lw_p33, List.forall_mem_cons.mpr ⟨lw_p34, List.forall_mem_cons.mpr ⟨lw_p35, List.forall_mem_cons.mpr ⟨lw_p36, List.forall_mem_cons.mpr ⟨lw_p37, List.forall_mem_cons.mpr ⟨lw_p38, List.forall_mem_cons.mpr ⟨lw_p39, List.forall_mem_cons.mpr ⟨lw_p40, List.forall_mem_cons.mpr ⟨lw_p41, List.forall_mem_cons.mpr ⟨lw_p42, List.forall_mem_cons.mpr ⟨lw_p43, List.forall_mem_cons.mpr ⟨lw_p44, List.forall_mem_cons.mpr ⟨lw_p45, List.forall_mem_cons.mpr ⟨lw_p46, List.forall_mem_cons.mpr ⟨lw_p47, fun _ h => absurd h List.not_mem_nil⟩⟩⟩⟩⟩⟩⟩⟩⟩⟩⟩⟩⟩⟩⟩⟩
theorem lw_p48 : lw_okq (⟨"AccessJudgeModel", "findOvers", "()V"⟩, 30) := ⟨⟨by decide +kernel, by decide +kernel⟩, List.mem_of_getElem? (i := 829) (by decide +kernel), List.mem_of_getElem? (i := 1041) (by decide +kernel), List.mem_of_getElem? (i := 1042) (by decide +kernel)⟩
theorem lw_p49 : lw_okq (⟨"AccessJudgeModel", "canOver", "(II)Z"⟩, 30) := ⟨⟨by decide +kernel, by decide +kernel⟩, List.mem_of_getElem? (i := 829) (by decide +kernel), List.mem_of_getElem? (i := 1045) (by decide +kernel), List.mem_of_getElem? (i := 1046) (by decide +kernel)⟩
theorem lw_p50 : lw_okq (⟨"AccessJudgeModel", "isOverBy", "(II)Z"⟩, 30) := ⟨⟨by decide +kernel, by decide +kernel⟩, List.mem_of_getElem? (i := 829) (by decide +kernel), List.mem_of_getElem? (i := 1049) (by decide +kernel), List.mem_of_getElem? (i := 1050) (by decide +kernel)⟩
theorem lw_p51 : lw_okq (⟨"AccessJudgeModel", "isOpen", "(II)Z"⟩, 30) := ⟨⟨by decide +kernel, by decide +kernel⟩, List.mem_of_getElem? (i := 829) (by decide +kernel), List.mem_of_getElem? (i := 1061) (by decide +kernel), List.mem_of_getElem? (i := 1062) (by decide +kernel)⟩
theorem lw_p52 : lw_okq (⟨"AccessJudgeModel", "isAround", "(II)Z"⟩, 30) := ⟨⟨by decide +kernel, by decide +kernel⟩, List.mem_of_getElem? (i := 829) (by decide +kernel), List.mem_of_getElem? (i := 1065) (by decide +kernel), List.mem_of_getElem? (i := 1066) (by decide +kernel)⟩
theorem lw_p53 : lw_okq (⟨"AccessJudgeModel", "noMember", "(I)Z"⟩, 30) := ⟨⟨by decide +kernel, by decide +kernel⟩, List.mem_of_getElem? (i := 829) (by decide +kernel), List.mem_of_getElem? (i := 1073) (by decide +kernel), List.mem_of_getElem? (i := 1074) (by decide +kernel)⟩
theorem lw_p54 : lw_okq (⟨"AccessJudgeModel", "looked", "(IIIII)I"⟩, 30) := ⟨⟨by decide +kernel, by decide +kernel⟩, List.mem_of_getElem? (i := 829) (by decide +kernel), List.mem_of_getElem? (i := 1081) (by decide +kernel), List.mem_of_getElem? (i := 1082) (by decide +kernel)⟩
theorem lw_p55 : lw_okq (⟨"AccessJudgeModel", "hasOne", "(III)Z"⟩, 30) := ⟨⟨by decide +kernel, by decide +kernel⟩, List.mem_of_getElem? (i := 829) (by decide +kernel), List.mem_of_getElem? (i := 1085) (by decide +kernel), List.mem_of_getElem? (i := 1086) (by decide +kernel)⟩
theorem lw_p56 : lw_okq (⟨"AccessJudgeModel", "isOpenMember", "(IIII)Z"⟩, 30) := ⟨⟨by decide +kernel, by decide +kernel⟩, List.mem_of_getElem? (i := 829) (by decide +kernel), List.mem_of_getElem? (i := 1089) (by decide +kernel), List.mem_of_getElem? (i := 1090) (by decide +kernel)⟩
theorem lw_p57 : lw_okq (⟨"AccessJudgeModel", "isCut", "(II)Z"⟩, 30) := ⟨⟨by decide +kernel, by decide +kernel⟩, List.mem_of_getElem? (i := 829) (by decide +kernel), List.mem_of_getElem? (i := 1093) (by decide +kernel), List.mem_of_getElem? (i := 1094) (by decide +kernel)⟩
theorem lw_p58 : lw_okq (⟨"AccessJudgeModel", "noMethod", "(I)Z"⟩, 30) := ⟨⟨by decide +kernel, by decide +kernel⟩, List.mem_of_getElem? (i := 829) (by decide +kernel), List.mem_of_getElem? (i := 1105) (by decide +kernel), List.mem_of_getElem? (i := 1106) (by decide +kernel)⟩
theorem lw_p59 : lw_okq (⟨"AccessJudgeModel", "isFaced", "(III)Z"⟩, 30) := ⟨⟨by decide +kernel, by decide +kernel⟩, List.mem_of_getElem? (i := 829) (by decide +kernel), List.mem_of_getElem? (i := 1113) (by decide +kernel), List.mem_of_getElem? (i := 1114) (by decide +kernel)⟩
theorem lw_p60 : lw_okq (⟨"AccessJudgeModel", "isUnder", "(II)Z"⟩, 30) := ⟨⟨by decide +kernel, by decide +kernel⟩, List.mem_of_getElem? (i := 829) (by decide +kernel), List.mem_of_getElem? (i := 1117) (by decide +kernel), List.mem_of_getElem? (i := 1118) (by decide +kernel)⟩
theorem lw_p61 : lw_okq (⟨"AccessJudgeModel", "look", "(I)V"⟩, 30) := ⟨⟨by decide +kernel, by decide +kernel⟩, List.mem_of_getElem? (i := 829) (by decide +kernel), List.mem_of_getElem? (i := 1125) (by decide +kernel), List.mem_of_getElem? (i := 1126) (by decide +kernel)⟩
theorem lw_p62 : lw_okq (⟨"AccessJudgeModel", "tell", "(II)V"⟩, 30) := ⟨⟨by decide +kernel, by decide +kernel⟩, List.mem_of_getElem? (i := 829) (by decide +kernel), List.mem_of_getElem? (i := 1129) (by decide +kernel), List.mem_of_getElem? (i := 1130) (by decide +kernel)⟩
theorem lw_p63 : lw_okq (⟨"AccessJudgeModel", "isMet", "(III)Z"⟩, 30) := ⟨⟨by decide +kernel, by decide +kernel⟩, List.mem_of_getElem? (i := 829) (by decide +kernel), List.mem_of_getElem? (i := 1133) (by decide +kernel), List.mem_of_getElem? (i := 1134) (by decide +kernel)⟩
def lw_privs_4 : List (MethodName × Nat) := [(⟨"AccessJudgeModel", "findOvers", "()V"⟩, 30), (⟨"AccessJudgeModel", "canOver", "(II)Z"⟩, 30), (⟨"AccessJudgeModel", "isOverBy", "(II)Z"⟩, 30), (⟨"AccessJudgeModel", "isOpen", "(II)Z"⟩, 30), (⟨"AccessJudgeModel", "isAround", "(II)Z"⟩, 30), (⟨"AccessJudgeModel", "noMember", "(I)Z"⟩, 30), (⟨"AccessJudgeModel", "looked", "(IIIII)I"⟩, 30), (⟨"AccessJudgeModel", "hasOne", "(III)Z"⟩, 30), (⟨"AccessJudgeModel", "isOpenMember", "(IIII)Z"⟩, 30), (⟨"AccessJudgeModel", "isCut", "(II)Z"⟩, 30), (⟨"AccessJudgeModel", "noMethod", "(I)Z"⟩, 30), (⟨"AccessJudgeModel", "isFaced", "(III)Z"⟩, 30), (⟨"AccessJudgeModel", "isUnder", "(II)Z"⟩, 30), (⟨"AccessJudgeModel", "look", "(I)V"⟩, 30), (⟨"AccessJudgeModel", "tell", "(II)V"⟩, 30), (⟨"AccessJudgeModel", "isMet", "(III)Z"⟩, 30)]
theorem lw_r4 : ∀ q ∈ lw_privs_4, lw_okq q := List.forall_mem_cons.mpr ⟨lw_p48, List.forall_mem_cons.mpr ⟨lw_p49, List.forall_mem_cons.mpr ⟨lw_p50, List.forall_mem_cons.mpr ⟨lw_p51, List.forall_mem_cons.mpr ⟨lw_p52, List.forall_mem_cons.mpr ⟨lw_p53, List.forall_mem_cons.mpr ⟨lw_p54, List.forall_mem_cons.mpr ⟨lw_p55, List.forall_mem_cons.mpr ⟨lw_p56, List.forall_mem_cons.mpr ⟨lw_p57, List.forall_mem_cons.mpr ⟨lw_p58, List.forall_mem_cons.mpr ⟨lw_p59, List.forall_mem_cons.mpr ⟨lw_p60, List.forall_mem_cons.mpr ⟨lw_p61, List.forall_mem_cons.mpr ⟨lw_p62, List.forall_mem_cons.mpr ⟨lw_p63, fun _ h => absurd h List.not_mem_nil⟩⟩⟩⟩⟩⟩⟩⟩⟩⟩⟩⟩⟩⟩⟩⟩
theorem lw_p64 : lw_okq (⟨"AccessJudgeModel", "isWrong", "(III)Z"⟩, 30) := ⟨⟨by decide +kernel, by decide +kernel⟩, List.mem_of_getElem? (i := 829) (by decide +kernel), List.mem_of_getElem? (i := 1137) (by decide +kernel), List.mem_of_getElem? (i := 1138) (by decide +kernel)⟩
theorem lw_p65 : lw_okq (⟨"AccessJudgeModel", "hasOther", "(II)Z"⟩, 30) := ⟨⟨by decide +kernel, by decide +kernel⟩, List.mem_of_getElem? (i := 829) (by decide +kernel), List.mem_of_getElem? (i := 1141) (by decide +kernel), List.mem_of_getElem? (i := 1142) (by decide +kernel)⟩
def lw_privs_5 : List (MethodName × Nat) := [(⟨"AccessJudgeModel", "isWrong", "(III)Z"⟩, 30), (⟨"AccessJudgeModel", "hasOther", "(II)Z"⟩, 30)]
theorem lw_r5 : ∀ q ∈ lw_privs_5, lw_okq q := List.forall_mem_cons.mpr ⟨lw_p64, List.forall_mem_cons.mpr ⟨lw_p65, fun _ h => absurd h List.not_mem_nil⟩⟩
def lw_privs : List (MethodName × Nat) := lw_privs_1 ++ (lw_privs_2 ++ (lw_privs_3 ++ (lw_privs_4 ++ (lw_privs_5))))
def lw_tbl : List Cond := k2_sels lw_privs ++ tables_1
theorem lw_privs_ok : ∀ q ∈ lw_privs, lw_okq q := by
  show ∀ q ∈ lw_privs_1 ++ (lw_privs_2 ++ (lw_privs_3 ++ (lw_privs_4 ++ (lw_privs_5)))), lw_okq q
  exact List.forall_mem_append.mpr ⟨lw_r1, List.forall_mem_append.mpr ⟨lw_r2, List.forall_mem_append.mpr ⟨lw_r3, List.forall_mem_append.mpr ⟨lw_r4, lw_r5⟩⟩⟩⟩

theorem goodIn_r {big : List Cond} (ws : List Cond) (ps : List Nat) (hp : ws = ps.filterMap (fun i => big[i]?)) (h : ws.all goodWord = true) : GoodIn big ws := by
  intro w hw
  have h1 := List.all_eq_true.mp h w hw
  rw [hp] at hw
  obtain ⟨i, -, hi⟩ := List.mem_filterMap.mp hw
  have hm : w ∈ big := by first | exact List.mem_of_getElem? hi | exact List.getElem?_mem hi
  exact ⟨hm, good_of_word h1⟩
theorem goodIn_app {big a b : List Cond} (ha : GoodIn big a) (hb : GoodIn big b) : GoodIn big (a ++ b) := fun w h => (List.mem_append.mp h).elim (ha w) (hb w)
theorem goodIn_ca {big a b : List Cond} {c : Cond} (ha : GoodIn big (c :: a)) (hb : GoodIn big b) : GoodIn big (c :: (a ++ b)) := fun w h => (List.mem_cons.mp h).elim (fun e => ha w (List.mem_cons.mpr (Or.inl e))) (fun h => (List.mem_append.mp h).elim (fun h => ha w (List.mem_cons.mpr (Or.inr h))) (hb w))
theorem goodIn_sub {big ws : List Cond} (hm : ∀ w ∈ ws, w ∈ big) (h : ws.all goodWord = true) : GoodIn big ws := fun w hw => ⟨hm w hw, good_of_word (List.all_eq_true.mp h w hw)⟩
def RX0 : String := "AccessJudge$Choice"
def TX0 : u_T := fun k => match k with
  | 0 => ("AccessJudge$Choice", "types", "LAccessJudge$Types;", true)
  | 1 => ("AccessJudge$Choice", "members", "LAccessJudge$Members;", true)
  | _ => ("AccessJudge$Choice", "overriding", "LAccessJudge$Overriding;", true)
def tyX0 : Nat → FieldType := fun k => match k with
  | 0 => .object "AccessJudge$Types"
  | 1 => .object "AccessJudge$Members"
  | _ => .object "AccessJudge$Overriding"
theorem nmX0 : ∀ a, a < 3 → ∀ b, b < 3 → a ≠ b → (TX0 a).2.1 ≠ (TX0 b).2.1 := by decide +kernel
theorem tyX0_ok : ∀ k, k < 3 → parseFieldDescriptor (TX0 k).2.2.1 = some (tyX0 k) := by decide +kernel
abbrev cX0_init : ByteArray := prog_2_method_1_code
def yX0_init : MethodName := ⟨RX0, "<init>", "(LAccessJudge$Types;LAccessJudge$Members;LAccessJudge$Overriding;)V"⟩
abbrev cX0_chosen : ByteArray := prog_2_method_2_code
def yX0_chosen : MethodName := ⟨RX0, "chosen", "(II)I"⟩
abbrev cX0_nearestClass : ByteArray := prog_2_method_3_code
def yX0_nearestClass : MethodName := ⟨RX0, "nearestClass", "(IJ)I"⟩
abbrev cX0_fromInterfaces : ByteArray := prog_2_method_4_code
def yX0_fromInterfaces : MethodName := ⟨RX0, "fromInterfaces", "(II)I"⟩
def RX1 : String := "AccessJudge$Faults"
def TX1 : u_T := fun k => match k with
  | 0 => ("AccessJudge$Faults", "types", "LAccessJudge$Types;", true)
  | 1 => ("AccessJudge$Faults", "members", "LAccessJudge$Members;", true)
  | 2 => ("AccessJudge$Faults", "inheritance", "LAccessJudge$Inheritance;", true)
  | 3 => ("AccessJudge$Faults", "overriding", "LAccessJudge$Overriding;", true)
  | 4 => ("AccessJudge$Faults", "openness", "LAccessJudge$Openness;", true)
  | 5 => ("AccessJudge$Faults", "size", "I", false)
  | 6 => ("AccessJudge$Faults", "codes", "[I", true)
  | 7 => ("AccessJudge$Faults", "numbers", "[I", true)
  | 8 => ("AccessJudge$Faults", "methodsOf", "[J", true)
  | _ => ("AccessJudge$Faults", "met", "[J", true)
def tyX1 : Nat → FieldType := fun k => match k with
  | 0 => .object "AccessJudge$Types"
  | 1 => .object "AccessJudge$Members"
  | 2 => .object "AccessJudge$Inheritance"
  | 3 => .object "AccessJudge$Overriding"
  | 4 => .object "AccessJudge$Openness"
  | 5 => .int
  | 6 => .array .int
  | 7 => .array .int
  | 8 => .array .long
  | _ => .array .long
theorem nmX1 : ∀ a, a < 10 → ∀ b, b < 10 → a ≠ b → (TX1 a).2.1 ≠ (TX1 b).2.1 := by decide +kernel
theorem tyX1_ok : ∀ k, k < 10 → parseFieldDescriptor (TX1 k).2.2.1 = some (tyX1 k) := by decide +kernel
abbrev cX1_init : ByteArray := prog_3_method_1_code
def yX1_init : MethodName := ⟨RX1, "<init>", "(LAccessJudge$Types;LAccessJudge$Members;LAccessJudge$Inheritance;LAccessJudge$Overriding;LAccessJudge$Openness;)V"⟩
abbrev cX1_find : ByteArray := prog_3_method_2_code
def yX1_find : MethodName := ⟨RX1, "find", "(I)V"⟩
abbrev cX1_metBy : ByteArray := prog_3_method_3_code
def yX1_metBy : MethodName := ⟨RX1, "metBy", "(IIJ)J"⟩
abbrev cX1_addIf : ByteArray := prog_3_method_4_code
def yX1_addIf : MethodName := ⟨RX1, "addIf", "(ZII)V"⟩
abbrev cX1_findInTypesAbove : ByteArray := prog_3_method_5_code
def yX1_findInTypesAbove : MethodName := ⟨RX1, "findInTypesAbove", "(I)V"⟩
abbrev cX1_findInDeclared : ByteArray := prog_3_method_6_code
def yX1_findInDeclared : MethodName := ⟨RX1, "findInDeclared", "(I)V"⟩
abbrev cX1_clashes : ByteArray := prog_3_method_7_code
def yX1_clashes : MethodName := ⟨RX1, "clashes", "(II)Z"⟩
abbrev cX1_clashesWith : ByteArray := prog_3_method_8_code
def yX1_clashesWith : MethodName := ⟨RX1, "clashesWith", "(III)Z"⟩
abbrev cX1_findInMembers : ByteArray := prog_3_method_9_code
def yX1_findInMembers : MethodName := ⟨RX1, "findInMembers", "(I)V"⟩
abbrev cX1_isFound : ByteArray := prog_3_method_10_code
def yX1_isFound : MethodName := ⟨RX1, "isFound", "(I)Z"⟩
abbrev cX1_isRivalled : ByteArray := prog_3_method_11_code
def yX1_isRivalled : MethodName := ⟨RX1, "isRivalled", "(I)Z"⟩
def RX2 : String := "AccessJudge$Inheritance"
def TX2 : u_T := fun k => match k with
  | 0 => ("AccessJudge$Inheritance", "types", "LAccessJudge$Types;", true)
  | 1 => ("AccessJudge$Inheritance", "members", "LAccessJudge$Members;", true)
  | 2 => ("AccessJudge$Inheritance", "found", "[J", true)
  | _ => ("AccessJudge$Inheritance", "known", "I", false)
def tyX2 : Nat → FieldType := fun k => match k with
  | 0 => .object "AccessJudge$Types"
  | 1 => .object "AccessJudge$Members"
  | 2 => .array .long
  | _ => .int
theorem nmX2 : ∀ a, a < 4 → ∀ b, b < 4 → a ≠ b → (TX2 a).2.1 ≠ (TX2 b).2.1 := by decide +kernel
theorem tyX2_ok : ∀ k, k < 4 → parseFieldDescriptor (TX2 k).2.2.1 = some (tyX2 k) := by decide +kernel
abbrev cX2_init : ByteArray := prog_4_method_1_code
def yX2_init : MethodName := ⟨RX2, "<init>", "(LAccessJudge$Types;LAccessJudge$Members;)V"⟩
abbrev cX2_forget : ByteArray := prog_4_method_2_code
def yX2_forget : MethodName := ⟨RX2, "forget", "()V"⟩
abbrev cX2_howMany : ByteArray := prog_4_method_3_code
def yX2_howMany : MethodName := ⟨RX2, "howMany", "(I)I"⟩
abbrev cX2_membersOf : ByteArray := prog_4_method_4_code
def yX2_membersOf : MethodName := ⟨RX2, "membersOf", "(II)J"⟩
abbrev cX2_find : ByteArray := prog_4_method_5_code
def yX2_find : MethodName := ⟨RX2, "find", "(II)J"⟩
abbrev cX2_fromParent : ByteArray := prog_4_method_6_code
def yX2_fromParent : MethodName := ⟨RX2, "fromParent", "(IIJ)J"⟩
abbrev cX2_fromFaces : ByteArray := prog_4_method_7_code
def yX2_fromFaces : MethodName := ⟨RX2, "fromFaces", "(IJJJ)J"⟩
abbrev cX2_ofFaces : ByteArray := prog_4_method_8_code
def yX2_ofFaces : MethodName := ⟨RX2, "ofFaces", "(II)J"⟩
def RX3 : String := "AccessJudge$Members"
def TX3 : u_T := fun k => match k with
  | 0 => ("AccessJudge$Members", "types", "LAccessJudge$Types;", true)
  | 1 => ("AccessJudge$Members", "count", "I", false)
  | 2 => ("AccessJudge$Members", "declarer", "[I", true)
  | 3 => ("AccessJudge$Members", "group", "[I", true)
  | 4 => ("AccessJudge$Members", "access", "[I", true)
  | 5 => ("AccessJudge$Members", "flags", "[I", true)
  | 6 => ("AccessJudge$Members", "numbers", "[I", true)
  | 7 => ("AccessJudge$Members", "declarers", "[J", true)
  | 8 => ("AccessJudge$Members", "privates", "[J", true)
  | 9 => ("AccessJudge$Members", "packageOnes", "[J", true)
  | 10 => ("AccessJudge$Members", "statics", "[J", true)
  | _ => ("AccessJudge$Members", "abstracts", "[J", true)
def tyX3 : Nat → FieldType := fun k => match k with
  | 0 => .object "AccessJudge$Types"
  | 1 => .int
  | 2 => .array .int
  | 3 => .array .int
  | 4 => .array .int
  | 5 => .array .int
  | 6 => .array .int
  | 7 => .array .long
  | 8 => .array .long
  | 9 => .array .long
  | 10 => .array .long
  | _ => .array .long
theorem nmX3 : ∀ a, a < 12 → ∀ b, b < 12 → a ≠ b → (TX3 a).2.1 ≠ (TX3 b).2.1 := by decide +kernel
theorem tyX3_ok : ∀ k, k < 12 → parseFieldDescriptor (TX3 k).2.2.1 = some (tyX3 k) := by decide +kernel
abbrev cX3_init : ByteArray := prog_5_method_1_code
def yX3_init : MethodName := ⟨RX3, "<init>", "(LAccessJudge$Types;)V"⟩
abbrev cX3_exists : ByteArray := prog_5_method_2_code
def yX3_exists : MethodName := ⟨RX3, "exists", "(I)Z"⟩
abbrev cX3_isMethod : ByteArray := prog_5_method_3_code
def yX3_isMethod : MethodName := ⟨RX3, "isMethod", "(I)Z"⟩
abbrev cX3_isMethodGroup : ByteArray := prog_5_method_4_code
def yX3_isMethodGroup : MethodName := ⟨RX3, "isMethodGroup", "(I)Z"⟩
abbrev cX3_hasFlag : ByteArray := prog_5_method_5_code
def yX3_hasFlag : MethodName := ⟨RX3, "hasFlag", "(II)Z"⟩
abbrev cX3_declared : ByteArray := prog_5_method_6_code
def yX3_declared : MethodName := ⟨RX3, "declared", "(II)I"⟩
abbrev cX3_overridable : ByteArray := prog_5_method_7_code
def yX3_overridable : MethodName := ⟨RX3, "overridable", "(I)J"⟩
abbrev cX3_brokenRule : ByteArray := prog_5_method_8_code
def yX3_brokenRule : MethodName := ⟨RX3, "brokenRule", "(IIIII)I"⟩
abbrev cX3_fitsInterface : ByteArray := prog_5_method_9_code
def yX3_fitsInterface : MethodName := ⟨RX3, "fitsInterface", "(III)Z"⟩
abbrev cX3_add : ByteArray := prog_5_method_10_code
def yX3_add : MethodName := ⟨RX3, "add", "(IIIII)I"⟩
def RX4 : String := "AccessJudge$Modules"
def TX4 : u_T := fun k => match k with
  | 0 => ("AccessJudge$Modules", "modules", "I", false)
  | 1 => ("AccessJudge$Modules", "packs", "I", false)
  | 2 => ("AccessJudge$Modules", "readOnes", "[I", true)
  | 3 => ("AccessJudge$Modules", "home", "[I", true)
  | _ => ("AccessJudge$Modules", "exportedTo", "[I", true)
def tyX4 : Nat → FieldType := fun k => match k with
  | 0 => .int
  | 1 => .int
  | 2 => .array .int
  | 3 => .array .int
  | _ => .array .int
theorem nmX4 : ∀ a, a < 5 → ∀ b, b < 5 → a ≠ b → (TX4 a).2.1 ≠ (TX4 b).2.1 := by decide +kernel
theorem tyX4_ok : ∀ k, k < 5 → parseFieldDescriptor (TX4 k).2.2.1 = some (tyX4 k) := by decide +kernel
abbrev cX4_init : ByteArray := prog_6_method_1_code
def yX4_init : MethodName := ⟨RX4, "<init>", "()V"⟩
abbrev cX4_hasModule : ByteArray := prog_6_method_2_code
def yX4_hasModule : MethodName := ⟨RX4, "hasModule", "(I)Z"⟩
abbrev cX4_hasPack : ByteArray := prog_6_method_3_code
def yX4_hasPack : MethodName := ⟨RX4, "hasPack", "(I)Z"⟩
abbrev cX4_addModule : ByteArray := prog_6_method_4_code
def yX4_addModule : MethodName := ⟨RX4, "addModule", "()I"⟩
abbrev cX4_addReading : ByteArray := prog_6_method_5_code
def yX4_addReading : MethodName := ⟨RX4, "addReading", "(II)I"⟩
abbrev cX4_addPack : ByteArray := prog_6_method_6_code
def yX4_addPack : MethodName := ⟨RX4, "addPack", "(I)I"⟩
abbrev cX4_addExport : ByteArray := prog_6_method_7_code
def yX4_addExport : MethodName := ⟨RX4, "addExport", "(II)I"⟩
abbrev cX4_isPublicSeen : ByteArray := prog_6_method_8_code
def yX4_isPublicSeen : MethodName := ⟨RX4, "isPublicSeen", "(II)Z"⟩
def RX5 : String := "AccessJudge$Openness"
def TX5 : u_T := fun k => match k with
  | 0 => ("AccessJudge$Openness", "modules", "LAccessJudge$Modules;", true)
  | 1 => ("AccessJudge$Openness", "types", "LAccessJudge$Types;", true)
  | _ => ("AccessJudge$Openness", "members", "LAccessJudge$Members;", true)
def tyX5 : Nat → FieldType := fun k => match k with
  | 0 => .object "AccessJudge$Modules"
  | 1 => .object "AccessJudge$Types"
  | _ => .object "AccessJudge$Members"
theorem nmX5 : ∀ a, a < 3 → ∀ b, b < 3 → a ≠ b → (TX5 a).2.1 ≠ (TX5 b).2.1 := by decide +kernel
theorem tyX5_ok : ∀ k, k < 3 → parseFieldDescriptor (TX5 k).2.2.1 = some (tyX5 k) := by decide +kernel
abbrev cX5_init : ByteArray := prog_7_method_1_code
def yX5_init : MethodName := ⟨RX5, "<init>", "(LAccessJudge$Modules;LAccessJudge$Types;LAccessJudge$Members;)V"⟩
abbrev cX5_isTypeOpen : ByteArray := prog_7_method_2_code
def yX5_isTypeOpen : MethodName := ⟨RX5, "isTypeOpen", "(II)Z"⟩
abbrev cX5_isOpenWithinOuter : ByteArray := prog_7_method_3_code
def yX5_isOpenWithinOuter : MethodName := ⟨RX5, "isOpenWithinOuter", "(II)Z"⟩
abbrev cX5_openOnes : ByteArray := prog_7_method_4_code
def yX5_openOnes : MethodName := ⟨RX5, "openOnes", "(JIIII)J"⟩
abbrev cX5_isMemberOpen : ByteArray := prog_7_method_5_code
def yX5_isMemberOpen : MethodName := ⟨RX5, "isMemberOpen", "(IIII)Z"⟩
abbrev cX5_isNearEnough : ByteArray := prog_7_method_6_code
def yX5_isNearEnough : MethodName := ⟨RX5, "isNearEnough", "(II)Z"⟩
abbrev cX5_isProtectedOpen : ByteArray := prog_7_method_7_code
def yX5_isProtectedOpen : MethodName := ⟨RX5, "isProtectedOpen", "(IIII)Z"⟩
abbrev cX5_isMakerOpen : ByteArray := prog_7_method_8_code
def yX5_isMakerOpen : MethodName := ⟨RX5, "isMakerOpen", "(III)Z"⟩
def RX6 : String := "AccessJudge$Overriding"
def TX6 : u_T := fun k => match k with
  | 0 => ("AccessJudge$Overriding", "types", "LAccessJudge$Types;", true)
  | 1 => ("AccessJudge$Overriding", "members", "LAccessJudge$Members;", true)
  | 2 => ("AccessJudge$Overriding", "overridden", "[J", true)
  | 3 => ("AccessJudge$Overriding", "overriders", "[J", true)
  | _ => ("AccessJudge$Overriding", "known", "I", false)
def tyX6 : Nat → FieldType := fun k => match k with
  | 0 => .object "AccessJudge$Types"
  | 1 => .object "AccessJudge$Members"
  | 2 => .array .long
  | 3 => .array .long
  | _ => .int
theorem nmX6 : ∀ a, a < 5 → ∀ b, b < 5 → a ≠ b → (TX6 a).2.1 ≠ (TX6 b).2.1 := by decide +kernel
theorem tyX6_ok : ∀ k, k < 5 → parseFieldDescriptor (TX6 k).2.2.1 = some (tyX6 k) := by decide +kernel
abbrev cX6_init : ByteArray := prog_8_method_1_code
def yX6_init : MethodName := ⟨RX6, "<init>", "(LAccessJudge$Types;LAccessJudge$Members;)V"⟩
abbrev cX6_forget : ByteArray := prog_8_method_2_code
def yX6_forget : MethodName := ⟨RX6, "forget", "()V"⟩
abbrev cX6_holds : ByteArray := prog_8_method_3_code
def yX6_holds : MethodName := ⟨RX6, "holds", "(II)Z"⟩
abbrev cX6_overriddenBy : ByteArray := prog_8_method_4_code
def yX6_overriddenBy : MethodName := ⟨RX6, "overriddenBy", "(II)J"⟩
abbrev cX6_overridersOf : ByteArray := prog_8_method_5_code
def yX6_overridersOf : MethodName := ⟨RX6, "overridersOf", "(II)J"⟩
abbrev cX6_knownRow : ByteArray := prog_8_method_6_code
def yX6_knownRow : MethodName := ⟨RX6, "knownRow", "(I)I"⟩
abbrev cX6_clear : ByteArray := prog_8_method_7_code
def yX6_clear : MethodName := ⟨RX6, "clear", "(I)V"⟩
abbrev cX6_findOverridden : ByteArray := prog_8_method_8_code
def yX6_findOverridden : MethodName := ⟨RX6, "findOverridden", "(IJII)V"⟩
abbrev cX6_reaches : ByteArray := prog_8_method_9_code
def yX6_reaches : MethodName := ⟨RX6, "reaches", "(IIII)Z"⟩
def RX7 : String := "AccessJudge$Sets"
def TX7 : u_T := fun k => match k with
  | _ => ("", "", "", false)
def tyX7 : Nat → FieldType := fun k => match k with
  | _ => .int
theorem nmX7 : ∀ a, a < 0 → ∀ b, b < 0 → a ≠ b → (TX7 a).2.1 ≠ (TX7 b).2.1 := by decide +kernel
theorem tyX7_ok : ∀ k, k < 0 → parseFieldDescriptor (TX7 k).2.2.1 = some (tyX7 k) := by decide +kernel
abbrev cX7_one : ByteArray := prog_9_method_2_code
def yX7_one : MethodName := ⟨RX7, "one", "(I)J"⟩
abbrev cX7_has : ByteArray := prog_9_method_3_code
def yX7_has : MethodName := ⟨RX7, "has", "(JI)Z"⟩
abbrev cX7_least : ByteArray := prog_9_method_4_code
def yX7_least : MethodName := ⟨RX7, "least", "(J)I"⟩
def RX8 : String := "AccessJudge$Types"
def TX8 : u_T := fun k => match k with
  | 0 => ("AccessJudge$Types", "count", "I", false)
  | 1 => ("AccessJudge$Types", "classes", "J", false)
  | 2 => ("AccessJudge$Types", "statics", "J", false)
  | 3 => ("AccessJudge$Types", "pack", "[I", true)
  | 4 => ("AccessJudge$Types", "outer", "[I", true)
  | 5 => ("AccessJudge$Types", "top", "[I", true)
  | 6 => ("AccessJudge$Types", "access", "[I", true)
  | 7 => ("AccessJudge$Types", "parent", "[I", true)
  | 8 => ("AccessJudge$Types", "flags", "[I", true)
  | 9 => ("AccessJudge$Types", "faces", "[J", true)
  | 10 => ("AccessJudge$Types", "above", "[J", true)
  | 11 => ("AccessJudge$Types", "below", "[J", true)
  | 12 => ("AccessJudge$Types", "around", "[J", true)
  | 13 => ("AccessJudge$Types", "order", "[I", true)
  | 14 => ("AccessJudge$Types", "nextOrder", "[I", true)
  | _ => ("AccessJudge$Types", "ofPack", "[J", true)
def tyX8 : Nat → FieldType := fun k => match k with
  | 0 => .int
  | 1 => .long
  | 2 => .long
  | 3 => .array .int
  | 4 => .array .int
  | 5 => .array .int
  | 6 => .array .int
  | 7 => .array .int
  | 8 => .array .int
  | 9 => .array .long
  | 10 => .array .long
  | 11 => .array .long
  | 12 => .array .long
  | 13 => .array .int
  | 14 => .array .int
  | _ => .array .long
theorem nmX8 : ∀ a, a < 16 → ∀ b, b < 16 → a ≠ b → (TX8 a).2.1 ≠ (TX8 b).2.1 := by decide +kernel
theorem tyX8_ok : ∀ k, k < 16 → parseFieldDescriptor (TX8 k).2.2.1 = some (tyX8 k) := by decide +kernel
abbrev cX8_init : ByteArray := prog_10_method_1_code
def yX8_init : MethodName := ⟨RX8, "<init>", "()V"⟩
abbrev cX8_exists : ByteArray := prog_10_method_2_code
def yX8_exists : MethodName := ⟨RX8, "exists", "(I)Z"⟩
abbrev cX8_isClass : ByteArray := prog_10_method_3_code
def yX8_isClass : MethodName := ⟨RX8, "isClass", "(I)Z"⟩
abbrev cX8_hasFlag : ByteArray := prog_10_method_4_code
def yX8_hasFlag : MethodName := ⟨RX8, "hasFlag", "(II)Z"⟩
abbrev cX8_faceCount : ByteArray := prog_10_method_5_code
def yX8_faceCount : MethodName := ⟨RX8, "faceCount", "(I)I"⟩
abbrev cX8_isSameOrBelow : ByteArray := prog_10_method_6_code
def yX8_isSameOrBelow : MethodName := ⟨RX8, "isSameOrBelow", "(II)Z"⟩
abbrev cX8_sameOrBelow : ByteArray := prog_10_method_7_code
def yX8_sameOrBelow : MethodName := ⟨RX8, "sameOrBelow", "(I)J"⟩
abbrev cX8_sameOrAbove : ByteArray := prog_10_method_8_code
def yX8_sameOrAbove : MethodName := ⟨RX8, "sameOrAbove", "(I)J"⟩
abbrev cX8_neighbours : ByteArray := prog_10_method_9_code
def yX8_neighbours : MethodName := ⟨RX8, "neighbours", "(I)J"⟩
abbrev cX8_brokenRule : ByteArray := prog_10_method_10_code
def yX8_brokenRule : MethodName := ⟨RX8, "brokenRule", "(IIIII)I"⟩
abbrev cX8_add : ByteArray := prog_10_method_11_code
def yX8_add : MethodName := ⟨RX8, "add", "(IIIII)I"⟩
abbrev cX8_putWithin : ByteArray := prog_10_method_12_code
def yX8_putWithin : MethodName := ⟨RX8, "putWithin", "(II)V"⟩
abbrev cX8_setParent : ByteArray := prog_10_method_13_code
def yX8_setParent : MethodName := ⟨RX8, "setParent", "(II)V"⟩
abbrev cX8_addFace : ByteArray := prog_10_method_14_code
def yX8_addFace : MethodName := ⟨RX8, "addFace", "(II)V"⟩
abbrev cX8_putBelow : ByteArray := prog_10_method_15_code
def yX8_putBelow : MethodName := ⟨RX8, "putBelow", "(II)V"⟩
abbrev cX8_putLastInOrder : ByteArray := prog_10_method_16_code
def yX8_putLastInOrder : MethodName := ⟨RX8, "putLastInOrder", "(J)V"⟩
abbrev cX8_withoutAnyBelow : ByteArray := prog_10_method_17_code
def yX8_withoutAnyBelow : MethodName := ⟨RX8, "withoutAnyBelow", "(JJ)J"⟩
def RX9 : String := "AccessJudge$Uses"
def TX9 : u_T := fun k => match k with
  | 0 => ("AccessJudge$Uses", "types", "LAccessJudge$Types;", true)
  | 1 => ("AccessJudge$Uses", "members", "LAccessJudge$Members;", true)
  | 2 => ("AccessJudge$Uses", "inheritance", "LAccessJudge$Inheritance;", true)
  | _ => ("AccessJudge$Uses", "openness", "LAccessJudge$Openness;", true)
def tyX9 : Nat → FieldType := fun k => match k with
  | 0 => .object "AccessJudge$Types"
  | 1 => .object "AccessJudge$Members"
  | 2 => .object "AccessJudge$Inheritance"
  | _ => .object "AccessJudge$Openness"
theorem nmX9 : ∀ a, a < 4 → ∀ b, b < 4 → a ≠ b → (TX9 a).2.1 ≠ (TX9 b).2.1 := by decide +kernel
theorem tyX9_ok : ∀ k, k < 4 → parseFieldDescriptor (TX9 k).2.2.1 = some (tyX9 k) := by decide +kernel
abbrev cX9_init : ByteArray := prog_11_method_1_code
def yX9_init : MethodName := ⟨RX9, "<init>", "(LAccessJudge$Types;LAccessJudge$Members;LAccessJudge$Inheritance;LAccessJudge$Openness;)V"⟩
abbrev cX9_usedType : ByteArray := prog_11_method_2_code
def yX9_usedType : MethodName := ⟨RX9, "usedType", "(IIII)I"⟩
abbrev cX9_meant : ByteArray := prog_11_method_3_code
def yX9_meant : MethodName := ⟨RX9, "meant", "(IIII)I"⟩
abbrev cX9_preferred : ByteArray := prog_11_method_4_code
def yX9_preferred : MethodName := ⟨RX9, "preferred", "(JI)I"⟩
abbrev cX9_allowed : ByteArray := prog_11_method_5_code
def yX9_allowed : MethodName := ⟨RX9, "allowed", "(IIII)I"⟩
abbrev cX9_hasStaticAhead : ByteArray := prog_11_method_6_code
def yX9_hasStaticAhead : MethodName := ⟨RX9, "hasStaticAhead", "(II)Z"⟩
abbrev cX9_maker : ByteArray := prog_11_method_7_code
def yX9_maker : MethodName := ⟨RX9, "maker", "(IIII)I"⟩
def RX10 : String := "AccessJudge"
def TX10 : u_T := fun k => match k with
  | 0 => ("AccessJudge", "modules", "LAccessJudge$Modules;", true)
  | 1 => ("AccessJudge", "types", "LAccessJudge$Types;", true)
  | 2 => ("AccessJudge", "members", "LAccessJudge$Members;", true)
  | 3 => ("AccessJudge", "inheritance", "LAccessJudge$Inheritance;", true)
  | 4 => ("AccessJudge", "overriding", "LAccessJudge$Overriding;", true)
  | 5 => ("AccessJudge", "openness", "LAccessJudge$Openness;", true)
  | 6 => ("AccessJudge", "uses", "LAccessJudge$Uses;", true)
  | 7 => ("AccessJudge", "choice", "LAccessJudge$Choice;", true)
  | _ => ("AccessJudge", "faults", "LAccessJudge$Faults;", true)
def tyX10 : Nat → FieldType := fun k => match k with
  | 0 => .object "AccessJudge$Modules"
  | 1 => .object "AccessJudge$Types"
  | 2 => .object "AccessJudge$Members"
  | 3 => .object "AccessJudge$Inheritance"
  | 4 => .object "AccessJudge$Overriding"
  | 5 => .object "AccessJudge$Openness"
  | 6 => .object "AccessJudge$Uses"
  | 7 => .object "AccessJudge$Choice"
  | _ => .object "AccessJudge$Faults"
theorem nmX10 : ∀ a, a < 9 → ∀ b, b < 9 → a ≠ b → (TX10 a).2.1 ≠ (TX10 b).2.1 := by decide +kernel
theorem tyX10_ok : ∀ k, k < 9 → parseFieldDescriptor (TX10 k).2.2.1 = some (tyX10 k) := by decide +kernel
abbrev cX10_init : ByteArray := prog_1_method_1_code
def yX10_init : MethodName := ⟨RX10, "<init>", "()V"⟩
abbrev cX10_module : ByteArray := prog_1_method_2_code
def yX10_module : MethodName := ⟨RX10, "module", "()I"⟩
abbrev cX10_reads : ByteArray := prog_1_method_3_code
def yX10_reads : MethodName := ⟨RX10, "reads", "(II)I"⟩
abbrev cX10_pack : ByteArray := prog_1_method_4_code
def yX10_pack : MethodName := ⟨RX10, "pack", "(I)I"⟩
abbrev cX10_export : ByteArray := prog_1_method_5_code
def yX10_export : MethodName := ⟨RX10, "export", "(II)I"⟩
abbrev cX10_type : ByteArray := prog_1_method_6_code
def yX10_type : MethodName := ⟨RX10, "type", "(IIIII)I"⟩
abbrev cX10_parent : ByteArray := prog_1_method_7_code
def yX10_parent : MethodName := ⟨RX10, "parent", "(II)I"⟩
abbrev cX10_face : ByteArray := prog_1_method_8_code
def yX10_face : MethodName := ⟨RX10, "face", "(II)I"⟩
abbrev cX10_member : ByteArray := prog_1_method_9_code
def yX10_member : MethodName := ⟨RX10, "member", "(IIIII)I"⟩
abbrev cX10_count : ByteArray := prog_1_method_10_code
def yX10_count : MethodName := ⟨RX10, "count", "(I)I"⟩
abbrev cX10_about : ByteArray := prog_1_method_11_code
def yX10_about : MethodName := ⟨RX10, "about", "(II)I"⟩
abbrev cX10_below : ByteArray := prog_1_method_12_code
def yX10_below : MethodName := ⟨RX10, "below", "(II)I"⟩
abbrev cX10_open : ByteArray := prog_1_method_13_code
def yX10_open : MethodName := ⟨RX10, "open", "(II)I"⟩
abbrev cX10_of : ByteArray := prog_1_method_14_code
def yX10_of : MethodName := ⟨RX10, "of", "(II)I"⟩
abbrev cX10_use : ByteArray := prog_1_method_15_code
def yX10_use : MethodName := ⟨RX10, "use", "(IIIII)I"⟩
abbrev cX10_make : ByteArray := prog_1_method_16_code
def yX10_make : MethodName := ⟨RX10, "make", "(IIII)I"⟩
abbrev cX10_overrides : ByteArray := prog_1_method_17_code
def yX10_overrides : MethodName := ⟨RX10, "overrides", "(II)I"⟩
abbrev cX10_choose : ByteArray := prog_1_method_18_code
def yX10_choose : MethodName := ⟨RX10, "choose", "(II)I"⟩
abbrev cX10_check : ByteArray := prog_1_method_19_code
def yX10_check : MethodName := ⟨RX10, "check", "(I)I"⟩
abbrev cX10_fault : ByteArray := prog_1_method_20_code
def yX10_fault : MethodName := ⟨RX10, "fault", "(III)I"⟩
abbrev cX10_forgetAnswers : ByteArray := prog_1_method_21_code
def yX10_forgetAnswers : MethodName := ⟨RX10, "forgetAnswers", "()V"⟩
abbrev cX10_isWithin : ByteArray := prog_1_method_22_code
def yX10_isWithin : MethodName := ⟨RX10, "isWithin", "(II)Z"⟩
abbrev cX10_areFlags : ByteArray := prog_1_method_23_code
def yX10_areFlags : MethodName := ⟨RX10, "areFlags", "(I)Z"⟩
abbrev cX10_typeOrNone : ByteArray := prog_1_method_24_code
def yX10_typeOrNone : MethodName := ⟨RX10, "typeOrNone", "(I)I"⟩
abbrev cX10_yesOrNo : ByteArray := prog_1_method_25_code
def yX10_yesOrNo : MethodName := ⟨RX10, "yesOrNo", "(Z)I"⟩
def RX11 : String := "AccessJudgeModel"
def TX11 : u_T := fun k => match k with
  | 0 => ("AccessJudgeModel", "modules", "I", false)
  | 1 => ("AccessJudgeModel", "doesRead", "[Z", true)
  | 2 => ("AccessJudgeModel", "packs", "I", false)
  | 3 => ("AccessJudgeModel", "moduleOf", "[I", true)
  | 4 => ("AccessJudgeModel", "isOut", "[Z", true)
  | 5 => ("AccessJudgeModel", "isOutToAll", "[Z", true)
  | 6 => ("AccessJudgeModel", "types", "I", false)
  | 7 => ("AccessJudgeModel", "packOf", "[I", true)
  | 8 => ("AccessJudgeModel", "outerOf", "[I", true)
  | 9 => ("AccessJudgeModel", "sortOf", "[I", true)
  | 10 => ("AccessJudgeModel", "accessOf", "[I", true)
  | 11 => ("AccessJudgeModel", "flagsOf", "[I", true)
  | 12 => ("AccessJudgeModel", "parentOf", "[I", true)
  | 13 => ("AccessJudgeModel", "faces", "[I", true)
  | 14 => ("AccessJudgeModel", "faceCount", "[I", true)
  | 15 => ("AccessJudgeModel", "isAbove", "[Z", true)
  | 16 => ("AccessJudgeModel", "members", "I", false)
  | 17 => ("AccessJudgeModel", "mType", "[I", true)
  | 18 => ("AccessJudgeModel", "mKind", "[I", true)
  | 19 => ("AccessJudgeModel", "mName", "[I", true)
  | 20 => ("AccessJudgeModel", "mAccess", "[I", true)
  | 21 => ("AccessJudgeModel", "mFlags", "[I", true)
  | 22 => ("AccessJudgeModel", "isFound", "Z", false)
  | 23 => ("AccessJudgeModel", "isOf", "[Z", true)
  | 24 => ("AccessJudgeModel", "isDone", "[Z", true)
  | 25 => ("AccessJudgeModel", "isOver", "[Z", true)
  | 26 => ("AccessJudgeModel", "comes", "[Z", true)
  | 27 => ("AccessJudgeModel", "faultCode", "[I", true)
  | 28 => ("AccessJudgeModel", "faultOf", "[I", true)
  | _ => ("AccessJudgeModel", "faults", "I", false)
def tyX11 : Nat → FieldType := fun k => match k with
  | 0 => .int
  | 1 => .array .boolean
  | 2 => .int
  | 3 => .array .int
  | 4 => .array .boolean
  | 5 => .array .boolean
  | 6 => .int
  | 7 => .array .int
  | 8 => .array .int
  | 9 => .array .int
  | 10 => .array .int
  | 11 => .array .int
  | 12 => .array .int
  | 13 => .array .int
  | 14 => .array .int
  | 15 => .array .boolean
  | 16 => .int
  | 17 => .array .int
  | 18 => .array .int
  | 19 => .array .int
  | 20 => .array .int
  | 21 => .array .int
  | 22 => .boolean
  | 23 => .array .boolean
  | 24 => .array .boolean
  | 25 => .array .boolean
  | 26 => .array .boolean
  | 27 => .array .int
  | 28 => .array .int
  | _ => .int
theorem nmX11 : ∀ a, a < 30 → ∀ b, b < 30 → a ≠ b → (TX11 a).2.1 ≠ (TX11 b).2.1 := by decide +kernel
theorem tyX11_ok : ∀ k, k < 30 → parseFieldDescriptor (TX11 k).2.2.1 = some (tyX11 k) := by decide +kernel
abbrev cX11_init : ByteArray := prog_13_method_1_code
def yX11_init : MethodName := ⟨RX11, "<init>", "()V"⟩
abbrev cX11_module : ByteArray := prog_13_method_2_code
def yX11_module : MethodName := ⟨RX11, "module", "()I"⟩
abbrev cX11_noModule : ByteArray := prog_13_method_3_code
def yX11_noModule : MethodName := ⟨RX11, "noModule", "(I)Z"⟩
abbrev cX11_noPack : ByteArray := prog_13_method_4_code
def yX11_noPack : MethodName := ⟨RX11, "noPack", "(I)Z"⟩
abbrev cX11_noType : ByteArray := prog_13_method_5_code
def yX11_noType : MethodName := ⟨RX11, "noType", "(I)Z"⟩
abbrev cX11_noMember : ByteArray := prog_13_method_6_code
def yX11_noMember : MethodName := ⟨RX11, "noMember", "(I)Z"⟩
abbrev cX11_reads : ByteArray := prog_13_method_7_code
def yX11_reads : MethodName := ⟨RX11, "reads", "(II)I"⟩
abbrev cX11_pack : ByteArray := prog_13_method_8_code
def yX11_pack : MethodName := ⟨RX11, "pack", "(I)I"⟩
abbrev cX11_export : ByteArray := prog_13_method_9_code
def yX11_export : MethodName := ⟨RX11, "export", "(II)I"⟩
abbrev cX11_has : ByteArray := prog_13_method_10_code
def yX11_has : MethodName := ⟨RX11, "has", "(II)Z"⟩
abbrev cX11_ruleOfType : ByteArray := prog_13_method_11_code
def yX11_ruleOfType : MethodName := ⟨RX11, "ruleOfType", "(IIIII)I"⟩
abbrev cX11_noForm : ByteArray := prog_13_method_12_code
def yX11_noForm : MethodName := ⟨RX11, "noForm", "(II)Z"⟩
abbrev cX11_type : ByteArray := prog_13_method_13_code
def yX11_type : MethodName := ⟨RX11, "type", "(IIIII)I"⟩
abbrev cX11_raise : ByteArray := prog_13_method_14_code
def yX11_raise : MethodName := ⟨RX11, "raise", "(II)V"⟩
abbrev cX11_isBelow : ByteArray := prog_13_method_15_code
def yX11_isBelow : MethodName := ⟨RX11, "isBelow", "(II)Z"⟩
abbrev cX11_isAt : ByteArray := prog_13_method_16_code
def yX11_isAt : MethodName := ⟨RX11, "isAt", "(II)Z"⟩
abbrev cX11_parent : ByteArray := prog_13_method_17_code
def yX11_parent : MethodName := ⟨RX11, "parent", "(II)I"⟩
abbrev cX11_face : ByteArray := prog_13_method_18_code
def yX11_face : MethodName := ⟨RX11, "face", "(II)I"⟩
abbrev cX11_declared : ByteArray := prog_13_method_19_code
def yX11_declared : MethodName := ⟨RX11, "declared", "(III)I"⟩
abbrev cX11_ruleOfMember : ByteArray := prog_13_method_20_code
def yX11_ruleOfMember : MethodName := ⟨RX11, "ruleOfMember", "(IIIII)I"⟩
abbrev cX11_member : ByteArray := prog_13_method_21_code
def yX11_member : MethodName := ⟨RX11, "member", "(IIIII)I"⟩
abbrev cX11_count : ByteArray := prog_13_method_22_code
def yX11_count : MethodName := ⟨RX11, "count", "(I)I"⟩
abbrev cX11_topOf : ByteArray := prog_13_method_23_code
def yX11_topOf : MethodName := ⟨RX11, "topOf", "(I)I"⟩
abbrev cX11_about : ByteArray := prog_13_method_24_code
def yX11_about : MethodName := ⟨RX11, "about", "(II)I"⟩
abbrev cX11_isPlain : ByteArray := prog_13_method_25_code
def yX11_isPlain : MethodName := ⟨RX11, "isPlain", "(I)Z"⟩
abbrev cX11_find : ByteArray := prog_13_method_26_code
def yX11_find : MethodName := ⟨RX11, "find", "()V"⟩
abbrev cX11_isReady : ByteArray := prog_13_method_27_code
def yX11_isReady : MethodName := ⟨RX11, "isReady", "(I)Z"⟩
abbrev cX11_findMembers : ByteArray := prog_13_method_28_code
def yX11_findMembers : MethodName := ⟨RX11, "findMembers", "(I)V"⟩
abbrev cX11_comesFromParent : ByteArray := prog_13_method_29_code
def yX11_comesFromParent : MethodName := ⟨RX11, "comesFromParent", "(II)Z"⟩
abbrev cX11_isOfFace : ByteArray := prog_13_method_30_code
def yX11_isOfFace : MethodName := ⟨RX11, "isOfFace", "(II)Z"⟩
abbrev cX11_isBehind : ByteArray := prog_13_method_31_code
def yX11_isBehind : MethodName := ⟨RX11, "isBehind", "(II)Z"⟩
abbrev cX11_canOver : ByteArray := prog_13_method_32_code
def yX11_canOver : MethodName := ⟨RX11, "canOver", "(II)Z"⟩
abbrev cX11_findOvers : ByteArray := prog_13_method_33_code
def yX11_findOvers : MethodName := ⟨RX11, "findOvers", "()V"⟩
abbrev cX11_isOverBy : ByteArray := prog_13_method_34_code
def yX11_isOverBy : MethodName := ⟨RX11, "isOverBy", "(II)Z"⟩
abbrev cX11_below : ByteArray := prog_13_method_35_code
def yX11_below : MethodName := ⟨RX11, "below", "(II)I"⟩
abbrev cX11_isAround : ByteArray := prog_13_method_36_code
def yX11_isAround : MethodName := ⟨RX11, "isAround", "(II)Z"⟩
abbrev cX11_isOpen : ByteArray := prog_13_method_37_code
def yX11_isOpen : MethodName := ⟨RX11, "isOpen", "(II)Z"⟩
abbrev cX11_open : ByteArray := prog_13_method_38_code
def yX11_open : MethodName := ⟨RX11, "open", "(II)I"⟩
abbrev cX11_of : ByteArray := prog_13_method_39_code
def yX11_of : MethodName := ⟨RX11, "of", "(II)I"⟩
abbrev cX11_isOpenMember : ByteArray := prog_13_method_40_code
def yX11_isOpenMember : MethodName := ⟨RX11, "isOpenMember", "(IIII)Z"⟩
abbrev cX11_hasOne : ByteArray := prog_13_method_41_code
def yX11_hasOne : MethodName := ⟨RX11, "hasOne", "(III)Z"⟩
abbrev cX11_looked : ByteArray := prog_13_method_42_code
def yX11_looked : MethodName := ⟨RX11, "looked", "(IIIII)I"⟩
abbrev cX11_use : ByteArray := prog_13_method_43_code
def yX11_use : MethodName := ⟨RX11, "use", "(IIIII)I"⟩
abbrev cX11_isCut : ByteArray := prog_13_method_44_code
def yX11_isCut : MethodName := ⟨RX11, "isCut", "(II)Z"⟩
abbrev cX11_make : ByteArray := prog_13_method_45_code
def yX11_make : MethodName := ⟨RX11, "make", "(IIII)I"⟩
abbrev cX11_noMethod : ByteArray := prog_13_method_46_code
def yX11_noMethod : MethodName := ⟨RX11, "noMethod", "(I)Z"⟩
abbrev cX11_overrides : ByteArray := prog_13_method_47_code
def yX11_overrides : MethodName := ⟨RX11, "overrides", "(II)I"⟩
abbrev cX11_choose : ByteArray := prog_13_method_48_code
def yX11_choose : MethodName := ⟨RX11, "choose", "(II)I"⟩
abbrev cX11_isFaced : ByteArray := prog_13_method_49_code
def yX11_isFaced : MethodName := ⟨RX11, "isFaced", "(III)Z"⟩
abbrev cX11_isUnder : ByteArray := prog_13_method_50_code
def yX11_isUnder : MethodName := ⟨RX11, "isUnder", "(II)Z"⟩
abbrev cX11_tell : ByteArray := prog_13_method_51_code
def yX11_tell : MethodName := ⟨RX11, "tell", "(II)V"⟩
abbrev cX11_isMet : ByteArray := prog_13_method_52_code
def yX11_isMet : MethodName := ⟨RX11, "isMet", "(III)Z"⟩
abbrev cX11_isWrong : ByteArray := prog_13_method_53_code
def yX11_isWrong : MethodName := ⟨RX11, "isWrong", "(III)Z"⟩
abbrev cX11_look : ByteArray := prog_13_method_54_code
def yX11_look : MethodName := ⟨RX11, "look", "(I)V"⟩
abbrev cX11_hasOther : ByteArray := prog_13_method_55_code
def yX11_hasOther : MethodName := ⟨RX11, "hasOther", "(II)Z"⟩
abbrev cX11_check : ByteArray := prog_13_method_56_code
def yX11_check : MethodName := ⟨RX11, "check", "(I)I"⟩
abbrev cX11_fault : ByteArray := prog_13_method_57_code
def yX11_fault : MethodName := ⟨RX11, "fault", "(III)I"⟩
def RJ13 : String := "java/lang/Long"
def TJ13 : u_T := fun k => match k with
  | _ => ("", "", "", false)
def tyJ13 : Nat → FieldType := fun k => match k with
  | _ => .int
theorem nmJ13 : ∀ a, a < 0 → ∀ b, b < 0 → a ≠ b → (TJ13 a).2.1 ≠ (TJ13 b).2.1 := by decide +kernel
theorem tyJ13_ok : ∀ k, k < 0 → parseFieldDescriptor (TJ13 k).2.2.1 = some (tyJ13 k) := by decide +kernel
abbrev cJ13_bitCount_95d88 : ByteArray := prog_14_method_50_code
def yJ13_bitCount_95d88 : MethodName := ⟨RJ13, "bitCount", "(J)I"⟩
def RJ10 : String := "java/lang/System"
def TJ10 : u_T := fun k => match k with
  | _ => ("", "", "", false)
def tyJ10 : Nat → FieldType := fun k => match k with
  | _ => .int
theorem nmJ10 : ∀ a, a < 0 → ∀ b, b < 0 → a ≠ b → (TJ10 a).2.1 ≠ (TJ10 b).2.1 := by decide +kernel
theorem tyJ10_ok : ∀ k, k < 0 → parseFieldDescriptor (TJ10 k).2.2.1 = some (tyJ10 k) := by decide +kernel
def RJ7 : String := "java/util/Arrays"
def TJ7 : u_T := fun k => match k with
  | _ => ("", "", "", false)
def tyJ7 : Nat → FieldType := fun k => match k with
  | _ => .int
theorem nmJ7 : ∀ a, a < 0 → ∀ b, b < 0 → a ≠ b → (TJ7 a).2.1 ≠ (TJ7 b).2.1 := by decide +kernel
theorem tyJ7_ok : ∀ k, k < 0 → parseFieldDescriptor (TJ7 k).2.2.1 = some (tyJ7 k) := by decide +kernel
abbrev cJ7_fill_53178 : ByteArray := prog_16_method_103_code
def yJ7_fill_53178 : MethodName := ⟨RJ7, "fill", "([II)V"⟩
def RL : String := "AccessJudgeLaw"
abbrev cL_law : ByteArray := code
def yL_law : MethodName := ⟨RL, "law", "([I)Z"⟩
abbrev vwCl : List vw_C := [(RX0, TX0, 3), (RX1, TX1, 10), (RX2, TX2, 4), (RX3, TX3, 12), (RX4, TX4, 5), (RX5, TX5, 3), (RX6, TX6, 5), (RX8, TX8, 16), (RX9, TX9, 4), (RX10, TX10, 9), (RX11, TX11, 30)]
end
section
/-! THE ABSTRACT MACHINE. A fixed world of cells; memory = ints (and booleans) and longs by place and index; a reference is a place. -/
abbrev ab_M : Type := (Nat → Nat → Int32) × (Nat → Nat → Int64)
def ab_mi (μ : ab_M) (k j : Nat) (x : Int32) : ab_M := (fun a b => if a = k ∧ b = j then x else μ.1 a b, μ.2)
def ab_mj (μ : ab_M) (k j : Nat) (x : Int64) : ab_M := (μ.1, fun a b => if a = k ∧ b = j then x else μ.2 a b)
def ab_mr (μ : ab_M) (k : Nat) (f : Nat → Int32) : ab_M := (fun a b => if a = k then f b else μ.1 a b, μ.2)
/-- a slot of an object: a place, or a number (0 int, 1 long, 2 boolean) -/
abbrev ab_Sl : Type := Nat ⊕ Nat
/-- a cell: an array (0 int, 1 long, 2 boolean; its length), or an object (its class, its slots) -/
abbrev ab_Sh : Type := (Nat × Nat) ⊕ (Nat × List ab_Sl)
abbrev ab_W : Type := (Nat → Nat) × (ClassId × ClassId × ClassId) × va_G × List ab_Sh
abbrev ab_L : Type := List (Option Value)
/-- a method: name, code, locals, answer, room -/
abbrev ab_Md : Type := MethodName × ByteArray × Nat × Option FieldType × Room
/-- an instruction: place in the code, length, itself; targets or hints; class, slot, hint; constants; the method that it calls and how many arguments -/
abbrev ab_En : Type := Nat × Nat × Instr × List Nat × (Nat × Nat × Nat) × Int32 × Int64 × Option (ab_Md × Nat)
def ab_nth {α : Type} : List α → Nat → Option α
  | [], _ => none
  | a :: _, 0 => some a
  | _ :: l, n + 1 => ab_nth l n
theorem ab_nth_eq {α : Type} : ∀ (l : List α) (n : Nat), ab_nth l n = l[n]?
  | [], n => by simp [ab_nth]
  | a :: l, 0 => by simp [ab_nth]
  | a :: l, n + 1 => by simp [ab_nth, ab_nth_eq l n]
def ab_cv (ad : Nat → Nat) : Value → Value
  | .ref k => .ref (ad k)
  | v => v
theorem ab_cv_cat (ad : Nat → Nat) (v : Value) : (ab_cv ad v).category = v.category := by cases v <;> rfl
def ab_sv (ω : ab_W) (μ : ab_M) (k j : Nat) : ab_Sl → Value
  | .inl p => .ref (ω.1 p)
  | .inr 1 => .long (μ.2 k j)
  | .inr _ => .int (μ.1 k j)
def ab_ct (ω : ab_W) (μ : ab_M) (k : Nat) : ab_Sh → va_E
  | .inl (0, n) => .inl (ω.2.1.1, n, .inl (μ.1 k))
  | .inl (1, n) => .inl (ω.2.1.2.1, n, .inr (.inl (μ.2 k)))
  | .inl (_, n) => .inl (ω.2.1.2.2, n, .inl (μ.1 k))
  | .inr (ci, sl) => .inr (ci, sl.mapIdx (fun j z => ab_sv ω μ k j z))
def ab_wl (ω : ab_W) (μ : ab_M) : va_W := ω.2.2.2.mapIdx (fun k h => (ω.1 k, ab_ct ω μ k h))
abbrev ab_tys (ω : ab_W) : List (ClassId × FieldType) := [(ω.2.1.1, .int), (ω.2.1.2.1, .long), (ω.2.1.2.2, .boolean)]
theorem ab_wl_at {ω : ab_W} {μ : ab_M} {k : Nat} {h : ab_Sh} (e : ω.2.2.2[k]? = some h) : (ab_wl ω μ)[k]? = some (ω.1 k, ab_ct ω μ k h) := by
  simp [ab_wl, List.getElem?_mapIdx, e]
theorem ab_wl_of {ω : ab_W} {μ : ab_M} {k : Nat} {q : Nat × va_E} (e : (ab_wl ω μ)[k]? = some q) : ∃ h, ω.2.2.2[k]? = some h ∧ q = (ω.1 k, ab_ct ω μ k h) := by
  simp only [ab_wl, List.getElem?_mapIdx, Option.map_eq_some_iff] at e
  obtain ⟨h, h1, h2⟩ := e
  exact ⟨h, h1, h2.symm⟩
/-- the world behind a change of one place -/
theorem ab_wl_set {ω : ab_W} {μ μ' : ab_M} {k : Nat} {h : ab_Sh} (e : ω.2.2.2[k]? = some h) (h1 : ∀ a, a ≠ k → μ'.1 a = μ.1 a) (h2 : ∀ a, a ≠ k → μ'.2 a = μ.2 a) :
    (ab_wl ω μ).set k (ω.1 k, ab_ct ω μ' k h) = ab_wl ω μ' := by
  apply List.ext_getElem?
  intro a
  rw [List.getElem?_set]
  by_cases hak : k = a
  · subst hak
    have hl : k < (ab_wl ω μ).length := by
      have := (List.getElem?_eq_some_iff.mp (ab_wl_at (μ := μ) e)).1
      exact this
    simp [hl, ab_wl_at e]
  · rw [if_neg hak]
    simp only [ab_wl, List.getElem?_mapIdx]
    cases hs : ω.2.2.2[a]? with
    | none => rfl
    | some h3 =>
      have e1 := h1 a (Ne.symm hak)
      have e2 := h2 a (Ne.symm hak)
      have e3 : ab_ct ω μ a h3 = ab_ct ω μ' a h3 := by
        match h3 with
        | .inl (0, n) => simp [ab_ct, e1]
        | .inl (1, n) => simp [ab_ct, e2]
        | .inl (n + 2, _) => simp [ab_ct, e1]
        | .inr (ci, sl) =>
          have e4 : (fun j z => ab_sv ω μ a j z) = (fun j z => ab_sv ω μ' a j z) := by
            funext j z
            unfold ab_sv
            rw [e1, e2]
          simp only [ab_ct]
          rw [e4]
      simp [e3]
theorem ab_mi_ne {μ : ab_M} {k j : Nat} {x : Int32} : ∀ a, a ≠ k → (ab_mi μ k j x).1 a = μ.1 a := by
  intro a h
  funext b
  simp [ab_mi, h]
theorem ab_mj_ne {μ : ab_M} {k j : Nat} {x : Int64} : ∀ a, a ≠ k → (ab_mj μ k j x).2 a = μ.2 a := by
  intro a h
  funext b
  simp [ab_mj, h]
theorem ab_mr_ne {μ : ab_M} {k : Nat} {f : Nat → Int32} : ∀ a, a ≠ k → (ab_mr μ k f).1 a = μ.1 a := by
  intro a h
  funext b
  simp [ab_mr, h]
/-! locals -/
def ab_lv (ad : Nat → Nat) : Nat → ab_L → List (Nat × Value)
  | _, [] => []
  | i, none :: r => ab_lv ad (i + 1) r
  | i, some v :: r => (i, ab_cv ad v) :: ab_lv ad (i + 1) r
theorem ab_lv_in {ad : Nat → Nat} {j : Nat} {w : Value} : ∀ (ll : ab_L) (n : Nat), (j, w) ∈ ab_lv ad n ll ↔ ∃ (k : Nat) (v : Value), j = n + k ∧ ll[k]? = some (some v) ∧ w = ab_cv ad v := by
  intro ll
  induction ll with
  | nil => intro n; simp [ab_lv]
  | cons a r ih =>
    intro n
    cases a with
    | none =>
      simp only [ab_lv, ih]
      constructor
      · rintro ⟨k, v, h1, h2, h3⟩
        exact ⟨k + 1, v, by omega, by simpa using h2, h3⟩
      · rintro ⟨k, v, h1, h2, h3⟩
        cases k with
        | zero => simp at h2
        | succ k => exact ⟨k, v, by omega, by simpa using h2, h3⟩
    | some x =>
      simp only [ab_lv, List.mem_cons, ih, Prod.mk.injEq]
      constructor
      · rintro (⟨h1, h2⟩ | ⟨k, v, h1, h2, h3⟩)
        · exact ⟨0, x, by omega, by simp, h2⟩
        · exact ⟨k + 1, v, by omega, by simpa using h2, h3⟩
      · rintro ⟨k, v, h1, h2, h3⟩
        cases k with
        | zero =>
          simp only [List.getElem?_cons_zero, Option.some.injEq] at h2
          subst h2
          exact Or.inl ⟨by omega, h3⟩
        | succ k => exact Or.inr ⟨k, v, by omega, by simpa using h2, h3⟩
theorem ab_lv_0 {ad : Nat → Nat} {j : Nat} {w : Value} {ll : ab_L} : (j, w) ∈ ab_lv ad 0 ll ↔ ∃ v : Value, ll[j]? = some (some v) ∧ w = ab_cv ad v := by
  rw [ab_lv_in]
  constructor
  · rintro ⟨k, v, h1, h2, h3⟩
    obtain rfl : j = k := by omega
    exact ⟨v, h2, h3⟩
  · rintro ⟨v, h2, h3⟩
    exact ⟨j, v, by omega, h2, h3⟩
theorem ab_lv_at {ad : Nat → Nat} {ls : Array Slot} {nL : Nat} {ll : ab_L} (h : lv_has ls nL (ab_lv ad 0 ll)) {k : Nat} {v : Value} (e : ab_nth ll k = some (some v)) : ls[k]? = some (.val (ab_cv ad v)) :=
  h.2.2 (k, ab_cv ad v) (ab_lv_0.mpr ⟨v, by rw [← ab_nth_eq]; exact e, rfl⟩)
/-- the local ahead isn't a long -/
def ab_pv (ll : ab_L) : Nat → Bool
  | 0 => true
  | k + 1 => match ab_nth ll k with
    | some (some (.long _)) => false
    | some (some (.double _)) => false
    | _ => true
theorem ab_pv_of {ll : ab_L} {k j : Nat} {v : Value} (h : ab_pv ll k = true) (hj : j + 1 = k) (e : ll[j]? = some (some v)) : ¬ v.category = 2 := by
  subst hj
  simp only [ab_pv, ab_nth_eq, e] at h
  cases v <;> simp_all [Value.category]
theorem ab_lv_set {ad : Nat → Nat} {ls : Array Slot} {nL k : Nat} {ll : ab_L} {v : Value} (hp : ab_pv ll k = true)
    (h : lv_has ls nL ((k, ab_cv ad v) :: (ab_lv ad 0 ll).filter (fun q => !(q.1 == k) && !(q.1 + 1 == k && q.2.category == 2)))) : lv_has ls nL (ab_lv ad 0 (ll.set k (some v))) := by
  refine ⟨h.1, h.2.1, fun q hq => ?_⟩
  obtain ⟨j, w⟩ := q
  obtain ⟨u, h1, h2⟩ := ab_lv_0.mp hq
  rw [List.getElem?_set] at h1
  by_cases hk : k = j
  · subst hk
    rw [if_pos rfl] at h1
    split at h1
    · simp only [Option.some.injEq] at h1
      subst h1
      exact h.2.2 (k, w) (by rw [h2]; exact List.mem_cons_self)
    · cases h1
  · rw [if_neg hk] at h1
    refine h.2.2 (j, w) (List.mem_cons_of_mem _ (List.mem_filter.mpr ⟨ab_lv_0.mpr ⟨u, h1, h2⟩, ?_⟩))
    have hk' : ¬ j = k := fun q => hk q.symm
    by_cases hj : j + 1 = k
    · have := ab_pv_of hp hj h1
      simp [hk', h2, ab_cv_cat, this]
    · simp [hk', hj]
theorem ab_lv_setL {ad : Nat → Nat} {ls : Array Slot} {nL k : Nat} {ll : ab_L} {v : Value} (hp : ab_pv ll k = true)
    (h : lv_has ls nL ((k, ab_cv ad v) :: (ab_lv ad 0 ll).filter (fun q => !(q.1 == k) && (!(q.1 == k + 1) && !(q.1 + 1 == k && q.2.category == 2))))) : lv_has ls nL (ab_lv ad 0 ((ll.set k (some v)).set (k + 1) none)) := by
  refine ⟨h.1, h.2.1, fun q hq => ?_⟩
  obtain ⟨j, w⟩ := q
  obtain ⟨u, h1, h2⟩ := ab_lv_0.mp hq
  rw [List.getElem?_set] at h1
  by_cases hk1 : k + 1 = j
  · subst hk1
    rw [if_pos rfl] at h1
    split at h1 <;> cases h1
  · rw [if_neg hk1, List.getElem?_set] at h1
    by_cases hk : k = j
    · subst hk
      rw [if_pos rfl] at h1
      split at h1
      · simp only [Option.some.injEq] at h1
        subst h1
        exact h.2.2 (k, w) (by rw [h2]; exact List.mem_cons_self)
      · cases h1
    · rw [if_neg hk] at h1
      refine h.2.2 (j, w) (List.mem_cons_of_mem _ (List.mem_filter.mpr ⟨ab_lv_0.mpr ⟨u, h1, h2⟩, ?_⟩))
      have hk' : ¬ j = k := fun q => hk q.symm
      have hk1' : ¬ j = k + 1 := fun q => hk1 q.symm
      by_cases hj : j + 1 = k
      · have := ab_pv_of hp hj h1
        simp [hk', hk1', h2, ab_cv_cat, this]
      · simp [hk', hk1', hj]
/-- locals of which less is known -/
def ab_le : ab_L → ab_L → Prop
  | [], [] => True
  | none :: r, _ :: r' => ab_le r r'
  | some v :: r, some v' :: r' => v = v' ∧ ab_le r r'
  | _, _ => False
theorem ab_le_at : ∀ {l l' : ab_L}, ab_le l l' → l.length = l'.length ∧ ∀ (j : Nat) (v : Value), l[j]? = some (some v) → l'[j]? = some (some v)
  | [], [], _ => ⟨rfl, fun j v h => by simp at h⟩
  | none :: r, a :: r', h => by
    obtain ⟨h1, h2⟩ := ab_le_at (l := r) (l' := r') h
    refine ⟨by simp [h1], fun j v e => ?_⟩
    cases j with
    | zero => simp at e
    | succ j => simpa using h2 j v (by simpa using e)
  | some v :: r, some v' :: r', h => by
    obtain ⟨h0, h⟩ := h
    obtain ⟨h1, h2⟩ := ab_le_at (l := r) (l' := r') h
    refine ⟨by simp [h1], fun j v e => ?_⟩
    cases j with
    | zero => subst h0; simpa using e
    | succ j => simpa using h2 j v (by simpa using e)
  | [], _ :: _, h => h.elim
  | none :: _, [], h => h.elim
  | some _ :: _, [], h => h.elim
  | some _ :: _, none :: _, h => h.elim
/-- arguments off the stack: n of them, last one first -/
def ab_pop : Nat → List Value → List Value → Option (List Value × List Value)
  | 0, acc, st => some (acc, st)
  | n + 1, acc, v :: st => ab_pop n (v :: acc) st
  | _ + 1, _, [] => none
theorem ab_pop_eq : ∀ (n : Nat) (acc st as rest : List Value), ab_pop n acc st = some (as, rest) → ∃ xs : List Value, xs.length = n ∧ as = xs.reverse ++ acc ∧ st = xs ++ rest
  | 0, acc, st, as, rest, h => by
    simp only [ab_pop, Option.some.injEq, Prod.mk.injEq] at h
    exact ⟨[], rfl, by simp [h.1], by simp [h.2]⟩
  | n + 1, acc, v :: st, as, rest, h => by
    obtain ⟨xs, h1, h2, h3⟩ := ab_pop_eq n (v :: acc) st as rest h
    exact ⟨v :: xs, by simp [h1], by simp [h2], by simp [h3]⟩
  | _ + 1, _, [], _, _, h => by simp [ab_pop] at h
def ab_small : List Value → Nat → Bool
  | [], _ => true
  | .int _ :: r, n + 1 => ab_small r n
  | .ref _ :: r, n + 1 => ab_small r n
  | .long _ :: r, n + 2 => ab_small r n
  | _, _ => false
theorem ab_small_sum (ad : Nat → Nat) : ∀ (st : List Value) (n : Nat), ab_small st n = true → ((st.map (ab_cv ad)).map fun v => v.category).sum ≤ n
  | [], n, _ => by simp
  | .int _ :: r, n + 1, h => by
    have := ab_small_sum ad r n h
    simp only [List.map_cons, List.sum_cons, ab_cv]
    show 1 + _ ≤ _
    omega
  | .ref _ :: r, n + 1, h => by
    have := ab_small_sum ad r n h
    simp only [List.map_cons, List.sum_cons, ab_cv]
    show 1 + _ ≤ _
    omega
  | .long _ :: r, n + 2, h => by
    have := ab_small_sum ad r n h
    simp only [List.map_cons, List.sum_cons, ab_cv]
    show 2 + _ ≤ _
    omega
  | .int _ :: _, 0, h => by simp [ab_small] at h
  | .ref _ :: _, 0, h => by simp [ab_small] at h
  | .long _ :: _, 0, h => by simp [ab_small] at h
  | .long _ :: _, 1, h => by simp [ab_small] at h
  | .float _ :: _, _, h => by simp [ab_small] at h
  | .double _ :: _, _, h => by simp [ab_small] at h
  | .null :: _, _, h => by simp [ab_small] at h
  | .retAddr _ :: _, _, h => by simp [ab_small] at h
end
section
/-! calls by contract, in the abstract machine's words -/
def ab_T : List Cond := lw_tbl.filter goodWord
abbrev ab_ws (md : ab_Md) : List Cond := .code md.1 md.2.1 md.2.2.1 md.2.2.2.1 :: ab_T
def ab_B (ω : ab_W) (A : Nat → Prop) (μ : ab_M) (t : State) : Prop := va_P ω.2.2.1 vwCl (ab_wl ω μ) t.heap ∧ va_K ω.2.2.1 vwCl (ab_tys ω) t ∧ va_D A (ab_wl ω μ)
def ab_Qc (ω : ab_W) (A : Nat → Prop) (ret : Option FieldType) (QI : Int32 → ab_M → Prop) (QL : Int64 → ab_M → Prop) (QV : ab_M → Prop) : Array Value → State → Outcome → State → Prop := match ret with
  | none => va_Qv QV (ab_B ω A) A
  | some .long => va_Ql QL (ab_B ω A) A
  | some _ => va_Qi QI (ab_B ω A) A
def ab_Pr (ω : ab_W) (as : List Value) (μ : ab_M) (sz : Nat) : Array Value → State → Prop := va_Pc (as.map (ab_cv ω.1)) (fun U => U.heap.size = sz ∧ va_P ω.2.2.1 vwCl (ab_wl ω μ) U.heap ∧ va_K ω.2.2.1 vwCl (ab_tys ω) U ∧ va_D (fun _ => True) (ab_wl ω μ))
/-- md, called with as in the memory μ, returns with QI (an int), QL (a long), QV (nothing) -/
def ab_Call (l : Launch) (ω : ab_W) (md : ab_Md) (as : List Value) (μ : ab_M) (QI : Int32 → ab_M → Prop) (QL : Int64 → ab_M → Prop) (QV : ab_M → Prop) : Prop :=
  ∀ sz : Nat, Met l md.1 (ab_ws md) md.2.2.2.2 (ab_Pr ω as μ sz) (ab_Qc ω (va_A (ab_wl ω μ) sz) md.2.2.2.1 QI QL QV) 0 0 (va_A (ab_wl ω μ) sz)
abbrev ab_CI (l : Launch) (ω : ab_W) (md : ab_Md) (as : List Value) (μ : ab_M) (Q : Int32 → ab_M → Prop) : Prop := ab_Call l ω md as μ Q (fun _ _ => False) (fun _ => False)
abbrev ab_CL (l : Launch) (ω : ab_W) (md : ab_Md) (as : List Value) (μ : ab_M) (Q : Int64 → ab_M → Prop) : Prop := ab_Call l ω md as μ (fun _ _ => False) Q (fun _ => False)
abbrev ab_CV (l : Launch) (ω : ab_W) (md : ab_Md) (as : List Value) (μ : ab_M) (Q : ab_M → Prop) : Prop := ab_Call l ω md as μ (fun _ _ => False) (fun _ _ => False) Q
/-! one step -/
def ab_gi (ll : ab_L) (k : Nat) (F : Int32 → Prop) : Prop := match ab_nth ll k with
  | some (some (.int x)) => F x
  | _ => False
def ab_gl (ll : ab_L) (k : Nat) (F : Int64 → Prop) : Prop := match ab_nth ll k with
  | some (some (.long x)) => F x
  | _ => False
def ab_ga (ll : ab_L) (k : Nat) (F : Nat → Prop) : Prop := match ab_nth ll k with
  | some (some (.ref x)) => F x
  | _ => False
def ab_is (ll : ab_L) (k : Nat) (st : List Value) (F : ab_L → List Value → Prop) : Prop := match st with
  | .int x :: st' => match ab_pv ll k with
    | true => F (ll.set k (some (.int x))) st'
    | false => False
  | _ => False
def ab_lt (ll : ab_L) (k : Nat) (st : List Value) (F : ab_L → List Value → Prop) : Prop := match st with
  | .long x :: st' => match ab_pv ll k with
    | true => F ((ll.set k (some (.long x))).set (k + 1) none) st'
    | false => False
  | _ => False
def ab_i2 (st : List Value) (F : Int32 → Int32 → List Value → Prop) : Prop := match st with
  | .int y :: .int x :: st' => F x y st'
  | _ => False
def ab_l2 (st : List Value) (F : Int64 → Int64 → List Value → Prop) : Prop := match st with
  | .long y :: .long x :: st' => F x y st'
  | _ => False
def ab_ci (cond : Jvm.ClassFile.Cond) (x y : Int32) (A B : Prop) : Prop := match cond with
  | .eq => (x = y → A) ∧ (¬ x = y → B)
  | .ne => (¬ x = y → A) ∧ (x = y → B)
  | .lt => (x < y → A) ∧ (¬ x < y → B)
  | .ge => (y ≤ x → A) ∧ (¬ y ≤ x → B)
  | .gt => (y < x → A) ∧ (¬ y < x → B)
  | .le => (x ≤ y → A) ∧ (¬ x ≤ y → B)
def ab_tsw (F : Nat → Prop) (x : Int32) (d : Nat) : Int → List Nat → Prop
  | _, [] => F d
  | lo, t :: ts => (x.toInt = lo → F t) ∧ (¬ x.toInt = lo → ab_tsw F x d (lo + 1) ts)
def ab_lsw (F : Nat → Prop) (x : Int32) (d : Nat) : List (Int × Int) → List Nat → Prop
  | [], _ => F d
  | (k, _) :: r, t :: ts => (x.toInt = k → F t) ∧ (¬ x.toInt = k → ab_lsw F x d r ts)
  | _ :: _, [] => False
def ab_call (l : Launch) (ω : ab_W) (md : ab_Md) (as : List Value) (μ : ab_M) (rest : List Value) (F : List Value → ab_M → Prop) : Prop := match md.2.2.2.1 with
  | none => ab_CV l ω md as μ (fun μ' => F rest μ')
  | some .long => ab_CL l ω md as μ (fun x μ' => F (.long x :: rest) μ')
  | some .int => ab_CI l ω md as μ (fun x μ' => F (.int x :: rest) μ')
  | some .boolean => ab_CI l ω md as μ (fun x μ' => F (.int x :: rest) μ')
  | some _ => False
def ab_in (l : Launch) (ω : ab_W) (sh : List ab_Sh) (ret : Option FieldType) (QI : Int32 → ab_M → Prop) (QL : Int64 → ab_M → Prop) (QV : ab_M → Prop) (K : Nat → ab_L → List Value → ab_M → Prop) (i : Nat) (ll : ab_L) (st : List Value) (μ : ab_M) (ts : List Nat) (fa fb : Nat) (k32 : Int32) (k64 : Int64) (cx : Option (ab_Md × Nat)) : Instr → Prop
  | .iconst _ => K (i + 1) ll (.int k32 :: st) μ
  | .bipush _ => K (i + 1) ll (.int k32 :: st) μ
  | .sipush _ => K (i + 1) ll (.int k32 :: st) μ
  | .lconst _ => K (i + 1) ll (.long k64 :: st) μ
  | .ldc2_w _ => K (i + 1) ll (.long k64 :: st) μ
  | .iload_n n => ab_gi ll n.val (fun x => K (i + 1) ll (.int x :: st) μ)
  | .iload n => ab_gi ll n (fun x => K (i + 1) ll (.int x :: st) μ)
  | .lload_n n => ab_gl ll n.val (fun x => K (i + 1) ll (.long x :: st) μ)
  | .lload n => ab_gl ll n (fun x => K (i + 1) ll (.long x :: st) μ)
  | .aload_n n => ab_ga ll n.val (fun x => K (i + 1) ll (.ref x :: st) μ)
  | .aload n => ab_ga ll n (fun x => K (i + 1) ll (.ref x :: st) μ)
  | .istore_n n => ab_is ll n.val st (fun ll' st' => K (i + 1) ll' st' μ)
  | .istore n => ab_is ll n st (fun ll' st' => K (i + 1) ll' st' μ)
  | .lstore_n n => ab_lt ll n.val st (fun ll' st' => K (i + 1) ll' st' μ)
  | .lstore n => ab_lt ll n st (fun ll' st' => K (i + 1) ll' st' μ)
  | .iinc n _ => ab_gi ll n (fun x => match ab_pv ll n with
    | true => K (i + 1) (ll.set n (some (.int (x + k32)))) st μ
    | false => False)
  | .iadd => ab_i2 st (fun x y st' => K (i + 1) ll (.int (x + y) :: st') μ)
  | .isub => ab_i2 st (fun x y st' => K (i + 1) ll (.int (x - y) :: st') μ)
  | .imul => ab_i2 st (fun x y st' => K (i + 1) ll (.int (x * y) :: st') μ)
  | .iand => ab_i2 st (fun x y st' => K (i + 1) ll (.int (x &&& y) :: st') μ)
  | .ior => ab_i2 st (fun x y st' => K (i + 1) ll (.int (x ||| y) :: st') μ)
  | .ishl => ab_i2 st (fun x y st' => K (i + 1) ll (.int (x <<< (y &&& 31)) :: st') μ)
  | .ishr => ab_i2 st (fun x y st' => K (i + 1) ll (.int (x >>> (y &&& 31)) :: st') μ)
  | .ladd => ab_l2 st (fun x y st' => K (i + 1) ll (.long (x + y) :: st') μ)
  | .lsub => ab_l2 st (fun x y st' => K (i + 1) ll (.long (x - y) :: st') μ)
  | .land => ab_l2 st (fun x y st' => K (i + 1) ll (.long (x &&& y) :: st') μ)
  | .lor => ab_l2 st (fun x y st' => K (i + 1) ll (.long (x ||| y) :: st') μ)
  | .lxor => ab_l2 st (fun x y st' => K (i + 1) ll (.long (x ^^^ y) :: st') μ)
  | .lcmp => ab_l2 st (fun x y st' => K (i + 1) ll (.int (lg_cmp x y) :: st') μ)
  | .lneg => match st with
    | .long x :: st' => K (i + 1) ll (.long (-x) :: st') μ
    | _ => False
  | .lushr => match st with
    | .int y :: .long x :: st' => K (i + 1) ll (.long ((x.toUInt64 >>> (y.toInt64.toUInt64 &&& Int64.toUInt64 63)).toInt64) :: st') μ
    | _ => False
  | .lshl => match st with
    | .int y :: .long x :: st' => K (i + 1) ll (.long (x <<< (y.toInt64 &&& 63)) :: st') μ
    | _ => False
  | .l2i => match st with
    | .long x :: st' => K (i + 1) ll (.int x.toInt32 :: st') μ
    | _ => False
  | .dup => match st with
    | .ref x :: st' => K (i + 1) ll (.ref x :: .ref x :: st') μ
    | .int x :: st' => K (i + 1) ll (.int x :: .int x :: st') μ
    | _ => False
  | .dup_x1 => match st with
    | .int x :: .ref y :: st' => K (i + 1) ll (.int x :: .ref y :: .int x :: st') μ
    | _ => False
  | .dup2 => match st with
    | .int x :: .ref y :: st' => K (i + 1) ll (.int x :: .ref y :: .int x :: .ref y :: st') μ
    | _ => False
  | .if_icmp cond _ => match ts with
    | t :: _ => ab_i2 st (fun x y st' => ab_ci cond x y (K t ll st' μ) (K (i + 1) ll st' μ))
    | _ => False
  | .ifCond cond _ => match ts with
    | t :: _ => match st with
      | .int x :: st' => ab_ci cond x 0 (K t ll st' μ) (K (i + 1) ll st' μ)
      | _ => False
    | _ => False
  | .goto _ => match ts with
    | t :: _ => K t ll st μ
    | _ => False
  | .iaload => match st with
    | .int j :: .ref a :: st' => match ab_nth sh a with
      | some (.inl (0, n)) => vp_in j n ∧ K (i + 1) ll (.int (μ.1 a j.toNatClampNeg) :: st') μ
      | _ => False
    | _ => False
  | .laload => match st with
    | .int j :: .ref a :: st' => match ab_nth sh a with
      | some (.inl (1, n)) => vp_in j n ∧ K (i + 1) ll (.long (μ.2 a j.toNatClampNeg) :: st') μ
      | _ => False
    | _ => False
  | .baload => match st with
    | .int j :: .ref a :: st' => match ab_nth sh a with
      | some (.inl (2, n)) => vp_in j n ∧ K (i + 1) ll (.int (μ.1 a j.toNatClampNeg) :: st') μ
      | _ => False
    | _ => False
  | .iastore => match st with
    | .int x :: .int j :: .ref a :: st' => match ab_nth sh a with
      | some (.inl (0, n)) => vp_in j n ∧ K (i + 1) ll st' (ab_mi μ a j.toNatClampNeg x)
      | _ => False
    | _ => False
  | .lastore => match st with
    | .long x :: .int j :: .ref a :: st' => match ab_nth sh a with
      | some (.inl (1, n)) => vp_in j n ∧ K (i + 1) ll st' (ab_mj μ a j.toNatClampNeg x)
      | _ => False
    | _ => False
  | .bastore => match st with
    | .int x :: .int j :: .ref a :: st' => match ab_nth sh a with
      | some (.inl (2, n)) => vp_in j n ∧ (x = 0 ∨ x = 1) ∧ K (i + 1) ll st' (ab_mi μ a j.toNatClampNeg x)
      | _ => False
    | _ => False
  | .getfield _ => match st with
    | .ref a :: st' => match ab_nth sh a with
      | some (.inr (ci, sl)) => match Nat.beq ci fa, ab_nth sl fb with
        | true, some (.inl q) => K (i + 1) ll (.ref q :: st') μ
        | true, some (.inr 0) => K (i + 1) ll (.int (μ.1 a fb) :: st') μ
        | true, some (.inr 1) => K (i + 1) ll (.long (μ.2 a fb) :: st') μ
        | true, some (.inr 2) => K (i + 1) ll (.int (μ.1 a fb) :: st') μ
        | _, _ => False
      | _ => False
    | _ => False
  | .putfield _ => match st with
    | .int x :: .ref a :: st' => match ab_nth sh a with
      | some (.inr (ci, sl)) => match Nat.beq ci fa, ab_nth sl fb, ts with
        | true, some (.inr 0), [0] => K (i + 1) ll st' (ab_mi μ a fb x)
        | true, some (.inr 2), [2] => (x = 0 ∨ x = 1) ∧ K (i + 1) ll st' (ab_mi μ a fb x)
        | _, _, _ => False
      | _ => False
    | .long x :: .ref a :: st' => match ab_nth sh a with
      | some (.inr (ci, sl)) => match Nat.beq ci fa, ab_nth sl fb, ts with
        | true, some (.inr 1), [1] => K (i + 1) ll st' (ab_mj μ a fb x)
        | _, _, _ => False
      | _ => False
    | _ => False
  | .invokevirtual _ => match cx with
    | some (md, n) => match ab_pop n [] st with
      | some (as, .ref a :: rest) => match ab_nth sh a, ab_small rest 8 with
        | some (.inr (ci, _)), true => match Nat.beq ci fa with
          | true => ab_call l ω md (.ref a :: as) μ rest (fun st' μ' => K (i + 1) ll st' μ')
          | false => False
        | _, _ => False
      | _ => False
    | none => False
  | .invokestatic _ => match cx with
    | some (md, n) => match ab_pop n [] st with
      | some (as, rest) => match ab_small rest 8 with
        | true => ab_call l ω md as μ rest (fun st' μ' => K (i + 1) ll st' μ')
        | false => False
      | _ => False
    | none => match st with
      | .int n :: .int dp :: .ref b :: .int sp :: .ref a :: rest => match ab_nth sh a, ab_nth sh b, ab_small rest 8 with
        | some (.inl (0, n0)), some (.inl (0, n1)), true => (¬ sp < 0) ∧ (¬ dp < 0) ∧ (¬ n < 0) ∧ sp.toNatClampNeg + n.toNatClampNeg ≤ n0 ∧ dp.toNatClampNeg + n.toNatClampNeg ≤ n1 ∧ K (i + 1) ll rest (ab_mr μ b (va_cpy (μ.1 a) (μ.1 b) sp.toNatClampNeg dp.toNatClampNeg n.toNatClampNeg))
        | _, _, _ => False
      | _ => False
  | .tableswitch _ lo _ _ => match ts, st with
    | d :: ts', .int x :: st' => ab_tsw (fun t => K t ll st' μ) x d lo ts'
    | _, _ => False
  | .lookupswitch _ ps => match ts, st with
    | d :: ts', .int x :: st' => ab_lsw (fun t => K t ll st' μ) x d ps.toList ts'
    | _, _ => False
  | .ireturn => match st, ret with
    | [.int x], some .int => QI x μ
    | [.int x], some .boolean => (x = 0 ∨ x = 1) ∧ QI x μ
    | _, _ => False
  | .lreturn => match st, ret with
    | [.long x], some .long => QL x μ
    | _, _ => False
  | .return_ => match st, ret with
    | [], none => QV μ
    | _, _ => False
  | _ => False
def ab_wp (l : Launch) (ω : ab_W) (sh : List ab_Sh) (ret : Option FieldType) (cd : List ab_En) (QI : Int32 → ab_M → Prop) (QL : Int64 → ab_M → Prop) (QV : ab_M → Prop) (K : Nat → ab_L → List Value → ab_M → Prop) (i : Nat) (ll : ab_L) (st : List Value) (μ : ab_M) : Prop :=
  match ab_nth cd i with
  | none => False
  | some (_, _, ins, ts, (fa, fb, _), k32, k64, cx) => ab_in l ω sh ret QI QL QV K i ll st μ ts fa fb k32 k64 cx ins
/-! what a program decides of a method's code -/
def ab_bp (cd : List ab_En) (i : Nat) : Nat := match ab_nth cd i with
  | some e => e.1
  | none => 0
def ab_tb (h : Nat) (w : Cond) : Bool := decide (lw_tbl[h]? = some w) && goodWord w
def ab_cks (own : String) (index : Nat) (R : Room) (ts : List Nat) (md : ab_Md) (n : Nat) : Bool := match ts with
  | [h0, h1, h2, h3] => ab_tb h0 (.methodLink own index md.1) && ab_tb h1 (.initialized md.1.cls) && ab_tb h2 (.code md.1 md.2.1 md.2.2.1 md.2.2.2.1) && decide (md.1.cls ≠ "java/lang/invoke/MethodHandle") && decide (md.1.cls ≠ "java/lang/invoke/VarHandle") && decide ((parseMethodDescriptor md.1.desc).map (fun d => d.parameters.length) = some n) && decide (md.2.2.2.2.frames + 1 ≤ R.frames) && decide (8 + (md.2.2.1 + 11) + md.2.2.2.2.locals ≤ R.locals) && decide (md.2.2.2.2.cells = 0) && decide (md.2.2.2.2.slots = 0) && decide (h3 = 0)
  | _ => false
def ab_ck (own : String) (cc : ByteArray) (nL : Nat) (R : Room) (cd : List ab_En) (i : Nat) (pc len : Nat) (ts : List Nat) (fx : Nat × Nat × Nat) (k32 : Int32) (k64 : Int64) (cx : Option (ab_Md × Nat)) (ins : Instr) : Bool :=
  decide (decode cc pc = .ok (ins, len)) && (match ins with
  | .iconst n => decide (len = 1) && decide (ab_bp cd (i + 1) = pc + 1) && decide (Int32.ofInt n = k32)
  | .bipush n => decide (len = 2) && decide (ab_bp cd (i + 1) = pc + 2) && decide ((Int8.ofInt n).toInt32 = k32)
  | .sipush n => decide (len = 3) && decide (ab_bp cd (i + 1) = pc + 3) && decide ((Int16.ofInt n).toInt32 = k32)
  | .lconst n => decide (len = 1) && decide (ab_bp cd (i + 1) = pc + 1) && decide (Int64.ofNat (n : Nat) = k64)
  | .ldc2_w n => decide (len = 3) && decide (ab_bp cd (i + 1) = pc + 3) && ab_tb fx.2.2 (.constantLong own n k64)
  | .iload_n _ | .lload_n _ | .aload_n _ => decide (len = 1) && decide (ab_bp cd (i + 1) = pc + 1)
  | .iload _ | .lload _ | .aload _ => decide (len = 2) && decide (ab_bp cd (i + 1) = pc + 2)
  | .istore_n n => decide (len = 1) && decide (ab_bp cd (i + 1) = pc + 1) && decide (n.val < nL)
  | .istore n => decide (len = 2) && decide (ab_bp cd (i + 1) = pc + 2) && decide (n < nL)
  | .lstore_n n => decide (len = 1) && decide (ab_bp cd (i + 1) = pc + 1) && decide (n.val + 1 < nL)
  | .lstore n => decide (len = 2) && decide (ab_bp cd (i + 1) = pc + 2) && decide (n + 1 < nL)
  | .iinc n k => decide (len = 3) && decide (ab_bp cd (i + 1) = pc + 3) && decide (n < nL) && decide (Int32.ofInt k = k32)
  | .iadd | .isub | .imul | .iand | .ior | .ishl | .ishr | .ladd | .lsub | .land | .lor | .lxor | .lcmp | .lneg | .lushr | .lshl | .l2i | .dup | .dup_x1 | .dup2 | .iaload | .laload | .baload | .iastore | .lastore | .bastore => decide (len = 1) && decide (ab_bp cd (i + 1) = pc + 1)
  | .if_icmp _ off | .ifCond _ off => decide (len = 3) && decide (ab_bp cd (i + 1) = pc + 3) && (match ts with
    | t :: _ => decide ((pc : Int) + off = (ab_bp cd t : Int))
    | [] => false)
  | .goto off => decide (len = 3) && (match ts with
    | t :: _ => decide ((pc : Int) + off = (ab_bp cd t : Int))
    | [] => false)
  | .getfield n => decide (len = 3) && decide (ab_bp cd (i + 1) = pc + 3) && (match vwCl[fx.1]? with
    | some r => decide (fx.2.1 < r.2.2) && ab_tb fx.2.2 (.fieldLink own n (r.2.1 fx.2.1).1 (r.2.1 fx.2.1).2.1 (r.2.1 fx.2.1).2.2.1)
    | none => false)
  | .putfield n => decide (len = 3) && decide (ab_bp cd (i + 1) = pc + 3) && (match vwCl[fx.1]? with
    | some r => decide (fx.2.1 < r.2.2) && ab_tb fx.2.2 (.fieldLink own n (r.2.1 fx.2.1).1 (r.2.1 fx.2.1).2.1 (r.2.1 fx.2.1).2.2.1) && decide ((r.2.1 fx.2.1).2.2.2 = false) && (match ts with
      | [0] => decide (parseFieldDescriptor (r.2.1 fx.2.1).2.2.1 = some .int)
      | [1] => decide (parseFieldDescriptor (r.2.1 fx.2.1).2.2.1 = some .long)
      | [2] => decide (parseFieldDescriptor (r.2.1 fx.2.1).2.2.1 = some .boolean)
      | _ => false)
    | none => false)
  | .invokevirtual n => decide (len = 3) && decide (ab_bp cd (i + 1) = pc + 3) && (match ts, cx with
    | h0 :: h1 :: h2 :: h4 :: h5 :: [], some (md, k) => ab_cks own n R [h0, h1, h2, 0] md k && ab_tb h4 (.instanceMethod md.1) && ab_tb h5 (.selects md.1.cls md.1 md.1) && decide ((vwCl[fx.1]?).map (fun r => r.1) = some md.1.cls)
    | _, _ => false)
  | .invokestatic n => decide (len = 3) && decide (ab_bp cd (i + 1) = pc + 3) && (match ts, cx with
    | h0 :: h1 :: h2 :: h4 :: [], some (md, k) => ab_cks own n R [h0, h1, h2, 0] md k && ab_tb h4 (.static md.1)
    | h0 :: h1 :: h2 :: h4 :: [], none => ab_tb h0 (.methodLink own n arraycopyName) && ab_tb h1 (.native arraycopyName) && ab_tb h2 (.static arraycopyName) && ab_tb h4 (.initialized "java/lang/System") && decide (1 ≤ R.frames) && decide (8 + (nativeFrameWords "java/lang/System" "arraycopy" 5 + 11) ≤ R.locals)
    | _, _ => false)
  | .tableswitch df lo hi offs => match ts with
    | d :: ts' => decide ((pc : Int) + df = (ab_bp cd d : Int)) && decide (offs.toList.length = ts'.length) && decide (hi = lo + (ts'.length : Int) - 1) && (offs.toList.zip ts').all (fun q => decide ((pc : Int) + q.1 = (ab_bp cd q.2 : Int)))
    | [] => false
  | .lookupswitch df ps => match ts with
    | d :: ts' => decide ((pc : Int) + df = (ab_bp cd d : Int)) && decide (ps.toList.length = ts'.length) && (ps.toList.zip (ps.toList.drop 1)).all (fun (a, next) => a.1 < next.1) && (ps.toList.zip ts').all (fun q => decide ((pc : Int) + q.1.2 = (ab_bp cd q.2 : Int)))
    | [] => false
  | .ireturn | .lreturn | .return_ => decide (len = 1)
  | _ => false)
def ab_chk (own : String) (md : ab_Md) (cd : List ab_En) : Bool := (List.range cd.length).all (fun i => match ab_nth cd i with
  | some (pc, len, ins, ts, fx, k32, k64, cx) => ab_ck own md.2.1 md.2.2.1 md.2.2.2.2 cd i pc len ts fx k32 k64 cx ins
  | none => false)
theorem ab_goodT : GoodIn ab_T ab_T := fun w h => ⟨h, good_of_word (List.mem_filter.mp h).2⟩
theorem ab_tb_in {h : Nat} {w : Cond} (e : ab_tb h w = true) : w ∈ ab_T := by
  simp only [ab_tb, Bool.and_eq_true, decide_eq_true_eq] at e
  exact List.mem_filter.mpr ⟨List.mem_of_getElem? e.1, e.2⟩
theorem ab_uws : ∀ r ∈ vwCl, ∀ w ∈ u_ws r.1 r.2.1 r.2.2, w ∈ ab_T := by decide +kernel
end
section
/-! the abstract machine's steps are the machine's -/
section AbS
variable {p : Program} {l : Launch} {e : Env} {R : Room} {s : State} {m : MethodId} {args : Array Value} {below : List Frame} {meth : Method} {c : Code}
def ab_J (p : Program) (l : Launch) (e : Env) (R : Room) (s : State) (m : MethodId) (args : Array Value) (below : List Frame) (meth : Method) (c : Code) (ω : ab_W) (A : Nat → Prop) (nL : Nat) (cd : List ab_En) (Qt : State → Prop) (i : Nat) (ll : ab_L) (st : List Value) (μ : ab_M) : Prop :=
  ll.length = nL → ∀ (H : Heap) (locs : List Loc) (ls : Array Slot), va_P ω.2.2.1 vwCl (ab_wl ω μ) H → va_D A (ab_wl ω μ) → va_S A s.heap H locs → lv_has ls nL (ab_lv ω.1 0 ll) → W p l e R s m args below meth c H locs 0 0 Qt (F0 m (ab_bp cd i) ls (st.map (ab_cv ω.1)))
theorem ab_tsw_sp {F : Nat → Prop} {x : Int32} {d : Nat} : ∀ (ts : List Nat) (lo : Int), ab_tsw F x d lo ts → (∀ (j : Nat) (t : Nat), ts[j]? = some t → x.toInt = lo + j → F t) ∧ ((x.toInt < lo ∨ lo + ts.length ≤ x.toInt) → F d)
  | [], lo, h => ⟨fun j t e => by simp at e, fun _ => h⟩
  | t0 :: ts, lo, h => by
    by_cases hx : x.toInt = lo
    · refine ⟨fun j t e hj => ?_, fun hh => ?_⟩
      · have : j = 0 := by omega
        subst this
        simp only [List.getElem?_cons_zero, Option.some.injEq] at e
        subst e
        exact h.1 hx
      · simp only [List.length_cons] at hh
        omega
    · obtain ⟨h1, h2⟩ := ab_tsw_sp ts (lo + 1) (h.2 hx)
      refine ⟨fun j t e hj => ?_, fun hh => h2 ?_⟩
      · cases j with
        | zero => exact absurd (by omega) hx
        | succ j => exact h1 j t (by simpa using e) (by omega)
      · simp only [List.length_cons] at hh
        omega
theorem ab_lsw_sp {F : Nat → Prop} {x : Int32} {d : Nat} {df : Int} {pc : Int} {bp : Nat → Nat} (hd : pc + df = (bp d : Int)) : ∀ (ps : List (Int × Int)) (ts : List Nat), ps.length = ts.length → (ps.zip ts).all (fun q => decide (pc + q.1.2 = (bp q.2 : Int))) = true → ab_lsw F x d ps ts → ∃ t, F t ∧ pc + Op.lookupswitch.offset ps df x.toInt = (bp t : Int)
  | [], ts, _, _, h => ⟨d, h, hd⟩
  | (k, o) :: r, [], hl, _, _ => by simp at hl
  | (k, o) :: r, t :: ts, hl, ha, h => by
    simp only [List.zip_cons_cons, List.all_cons, Bool.and_eq_true, decide_eq_true_eq] at ha
    rw [Op.lookupswitch.offset_cons]
    by_cases hx : x.toInt = k
    · exact ⟨t, h.1 hx, by rw [if_pos (by first | exact hx | exact hx.symm)]; exact ha.1⟩
    · rw [if_neg (by first | exact hx | exact fun q => hx q.symm)]
      exact ab_lsw_sp hd r ts (by simpa using hl) ha.2 (h.2 hx)
end AbS
end
section
theorem ab_range {α : Type} (w : List α) : (List.range w.length).map (fun i => w[i]?) = w.map some := by
  apply List.ext_getElem?
  intro k
  by_cases hk : k < w.length
  · simp [hk]
  · simp [hk]
theorem ab_u1 {μ : ab_M} {a j : Nat} {x : Int32} : (ab_mi μ a j x).1 a = upd (μ.1 a) j x := by funext b; simp [ab_mi, upd]
theorem ab_u2 {μ : ab_M} {a j : Nat} {x : Int64} : (ab_mj μ a j x).2 a = vp_updL (μ.2 a) j x := by funext b; simp [ab_mj, vp_updL]
theorem ab_e0 {ω : ab_W} {μ : ab_M} {a j n : Nat} {x : Int32} : ab_ct ω (ab_mi μ a j x) a (.inl (0, n)) = .inl (ω.2.1.1, n, .inl (upd (μ.1 a) j x)) := by
  simp [ab_ct, ab_u1]
theorem ab_e1 {ω : ab_W} {μ : ab_M} {a j n : Nat} {x : Int64} : ab_ct ω (ab_mj μ a j x) a (.inl (1, n)) = .inl (ω.2.1.2.1, n, .inr (.inl (vp_updL (μ.2 a) j x))) := by
  simp [ab_ct, ab_u2]
theorem ab_e2 {ω : ab_W} {μ : ab_M} {a j n : Nat} {x : Int32} : ab_ct ω (ab_mi μ a j x) a (.inl (2, n)) = .inl (ω.2.1.2.2, n, .inl (upd (μ.1 a) j x)) := by
  simp [ab_ct, ab_u1]
theorem ab_mr_upd {ω : ab_W} {μ : ab_M} {a n : Nat} {f : Nat → Int32} : ab_ct ω (ab_mr μ a f) a (.inl (0, n)) = .inl (ω.2.1.1, n, .inl f) := by
  have : (ab_mr μ a f).1 a = f := by funext b; simp [ab_mr]
  simp [ab_ct, this]
theorem ab_put_ab_mi {ω : ab_W} {μ : ab_M} {a j ci t : Nat} {sl : List ab_Sl} {x : Int32} (h : sl[j]? = some (.inr t)) (ht : t ≠ 1 := by decide) : ab_ct ω (ab_mi μ a j x) a (.inr (ci, sl)) = .inr (ci, (sl.mapIdx (fun j z => ab_sv ω μ a j z)).set j (.int x)) := by
  have e : sl.mapIdx (fun j z => ab_sv ω (ab_mi μ a j x) a j z) = sl.mapIdx (fun j z => ab_sv ω (ab_mi μ a j x) a j z) := rfl
  simp only [ab_ct, Sum.inr.injEq, Prod.mk.injEq, true_and]
  apply List.ext_getElem?
  intro k
  rw [List.getElem?_set, List.getElem?_mapIdx, List.length_mapIdx, List.getElem?_mapIdx]
  by_cases hk : j = k
  · subst hk
    have hl := (List.getElem?_eq_some_iff.mp h).1
    rw [if_pos rfl, if_pos hl, h]
    simp only [Option.map_some, Option.some.injEq]
    unfold ab_sv
    split
    · rename_i q; cases q
    · rename_i q; cases q; exact absurd rfl ht
    · simp [ab_mi]
  · rw [if_neg hk]
    cases hs : sl[k]? with
    | none => rfl
    | some z =>
      simp only [Option.map_some, Option.some.injEq]
      unfold ab_sv
      have hk' : ¬ k = j := fun q => hk q.symm
      split <;> simp [ab_mi, hk']
theorem ab_put_ab_mj {ω : ab_W} {μ : ab_M} {a j ci : Nat} {sl : List ab_Sl} {x : Int64} (h : sl[j]? = some (.inr 1)) : ab_ct ω (ab_mj μ a j x) a (.inr (ci, sl)) = .inr (ci, (sl.mapIdx (fun j z => ab_sv ω μ a j z)).set j (.long x)) := by
  simp only [ab_ct, Sum.inr.injEq, Prod.mk.injEq, true_and]
  apply List.ext_getElem?
  intro k
  rw [List.getElem?_set, List.getElem?_mapIdx, List.length_mapIdx, List.getElem?_mapIdx]
  by_cases hk : j = k
  · subst hk
    have hl := (List.getElem?_eq_some_iff.mp h).1
    rw [if_pos rfl, if_pos hl, h]
    simp [ab_sv, ab_mj]
  · rw [if_neg hk]
    cases hs : sl[k]? with
    | none => rfl
    | some z =>
      simp only [Option.map_some, Option.some.injEq]
      unfold ab_sv
      have hk' : ¬ k = j := fun q => hk q.symm
      split <;> simp [ab_mj, hk']
theorem ab_tys_ok : ∀ (k : Nat) (r : vw_C), vwCl[k]? = some r → ∃ ty0 : Nat → FieldType, (∀ k, k < r.2.2 → parseFieldDescriptor (r.2.1 k).2.2.1 = some (ty0 k)) ∧ (∀ a, a < r.2.2 → ∀ b, b < r.2.2 → a ≠ b → (r.2.1 a).2.1 ≠ (r.2.1 b).2.1)
  | 0, r, h => by cases h; exact ⟨tyX0, tyX0_ok, nmX0⟩
  | 1, r, h => by cases h; exact ⟨tyX1, tyX1_ok, nmX1⟩
  | 2, r, h => by cases h; exact ⟨tyX2, tyX2_ok, nmX2⟩
  | 3, r, h => by cases h; exact ⟨tyX3, tyX3_ok, nmX3⟩
  | 4, r, h => by cases h; exact ⟨tyX4, tyX4_ok, nmX4⟩
  | 5, r, h => by cases h; exact ⟨tyX5, tyX5_ok, nmX5⟩
  | 6, r, h => by cases h; exact ⟨tyX6, tyX6_ok, nmX6⟩
  | 7, r, h => by cases h; exact ⟨tyX8, tyX8_ok, nmX8⟩
  | 8, r, h => by cases h; exact ⟨tyX9, tyX9_ok, nmX9⟩
  | 9, r, h => by cases h; exact ⟨tyX10, tyX10_ok, nmX10⟩
  | 10, r, h => by cases h; exact ⟨tyX11, tyX11_ok, nmX11⟩
  | k + 11, r, h => by simp [vwCl] at h
theorem ab_goodM {md : ab_Md} (h : Cond.code md.1 md.2.1 md.2.2.1 md.2.2.2.1 ∈ ab_T) : GoodIn ab_T (ab_ws md) := by
  intro w hw
  rcases List.mem_cons.mp hw with rfl | hw
  · exact ab_goodT _ h
  · exact ab_goodT _ hw
theorem ab_cb {R : Room} {s : State} {args : Array Value} {own : String} {index g0 g1 g2 k : Nat} {md : ab_Md} (hts : ∀ w ∈ ab_T, w.before args s = true) (h : ab_cks own index R [g0, g1, g2, 0] md k = true) :
    CallB R s args own index md.1 md.2.1 md.2.2.1 md.2.2.2.1 (ab_ws md) md.2.2.2.2 0 0 k := by
  simp only [ab_cks, Bool.and_eq_true] at h
  obtain ⟨⟨⟨⟨⟨⟨⟨⟨⟨⟨a1, a2⟩, a3⟩, a4⟩, a5⟩, a6⟩, a7⟩, a8⟩, a9⟩, a10⟩, -⟩ := h
  exact callB_of (Ts := ab_T) k hts (ab_goodM (ab_tb_in a3)) rfl (of_decide_eq_true a9) (of_decide_eq_true a10) (hts _ (ab_tb_in a2)) (hts _ (ab_tb_in a1)) ⟨of_decide_eq_true a4, of_decide_eq_true a5, of_decide_eq_true a6⟩ ⟨of_decide_eq_true a7, of_decide_eq_true a8⟩
theorem ab_cw {R : Room} {s : State} {args : Array Value} {own : String} {index g0 g1 g2 g4 g5 k : Nat} {md : ab_Md} (hts : ∀ w ∈ ab_T, w.before args s = true) (h : ab_cks own index R [g0, g1, g2, 0] md k = true) (h4 : ab_tb g4 (.instanceMethod md.1) = true) (h5 : ab_tb g5 (.selects md.1.cls md.1 md.1) = true) :
    CallW R s args own md.1.cls index md.1 md.2.1 md.2.2.1 md.2.2.2.1 (ab_ws md) md.2.2.2.2 0 0 k := ⟨ab_cb hts h, hts _ (ab_tb_in h4), hts _ (ab_tb_in h5)⟩
theorem ab_cwS {R : Room} {s : State} {args : Array Value} {own : String} {index g0 g1 g2 g4 k : Nat} {md : ab_Md} (hts : ∀ w ∈ ab_T, w.before args s = true) (h : ab_cks own index R [g0, g1, g2, 0] md k = true) (h4 : ab_tb g4 (.static md.1) = true) :
    CallB R s args own index md.1 md.2.1 md.2.2.1 md.2.2.2.1 (ab_ws md) md.2.2.2.2 0 0 k ∧ (Cond.static md.1).before args s = true := ⟨ab_cb hts h, hts _ (ab_tb_in h4)⟩
section AbT
variable {p : Program} {l : Launch} {e : Env} {R : Room} {s : State} {m : MethodId} {args : Array Value} {below : List Frame} {meth : Method} {c : Code}
set_option maxHeartbeats 4000000 in
set_option maxRecDepth 100000 in
theorem ab_sound {ω : ab_W} {A : Nat → Prop} {own : String} {cc : ByteArray} {nL : Nat} {ret : Option FieldType} {cd : List ab_En} {sh : List ab_Sh} {QI : Int32 → ab_M → Prop} {QL : Int64 → ab_M → Prop} {QV : ab_M → Prop}
    (hx : p.tables.exec = Jvm.exec) (hb : c.code = cc) (hml : c.maxLocals = nL) (hr : meth.sig.returnType = ret) (hown : s.vm.findClass own = some m.cls) (hts : ∀ w ∈ ab_T, w.before args s = true) (hK : va_K ω.2.2.1 vwCl (ab_tys ω) s) (hA : ∀ q, s.heap.size ≤ q → A q) (hlocks : meth.locks = false) (hsh : ω.2.2.2 = sh)
    {i : Nat} {ll : ab_L} {st : List Value} {μ : ab_M} (hck : ∀ pc len ins ts fx k32 k64 cx, ab_nth cd i = some (pc, len, ins, ts, fx, k32, k64, cx) → ab_ck own cc nL R cd i pc len ts fx k32 k64 cx ins = true)
    (h : ab_wp l ω sh ret cd QI QL QV (ab_J p l e R s m args below meth c ω A nL cd (MQ below (ab_Qc ω A ret QI QL QV) args s 0 0 A)) i ll st μ) : ab_J p l e R s m args below meth c ω A nL cd (MQ below (ab_Qc ω A ret QI QL QV) args s 0 0 A) i ll st μ := by
  intro hll H locs ls hP hD hS hl
  unfold ab_wp at h
  split at h
  · exact h.elim
  rename_i u0 pc len ins ts fa fb fh k32 k64 cx hn
  obtain ⟨fx, hfx⟩ : ∃ fx : Nat × Nat × Nat, fx = (fa, fb, fh) := ⟨_, rfl⟩
  have hfa : fa = fx.1 := by rw [hfx]
  have hfb : fb = fx.2.1 := by rw [hfx]
  rw [← hfx] at hn
  clear hfx
  subst hfa hfb
  have hc := hck pc len ins ts fx k32 k64 cx hn
  have hbp : ab_bp cd i = pc := by simp [ab_bp, hn]
  rw [hbp]
  unfold ab_ck at hc
  rw [Bool.and_eq_true] at hc
  obtain ⟨hd, hc⟩ := hc
  replace hd := of_decide_eq_true hd
  clear hn hck
  have go : ∀ (n : Nat) (ll' : ab_L) (st' : List Value) (μ' : ab_M) (H' : Heap) (locs' : List Loc) (ls' : Array Slot), ab_bp cd (i + 1) = pc + n → ab_J p l e R s m args below meth c ω A nL cd (MQ below (ab_Qc ω A ret QI QL QV) args s 0 0 A) (i + 1) ll' st' μ' → ll'.length = nL → va_P ω.2.2.1 vwCl (ab_wl ω μ') H' → va_D A (ab_wl ω μ') → va_S A s.heap H' locs' → lv_has ls' nL (ab_lv ω.1 0 ll') → W p l e R s m args below meth c H' locs' 0 0 (MQ below (ab_Qc ω A ret QI QL QV) args s 0 0 A) (F0 m (pc + n) ls' (st'.map (ab_cv ω.1))) := by
    intro n ll' st' μ' H' locs' ls' e1 hj h1 h2 h3 h4 h5
    rw [← e1]
    exact hj h1 H' locs' ls' h2 h3 h4 h5
  have gt : ∀ (t : Nat) (st' : List Value), ab_J p l e R s m args below meth c ω A nL cd (MQ below (ab_Qc ω A ret QI QL QV) args s 0 0 A) t ll st' μ → W p l e R s m args below meth c H locs 0 0 (MQ below (ab_Qc ω A ret QI QL QV) args s 0 0 A) (F0 m (ab_bp cd t) ls (st'.map (ab_cv ω.1))) := fun t st' hj => hj hll H locs ls hP hD hS hl
  unfold ab_in at h
  split at h
  · simp only [Bool.and_eq_true, decide_eq_true_eq] at hc
    obtain ⟨⟨rfl, h2⟩, h3⟩ := hc
    exact lv_iconst hx hb hd h3 (go 1 _ _ _ _ _ _ h2 h hll hP hD hS hl)
  · simp only [Bool.and_eq_true, decide_eq_true_eq] at hc
    obtain ⟨⟨rfl, h2⟩, h3⟩ := hc
    exact lv_bipush hx hb hd h3 (go 2 _ _ _ _ _ _ h2 h hll hP hD hS hl)
  · simp only [Bool.and_eq_true, decide_eq_true_eq] at hc
    obtain ⟨⟨rfl, h2⟩, h3⟩ := hc
    exact lv_sipush hx hb hd h3 (go 3 _ _ _ _ _ _ h2 h hll hP hD hS hl)
  · simp only [Bool.and_eq_true, decide_eq_true_eq] at hc
    obtain ⟨⟨rfl, h2⟩, h3⟩ := hc
    exact lv_lconst hx hb hd h3 (go 1 _ _ _ _ _ _ h2 h hll hP hD hS hl)
  · simp only [Bool.and_eq_true, decide_eq_true_eq] at hc
    obtain ⟨⟨rfl, h2⟩, h3⟩ := hc
    exact lv_ldc2 hx hb hown (hts _ (ab_tb_in h3)) hd (go 3 _ _ _ _ _ _ h2 h hll hP hD hS hl)
  · simp only [Bool.and_eq_true, decide_eq_true_eq] at hc
    obtain ⟨rfl, h2⟩ := hc
    unfold ab_gi at h
    split at h
    · rename_i hq
      exact lv_iload_n hx hb hd rfl (ab_lv_at hl hq) (go 1 _ _ _ _ _ _ h2 h hll hP hD hS hl)
    · exact h.elim
  · simp only [Bool.and_eq_true, decide_eq_true_eq] at hc
    obtain ⟨rfl, h2⟩ := hc
    unfold ab_gi at h
    split at h
    · rename_i hq
      exact lv_iload hx hb hd (ab_lv_at hl hq) (go 2 _ _ _ _ _ _ h2 h hll hP hD hS hl)
    · exact h.elim
  · simp only [Bool.and_eq_true, decide_eq_true_eq] at hc
    obtain ⟨rfl, h2⟩ := hc
    unfold ab_gl at h
    split at h
    · rename_i hq
      exact lv_lload_n hx hb hd rfl (ab_lv_at hl hq) (go 1 _ _ _ _ _ _ h2 h hll hP hD hS hl)
    · exact h.elim
  · simp only [Bool.and_eq_true, decide_eq_true_eq] at hc
    obtain ⟨rfl, h2⟩ := hc
    unfold ab_gl at h
    split at h
    · rename_i hq
      exact lv_lload hx hb hd (ab_lv_at hl hq) (go 2 _ _ _ _ _ _ h2 h hll hP hD hS hl)
    · exact h.elim
  · simp only [Bool.and_eq_true, decide_eq_true_eq] at hc
    obtain ⟨rfl, h2⟩ := hc
    unfold ab_ga at h
    split at h
    · rename_i hq
      exact lv_aload_n hx hb hd rfl (ab_lv_at hl hq) (go 1 _ _ _ _ _ _ h2 h hll hP hD hS hl)
    · exact h.elim
  · simp only [Bool.and_eq_true, decide_eq_true_eq] at hc
    obtain ⟨rfl, h2⟩ := hc
    unfold ab_ga at h
    split at h
    · rename_i hq
      exact lv_aload hx hb hd (ab_lv_at hl hq) (go 2 _ _ _ _ _ _ h2 h hll hP hD hS hl)
    · exact h.elim
  · simp only [Bool.and_eq_true, decide_eq_true_eq] at hc
    obtain ⟨⟨rfl, h2⟩, h3⟩ := hc
    unfold ab_is at h
    split at h
    · rename_i x st'
      split at h
      · rename_i hp
        exact lv_istore_n hx hb hd rfl hl h3 rfl (fun ls' hl' => go 1 _ _ _ _ _ _ h2 h (by simp [hll]) hP hD hS (ab_lv_set (v := .int x) hp hl'))
      · exact h.elim
    · exact h.elim
  · simp only [Bool.and_eq_true, decide_eq_true_eq] at hc
    obtain ⟨⟨rfl, h2⟩, h3⟩ := hc
    unfold ab_is at h
    split at h
    · rename_i x st'
      split at h
      · rename_i hp
        exact lv_istore hx hb hd hl h3 rfl (fun ls' hl' => go 2 _ _ _ _ _ _ h2 h (by simp [hll]) hP hD hS (ab_lv_set (v := .int x) hp hl'))
      · exact h.elim
    · exact h.elim
  · simp only [Bool.and_eq_true, decide_eq_true_eq] at hc
    obtain ⟨⟨rfl, h2⟩, h3⟩ := hc
    unfold ab_lt at h
    split at h
    · rename_i x st'
      split at h
      · rename_i hp
        exact lv_lstore_n hx hb hd rfl hl h3 rfl (fun ls' hl' => go 1 _ _ _ _ _ _ h2 h (by simp [hll]) hP hD hS (ab_lv_setL (v := .long x) hp hl'))
      · exact h.elim
    · exact h.elim
  · simp only [Bool.and_eq_true, decide_eq_true_eq] at hc
    obtain ⟨⟨rfl, h2⟩, h3⟩ := hc
    unfold ab_lt at h
    split at h
    · rename_i x st'
      split at h
      · rename_i hp
        exact lv_lstore hx hb hd hl h3 rfl (fun ls' hl' => go 2 _ _ _ _ _ _ h2 h (by simp [hll]) hP hD hS (ab_lv_setL (v := .long x) hp hl'))
      · exact h.elim
    · exact h.elim
  · simp only [Bool.and_eq_true, decide_eq_true_eq] at hc
    obtain ⟨⟨⟨rfl, h2⟩, h3⟩, h4⟩ := hc
    unfold ab_gi at h
    split at h
    · rename_i x hq
      split at h
      · rename_i hp
        obtain ⟨k, hk⟩ := List.getElem?_of_mem (ab_lv_0 (ad := ω.1) (ll := ll) (j := _) (w := .int x) |>.mpr ⟨.int x, by rw [← ab_nth_eq]; exact hq, rfl⟩)
        exact lv_iinc hx hb hd hl hk (by rw [h4]) h3 rfl (fun ls' hl' => go 3 _ _ _ _ _ _ h2 h (by simp [hll]) hP hD hS (ab_lv_set (v := .int (x + k32)) hp hl'))
      · exact h.elim
    · exact h.elim
  · simp only [Bool.and_eq_true, decide_eq_true_eq] at hc
    obtain ⟨rfl, h2⟩ := hc
    unfold ab_i2 at h
    split at h
    · exact lv_iadd hx hb hd (go 1 _ _ _ _ _ _ h2 h hll hP hD hS hl)
    · exact h.elim
  · simp only [Bool.and_eq_true, decide_eq_true_eq] at hc
    obtain ⟨rfl, h2⟩ := hc
    unfold ab_i2 at h
    split at h
    · exact lv_isub hx hb hd (go 1 _ _ _ _ _ _ h2 h hll hP hD hS hl)
    · exact h.elim
  · simp only [Bool.and_eq_true, decide_eq_true_eq] at hc
    obtain ⟨rfl, h2⟩ := hc
    unfold ab_i2 at h
    split at h
    · exact lv_imul hx hb hd (go 1 _ _ _ _ _ _ h2 h hll hP hD hS hl)
    · exact h.elim
  · simp only [Bool.and_eq_true, decide_eq_true_eq] at hc
    obtain ⟨rfl, h2⟩ := hc
    unfold ab_i2 at h
    split at h
    · exact lv_iand hx hb hd (go 1 _ _ _ _ _ _ h2 h hll hP hD hS hl)
    · exact h.elim
  · simp only [Bool.and_eq_true, decide_eq_true_eq] at hc
    obtain ⟨rfl, h2⟩ := hc
    unfold ab_i2 at h
    split at h
    · exact lv_ior hx hb hd (go 1 _ _ _ _ _ _ h2 h hll hP hD hS hl)
    · exact h.elim
  · simp only [Bool.and_eq_true, decide_eq_true_eq] at hc
    obtain ⟨rfl, h2⟩ := hc
    unfold ab_i2 at h
    split at h
    · exact lv_ishl hx hb hd (go 1 _ _ _ _ _ _ h2 h hll hP hD hS hl)
    · exact h.elim
  · simp only [Bool.and_eq_true, decide_eq_true_eq] at hc
    obtain ⟨rfl, h2⟩ := hc
    unfold ab_i2 at h
    split at h
    · exact lv_ishr hx hb hd (go 1 _ _ _ _ _ _ h2 h hll hP hD hS hl)
    · exact h.elim
  · simp only [Bool.and_eq_true, decide_eq_true_eq] at hc
    obtain ⟨rfl, h2⟩ := hc
    unfold ab_l2 at h
    split at h
    · exact lv_ladd hx hb hd (go 1 _ _ _ _ _ _ h2 h hll hP hD hS hl)
    · exact h.elim
  · simp only [Bool.and_eq_true, decide_eq_true_eq] at hc
    obtain ⟨rfl, h2⟩ := hc
    unfold ab_l2 at h
    split at h
    · exact lv_lsub hx hb hd (go 1 _ _ _ _ _ _ h2 h hll hP hD hS hl)
    · exact h.elim
  · simp only [Bool.and_eq_true, decide_eq_true_eq] at hc
    obtain ⟨rfl, h2⟩ := hc
    unfold ab_l2 at h
    split at h
    · exact lv_land hx hb hd (go 1 _ _ _ _ _ _ h2 h hll hP hD hS hl)
    · exact h.elim
  · simp only [Bool.and_eq_true, decide_eq_true_eq] at hc
    obtain ⟨rfl, h2⟩ := hc
    unfold ab_l2 at h
    split at h
    · exact lv_lor hx hb hd (go 1 _ _ _ _ _ _ h2 h hll hP hD hS hl)
    · exact h.elim
  · simp only [Bool.and_eq_true, decide_eq_true_eq] at hc
    obtain ⟨rfl, h2⟩ := hc
    unfold ab_l2 at h
    split at h
    · exact lv_lxor hx hb hd (go 1 _ _ _ _ _ _ h2 h hll hP hD hS hl)
    · exact h.elim
  · simp only [Bool.and_eq_true, decide_eq_true_eq] at hc
    obtain ⟨rfl, h2⟩ := hc
    unfold ab_l2 at h
    split at h
    · exact W.lcmp hx hb hd (go 1 _ _ _ _ _ _ h2 h hll hP hD hS hl)
    · exact h.elim
  · simp only [Bool.and_eq_true, decide_eq_true_eq] at hc
    obtain ⟨rfl, h2⟩ := hc
    split at h
    · exact lv_lneg hx hb hd (go 1 _ _ _ _ _ _ h2 h hll hP hD hS hl)
    · exact h.elim
  · simp only [Bool.and_eq_true, decide_eq_true_eq] at hc
    obtain ⟨rfl, h2⟩ := hc
    split at h
    · exact lv_lushr hx hb hd rfl (go 1 _ _ _ _ _ _ h2 h hll hP hD hS hl)
    · exact h.elim
  · simp only [Bool.and_eq_true, decide_eq_true_eq] at hc
    obtain ⟨rfl, h2⟩ := hc
    split at h
    · exact lv_lshl hx hb hd rfl (go 1 _ _ _ _ _ _ h2 h hll hP hD hS hl)
    · exact h.elim
  · simp only [Bool.and_eq_true, decide_eq_true_eq] at hc
    obtain ⟨rfl, h2⟩ := hc
    split at h
    · exact lv_l2i hx hb hd rfl (go 1 _ _ _ _ _ _ h2 h hll hP hD hS hl)
    · exact h.elim
  · simp only [Bool.and_eq_true, decide_eq_true_eq] at hc
    obtain ⟨rfl, h2⟩ := hc
    split at h
    · exact lv_dup hx hb hd rfl (go 1 _ _ _ _ _ _ h2 h hll hP hD hS hl)
    · exact lv_dup hx hb hd rfl (go 1 _ _ _ _ _ _ h2 h hll hP hD hS hl)
    · exact h.elim
  · simp only [Bool.and_eq_true, decide_eq_true_eq] at hc
    obtain ⟨rfl, h2⟩ := hc
    split at h
    · exact lv_dup_x1 hx hb hd rfl rfl (go 1 _ _ _ _ _ _ h2 h hll hP hD hS hl)
    · exact h.elim
  · simp only [Bool.and_eq_true, decide_eq_true_eq] at hc
    obtain ⟨rfl, h2⟩ := hc
    split at h
    · exact lv_dup2_11 hx hb hd rfl rfl (go 1 _ _ _ _ _ _ h2 h hll hP hD hS hl)
    · exact h.elim
  · rename_i cond off
    split at h
    · rename_i t tr
      simp only [Bool.and_eq_true, decide_eq_true_eq] at hc
      obtain ⟨⟨rfl, h2⟩, h4⟩ := hc
      unfold ab_i2 at h
      split at h
      · unfold ab_ci at h
        cases cond with
        | eq => exact lv_icmp_eq hx hb hd h4 (fun q => gt _ _ (h.1 q)) (fun q => go 3 _ _ _ _ _ _ h2 (h.2 q) hll hP hD hS hl)
        | ne => exact lv_icmp_ne hx hb hd h4 (fun q => gt _ _ (h.1 q)) (fun q => go 3 _ _ _ _ _ _ h2 (h.2 q) hll hP hD hS hl)
        | lt => exact lv_icmp_lt hx hb hd h4 (fun q => gt _ _ (h.1 q)) (fun q => go 3 _ _ _ _ _ _ h2 (h.2 q) hll hP hD hS hl)
        | ge => exact lv_icmp_ge hx hb hd h4 (fun q => gt _ _ (h.1 q)) (fun q => go 3 _ _ _ _ _ _ h2 (h.2 q) hll hP hD hS hl)
        | gt => exact lv_icmp_gt hx hb hd h4 (fun q => gt _ _ (h.1 q)) (fun q => go 3 _ _ _ _ _ _ h2 (h.2 q) hll hP hD hS hl)
        | le => exact lv_icmp_le hx hb hd h4 (fun q => gt _ _ (h.1 q)) (fun q => go 3 _ _ _ _ _ _ h2 (h.2 q) hll hP hD hS hl)
      · exact h.elim
    · exact h.elim
  · rename_i cond off
    split at h
    · rename_i t tr
      simp only [Bool.and_eq_true, decide_eq_true_eq] at hc
      obtain ⟨⟨rfl, h2⟩, h4⟩ := hc
      split at h
      · unfold ab_ci at h
        cases cond with
        | eq => exact lv_if_eq hx hb hd h4 (fun q => gt _ _ (h.1 q)) (fun q => go 3 _ _ _ _ _ _ h2 (h.2 q) hll hP hD hS hl)
        | ne => exact lv_if_ne hx hb hd h4 (fun q => gt _ _ (h.1 q)) (fun q => go 3 _ _ _ _ _ _ h2 (h.2 q) hll hP hD hS hl)
        | lt => exact lv_if_lt hx hb hd h4 (fun q => gt _ _ (h.1 q)) (fun q => go 3 _ _ _ _ _ _ h2 (h.2 q) hll hP hD hS hl)
        | ge => exact lv_if_ge hx hb hd h4 (fun q => gt _ _ (h.1 q)) (fun q => go 3 _ _ _ _ _ _ h2 (h.2 q) hll hP hD hS hl)
        | gt => exact lv_if_gt hx hb hd h4 (fun q => gt _ _ (h.1 q)) (fun q => go 3 _ _ _ _ _ _ h2 (h.2 q) hll hP hD hS hl)
        | le => exact lv_if_le hx hb hd h4 (fun q => gt _ _ (h.1 q)) (fun q => go 3 _ _ _ _ _ _ h2 (h.2 q) hll hP hD hS hl)
      · exact h.elim
    · exact h.elim
  · split at h
    · simp only [Bool.and_eq_true, decide_eq_true_eq] at hc
      obtain ⟨rfl, h4⟩ := hc
      exact lv_goto hx hb hd h4 (gt _ _ h)
    · exact h.elim
  · simp only [Bool.and_eq_true, decide_eq_true_eq] at hc
    obtain ⟨rfl, h2⟩ := hc
    split at h
    · rename_i j a st'
      split at h
      · rename_i n hs
        have he := ab_wl_at (ω := ω) (μ := μ) (k := a) (by rw [hsh, ← ab_nth_eq]; exact hs)
        exact va_iald hx hb hK hP a 0 he rfl h.1 hd (go 1 _ _ _ _ _ _ h2 h.2 hll hP hD hS hl)
      · exact h.elim
    · exact h.elim
  · simp only [Bool.and_eq_true, decide_eq_true_eq] at hc
    obtain ⟨rfl, h2⟩ := hc
    split at h
    · rename_i j a st'
      split at h
      · rename_i n hs
        have he := ab_wl_at (ω := ω) (μ := μ) (k := a) (by rw [hsh, ← ab_nth_eq]; exact hs)
        exact va_lald hx hb hK hP a 1 he rfl h.1 hd (go 1 _ _ _ _ _ _ h2 h.2 hll hP hD hS hl)
      · exact h.elim
    · exact h.elim
  · simp only [Bool.and_eq_true, decide_eq_true_eq] at hc
    obtain ⟨rfl, h2⟩ := hc
    split at h
    · rename_i j a st'
      split at h
      · rename_i n hs
        have he := ab_wl_at (ω := ω) (μ := μ) (k := a) (by rw [hsh, ← ab_nth_eq]; exact hs)
        exact va_zald hx hb hK hP a 2 he rfl h.1 hd (go 1 _ _ _ _ _ _ h2 h.2 hll hP hD hS hl)
      · exact h.elim
    · exact h.elim
  · simp only [Bool.and_eq_true, decide_eq_true_eq] at hc
    obtain ⟨rfl, h2⟩ := hc
    split at h
    · rename_i x j a st'
      split at h
      · rename_i n hs
        have hs2 : ω.2.2.2[a]? = some (.inl (0, n)) := by rw [hsh, ← ab_nth_eq]; exact hs
        have he := ab_wl_at (ω := ω) (μ := μ) (k := a) hs2
        have hw := ab_wl_set (ω := ω) (μ := μ) (μ' := ab_mi μ a j.toNatClampNeg x) hs2 ab_mi_ne (fun _ _ => rfl)
        refine va_iast hx hb hK hP hD hS a 0 he rfl h.1 hd (fun H1 locs1 hP1 hD1 hS1 => ?_)
        · rw [ab_e0] at hw
          exact go 1 _ _ _ _ _ _ h2 h.2 hll (hw ▸ hP1) (hw ▸ hD1) hS1 hl
      · exact h.elim
    · exact h.elim
  · simp only [Bool.and_eq_true, decide_eq_true_eq] at hc
    obtain ⟨rfl, h2⟩ := hc
    split at h
    · rename_i x j a st'
      split at h
      · rename_i n hs
        have hs2 : ω.2.2.2[a]? = some (.inl (1, n)) := by rw [hsh, ← ab_nth_eq]; exact hs
        have he := ab_wl_at (ω := ω) (μ := μ) (k := a) hs2
        have hw := ab_wl_set (ω := ω) (μ := μ) (μ' := ab_mj μ a j.toNatClampNeg x) hs2 (fun _ _ => rfl) ab_mj_ne
        refine va_last hx hb hK hP hD hS a 1 he rfl h.1 hd (fun H1 locs1 hP1 hD1 hS1 => ?_)
        · rw [ab_e1] at hw
          exact go 1 _ _ _ _ _ _ h2 h.2 hll (hw ▸ hP1) (hw ▸ hD1) hS1 hl
      · exact h.elim
    · exact h.elim
  · simp only [Bool.and_eq_true, decide_eq_true_eq] at hc
    obtain ⟨rfl, h2⟩ := hc
    split at h
    · rename_i x j a st'
      split at h
      · rename_i n hs
        have hs2 : ω.2.2.2[a]? = some (.inl (2, n)) := by rw [hsh, ← ab_nth_eq]; exact hs
        have he := ab_wl_at (ω := ω) (μ := μ) (k := a) hs2
        have hz : vp_nar .boolean x = x := by rcases h.2.1 with h0 | h0 <;> subst h0 <;> rfl
        have hw := ab_wl_set (ω := ω) (μ := μ) (μ' := ab_mi μ a j.toNatClampNeg x) hs2 ab_mi_ne (fun _ _ => rfl)
        refine va_zast hx hb hK hP hD hS a 2 he rfl h.1 hd (fun H1 locs1 hP1 hD1 hS1 => ?_)
        · rw [hz] at hP1 hD1
          rw [ab_e2] at hw
          exact go 1 _ _ _ _ _ _ h2 h.2.2 hll (hw ▸ hP1) (hw ▸ hD1) hS1 hl
      · exact h.elim
    · exact h.elim
  · split at h
    · rename_i a st'
      split at h
      · rename_i ci sl hs
        have hs2 : ω.2.2.2[a]? = some (.inr (ci, sl)) := by rw [hsh, ← ab_nth_eq]; exact hs
        have he := ab_wl_at (ω := ω) (μ := μ) (k := a) hs2
        rw [Bool.and_eq_true, Bool.and_eq_true] at hc
        obtain ⟨⟨h1, h2⟩, h3⟩ := hc
        have h1 := of_decide_eq_true h1
        have h2 := of_decide_eq_true h2
        subst h1
        split at h3
        · rename_i r hr2
          obtain ⟨C, T, N⟩ := r
          rw [Bool.and_eq_true] at h3
          obtain ⟨h4, h5⟩ := h3
          have h4 := of_decide_eq_true h4
          split at h
          · rename_i q hci hsl
            have hci := Nat.eq_of_beq_eq_true hci
            subst hci
            exact va_get (D := ω.2.2.1) (C := C) (T := T) (N := N) hx hb hts (ab_uws (C, T, N) (List.mem_of_getElem? hr2)) hown hK hP a he hr2 fx.2.1 h4 (hts _ (ab_tb_in h5)) (fun _ h9 => h9) (v := .ref (ω.1 q)) (by rw [List.getElem?_mapIdx, ← ab_nth_eq, hsl]; rfl) hd (go 3 _ _ _ _ _ _ h2 h hll hP hD hS hl)
          · rename_i hci hsl
            have hci := Nat.eq_of_beq_eq_true hci
            subst hci
            exact va_get (D := ω.2.2.1) (C := C) (T := T) (N := N) hx hb hts (ab_uws (C, T, N) (List.mem_of_getElem? hr2)) hown hK hP a he hr2 fx.2.1 h4 (hts _ (ab_tb_in h5)) (fun _ h9 => h9) (v := .int (μ.1 a fx.2.1)) (by rw [List.getElem?_mapIdx, ← ab_nth_eq, hsl]; rfl) hd (go 3 _ _ _ _ _ _ h2 h hll hP hD hS hl)
          · rename_i hci hsl
            have hci := Nat.eq_of_beq_eq_true hci
            subst hci
            exact va_get (D := ω.2.2.1) (C := C) (T := T) (N := N) hx hb hts (ab_uws (C, T, N) (List.mem_of_getElem? hr2)) hown hK hP a he hr2 fx.2.1 h4 (hts _ (ab_tb_in h5)) (fun _ h9 => h9) (v := .long (μ.2 a fx.2.1)) (by rw [List.getElem?_mapIdx, ← ab_nth_eq, hsl]; rfl) hd (go 3 _ _ _ _ _ _ h2 h hll hP hD hS hl)
          · rename_i hci hsl
            have hci := Nat.eq_of_beq_eq_true hci
            subst hci
            exact va_get (D := ω.2.2.1) (C := C) (T := T) (N := N) hx hb hts (ab_uws (C, T, N) (List.mem_of_getElem? hr2)) hown hK hP a he hr2 fx.2.1 h4 (hts _ (ab_tb_in h5)) (fun _ h9 => h9) (v := .int (μ.1 a fx.2.1)) (by rw [List.getElem?_mapIdx, ← ab_nth_eq, hsl]; rfl) hd (go 3 _ _ _ _ _ _ h2 h hll hP hD hS hl)
          · exact h.elim
        · cases h3
      · exact h.elim
    · exact h.elim
  · split at h
    · rename_i x a st'
      split at h
      · rename_i ci sl hs
        have hs2 : ω.2.2.2[a]? = some (.inr (ci, sl)) := by rw [hsh, ← ab_nth_eq]; exact hs
        have he := ab_wl_at (ω := ω) (μ := μ) (k := a) hs2
        rw [Bool.and_eq_true, Bool.and_eq_true] at hc
        obtain ⟨⟨h1, h2⟩, h3⟩ := hc
        have h1 := of_decide_eq_true h1
        have h2 := of_decide_eq_true h2
        subst h1
        split at h3
        · rename_i r hr2
          obtain ⟨C, T, N⟩ := r
          rw [Bool.and_eq_true, Bool.and_eq_true, Bool.and_eq_true] at h3
          obtain ⟨⟨⟨h4, h5⟩, h6⟩, h7⟩ := h3
          have h4 := of_decide_eq_true h4
          have h6 := of_decide_eq_true h6
          obtain ⟨ty0, hty, hnm⟩ := ab_tys_ok fx.1 (C, T, N) hr2
          have hlen : ∀ z, ab_nth sl fx.2.1 = some z → fx.2.1 < sl.length := fun z hz => by rw [ab_nth_eq] at hz; exact (List.getElem?_eq_some_iff.mp hz).1
          split at h
          · rename_i hci hsl
            have hci := Nat.eq_of_beq_eq_true hci
            subst hci
            have h7 := of_decide_eq_true h7
            have hw := ab_wl_set (ω := ω) (μ := μ) (μ' := ab_mi μ a fx.2.1 x) hs2 ab_mi_ne (fun _ _ => rfl)
            refine va_put (D := ω.2.2.1) (C := C) (T := T) (N := N) (ty := .int) (v := .int x) hx hb hts (ab_uws (C, T, N) (List.mem_of_getElem? hr2)) ty0 hty hnm hown hK hP hD hS a he hr2 fx.2.1 h4 (hts _ (ab_tb_in h5)) (fun _ h9 => h9) h6 h7 rfl rfl (by rw [List.length_mapIdx]; exact hlen _ hsl) hd (fun H1 locs1 hP1 hD1 hS1 => ?_)
            rw [ab_put_ab_mi (by rw [← ab_nth_eq]; exact hsl)] at hw
            exact go 3 _ _ _ _ _ _ h2 h hll (hw ▸ hP1) (hw ▸ hD1) hS1 hl
          · rename_i hci hsl
            have hci := Nat.eq_of_beq_eq_true hci
            subst hci
            have h7 := of_decide_eq_true h7
            have hw := ab_wl_set (ω := ω) (μ := μ) (μ' := ab_mi μ a fx.2.1 x) hs2 ab_mi_ne (fun _ _ => rfl)
            refine va_put (D := ω.2.2.1) (C := C) (T := T) (N := N) (ty := .boolean) (v := .int x) hx hb hts (ab_uws (C, T, N) (List.mem_of_getElem? hr2)) ty0 hty hnm hown hK hP hD hS a he hr2 fx.2.1 h4 (hts _ (ab_tb_in h5)) (fun _ h9 => h9) h6 h7 (by rcases h.1 with h0 | h0 <;> subst h0 <;> rfl) (by rcases h.1 with h0 | h0 <;> subst h0 <;> rfl) (by rw [List.length_mapIdx]; exact hlen _ hsl) hd (fun H1 locs1 hP1 hD1 hS1 => ?_)
            rw [ab_put_ab_mi (by rw [← ab_nth_eq]; exact hsl)] at hw
            exact go 3 _ _ _ _ _ _ h2 h.2 hll (hw ▸ hP1) (hw ▸ hD1) hS1 hl
          · exact h.elim
        · cases h3
      · exact h.elim
    · rename_i x a st'
      split at h
      · rename_i ci sl hs
        have hs2 : ω.2.2.2[a]? = some (.inr (ci, sl)) := by rw [hsh, ← ab_nth_eq]; exact hs
        have he := ab_wl_at (ω := ω) (μ := μ) (k := a) hs2
        rw [Bool.and_eq_true, Bool.and_eq_true] at hc
        obtain ⟨⟨h1, h2⟩, h3⟩ := hc
        have h1 := of_decide_eq_true h1
        have h2 := of_decide_eq_true h2
        subst h1
        split at h3
        · rename_i r hr2
          obtain ⟨C, T, N⟩ := r
          rw [Bool.and_eq_true, Bool.and_eq_true, Bool.and_eq_true] at h3
          obtain ⟨⟨⟨h4, h5⟩, h6⟩, h7⟩ := h3
          have h4 := of_decide_eq_true h4
          have h6 := of_decide_eq_true h6
          obtain ⟨ty0, hty, hnm⟩ := ab_tys_ok fx.1 (C, T, N) hr2
          have hlen : ∀ z, ab_nth sl fx.2.1 = some z → fx.2.1 < sl.length := fun z hz => by rw [ab_nth_eq] at hz; exact (List.getElem?_eq_some_iff.mp hz).1
          split at h
          · rename_i hci hsl
            have hci := Nat.eq_of_beq_eq_true hci
            subst hci
            have h7 := of_decide_eq_true h7
            have hw := ab_wl_set (ω := ω) (μ := μ) (μ' := ab_mj μ a fx.2.1 x) hs2 (fun _ _ => rfl) ab_mj_ne
            refine va_put (D := ω.2.2.1) (C := C) (T := T) (N := N) (ty := .long) (v := .long x) hx hb hts (ab_uws (C, T, N) (List.mem_of_getElem? hr2)) ty0 hty hnm hown hK hP hD hS a he hr2 fx.2.1 h4 (hts _ (ab_tb_in h5)) (fun _ h9 => h9) h6 h7 rfl rfl (by rw [List.length_mapIdx]; exact hlen _ hsl) hd (fun H1 locs1 hP1 hD1 hS1 => ?_)
            rw [ab_put_ab_mj (by rw [← ab_nth_eq]; exact hsl)] at hw
            exact go 3 _ _ _ _ _ _ h2 h hll (hw ▸ hP1) (hw ▸ hD1) hS1 hl
          · exact h.elim
        · cases h3
      · exact h.elim
    · exact h.elim
  · rw [Bool.and_eq_true, Bool.and_eq_true] at hc
    obtain ⟨⟨h1, h2⟩, h3⟩ := hc
    have h1 := of_decide_eq_true h1
    have h2 := of_decide_eq_true h2
    subst h1
    split at h
    · rename_i md n
      split at h3
      · rename_i g0 g1 g2 g4 g5 md2 n2 hcx
        cases hcx
        rw [Bool.and_eq_true, Bool.and_eq_true, Bool.and_eq_true] at h3
        obtain ⟨⟨⟨h4, h5⟩, h6⟩, h7⟩ := h3
        have h7 := of_decide_eq_true h7
        split at h
        · rename_i As a rest hpop
          split at h
          · rename_i ci sl hs hsm
            split at h
            · rename_i hci
              have hci := Nat.eq_of_beq_eq_true hci
              subst hci
              have hs2 : ω.2.2.2[a]? = some (.inr (fx.1, sl)) := by rw [hsh, ← ab_nth_eq]; exact hs
              have he := ab_wl_at (ω := ω) (μ := μ) (k := a) hs2
              obtain ⟨rr, hcl, hcn⟩ := Option.map_eq_some_iff.mp h7
              obtain ⟨xs, hx1, hx2, hx3⟩ := ab_pop_eq _ _ _ _ _ hpop
              have hxs : True := trivial
              subst hx3
              have hlen : (As.map (ab_cv ω.1)).length = n := by simp [hx2, hx1]
              have hstk : (F0 m pc ls ((xs ++ Value.ref a :: rest).map (ab_cv ω.1))).stack = (As.map (ab_cv ω.1)).reverse ++ .ref (ω.1 a) :: rest.map (ab_cv ω.1) := by simp [hx2, ab_cv]
              have cw := ab_cw (args := args) hts h4 h5 h6
              have hcn2 : rr.1 = md.1.cls := hcn
              have hcl : vwCl[fx.1]? = some (md.1.cls, rr.2) := by rw [hcl, ← hcn2]
              have hFc : ∀ q, va_A (ab_wl ω μ) H.size q → A q := va_free (wc := ab_wl ω μ) hD hS hA (List.range (ab_wl ω μ).length) (ab_range _)
              have hbl : FrameBlind (ab_Pr ω (.ref a :: As) μ H.size) := fun a U g mk q => by obtain ⟨q0, q1, qP, qK, qD⟩ := q; exact ⟨q0, q1, qP, va_K.moved (u := U) (U := U.calling g mk a) (Vm.Alike.refl U.vm) qK, qD⟩
              have hpre : ∀ U : State, U.heap = H → s.WarmedH U.vm → ab_Pr ω (.ref a :: As) μ H.size (Value.ref (ω.1 a) :: As.map (ab_cv ω.1)).toArray U := fun U hU hW => ⟨by simp [hxs, ab_cv], by rw [hU], by rw [hU]; exact hP, va_K.moved hW.alike hK, hD.weaken (fun _ _ _ _ => trivial)⟩
              unfold ab_call at h
              split at h
              · rename_i hret
                have hM := h H.size
                unfold ab_Qc at hM
                rw [hret] at hM
                dsimp only at hM
                refine va_callv (va_runV (As := As.map (ab_cv ω.1)) (rest := rest.map (ab_cv ω.1)) (C := md.1.cls) ⟨hx, hb, hml, hown, hts⟩ hM cw ⟨hbl, va_recv hK hP (ci := fx.1) hcl he, hpre⟩ rfl hlen hl.1 hstk (lv_room (ab_small_sum ω.1 rest 8 hsm)) hd ⟨Nat.zero_le _, Nat.zero_le _⟩) hS (fun q _ hq => hFc q hq) hFc (fun u t H1 locs1 ht hvm hw hB hz1 hk1 hS1 => ?_)
                obtain ⟨hP1, hK1, hD1⟩ := hB
                rw [ht] at hP1
                exact go 3 _ _ _ _ _ _ h2 hw hll hP1 (hD1.weaken (fun k q _ hq => hFc q.1 hq)) hS1 hl
              · rename_i hret
                have hM := h H.size
                unfold ab_Qc at hM
                rw [hret] at hM
                dsimp only at hM
                refine va_calll (va_runV (As := As.map (ab_cv ω.1)) (rest := rest.map (ab_cv ω.1)) (C := md.1.cls) ⟨hx, hb, hml, hown, hts⟩ hM cw ⟨hbl, va_recv hK hP (ci := fx.1) hcl he, hpre⟩ rfl hlen hl.1 hstk (lv_room (ab_small_sum ω.1 rest 8 hsm)) hd ⟨Nat.zero_le _, Nat.zero_le _⟩) hS (fun q _ hq => hFc q hq) hFc (fun r u t H1 locs1 ht hvm hw hB hz1 hk1 hS1 => ?_)
                obtain ⟨hP1, hK1, hD1⟩ := hB
                rw [ht] at hP1
                exact go 3 _ _ _ _ _ _ h2 hw hll hP1 (hD1.weaken (fun k q _ hq => hFc q.1 hq)) hS1 hl
              · rename_i hret
                have hM := h H.size
                unfold ab_Qc at hM
                rw [hret] at hM
                dsimp only at hM
                refine va_calli (va_runV (As := As.map (ab_cv ω.1)) (rest := rest.map (ab_cv ω.1)) (C := md.1.cls) ⟨hx, hb, hml, hown, hts⟩ hM cw ⟨hbl, va_recv hK hP (ci := fx.1) hcl he, hpre⟩ rfl hlen hl.1 hstk (lv_room (ab_small_sum ω.1 rest 8 hsm)) hd ⟨Nat.zero_le _, Nat.zero_le _⟩) hS (fun q _ hq => hFc q hq) hFc (fun r u t H1 locs1 ht hvm hw hB hz1 hk1 hS1 => ?_)
                obtain ⟨hP1, hK1, hD1⟩ := hB
                rw [ht] at hP1
                exact go 3 _ _ _ _ _ _ h2 hw hll hP1 (hD1.weaken (fun k q _ hq => hFc q.1 hq)) hS1 hl
              · rename_i hret
                have hM := h H.size
                unfold ab_Qc at hM
                rw [hret] at hM
                dsimp only at hM
                refine va_calli (va_runV (As := As.map (ab_cv ω.1)) (rest := rest.map (ab_cv ω.1)) (C := md.1.cls) ⟨hx, hb, hml, hown, hts⟩ hM cw ⟨hbl, va_recv hK hP (ci := fx.1) hcl he, hpre⟩ rfl hlen hl.1 hstk (lv_room (ab_small_sum ω.1 rest 8 hsm)) hd ⟨Nat.zero_le _, Nat.zero_le _⟩) hS (fun q _ hq => hFc q hq) hFc (fun r u t H1 locs1 ht hvm hw hB hz1 hk1 hS1 => ?_)
                obtain ⟨hP1, hK1, hD1⟩ := hB
                rw [ht] at hP1
                exact go 3 _ _ _ _ _ _ h2 hw hll hP1 (hD1.weaken (fun k q _ hq => hFc q.1 hq)) hS1 hl
              · exact h.elim
            · exact h.elim
          · exact h.elim
        · exact h.elim
      · cases h3
    · exact h.elim
  · rw [Bool.and_eq_true, Bool.and_eq_true] at hc
    obtain ⟨⟨h1, h2⟩, h3⟩ := hc
    have h1 := of_decide_eq_true h1
    have h2 := of_decide_eq_true h2
    subst h1
    split at h
    · rename_i md n
      split at h3
      · rename_i g0 g1 g2 g4 md2 n2 hcx
        cases hcx
        rw [Bool.and_eq_true] at h3
        obtain ⟨h4, h5⟩ := h3
        split at h
        · rename_i As rest hpop
          split at h
          · rename_i hsm
            obtain ⟨xs, hx1, hx2, hx3⟩ := ab_pop_eq _ _ _ _ _ hpop
            have hxs : True := trivial
            subst hx3
            have hlen : (As.map (ab_cv ω.1)).length = n := by simp [hx2, hx1]
            have hstk : (F0 m pc ls ((xs ++ rest).map (ab_cv ω.1))).stack = (As.map (ab_cv ω.1)).reverse ++ rest.map (ab_cv ω.1) := by simp [hx2]
            have cw := ab_cwS (args := args) hts h4 h5
            have hFc : ∀ q, va_A (ab_wl ω μ) H.size q → A q := va_free (wc := ab_wl ω μ) hD hS hA (List.range (ab_wl ω μ).length) (ab_range _)
            have hbl : FrameBlind (ab_Pr ω As μ H.size) := fun a U g mk q => by obtain ⟨q0, q1, qP, qK, qD⟩ := q; exact ⟨q0, q1, qP, va_K.moved (u := U) (U := U.calling g mk a) (Vm.Alike.refl U.vm) qK, qD⟩
            have hpre : ∀ U : State, U.heap = H → s.WarmedH U.vm → ab_Pr ω As μ H.size (As.map (ab_cv ω.1)).toArray U := fun U hU hW => ⟨by simp [hxs, ab_cv], by rw [hU], by rw [hU]; exact hP, va_K.moved hW.alike hK, hD.weaken (fun _ _ _ _ => trivial)⟩
            unfold ab_call at h
            split at h
            · rename_i hret
              have hM := h H.size
              unfold ab_Qc at hM
              rw [hret] at hM
              dsimp only at hM
              refine va_callv (va_runS (As := As.map (ab_cv ω.1)) (rest := rest.map (ab_cv ω.1)) ⟨hx, hb, hml, hown, hts⟩ hM cw ⟨hbl, hpre⟩ rfl hlen hl.1 hstk (lv_room (ab_small_sum ω.1 rest 8 hsm)) hd ⟨Nat.zero_le _, Nat.zero_le _⟩) hS (fun q _ hq => hFc q hq) hFc (fun u t H1 locs1 ht hvm hw hB hz1 hk1 hS1 => ?_)
              obtain ⟨hP1, hK1, hD1⟩ := hB
              rw [ht] at hP1
              exact go 3 _ _ _ _ _ _ h2 hw hll hP1 (hD1.weaken (fun k q _ hq => hFc q.1 hq)) hS1 hl
            · rename_i hret
              have hM := h H.size
              unfold ab_Qc at hM
              rw [hret] at hM
              dsimp only at hM
              refine va_calll (va_runS (As := As.map (ab_cv ω.1)) (rest := rest.map (ab_cv ω.1)) ⟨hx, hb, hml, hown, hts⟩ hM cw ⟨hbl, hpre⟩ rfl hlen hl.1 hstk (lv_room (ab_small_sum ω.1 rest 8 hsm)) hd ⟨Nat.zero_le _, Nat.zero_le _⟩) hS (fun q _ hq => hFc q hq) hFc (fun r u t H1 locs1 ht hvm hw hB hz1 hk1 hS1 => ?_)
              obtain ⟨hP1, hK1, hD1⟩ := hB
              rw [ht] at hP1
              exact go 3 _ _ _ _ _ _ h2 hw hll hP1 (hD1.weaken (fun k q _ hq => hFc q.1 hq)) hS1 hl
            · rename_i hret
              have hM := h H.size
              unfold ab_Qc at hM
              rw [hret] at hM
              dsimp only at hM
              refine va_calli (va_runS (As := As.map (ab_cv ω.1)) (rest := rest.map (ab_cv ω.1)) ⟨hx, hb, hml, hown, hts⟩ hM cw ⟨hbl, hpre⟩ rfl hlen hl.1 hstk (lv_room (ab_small_sum ω.1 rest 8 hsm)) hd ⟨Nat.zero_le _, Nat.zero_le _⟩) hS (fun q _ hq => hFc q hq) hFc (fun r u t H1 locs1 ht hvm hw hB hz1 hk1 hS1 => ?_)
              obtain ⟨hP1, hK1, hD1⟩ := hB
              rw [ht] at hP1
              exact go 3 _ _ _ _ _ _ h2 hw hll hP1 (hD1.weaken (fun k q _ hq => hFc q.1 hq)) hS1 hl
            · rename_i hret
              have hM := h H.size
              unfold ab_Qc at hM
              rw [hret] at hM
              dsimp only at hM
              refine va_calli (va_runS (As := As.map (ab_cv ω.1)) (rest := rest.map (ab_cv ω.1)) ⟨hx, hb, hml, hown, hts⟩ hM cw ⟨hbl, hpre⟩ rfl hlen hl.1 hstk (lv_room (ab_small_sum ω.1 rest 8 hsm)) hd ⟨Nat.zero_le _, Nat.zero_le _⟩) hS (fun q _ hq => hFc q hq) hFc (fun r u t H1 locs1 ht hvm hw hB hz1 hk1 hS1 => ?_)
              obtain ⟨hP1, hK1, hD1⟩ := hB
              rw [ht] at hP1
              exact go 3 _ _ _ _ _ _ h2 hw hll hP1 (hD1.weaken (fun k q _ hq => hFc q.1 hq)) hS1 hl
            · exact h.elim
          · exact h.elim
        · exact h.elim
      · rename_i hcx
        cases hcx
      · cases h3
    · split at h3
      · rename_i hcx
        cases hcx
      · rename_i g0 g1 g2 g4 _
        rw [Bool.and_eq_true, Bool.and_eq_true, Bool.and_eq_true, Bool.and_eq_true, Bool.and_eq_true] at h3
        obtain ⟨⟨⟨⟨⟨h4, h5⟩, h6⟩, h7⟩, h8⟩, h9⟩ := h3
        have h8 := of_decide_eq_true h8
        have h9 := of_decide_eq_true h9
        split at h
        · rename_i n dp b sp a rest
          split at h
          · rename_i n0 n1 hs0 hs1 hsm
            have ha2 : ω.2.2.2[a]? = some (.inl (0, n0)) := by rw [hsh, ← ab_nth_eq]; exact hs0
            have hb2 : ω.2.2.2[b]? = some (.inl (0, n1)) := by rw [hsh, ← ab_nth_eq]; exact hs1
            have ea := ab_wl_at (ω := ω) (μ := μ) (k := a) ha2
            have eb := ab_wl_at (ω := ω) (μ := μ) (k := b) hb2
            obtain ⟨q1, q2, q3, q4, q5, hj⟩ := h
            have hw := ab_wl_set (ω := ω) (μ := μ) (μ' := ab_mr μ b (va_cpy (μ.1 a) (μ.1 b) sp.toNatClampNeg dp.toNatClampNeg n.toNatClampNeg)) hb2 ab_mr_ne (fun _ _ => rfl)
            refine va_copyi hx hb (by rw [hml]; exact hl.1.symm) hown (hts _ (ab_tb_in h4)) (hts _ (ab_tb_in h5)) (hts _ (ab_tb_in h6)) (hts _ (ab_tb_in h7)) hK hP hD hS a b 0 0 ea eb rfl rfl rfl q1 q2 q3 q4 q5 (fun _ _ => rfl) h8 (Nat.le_trans (Nat.add_le_add_right (ab_small_sum ω.1 rest 8 hsm) _) h9) hd (fun H1 locs1 hP1 hD1 hS1 => ?_)
            rw [ab_mr_upd] at hw
            exact go 3 _ _ _ _ _ _ h2 hj hll (hw ▸ hP1) (hw ▸ hD1) hS1 hl
          · exact h.elim
        · exact h.elim
      · cases h3
  · rename_i df lo hi offs
    split at h
    · rename_i d ts' x st'
      rw [Bool.and_eq_true, Bool.and_eq_true, Bool.and_eq_true] at hc
      obtain ⟨⟨⟨h1, h2⟩, h3⟩, h4⟩ := hc
      have h1 := of_decide_eq_true h1
      have h2 := of_decide_eq_true h2
      have h3 := of_decide_eq_true h3
      obtain ⟨g1, g2⟩ := ab_tsw_sp ts' lo h
      by_cases ho : x.toInt < lo ∨ hi < x.toInt
      · exact lv_tableOut hx hb hd ho h1 (gt _ _ (g2 (by omega)))
      · have hj : (x.toInt - lo).toNat < ts'.length := by omega
        obtain ⟨t, ht⟩ : ∃ t, ts'[(x.toInt - lo).toNat]? = some t := ⟨_, List.getElem?_eq_getElem hj⟩
        obtain ⟨f, hf⟩ : ∃ f, offs.toList[(x.toInt - lo).toNat]? = some f := ⟨_, List.getElem?_eq_getElem (by rw [h2]; exact hj)⟩
        have hz : (f, t) ∈ offs.toList.zip ts' := List.mem_of_getElem? (i := (x.toInt - lo).toNat) (by rw [List.getElem?_zip_eq_some]; exact ⟨hf, ht⟩)
        have h5 := of_decide_eq_true (List.all_eq_true.mp h4 (f, t) hz)
        exact lv_tableIn hx hb hd (by omega) (by omega) (off := f) (by rw [← Array.getElem?_toList]; exact hf) h5 (gt _ _ (g1 _ _ ht (by omega)))
    · exact h.elim
  · rename_i df ps
    split at h
    · rename_i d ts' x st'
      rw [Bool.and_eq_true, Bool.and_eq_true, Bool.and_eq_true] at hc
      obtain ⟨⟨⟨h1, h2⟩, h3⟩, h4⟩ := hc
      have h1 := of_decide_eq_true h1
      have h2 := of_decide_eq_true h2
      obtain ⟨t, g1, g2⟩ := ab_lsw_sp (bp := ab_bp cd) h1 ps.toList ts' h2 h4 h
      exact lv_lookup hx hb hd h3 rfl g2 (gt _ _ g1)
    · exact h.elim
  · simp only [Bool.and_eq_true, decide_eq_true_eq] at hc
    subst hc
    split at h
    · exact W.iret hx hb hr (fun t ht hW => ⟨⟨_, _, rfl, h, by rw [ht]; exact hP, va_K.moved hW.alike hK, hD⟩, hS.F ht⟩) hS.2.2 hd hlocks
    · exact W.zret hx hb hr (by rcases h.1 with h0 | h0 <;> subst h0 <;> rfl) (fun t ht hW => ⟨⟨_, _, rfl, h.2, by rw [ht]; exact hP, va_K.moved hW.alike hK, hD⟩, hS.F ht⟩) hS.2.2 hd hlocks
    · exact h.elim
  · simp only [Bool.and_eq_true, decide_eq_true_eq] at hc
    subst hc
    split at h
    · exact W.lret hx hb hr (fun t ht hW => ⟨⟨_, _, rfl, h, by rw [ht]; exact hP, va_K.moved hW.alike hK, hD⟩, hS.F ht⟩) hS.2.2 hd hlocks
    · exact h.elim
  · simp only [Bool.and_eq_true, decide_eq_true_eq] at hc
    subst hc
    split at h
    · exact W.vret hx hb hr (fun t ht hW => ⟨⟨_, rfl, h, by rw [ht]; exact hP, va_K.moved hW.alike hK, hD⟩, hS.F ht⟩) hS.2.2 hd hlocks
    · exact h.elim
  · exact h.elim
end AbT
end
section
/-! contracts out of walks of the abstract machine -/
def ab_ea : List Value → ab_L
  | [] => []
  | .long x :: r => some (.long x) :: none :: ab_ea r
  | .double x :: r => some (.double x) :: none :: ab_ea r
  | .int x :: r => some (.int x) :: ab_ea r
  | .ref x :: r => some (.ref x) :: ab_ea r
  | v :: r => some v :: ab_ea r
def ab_ent (nL : Nat) (as : List Value) : ab_L := ab_ea as ++ List.replicate (nL - (ab_ea as).length) none
theorem ab_ea_len (ad : Nat → Nat) : ∀ as : List Value, (lg_sl (as.map (ab_cv ad))).length = (ab_ea as).length
  | [] => rfl
  | v :: r => by
    have ih := ab_ea_len ad r
    cases v <;> simp_all [ab_ea, lg_sl, ab_cv, Value.category]
theorem ab_ea_lv (ad : Nat → Nat) (k : Nat) : ∀ (as : List Value) (n : Nat) (q : Nat × Value), q ∈ ab_lv ad n (ab_ea as ++ List.replicate k none) → q ∈ lv_args n (as.map (ab_cv ad))
  | [], n, q, h => by
    obtain ⟨j, w⟩ := q
    obtain ⟨i, v, h1, h2, h3⟩ := (ab_lv_in _ _).mp h
    simp only [ab_ea, List.nil_append, List.getElem?_replicate] at h2
    split at h2 <;> simp at h2
  | v :: r, n, q, h => by
    have ih := ab_ea_lv ad k r
    cases v <;> (simp only [ab_ea, List.cons_append, ab_lv, List.mem_cons] at h; simp only [List.map_cons, lv_args, ab_cv, Value.category, List.mem_cons]; (rcases h with h | h) <;> first | exact Or.inl h | exact Or.inr (ih _ _ h))
set_option maxHeartbeats 1000000 in
theorem ab_intro {l : Launch} {ω : ab_W} {sh : List ab_Sh} {md : ab_Md} {cd : List ab_En} {as : List Value} {μ : ab_M} {QI : Int32 → ab_M → Prop} {QL : Int64 → ab_M → Prop} {QV : ab_M → Prop}
    (hsh : ω.2.2.2 = sh) (hchk : ab_chk md.1.cls md cd = true) (hpl : plainName md.1.cls = true) (h0 : ab_bp cd 0 = 0) (hlen : (ab_ea as).length ≤ md.2.2.1)
    (body : ∀ j : Nat → ab_L → List Value → ab_M → Prop, (∀ i ll st μ, ab_wp l ω sh md.2.2.2.1 cd QI QL QV j i ll st μ → j i ll st μ) → (∀ i ll ll' st μ, ab_le ll' ll → j i ll' st μ → j i ll st μ) → j 0 (ab_ent md.2.2.1 as) [] μ) : ab_Call l ω md as μ QI QL QV := by
  intro sz
  refine Met.ofW (cc := md.2.1) (maxL := md.2.2.1) (ret := md.2.2.2.1) hpl rfl ?_
  intro p e s m args below meth c s₁ B hml hv
  obtain ⟨rfl, hsz, hP, hK, hD0⟩ := hv
  have hx := B.exec
  have hb := B.bytes
  have hr := B.returns
  have hts : ∀ w ∈ ab_T, w.before (as.map (ab_cv ω.1)).toArray s = true := fun w hw => atoms_spec (ws := ab_ws md) B.pre w (List.mem_cons_of_mem _ hw)
  have hown : s.vm.findClass md.1.cls = some m.cls := findClass_of_methodNamed B.named
  have hlocks := B.notSynchronized
  subst hsz
  have hD := hD0.self (sz := s.heap.size)
  generalize hAe : va_A (ab_wl ω μ) s.heap.size = A at hD ⊢
  have hA : ∀ q : Nat, s.heap.size ≤ q → A q := fun q h => by rw [← hAe]; exact Or.inr h
  have hS : va_S A s.heap s.heap [] := va_S.rf
  have hl := lv_entry (as.map (ab_cv ω.1)) (n := md.2.2.1) (by rw [ab_ea_len]; exact hlen)
  rw [lg_entry_eq]
  generalize (lg_sl (as.map (ab_cv ω.1)) ++ List.replicate (md.2.2.1 - (lg_sl (as.map (ab_cv ω.1))).length) Slot.unset).toArray = ls at hl ⊢
  have hl2 : lv_has ls md.2.2.1 (ab_lv ω.1 0 (ab_ent md.2.2.1 as)) := ⟨hl.1, hl.2.1, fun q hq => hl.2.2 q (ab_ea_lv ω.1 _ as 0 q hq)⟩
  have key := body (ab_J p l e (headSpec (ab_ws md) md.2.2.2.2).room s m (as.map (ab_cv ω.1)).toArray below meth c ω A md.2.2.1 cd (MQ below (ab_Qc ω A md.2.2.2.1 QI QL QV) (as.map (ab_cv ω.1)).toArray s 0 0 A))
    (fun i ll st μ h => ab_sound hx hb hml hr hown hts hK hA hlocks hsh (fun pc len ins ts fx k32 k64 cx hn => ?_) h) (fun i ll ll' st μ hle hj => ?_)
  · have hj := key (by simp [ab_ent]; omega) s.heap [] ls hP hD hS hl2
    rw [h0] at hj
    exact hj
  · have hi : i < cd.length := by
      rw [ab_nth_eq] at hn
      exact (List.getElem?_eq_some_iff.mp hn).1
    have h1 := List.all_eq_true.mp hchk i (List.mem_range.mpr hi)
    rw [hn] at h1
    exact h1
  · intro hll H locs ls2 g1 g2 g3 g4
    obtain ⟨e1, e2⟩ := ab_le_at hle
    refine hj (e1.trans hll) H locs ls2 g1 g2 g3 ⟨g4.1, g4.2.1, fun q hq => ?_⟩
    obtain ⟨a, w⟩ := q
    obtain ⟨v, h1, h2⟩ := ab_lv_0.mp hq
    exact g4.2.2 (a, w) (ab_lv_0.mpr ⟨v, e2 a v h1, h2⟩)
theorem ab_Qc_mono {ω : ab_W} {A : Nat → Prop} {QI QI' : Int32 → ab_M → Prop} {QL QL' : Int64 → ab_M → Prop} {QV QV' : ab_M → Prop} (hI : ∀ x μ', QI x μ' → QI' x μ') (hL : ∀ x μ', QL x μ' → QL' x μ') (hV : ∀ μ', QV μ' → QV' μ') (a : Array Value) (st : State) (o : Outcome) (t : State) : ∀ ret : Option FieldType, ab_Qc ω A ret QI QL QV a st o t → ab_Qc ω A ret QI' QL' QV' a st o t := by
  have key : va_Qi QI (ab_B ω A) A a st o t → va_Qi QI' (ab_B ω A) A a st o t := by
    rintro ⟨⟨r, u, b1, b2, b3⟩, b4⟩
    exact ⟨⟨r, u, b1, hI _ _ b2, b3⟩, b4⟩
  intro ret h
  cases ret with
  | none =>
    obtain ⟨⟨u, b1, b2, b3⟩, b4⟩ := h
    exact ⟨⟨u, b1, hV _ b2, b3⟩, b4⟩
  | some ty =>
    cases ty with
    | long =>
      obtain ⟨⟨r, u, b1, b2, b3⟩, b4⟩ := h
      exact ⟨⟨r, u, b1, hL _ _ b2, b3⟩, b4⟩
    | _ => exact key h
theorem ab_mono {l : Launch} {ω : ab_W} {md : ab_Md} {as : List Value} {μ : ab_M} {QI QI' : Int32 → ab_M → Prop} {QL QL' : Int64 → ab_M → Prop} {QV QV' : ab_M → Prop} (h : ab_Call l ω md as μ QI QL QV)
    (hI : ∀ x μ', QI x μ' → QI' x μ') (hL : ∀ x μ', QL x μ' → QL' x μ') (hV : ∀ μ', QV μ' → QV' μ') : ab_Call l ω md as μ QI' QL' QV' := by
  intro sz p e ha hc hk s m args below hf happ hP hK
  obtain ⟨n, o, h1, h2, h3, h4, h5⟩ := h sz p e ha hc hk s m args below hf happ hP hK
  exact ⟨n, o, h1, h2, h3, ab_Qc_mono hI hL hV _ _ _ _ _ h4, h5⟩
theorem ab_monoI {l : Launch} {ω : ab_W} {md : ab_Md} {as : List Value} {μ : ab_M} {Q Q' : Int32 → ab_M → Prop} (h : ab_CI l ω md as μ Q) (hI : ∀ x μ', Q x μ' → Q' x μ') : ab_CI l ω md as μ Q' := ab_mono h hI (fun _ _ h => h) (fun _ h => h)
theorem ab_monoL {l : Launch} {ω : ab_W} {md : ab_Md} {as : List Value} {μ : ab_M} {Q Q' : Int64 → ab_M → Prop} (h : ab_CL l ω md as μ Q) (hI : ∀ x μ', Q x μ' → Q' x μ') : ab_CL l ω md as μ Q' := ab_mono h (fun _ _ h => h) hI (fun _ h => h)
theorem ab_monoV {l : Launch} {ω : ab_W} {md : ab_Md} {as : List Value} {μ : ab_M} {Q Q' : ab_M → Prop} (h : ab_CV l ω md as μ Q) (hI : ∀ μ', Q μ' → Q' μ') : ab_CV l ω md as μ Q' := ab_mono h (fun _ _ h => h) (fun _ _ h => h) hI
end
section
/-! the world: 0 AccessJudge; 1 AccessJudge$Modules; 2 AccessJudge$Types; 3 AccessJudge$Members; 4 AccessJudge$Inheritance; 5 AccessJudge$Overriding; 6 AccessJudge$Openness; 7 AccessJudge$Uses; 8 AccessJudge$Choice; 9 AccessJudge$Faults; 10 Modules.readOnes; 11 Modules.home; 12 Modules.exportedTo; 13 Types.pack; 14 Types.outer; 15 Types.top; 16 Types.access; 17 Types.parent; 18 Types.flags; 19 Types.faces; 20 Types.above; 21 Types.below; 22 Types.around; 23 Types.order; 24 Types.nextOrder; 25 Types.ofPack; 26 Members.declarer; 27 Members.group; 28 Members.access; 29 Members.flags; 30 Members.numbers; 31 Members.declarers; 32 Members.privates; 33 Members.packageOnes; 34 Members.statics; 35 Members.abstracts; 36 Inheritance.found; 37 Overriding.overridden; 38 Overriding.overriders; 39 Faults.codes; 40 Faults.numbers; 41 Faults.methodsOf; 42 Faults.met; 43 AccessJudgeModel; 44 AccessJudgeModel.doesRead; 45 AccessJudgeModel.moduleOf; 46 AccessJudgeModel.isOut; 47 AccessJudgeModel.isOutToAll; 48 AccessJudgeModel.packOf; 49 AccessJudgeModel.outerOf; 50 AccessJudgeModel.sortOf; 51 AccessJudgeModel.accessOf; 52 AccessJudgeModel.flagsOf; 53 AccessJudgeModel.parentOf; 54 AccessJudgeModel.faces; 55 AccessJudgeModel.faceCount; 56 AccessJudgeModel.isAbove; 57 AccessJudgeModel.mType; 58 AccessJudgeModel.mKind; 59 AccessJudgeModel.mName; 60 AccessJudgeModel.mAccess; 61 AccessJudgeModel.mFlags; 62 AccessJudgeModel.isOf; 63 AccessJudgeModel.isDone; 64 AccessJudgeModel.isOver; 65 AccessJudgeModel.comes; 66 AccessJudgeModel.faultCode; 67 AccessJudgeModel.faultOf -/
def ab_SH : List ab_Sh := [.inr (9, [.inl 1, .inl 2, .inl 3, .inl 4, .inl 5, .inl 6, .inl 7, .inl 8, .inl 9]), .inr (4, [.inr 0, .inr 0, .inl 10, .inl 11, .inl 12]), .inr (7, [.inr 0, .inr 1, .inr 1, .inl 13, .inl 14, .inl 15, .inl 16, .inl 17, .inl 18, .inl 19, .inl 20, .inl 21, .inl 22, .inl 23, .inl 24, .inl 25]), .inr (3, [.inl 2, .inr 0, .inl 26, .inl 27, .inl 28, .inl 29, .inl 30, .inl 31, .inl 32, .inl 33, .inl 34, .inl 35]), .inr (2, [.inl 2, .inl 3, .inl 36, .inr 0]), .inr (6, [.inl 2, .inl 3, .inl 37, .inl 38, .inr 0]), .inr (5, [.inl 1, .inl 2, .inl 3]), .inr (8, [.inl 2, .inl 3, .inl 4, .inl 6]), .inr (0, [.inl 2, .inl 3, .inl 5]), .inr (1, [.inl 2, .inl 3, .inl 4, .inl 5, .inl 6, .inr 0, .inl 39, .inl 40, .inl 41, .inl 42]), .inl (0, 6), .inl (0, 10), .inl (0, 10), .inl (0, 40), .inl (0, 40), .inl (0, 40), .inl (0, 40), .inl (0, 40), .inl (0, 40), .inl (1, 40), .inl (1, 40), .inl (1, 40), .inl (1, 40), .inl (0, 40), .inl (0, 40), .inl (1, 10), .inl (0, 120), .inl (0, 120), .inl (0, 120), .inl (0, 120), .inl (0, 1200), .inl (1, 30), .inl (1, 30), .inl (1, 30), .inl (1, 30), .inl (1, 30), .inl (1, 800), .inl (1, 400), .inl (1, 400), .inl (0, 156), .inl (0, 156), .inl (1, 10), .inl (1, 10), .inr (10, [.inr 0, .inl 44, .inr 0, .inl 45, .inl 46, .inl 47, .inr 0, .inl 48, .inl 49, .inl 50, .inl 51, .inl 52, .inl 53, .inl 54, .inl 55, .inl 56, .inr 0, .inl 57, .inl 58, .inl 59, .inl 60, .inl 61, .inr 2, .inl 62, .inl 63, .inl 64, .inl 65, .inl 66, .inl 67, .inr 0]), .inl (2, 36), .inl (0, 10), .inl (2, 60), .inl (2, 10), .inl (0, 40), .inl (0, 40), .inl (0, 40), .inl (0, 40), .inl (0, 40), .inl (0, 40), .inl (0, 160), .inl (0, 40), .inl (2, 1600), .inl (0, 120), .inl (0, 120), .inl (0, 120), .inl (0, 120), .inl (0, 120), .inl (2, 4800), .inl (2, 40), .inl (2, 14400), .inl (2, 120), .inl (0, 600), .inl (0, 600)]
def mJ13_bitCount_95d88 : ab_Md := (yJ13_bitCount_95d88, cJ13_bitCount_95d88, 2, some .int, { frames := 0, cells := 0, slots := 0, locals := 0 })
def kJ13_bitCount_95d88 : List ab_En := [
  (0, 1, .lload_n 0, [], (0, 0, 0), 0, 0, none),
  (1, 1, .lload_n 0, [], (0, 0, 0), 0, 0, none),
  (2, 1, .iconst 1, [], (0, 0, 0), 1, 0, none),
  (3, 1, .lushr, [], (0, 0, 0), 0, 0, none),
  (4, 3, .ldc2_w 314, [], (0, 0, 570), 0, 6148914691236517205, none),
  (7, 1, .land, [], (0, 0, 0), 0, 0, none),
  (8, 1, .lsub, [], (0, 0, 0), 0, 0, none),
  (9, 1, .lstore_n 0, [], (0, 0, 0), 0, 0, none),
  (10, 1, .lload_n 0, [], (0, 0, 0), 0, 0, none),
  (11, 3, .ldc2_w 316, [], (0, 0, 571), 0, 3689348814741910323, none),
  (14, 1, .land, [], (0, 0, 0), 0, 0, none),
  (15, 1, .lload_n 0, [], (0, 0, 0), 0, 0, none),
  (16, 1, .iconst 2, [], (0, 0, 0), 2, 0, none),
  (17, 1, .lushr, [], (0, 0, 0), 0, 0, none),
  (18, 3, .ldc2_w 316, [], (0, 0, 571), 0, 3689348814741910323, none),
  (21, 1, .land, [], (0, 0, 0), 0, 0, none),
  (22, 1, .ladd, [], (0, 0, 0), 0, 0, none),
  (23, 1, .lstore_n 0, [], (0, 0, 0), 0, 0, none),
  (24, 1, .lload_n 0, [], (0, 0, 0), 0, 0, none),
  (25, 1, .lload_n 0, [], (0, 0, 0), 0, 0, none),
  (26, 1, .iconst 4, [], (0, 0, 0), 4, 0, none),
  (27, 1, .lushr, [], (0, 0, 0), 0, 0, none),
  (28, 1, .ladd, [], (0, 0, 0), 0, 0, none),
  (29, 3, .ldc2_w 318, [], (0, 0, 572), 0, 1085102592571150095, none),
  (32, 1, .land, [], (0, 0, 0), 0, 0, none),
  (33, 1, .lstore_n 0, [], (0, 0, 0), 0, 0, none),
  (34, 1, .lload_n 0, [], (0, 0, 0), 0, 0, none),
  (35, 1, .lload_n 0, [], (0, 0, 0), 0, 0, none),
  (36, 2, .bipush 8, [], (0, 0, 0), 8, 0, none),
  (38, 1, .lushr, [], (0, 0, 0), 0, 0, none),
  (39, 1, .ladd, [], (0, 0, 0), 0, 0, none),
  (40, 1, .lstore_n 0, [], (0, 0, 0), 0, 0, none),
  (41, 1, .lload_n 0, [], (0, 0, 0), 0, 0, none),
  (42, 1, .lload_n 0, [], (0, 0, 0), 0, 0, none),
  (43, 2, .bipush 16, [], (0, 0, 0), 16, 0, none),
  (45, 1, .lushr, [], (0, 0, 0), 0, 0, none),
  (46, 1, .ladd, [], (0, 0, 0), 0, 0, none),
  (47, 1, .lstore_n 0, [], (0, 0, 0), 0, 0, none),
  (48, 1, .lload_n 0, [], (0, 0, 0), 0, 0, none),
  (49, 1, .lload_n 0, [], (0, 0, 0), 0, 0, none),
  (50, 2, .bipush 32, [], (0, 0, 0), 32, 0, none),
  (52, 1, .lushr, [], (0, 0, 0), 0, 0, none),
  (53, 1, .ladd, [], (0, 0, 0), 0, 0, none),
  (54, 1, .lstore_n 0, [], (0, 0, 0), 0, 0, none),
  (55, 1, .lload_n 0, [], (0, 0, 0), 0, 0, none),
  (56, 1, .l2i, [], (0, 0, 0), 0, 0, none),
  (57, 2, .bipush 127, [], (0, 0, 0), 127, 0, none),
  (59, 1, .iand, [], (0, 0, 0), 0, 0, none),
  (60, 1, .ireturn, [], (0, 0, 0), 0, 0, none)]
set_option maxRecDepth 100000 in
theorem vJ13_bitCount_95d88 : ab_chk mJ13_bitCount_95d88.1.cls mJ13_bitCount_95d88 kJ13_bitCount_95d88 = true := by decide +kernel
def mX3_overridable : ab_Md := (yX3_overridable, cX3_overridable, 2, some .long, { frames := 0, cells := 0, slots := 0, locals := 0 })
def kX3_overridable : List ab_En := [
  (0, 1, .aload_n 0, [], (0, 0, 0), 0, 0, none),
  (1, 3, .getfield 31, [], (3, 7, 240), 0, 0, none),
  (4, 1, .iload_n 1, [], (0, 0, 0), 0, 0, none),
  (5, 1, .laload, [], (0, 0, 0), 0, 0, none),
  (6, 1, .aload_n 0, [], (0, 0, 0), 0, 0, none),
  (7, 3, .getfield 35, [], (3, 8, 243), 0, 0, none),
  (10, 1, .iload_n 1, [], (0, 0, 0), 0, 0, none),
  (11, 1, .laload, [], (0, 0, 0), 0, 0, none),
  (12, 3, .ldc2_w 64, [], (0, 0, 657), 0, (-1), none),
  (15, 1, .lxor, [], (0, 0, 0), 0, 0, none),
  (16, 1, .land, [], (0, 0, 0), 0, 0, none),
  (17, 1, .aload_n 0, [], (0, 0, 0), 0, 0, none),
  (18, 3, .getfield 41, [], (3, 10, 250), 0, 0, none),
  (21, 1, .iload_n 1, [], (0, 0, 0), 0, 0, none),
  (22, 1, .laload, [], (0, 0, 0), 0, 0, none),
  (23, 3, .ldc2_w 64, [], (0, 0, 657), 0, (-1), none),
  (26, 1, .lxor, [], (0, 0, 0), 0, 0, none),
  (27, 1, .land, [], (0, 0, 0), 0, 0, none),
  (28, 1, .lreturn, [], (0, 0, 0), 0, 0, none)]
set_option maxRecDepth 100000 in
theorem vX3_overridable : ab_chk mX3_overridable.1.cls mX3_overridable kX3_overridable = true := by decide +kernel
def mX7_has : ab_Md := (yX7_has, cX7_has, 3, some .boolean, { frames := 0, cells := 0, slots := 0, locals := 0 })
def kX7_has : List ab_En := [
  (0, 1, .lload_n 0, [], (0, 0, 0), 0, 0, none),
  (1, 1, .iload_n 2, [], (0, 0, 0), 0, 0, none),
  (2, 1, .lushr, [], (0, 0, 0), 0, 0, none),
  (3, 1, .lconst 1, [], (0, 0, 0), 0, 1, none),
  (4, 1, .land, [], (0, 0, 0), 0, 0, none),
  (5, 1, .lconst 0, [], (0, 0, 0), 0, 0, none),
  (6, 1, .lcmp, [], (0, 0, 0), 0, 0, none),
  (7, 3, .ifCond .eq 7, [10], (0, 0, 0), 0, 0, none),
  (10, 1, .iconst 1, [], (0, 0, 0), 1, 0, none),
  (11, 3, .goto 4, [11], (0, 0, 0), 0, 0, none),
  (14, 1, .iconst 0, [], (0, 0, 0), 0, 0, none),
  (15, 1, .ireturn, [], (0, 0, 0), 0, 0, none)]
set_option maxRecDepth 100000 in
theorem vX7_has : ab_chk mX7_has.1.cls mX7_has kX7_has = true := by decide +kernel
def mX7_one : ab_Md := (yX7_one, cX7_one, 1, some .long, { frames := 0, cells := 0, slots := 0, locals := 0 })
def kX7_one : List ab_En := [
  (0, 1, .lconst 1, [], (0, 0, 0), 0, 1, none),
  (1, 1, .iload_n 0, [], (0, 0, 0), 0, 0, none),
  (2, 1, .lshl, [], (0, 0, 0), 0, 0, none),
  (3, 1, .lreturn, [], (0, 0, 0), 0, 0, none)]
set_option maxRecDepth 100000 in
theorem vX7_one : ab_chk mX7_one.1.cls mX7_one kX7_one = true := by decide +kernel
def mX6_clear : ab_Md := (yX6_clear, cX6_clear, 3, none, { frames := 0, cells := 0, slots := 0, locals := 0 })
def kX6_clear : List ab_En := [
  (0, 1, .iconst 0, [], (0, 0, 0), 0, 0, none),
  (1, 1, .istore_n 2, [], (0, 0, 0), 0, 0, none),
  (2, 1, .iload_n 2, [], (0, 0, 0), 0, 0, none),
  (3, 2, .bipush 40, [], (0, 0, 0), 40, 0, none),
  (5, 3, .if_icmp .ge 27, [21], (0, 0, 0), 0, 0, none),
  (8, 1, .aload_n 0, [], (0, 0, 0), 0, 0, none),
  (9, 3, .getfield 9, [], (6, 2, 307), 0, 0, none),
  (12, 1, .iload_n 1, [], (0, 0, 0), 0, 0, none),
  (13, 1, .iload_n 2, [], (0, 0, 0), 0, 0, none),
  (14, 1, .iadd, [], (0, 0, 0), 0, 0, none),
  (15, 1, .lconst 0, [], (0, 0, 0), 0, 0, none),
  (16, 1, .lastore, [], (0, 0, 0), 0, 0, none),
  (17, 1, .aload_n 0, [], (0, 0, 0), 0, 0, none),
  (18, 3, .getfield 15, [], (6, 3, 308), 0, 0, none),
  (21, 1, .iload_n 1, [], (0, 0, 0), 0, 0, none),
  (22, 1, .iload_n 2, [], (0, 0, 0), 0, 0, none),
  (23, 1, .iadd, [], (0, 0, 0), 0, 0, none),
  (24, 1, .lconst 0, [], (0, 0, 0), 0, 0, none),
  (25, 1, .lastore, [], (0, 0, 0), 0, 0, none),
  (26, 3, .iinc 2 1, [], (0, 0, 0), 1, 0, none),
  (29, 3, .goto (-27), [2], (0, 0, 0), 0, 0, none),
  (32, 1, .return_, [], (0, 0, 0), 0, 0, none)]
set_option maxRecDepth 100000 in
theorem vX6_clear : ab_chk mX6_clear.1.cls mX6_clear kX6_clear = true := by decide +kernel
def mX6_reaches : ab_Md := (yX6_reaches, cX6_reaches, 7, some .boolean, { frames := 1, cells := 0, slots := 0, locals := 22 })
def kX6_reaches : List ab_En := [
  (0, 1, .aload_n 0, [], (0, 0, 0), 0, 0, none),
  (1, 3, .getfield 9, [], (6, 2, 307), 0, 0, none),
  (4, 2, .iload 4, [], (0, 0, 0), 0, 0, none),
  (6, 1, .iload_n 1, [], (0, 0, 0), 0, 0, none),
  (7, 1, .iadd, [], (0, 0, 0), 0, 0, none),
  (8, 1, .laload, [], (0, 0, 0), 0, 0, none),
  (9, 1, .aload_n 0, [], (0, 0, 0), 0, 0, none),
  (10, 3, .getfield 15, [], (6, 3, 308), 0, 0, none),
  (13, 2, .iload 4, [], (0, 0, 0), 0, 0, none),
  (15, 1, .iload_n 2, [], (0, 0, 0), 0, 0, none),
  (16, 1, .iadd, [], (0, 0, 0), 0, 0, none),
  (17, 1, .laload, [], (0, 0, 0), 0, 0, none),
  (18, 1, .land, [], (0, 0, 0), 0, 0, none),
  (19, 1, .aload_n 0, [], (0, 0, 0), 0, 0, none),
  (20, 3, .getfield 18, [], (6, 0, 305), 0, 0, none),
  (23, 3, .getfield 83, [], (7, 1, 136), 0, 0, none),
  (26, 1, .land, [], (0, 0, 0), 0, 0, none),
  (27, 2, .lstore 5, [], (0, 0, 0), 0, 0, none),
  (29, 1, .aload_n 0, [], (0, 0, 0), 0, 0, none),
  (30, 3, .getfield 22, [], (6, 1, 306), 0, 0, none),
  (33, 3, .getfield 87, [], (3, 9, 249), 0, 0, none),
  (36, 1, .iload_n 3, [], (0, 0, 0), 0, 0, none),
  (37, 1, .laload, [], (0, 0, 0), 0, 0, none),
  (38, 1, .iload_n 2, [], (0, 0, 0), 0, 0, none),
  (39, 3, .invokestatic 43, [797, 70, 504, 503], (0, 0, 0), 0, 0, some (mX7_has, 2)),
  (42, 3, .ifCond .eq 31, [41], (0, 0, 0), 0, 0, none),
  (45, 1, .aload_n 0, [], (0, 0, 0), 0, 0, none),
  (46, 3, .getfield 18, [], (6, 0, 305), 0, 0, none),
  (49, 3, .getfield 90, [], (7, 3, 141), 0, 0, none),
  (52, 1, .iload_n 1, [], (0, 0, 0), 0, 0, none),
  (53, 1, .iaload, [], (0, 0, 0), 0, 0, none),
  (54, 1, .aload_n 0, [], (0, 0, 0), 0, 0, none),
  (55, 3, .getfield 18, [], (6, 0, 305), 0, 0, none),
  (58, 3, .getfield 90, [], (7, 3, 141), 0, 0, none),
  (61, 1, .iload_n 2, [], (0, 0, 0), 0, 0, none),
  (62, 1, .iaload, [], (0, 0, 0), 0, 0, none),
  (63, 3, .if_icmp .eq 10, [41], (0, 0, 0), 0, 0, none),
  (66, 2, .lload 5, [], (0, 0, 0), 0, 0, none),
  (68, 1, .lconst 0, [], (0, 0, 0), 0, 0, none),
  (69, 1, .lcmp, [], (0, 0, 0), 0, 0, none),
  (70, 3, .ifCond .eq 7, [43], (0, 0, 0), 0, 0, none),
  (73, 1, .iconst 1, [], (0, 0, 0), 1, 0, none),
  (74, 3, .goto 4, [44], (0, 0, 0), 0, 0, none),
  (77, 1, .iconst 0, [], (0, 0, 0), 0, 0, none),
  (78, 1, .ireturn, [], (0, 0, 0), 0, 0, none)]
set_option maxRecDepth 100000 in
theorem vX6_reaches : ab_chk mX6_reaches.1.cls mX6_reaches kX6_reaches = true := by decide +kernel
def mX6_findOverridden : ab_Md := (yX6_findOverridden, cX6_findOverridden, 11, none, { frames := 2, cells := 0, slots := 0, locals := 48 })
def kX6_findOverridden : List ab_En := [
  (0, 1, .aload_n 0, [], (0, 0, 0), 0, 0, none),
  (1, 3, .getfield 18, [], (6, 0, 305), 0, 0, none),
  (4, 3, .getfield 70, [], (7, 13, 174), 0, 0, none),
  (7, 1, .iload_n 1, [], (0, 0, 0), 0, 0, none),
  (8, 1, .iaload, [], (0, 0, 0), 0, 0, none),
  (9, 2, .istore 6, [], (0, 0, 0), 0, 0, none),
  (11, 1, .lload_n 2, [], (0, 0, 0), 0, 0, none),
  (12, 2, .iload 6, [], (0, 0, 0), 0, 0, none),
  (14, 3, .invokestatic 43, [797, 70, 504, 503], (0, 0, 0), 0, 0, some (mX7_has, 2)),
  (17, 3, .ifCond .eq 18, [18], (0, 0, 0), 0, 0, none),
  (20, 1, .lload_n 2, [], (0, 0, 0), 0, 0, none),
  (21, 1, .aload_n 0, [], (0, 0, 0), 0, 0, none),
  (22, 3, .getfield 18, [], (6, 0, 305), 0, 0, none),
  (25, 3, .getfield 73, [], (7, 10, 165), 0, 0, none),
  (28, 2, .iload 6, [], (0, 0, 0), 0, 0, none),
  (30, 1, .laload, [], (0, 0, 0), 0, 0, none),
  (31, 1, .land, [], (0, 0, 0), 0, 0, none),
  (32, 3, .goto 4, [19], (0, 0, 0), 0, 0, none),
  (35, 1, .lconst 0, [], (0, 0, 0), 0, 0, none),
  (36, 2, .lstore 7, [], (0, 0, 0), 0, 0, none),
  (38, 1, .iload_n 1, [], (0, 0, 0), 0, 0, none),
  (39, 1, .iconst 1, [], (0, 0, 0), 1, 0, none),
  (40, 1, .isub, [], (0, 0, 0), 0, 0, none),
  (41, 2, .istore 9, [], (0, 0, 0), 0, 0, none),
  (43, 2, .iload 9, [], (0, 0, 0), 0, 0, none),
  (45, 3, .ifCond .lt 89, [71], (0, 0, 0), 0, 0, none),
  (48, 2, .lload 7, [], (0, 0, 0), 0, 0, none),
  (50, 1, .lconst 0, [], (0, 0, 0), 0, 0, none),
  (51, 1, .lcmp, [], (0, 0, 0), 0, 0, none),
  (52, 3, .ifCond .eq 82, [71], (0, 0, 0), 0, 0, none),
  (55, 1, .aload_n 0, [], (0, 0, 0), 0, 0, none),
  (56, 3, .getfield 18, [], (6, 0, 305), 0, 0, none),
  (59, 3, .getfield 70, [], (7, 13, 174), 0, 0, none),
  (62, 2, .iload 9, [], (0, 0, 0), 0, 0, none),
  (64, 1, .iaload, [], (0, 0, 0), 0, 0, none),
  (65, 2, .istore 10, [], (0, 0, 0), 0, 0, none),
  (67, 2, .lload 7, [], (0, 0, 0), 0, 0, none),
  (69, 2, .iload 10, [], (0, 0, 0), 0, 0, none),
  (71, 3, .invokestatic 43, [797, 70, 504, 503], (0, 0, 0), 0, 0, some (mX7_has, 2)),
  (74, 3, .ifCond .eq 54, [69], (0, 0, 0), 0, 0, none),
  (77, 1, .aload_n 0, [], (0, 0, 0), 0, 0, none),
  (78, 2, .iload 6, [], (0, 0, 0), 0, 0, none),
  (80, 2, .iload 10, [], (0, 0, 0), 0, 0, none),
  (82, 2, .iload 4, [], (0, 0, 0), 0, 0, none),
  (84, 2, .iload 5, [], (0, 0, 0), 0, 0, none),
  (86, 3, .invokevirtual 76, [798, 74, 801, 800, 19], (6, 0, 0), 0, 0, some (mX6_reaches, 4)),
  (89, 3, .ifCond .eq 39, [69], (0, 0, 0), 0, 0, none),
  (92, 1, .aload_n 0, [], (0, 0, 0), 0, 0, none),
  (93, 3, .getfield 9, [], (6, 2, 307), 0, 0, none),
  (96, 2, .iload 5, [], (0, 0, 0), 0, 0, none),
  (98, 2, .iload 6, [], (0, 0, 0), 0, 0, none),
  (100, 1, .iadd, [], (0, 0, 0), 0, 0, none),
  (101, 1, .dup2, [], (0, 0, 0), 0, 0, none),
  (102, 1, .laload, [], (0, 0, 0), 0, 0, none),
  (103, 2, .iload 10, [], (0, 0, 0), 0, 0, none),
  (105, 3, .invokestatic 80, [802, 70, 123, 122], (0, 0, 0), 0, 0, some (mX7_one, 1)),
  (108, 1, .lor, [], (0, 0, 0), 0, 0, none),
  (109, 1, .lastore, [], (0, 0, 0), 0, 0, none),
  (110, 1, .aload_n 0, [], (0, 0, 0), 0, 0, none),
  (111, 3, .getfield 15, [], (6, 3, 308), 0, 0, none),
  (114, 2, .iload 5, [], (0, 0, 0), 0, 0, none),
  (116, 2, .iload 10, [], (0, 0, 0), 0, 0, none),
  (118, 1, .iadd, [], (0, 0, 0), 0, 0, none),
  (119, 1, .dup2, [], (0, 0, 0), 0, 0, none),
  (120, 1, .laload, [], (0, 0, 0), 0, 0, none),
  (121, 2, .iload 6, [], (0, 0, 0), 0, 0, none),
  (123, 3, .invokestatic 80, [802, 70, 123, 122], (0, 0, 0), 0, 0, some (mX7_one, 1)),
  (126, 1, .lor, [], (0, 0, 0), 0, 0, none),
  (127, 1, .lastore, [], (0, 0, 0), 0, 0, none),
  (128, 3, .iinc 9 (-1), [], (0, 0, 0), (-1), 0, none),
  (131, 3, .goto (-88), [24], (0, 0, 0), 0, 0, none),
  (134, 1, .return_, [], (0, 0, 0), 0, 0, none)]
set_option maxRecDepth 100000 in
theorem vX6_findOverridden : ab_chk mX6_findOverridden.1.cls mX6_findOverridden kX6_findOverridden = true := by decide +kernel
def mX6_knownRow : ab_Md := (yX6_knownRow, cX6_knownRow, 7, some .int, { frames := 3, cells := 0, slots := 0, locals := 78 })
def kX6_knownRow : List ab_En := [
  (0, 1, .iload_n 1, [], (0, 0, 0), 0, 0, none),
  (1, 2, .bipush 10, [], (0, 0, 0), 10, 0, none),
  (3, 1, .isub, [], (0, 0, 0), 0, 0, none),
  (4, 1, .istore_n 2, [], (0, 0, 0), 0, 0, none),
  (5, 1, .iload_n 2, [], (0, 0, 0), 0, 0, none),
  (6, 2, .bipush 40, [], (0, 0, 0), 40, 0, none),
  (8, 1, .imul, [], (0, 0, 0), 0, 0, none),
  (9, 1, .istore_n 3, [], (0, 0, 0), 0, 0, none),
  (10, 1, .aload_n 0, [], (0, 0, 0), 0, 0, none),
  (11, 3, .getfield 26, [], (6, 4, 309), 0, 0, none),
  (14, 1, .iload_n 2, [], (0, 0, 0), 0, 0, none),
  (15, 1, .ishr, [], (0, 0, 0), 0, 0, none),
  (16, 1, .iconst 1, [], (0, 0, 0), 1, 0, none),
  (17, 1, .iand, [], (0, 0, 0), 0, 0, none),
  (18, 3, .ifCond .ne 61, [46], (0, 0, 0), 0, 0, none),
  (21, 1, .aload_n 0, [], (0, 0, 0), 0, 0, none),
  (22, 1, .iload_n 3, [], (0, 0, 0), 0, 0, none),
  (23, 3, .invokevirtual 53, [788, 74, 791, 790, 17], (6, 0, 0), 0, 0, some (mX6_clear, 1)),
  (26, 1, .aload_n 0, [], (0, 0, 0), 0, 0, none),
  (27, 3, .getfield 22, [], (6, 1, 306), 0, 0, none),
  (30, 1, .iload_n 1, [], (0, 0, 0), 0, 0, none),
  (31, 3, .invokevirtual 57, [792, 71, 656, 654, 655], (3, 0, 0), 0, 0, some (mX3_overridable, 1)),
  (34, 2, .lstore 4, [], (0, 0, 0), 0, 0, none),
  (36, 1, .iconst 0, [], (0, 0, 0), 0, 0, none),
  (37, 2, .istore 6, [], (0, 0, 0), 0, 0, none),
  (39, 2, .iload 6, [], (0, 0, 0), 0, 0, none),
  (41, 1, .aload_n 0, [], (0, 0, 0), 0, 0, none),
  (42, 3, .getfield 18, [], (6, 0, 305), 0, 0, none),
  (45, 3, .getfield 61, [], (7, 0, 129), 0, 0, none),
  (48, 3, .if_icmp .ge 19, [38], (0, 0, 0), 0, 0, none),
  (51, 1, .aload_n 0, [], (0, 0, 0), 0, 0, none),
  (52, 2, .iload 6, [], (0, 0, 0), 0, 0, none),
  (54, 2, .lload 4, [], (0, 0, 0), 0, 0, none),
  (56, 1, .iload_n 1, [], (0, 0, 0), 0, 0, none),
  (57, 1, .iload_n 3, [], (0, 0, 0), 0, 0, none),
  (58, 3, .invokevirtual 66, [793, 74, 796, 795, 18], (6, 0, 0), 0, 0, some (mX6_findOverridden, 4)),
  (61, 3, .iinc 6 1, [], (0, 0, 0), 1, 0, none),
  (64, 3, .goto (-25), [25], (0, 0, 0), 0, 0, none),
  (67, 1, .aload_n 0, [], (0, 0, 0), 0, 0, none),
  (68, 1, .dup, [], (0, 0, 0), 0, 0, none),
  (69, 3, .getfield 26, [], (6, 4, 309), 0, 0, none),
  (72, 1, .iconst 1, [], (0, 0, 0), 1, 0, none),
  (73, 1, .iload_n 2, [], (0, 0, 0), 0, 0, none),
  (74, 1, .ishl, [], (0, 0, 0), 0, 0, none),
  (75, 1, .ior, [], (0, 0, 0), 0, 0, none),
  (76, 3, .putfield 26, [0], (6, 4, 309), 0, 0, none),
  (79, 1, .iload_n 3, [], (0, 0, 0), 0, 0, none),
  (80, 1, .ireturn, [], (0, 0, 0), 0, 0, none)]
set_option maxRecDepth 100000 in
theorem vX6_knownRow : ab_chk mX6_knownRow.1.cls mX6_knownRow kX6_knownRow = true := by decide +kernel
def mX6_overridersOf : ab_Md := (yX6_overridersOf, cX6_overridersOf, 3, some .long, { frames := 4, cells := 0, slots := 0, locals := 104 })
def kX6_overridersOf : List ab_En := [
  (0, 1, .aload_n 0, [], (0, 0, 0), 0, 0, none),
  (1, 3, .getfield 15, [], (6, 3, 308), 0, 0, none),
  (4, 1, .aload_n 0, [], (0, 0, 0), 0, 0, none),
  (5, 1, .iload_n 2, [], (0, 0, 0), 0, 0, none),
  (6, 3, .invokevirtual 49, [784, 74, 787, 786, 16], (6, 0, 0), 0, 0, some (mX6_knownRow, 1)),
  (9, 1, .iload_n 1, [], (0, 0, 0), 0, 0, none),
  (10, 1, .iadd, [], (0, 0, 0), 0, 0, none),
  (11, 1, .laload, [], (0, 0, 0), 0, 0, none),
  (12, 1, .lreturn, [], (0, 0, 0), 0, 0, none)]
set_option maxRecDepth 100000 in
theorem vX6_overridersOf : ab_chk mX6_overridersOf.1.cls mX6_overridersOf kX6_overridersOf = true := by decide +kernel
def mX8_isClass : ab_Md := (yX8_isClass, cX8_isClass, 2, some .boolean, { frames := 1, cells := 0, slots := 0, locals := 22 })
def kX8_isClass : List ab_En := [
  (0, 1, .aload_n 0, [], (0, 0, 0), 0, 0, none),
  (1, 3, .getfield 21, [], (7, 1, 131), 0, 0, none),
  (4, 1, .iload_n 1, [], (0, 0, 0), 0, 0, none),
  (5, 3, .invokestatic 66, [502, 70, 504, 503], (0, 0, 0), 0, 0, some (mX7_has, 2)),
  (8, 1, .ireturn, [], (0, 0, 0), 0, 0, none)]
set_option maxRecDepth 100000 in
theorem vX8_isClass : ab_chk mX8_isClass.1.cls mX8_isClass kX8_isClass = true := by decide +kernel
def mX0_nearestClass : ab_Md := (yX0_nearestClass, cX0_nearestClass, 6, some .int, { frames := 1, cells := 0, slots := 0, locals := 22 })
def kX0_nearestClass : List ab_En := [
  (0, 1, .iload_n 1, [], (0, 0, 0), 0, 0, none),
  (1, 2, .istore 4, [], (0, 0, 0), 0, 0, none),
  (3, 1, .iconst 0, [], (0, 0, 0), 0, 0, none),
  (4, 2, .istore 5, [], (0, 0, 0), 0, 0, none),
  (6, 2, .iload 5, [], (0, 0, 0), 0, 0, none),
  (8, 2, .bipush 40, [], (0, 0, 0), 40, 0, none),
  (10, 3, .if_icmp .ge 39, [24], (0, 0, 0), 0, 0, none),
  (13, 2, .iload 4, [], (0, 0, 0), 0, 0, none),
  (15, 1, .iconst (-1), [], (0, 0, 0), (-1), 0, none),
  (16, 3, .if_icmp .eq 33, [24], (0, 0, 0), 0, 0, none),
  (19, 1, .lload_n 2, [], (0, 0, 0), 0, 0, none),
  (20, 2, .iload 4, [], (0, 0, 0), 0, 0, none),
  (22, 3, .invokestatic 36, [813, 70, 504, 503], (0, 0, 0), 0, 0, some (mX7_has, 2)),
  (25, 3, .ifCond .eq 6, [16], (0, 0, 0), 0, 0, none),
  (28, 2, .iload 4, [], (0, 0, 0), 0, 0, none),
  (30, 1, .ireturn, [], (0, 0, 0), 0, 0, none),
  (31, 1, .aload_n 0, [], (0, 0, 0), 0, 0, none),
  (32, 3, .getfield 9, [], (0, 0, 362), 0, 0, none),
  (35, 3, .getfield 68, [], (7, 7, 153), 0, 0, none),
  (38, 2, .iload 4, [], (0, 0, 0), 0, 0, none),
  (40, 1, .iaload, [], (0, 0, 0), 0, 0, none),
  (41, 2, .istore 4, [], (0, 0, 0), 0, 0, none),
  (43, 3, .iinc 5 1, [], (0, 0, 0), 1, 0, none),
  (46, 3, .goto (-40), [4], (0, 0, 0), 0, 0, none),
  (49, 1, .iconst (-1), [], (0, 0, 0), (-1), 0, none),
  (50, 1, .ireturn, [], (0, 0, 0), 0, 0, none)]
set_option maxRecDepth 100000 in
theorem vX0_nearestClass : ab_chk mX0_nearestClass.1.cls mX0_nearestClass kX0_nearestClass = true := by decide +kernel
def mX3_declared : ab_Md := (yX3_declared, cX3_declared, 3, some .int, { frames := 0, cells := 0, slots := 0, locals := 0 })
def kX3_declared : List ab_En := [
  (0, 1, .aload_n 0, [], (0, 0, 0), 0, 0, none),
  (1, 3, .getfield 28, [], (3, 6, 239), 0, 0, none),
  (4, 1, .iload_n 2, [], (0, 0, 0), 0, 0, none),
  (5, 2, .bipush 40, [], (0, 0, 0), 40, 0, none),
  (7, 1, .imul, [], (0, 0, 0), 0, 0, none),
  (8, 1, .iload_n 1, [], (0, 0, 0), 0, 0, none),
  (9, 1, .iadd, [], (0, 0, 0), 0, 0, none),
  (10, 1, .iaload, [], (0, 0, 0), 0, 0, none),
  (11, 1, .ireturn, [], (0, 0, 0), 0, 0, none)]
set_option maxRecDepth 100000 in
theorem vX3_declared : ab_chk mX3_declared.1.cls mX3_declared kX3_declared = true := by decide +kernel
def mX8_withoutAnyBelow : ab_Md := (yX8_withoutAnyBelow, cX8_withoutAnyBelow, 8, some .long, { frames := 0, cells := 0, slots := 0, locals := 0 })
def kX8_withoutAnyBelow : List ab_En := [
  (0, 1, .lconst 0, [], (0, 0, 0), 0, 0, none),
  (1, 2, .lstore 5, [], (0, 0, 0), 0, 0, none),
  (3, 1, .iconst 0, [], (0, 0, 0), 0, 0, none),
  (4, 2, .istore 7, [], (0, 0, 0), 0, 0, none),
  (6, 2, .iload 7, [], (0, 0, 0), 0, 0, none),
  (8, 1, .aload_n 0, [], (0, 0, 0), 0, 0, none),
  (9, 3, .getfield 9, [], (7, 0, 124), 0, 0, none),
  (12, 3, .if_icmp .ge 36, [27], (0, 0, 0), 0, 0, none),
  (15, 2, .lload 5, [], (0, 0, 0), 0, 0, none),
  (17, 1, .lload_n 3, [], (0, 0, 0), 0, 0, none),
  (18, 2, .iload 7, [], (0, 0, 0), 0, 0, none),
  (20, 1, .lushr, [], (0, 0, 0), 0, 0, none),
  (21, 1, .lconst 1, [], (0, 0, 0), 0, 1, none),
  (22, 1, .land, [], (0, 0, 0), 0, 0, none),
  (23, 1, .lconst 0, [], (0, 0, 0), 0, 0, none),
  (24, 1, .lcmp, [], (0, 0, 0), 0, 0, none),
  (25, 3, .ifCond .eq 13, [22], (0, 0, 0), 0, 0, none),
  (28, 1, .aload_n 0, [], (0, 0, 0), 0, 0, none),
  (29, 3, .getfield 48, [], (7, 10, 162), 0, 0, none),
  (32, 2, .iload 7, [], (0, 0, 0), 0, 0, none),
  (34, 1, .laload, [], (0, 0, 0), 0, 0, none),
  (35, 3, .goto 4, [23], (0, 0, 0), 0, 0, none),
  (38, 1, .lconst 0, [], (0, 0, 0), 0, 0, none),
  (39, 1, .lor, [], (0, 0, 0), 0, 0, none),
  (40, 2, .lstore 5, [], (0, 0, 0), 0, 0, none),
  (42, 3, .iinc 7 1, [], (0, 0, 0), 1, 0, none),
  (45, 3, .goto (-39), [4], (0, 0, 0), 0, 0, none),
  (48, 1, .lload_n 1, [], (0, 0, 0), 0, 0, none),
  (49, 2, .lload 5, [], (0, 0, 0), 0, 0, none),
  (51, 3, .ldc2_w 109, [], (0, 0, 662), 0, (-1), none),
  (54, 1, .lxor, [], (0, 0, 0), 0, 0, none),
  (55, 1, .land, [], (0, 0, 0), 0, 0, none),
  (56, 1, .lreturn, [], (0, 0, 0), 0, 0, none)]
set_option maxRecDepth 100000 in
theorem vX8_withoutAnyBelow : ab_chk mX8_withoutAnyBelow.1.cls mX8_withoutAnyBelow kX8_withoutAnyBelow = true := by decide +kernel
def mX7_least : ab_Md := (yX7_least, cX7_least, 2, some .int, { frames := 1, cells := 0, slots := 0, locals := 21 })
def kX7_least : List ab_En := [
  (0, 1, .lload_n 0, [], (0, 0, 0), 0, 0, none),
  (1, 1, .lload_n 0, [], (0, 0, 0), 0, 0, none),
  (2, 1, .lneg, [], (0, 0, 0), 0, 0, none),
  (3, 1, .land, [], (0, 0, 0), 0, 0, none),
  (4, 1, .lconst 1, [], (0, 0, 0), 0, 1, none),
  (5, 1, .lsub, [], (0, 0, 0), 0, 0, none),
  (6, 3, .invokestatic 7, [644, 81, 569, 568], (0, 0, 0), 0, 0, some (mJ13_bitCount_95d88, 1)),
  (9, 1, .ireturn, [], (0, 0, 0), 0, 0, none)]
set_option maxRecDepth 100000 in
theorem vX7_least : ab_chk mX7_least.1.cls mX7_least kX7_least = true := by decide +kernel
def mX0_fromInterfaces : ab_Md := (yX0_fromInterfaces, cX0_fromInterfaces, 7, some .int, { frames := 2, cells := 0, slots := 0, locals := 42 })
def kX0_fromInterfaces : List ab_En := [
  (0, 1, .aload_n 0, [], (0, 0, 0), 0, 0, none),
  (1, 3, .getfield 9, [], (0, 0, 362), 0, 0, none),
  (4, 3, .getfield 71, [], (7, 10, 164), 0, 0, none),
  (7, 1, .iload_n 1, [], (0, 0, 0), 0, 0, none),
  (8, 1, .laload, [], (0, 0, 0), 0, 0, none),
  (9, 1, .aload_n 0, [], (0, 0, 0), 0, 0, none),
  (10, 3, .getfield 9, [], (0, 0, 362), 0, 0, none),
  (13, 3, .getfield 75, [], (7, 1, 134), 0, 0, none),
  (16, 3, .ldc2_w 79, [], (0, 0, 829), 0, (-1), none),
  (19, 1, .lxor, [], (0, 0, 0), 0, 0, none),
  (20, 1, .land, [], (0, 0, 0), 0, 0, none),
  (21, 1, .aload_n 0, [], (0, 0, 0), 0, 0, none),
  (22, 3, .getfield 15, [], (0, 1, 363), 0, 0, none),
  (25, 1, .iload_n 2, [], (0, 0, 0), 0, 0, none),
  (26, 3, .invokevirtual 32, [812, 71, 656, 654, 655], (3, 0, 0), 0, 0, some (mX3_overridable, 1)),
  (29, 1, .land, [], (0, 0, 0), 0, 0, none),
  (30, 1, .lstore_n 3, [], (0, 0, 0), 0, 0, none),
  (31, 1, .aload_n 0, [], (0, 0, 0), 0, 0, none),
  (32, 3, .getfield 9, [], (0, 0, 362), 0, 0, none),
  (35, 1, .lload_n 3, [], (0, 0, 0), 0, 0, none),
  (36, 1, .lload_n 3, [], (0, 0, 0), 0, 0, none),
  (37, 3, .invokevirtual 81, [830, 69, 661, 659, 660], (7, 0, 0), 0, 0, some (mX8_withoutAnyBelow, 2)),
  (40, 1, .aload_n 0, [], (0, 0, 0), 0, 0, none),
  (41, 3, .getfield 15, [], (0, 1, 363), 0, 0, none),
  (44, 3, .getfield 85, [], (3, 11, 253), 0, 0, none),
  (47, 1, .iload_n 2, [], (0, 0, 0), 0, 0, none),
  (48, 1, .laload, [], (0, 0, 0), 0, 0, none),
  (49, 3, .ldc2_w 79, [], (0, 0, 829), 0, (-1), none),
  (52, 1, .lxor, [], (0, 0, 0), 0, 0, none),
  (53, 1, .land, [], (0, 0, 0), 0, 0, none),
  (54, 2, .lstore 5, [], (0, 0, 0), 0, 0, none),
  (56, 2, .lload 5, [], (0, 0, 0), 0, 0, none),
  (58, 1, .lconst 0, [], (0, 0, 0), 0, 0, none),
  (59, 1, .lcmp, [], (0, 0, 0), 0, 0, none),
  (60, 3, .ifCond .ne 6, [37], (0, 0, 0), 0, 0, none),
  (63, 2, .bipush (-2), [], (0, 0, 0), (-2), 0, none),
  (65, 1, .ireturn, [], (0, 0, 0), 0, 0, none),
  (66, 2, .lload 5, [], (0, 0, 0), 0, 0, none),
  (68, 3, .invokestatic 88, [831, 81, 569, 568], (0, 0, 0), 0, 0, some (mJ13_bitCount_95d88, 1)),
  (71, 1, .iconst 1, [], (0, 0, 0), 1, 0, none),
  (72, 3, .if_icmp .le 8, [43], (0, 0, 0), 0, 0, none),
  (75, 2, .bipush (-3), [], (0, 0, 0), (-3), 0, none),
  (77, 3, .goto 16, [49], (0, 0, 0), 0, 0, none),
  (80, 1, .aload_n 0, [], (0, 0, 0), 0, 0, none),
  (81, 3, .getfield 15, [], (0, 1, 363), 0, 0, none),
  (84, 2, .lload 5, [], (0, 0, 0), 0, 0, none),
  (86, 3, .invokestatic 94, [832, 70, 643, 642], (0, 0, 0), 0, 0, some (mX7_least, 1)),
  (89, 1, .iload_n 2, [], (0, 0, 0), 0, 0, none),
  (90, 3, .invokevirtual 61, [824, 71, 597, 595, 596], (3, 0, 0), 0, 0, some (mX3_declared, 2)),
  (93, 1, .ireturn, [], (0, 0, 0), 0, 0, none)]
set_option maxRecDepth 100000 in
theorem vX0_fromInterfaces : ab_chk mX0_fromInterfaces.1.cls mX0_fromInterfaces kX0_fromInterfaces = true := by decide +kernel
def mX0_chosen : ab_Md := (yX0_chosen, cX0_chosen, 8, some .int, { frames := 5, cells := 0, slots := 0, locals := 126 })
def kX0_chosen : List ab_En := [
  (0, 1, .aload_n 0, [], (0, 0, 0), 0, 0, none),
  (1, 3, .getfield 15, [], (0, 1, 363), 0, 0, none),
  (4, 3, .getfield 23, [], (3, 3, 231), 0, 0, none),
  (7, 1, .iload_n 1, [], (0, 0, 0), 0, 0, none),
  (8, 1, .iaload, [], (0, 0, 0), 0, 0, none),
  (9, 1, .istore_n 3, [], (0, 0, 0), 0, 0, none),
  (10, 1, .aload_n 0, [], (0, 0, 0), 0, 0, none),
  (11, 3, .getfield 15, [], (0, 1, 363), 0, 0, none),
  (14, 3, .getfield 29, [], (3, 2, 225), 0, 0, none),
  (17, 1, .iload_n 1, [], (0, 0, 0), 0, 0, none),
  (18, 1, .iaload, [], (0, 0, 0), 0, 0, none),
  (19, 2, .istore 4, [], (0, 0, 0), 0, 0, none),
  (21, 1, .aload_n 0, [], (0, 0, 0), 0, 0, none),
  (22, 3, .getfield 15, [], (0, 1, 363), 0, 0, none),
  (25, 1, .iload_n 3, [], (0, 0, 0), 0, 0, none),
  (26, 3, .invokevirtual 32, [812, 71, 656, 654, 655], (3, 0, 0), 0, 0, some (mX3_overridable, 1)),
  (29, 2, .iload 4, [], (0, 0, 0), 0, 0, none),
  (31, 3, .invokestatic 36, [813, 70, 504, 503], (0, 0, 0), 0, 0, some (mX7_has, 2)),
  (34, 3, .ifCond .ne 5, [21], (0, 0, 0), 0, 0, none),
  (37, 1, .iload_n 1, [], (0, 0, 0), 0, 0, none),
  (38, 1, .ireturn, [], (0, 0, 0), 0, 0, none),
  (39, 2, .iload 4, [], (0, 0, 0), 0, 0, none),
  (41, 3, .invokestatic 42, [814, 70, 123, 122], (0, 0, 0), 0, 0, some (mX7_one, 1)),
  (44, 1, .aload_n 0, [], (0, 0, 0), 0, 0, none),
  (45, 3, .getfield 19, [], (0, 2, 364), 0, 0, none),
  (48, 2, .iload 4, [], (0, 0, 0), 0, 0, none),
  (50, 1, .iload_n 3, [], (0, 0, 0), 0, 0, none),
  (51, 3, .invokevirtual 45, [815, 74, 818, 816, 817], (6, 0, 0), 0, 0, some (mX6_overridersOf, 2)),
  (54, 1, .lor, [], (0, 0, 0), 0, 0, none),
  (55, 2, .lstore 5, [], (0, 0, 0), 0, 0, none),
  (57, 1, .aload_n 0, [], (0, 0, 0), 0, 0, none),
  (58, 3, .getfield 9, [], (0, 0, 362), 0, 0, none),
  (61, 2, .iload 4, [], (0, 0, 0), 0, 0, none),
  (63, 3, .invokevirtual 51, [819, 69, 501, 499, 500], (7, 0, 0), 0, 0, some (mX8_isClass, 1)),
  (66, 3, .ifCond .ne 16, [42], (0, 0, 0), 0, 0, none),
  (69, 2, .lload 5, [], (0, 0, 0), 0, 0, none),
  (71, 1, .aload_n 0, [], (0, 0, 0), 0, 0, none),
  (72, 3, .getfield 15, [], (0, 1, 363), 0, 0, none),
  (75, 1, .iload_n 3, [], (0, 0, 0), 0, 0, none),
  (76, 3, .invokevirtual 32, [812, 71, 656, 654, 655], (3, 0, 0), 0, 0, some (mX3_overridable, 1)),
  (79, 1, .lor, [], (0, 0, 0), 0, 0, none),
  (80, 2, .lstore 5, [], (0, 0, 0), 0, 0, none),
  (82, 1, .aload_n 0, [], (0, 0, 0), 0, 0, none),
  (83, 1, .iload_n 2, [], (0, 0, 0), 0, 0, none),
  (84, 2, .lload 5, [], (0, 0, 0), 0, 0, none),
  (86, 3, .invokevirtual 57, [820, 77, 823, 822, 20], (0, 0, 0), 0, 0, some (mX0_nearestClass, 2)),
  (89, 2, .istore 7, [], (0, 0, 0), 0, 0, none),
  (91, 2, .iload 7, [], (0, 0, 0), 0, 0, none),
  (93, 1, .iconst (-1), [], (0, 0, 0), (-1), 0, none),
  (94, 3, .if_icmp .eq 16, [56], (0, 0, 0), 0, 0, none),
  (97, 1, .aload_n 0, [], (0, 0, 0), 0, 0, none),
  (98, 3, .getfield 15, [], (0, 1, 363), 0, 0, none),
  (101, 2, .iload 7, [], (0, 0, 0), 0, 0, none),
  (103, 1, .iload_n 3, [], (0, 0, 0), 0, 0, none),
  (104, 3, .invokevirtual 61, [824, 71, 597, 595, 596], (3, 0, 0), 0, 0, some (mX3_declared, 2)),
  (107, 3, .goto 9, [60], (0, 0, 0), 0, 0, none),
  (110, 1, .aload_n 0, [], (0, 0, 0), 0, 0, none),
  (111, 1, .iload_n 2, [], (0, 0, 0), 0, 0, none),
  (112, 1, .iload_n 3, [], (0, 0, 0), 0, 0, none),
  (113, 3, .invokevirtual 65, [825, 77, 828, 827, 21], (0, 0, 0), 0, 0, some (mX0_fromInterfaces, 2)),
  (116, 1, .ireturn, [], (0, 0, 0), 0, 0, none)]
set_option maxRecDepth 100000 in
theorem vX0_chosen : ab_chk mX0_chosen.1.cls mX0_chosen kX0_chosen = true := by decide +kernel
def mX8_neighbours : ab_Md := (yX8_neighbours, cX8_neighbours, 2, some .long, { frames := 0, cells := 0, slots := 0, locals := 0 })
def kX8_neighbours : List ab_En := [
  (0, 1, .aload_n 0, [], (0, 0, 0), 0, 0, none),
  (1, 3, .getfield 63, [], (7, 15, 176), 0, 0, none),
  (4, 1, .aload_n 0, [], (0, 0, 0), 0, 0, none),
  (5, 3, .getfield 25, [], (7, 3, 139), 0, 0, none),
  (8, 1, .iload_n 1, [], (0, 0, 0), 0, 0, none),
  (9, 1, .iaload, [], (0, 0, 0), 0, 0, none),
  (10, 1, .laload, [], (0, 0, 0), 0, 0, none),
  (11, 1, .lreturn, [], (0, 0, 0), 0, 0, none)]
set_option maxRecDepth 100000 in
theorem vX8_neighbours : ab_chk mX8_neighbours.1.cls mX8_neighbours kX8_neighbours = true := by decide +kernel
def mX2_fromParent : ab_Md := (yX2_fromParent, cX2_fromParent, 7, some .long, { frames := 1, cells := 0, slots := 0, locals := 21 })
def kX2_fromParent : List ab_En := [
  (0, 1, .aload_n 0, [], (0, 0, 0), 0, 0, none),
  (1, 3, .getfield 19, [], (2, 1, 287), 0, 0, none),
  (4, 3, .getfield 78, [], (3, 9, 248), 0, 0, none),
  (7, 1, .iload_n 2, [], (0, 0, 0), 0, 0, none),
  (8, 1, .laload, [], (0, 0, 0), 0, 0, none),
  (9, 1, .aload_n 0, [], (0, 0, 0), 0, 0, none),
  (10, 3, .getfield 15, [], (2, 0, 286), 0, 0, none),
  (13, 1, .iload_n 1, [], (0, 0, 0), 0, 0, none),
  (14, 3, .invokevirtual 81, [632, 69, 635, 633, 634], (7, 0, 0), 0, 0, some (mX8_neighbours, 1)),
  (17, 3, .ldc2_w 84, [], (0, 0, 636), 0, (-1), none),
  (20, 1, .lxor, [], (0, 0, 0), 0, 0, none),
  (21, 1, .land, [], (0, 0, 0), 0, 0, none),
  (22, 2, .lstore 5, [], (0, 0, 0), 0, 0, none),
  (24, 1, .lload_n 3, [], (0, 0, 0), 0, 0, none),
  (25, 1, .aload_n 0, [], (0, 0, 0), 0, 0, none),
  (26, 3, .getfield 19, [], (2, 1, 287), 0, 0, none),
  (29, 3, .getfield 86, [], (3, 8, 245), 0, 0, none),
  (32, 1, .iload_n 2, [], (0, 0, 0), 0, 0, none),
  (33, 1, .laload, [], (0, 0, 0), 0, 0, none),
  (34, 3, .ldc2_w 84, [], (0, 0, 636), 0, (-1), none),
  (37, 1, .lxor, [], (0, 0, 0), 0, 0, none),
  (38, 1, .land, [], (0, 0, 0), 0, 0, none),
  (39, 2, .lload 5, [], (0, 0, 0), 0, 0, none),
  (41, 3, .ldc2_w 84, [], (0, 0, 636), 0, (-1), none),
  (44, 1, .lxor, [], (0, 0, 0), 0, 0, none),
  (45, 1, .land, [], (0, 0, 0), 0, 0, none),
  (46, 1, .lreturn, [], (0, 0, 0), 0, 0, none)]
set_option maxRecDepth 100000 in
theorem vX2_fromParent : ab_chk mX2_fromParent.1.cls mX2_fromParent kX2_fromParent = true := by decide +kernel
def mX2_ofFaces : ab_Md := (yX2_ofFaces, cX2_ofFaces, 9, some .long, { frames := 2, cells := 0, slots := 0, locals := 42 })
def kX2_ofFaces : List ab_En := [
  (0, 1, .aload_n 0, [], (0, 0, 0), 0, 0, none),
  (1, 3, .getfield 15, [], (2, 0, 286), 0, 0, none),
  (4, 3, .getfield 107, [], (7, 9, 160), 0, 0, none),
  (7, 1, .iload_n 1, [], (0, 0, 0), 0, 0, none),
  (8, 1, .laload, [], (0, 0, 0), 0, 0, none),
  (9, 1, .lstore_n 3, [], (0, 0, 0), 0, 0, none),
  (10, 1, .lconst 0, [], (0, 0, 0), 0, 0, none),
  (11, 2, .lstore 5, [], (0, 0, 0), 0, 0, none),
  (13, 1, .iconst 0, [], (0, 0, 0), 0, 0, none),
  (14, 2, .istore 7, [], (0, 0, 0), 0, 0, none),
  (16, 2, .iload 7, [], (0, 0, 0), 0, 0, none),
  (18, 1, .iconst 4, [], (0, 0, 0), 4, 0, none),
  (19, 3, .if_icmp .ge 50, [40], (0, 0, 0), 0, 0, none),
  (22, 1, .lload_n 3, [], (0, 0, 0), 0, 0, none),
  (23, 1, .lconst 0, [], (0, 0, 0), 0, 0, none),
  (24, 1, .lcmp, [], (0, 0, 0), 0, 0, none),
  (25, 3, .ifCond .eq 44, [40], (0, 0, 0), 0, 0, none),
  (28, 1, .lload_n 3, [], (0, 0, 0), 0, 0, none),
  (29, 3, .invokestatic 110, [641, 70, 643, 642], (0, 0, 0), 0, 0, some (mX7_least, 1)),
  (32, 2, .istore 8, [], (0, 0, 0), 0, 0, none),
  (34, 2, .lload 5, [], (0, 0, 0), 0, 0, none),
  (36, 1, .aload_n 0, [], (0, 0, 0), 0, 0, none),
  (37, 3, .getfield 11, [], (2, 2, 288), 0, 0, none),
  (40, 1, .iload_n 2, [], (0, 0, 0), 0, 0, none),
  (41, 2, .bipush 40, [], (0, 0, 0), 40, 0, none),
  (43, 1, .imul, [], (0, 0, 0), 0, 0, none),
  (44, 2, .iload 8, [], (0, 0, 0), 0, 0, none),
  (46, 1, .iadd, [], (0, 0, 0), 0, 0, none),
  (47, 1, .laload, [], (0, 0, 0), 0, 0, none),
  (48, 1, .lor, [], (0, 0, 0), 0, 0, none),
  (49, 2, .lstore 5, [], (0, 0, 0), 0, 0, none),
  (51, 1, .lload_n 3, [], (0, 0, 0), 0, 0, none),
  (52, 2, .iload 8, [], (0, 0, 0), 0, 0, none),
  (54, 3, .invokestatic 42, [622, 70, 123, 122], (0, 0, 0), 0, 0, some (mX7_one, 1)),
  (57, 3, .ldc2_w 84, [], (0, 0, 636), 0, (-1), none),
  (60, 1, .lxor, [], (0, 0, 0), 0, 0, none),
  (61, 1, .land, [], (0, 0, 0), 0, 0, none),
  (62, 1, .lstore_n 3, [], (0, 0, 0), 0, 0, none),
  (63, 3, .iinc 7 1, [], (0, 0, 0), 1, 0, none),
  (66, 3, .goto (-50), [10], (0, 0, 0), 0, 0, none),
  (69, 2, .lload 5, [], (0, 0, 0), 0, 0, none),
  (71, 1, .lreturn, [], (0, 0, 0), 0, 0, none)]
set_option maxRecDepth 100000 in
theorem vX2_ofFaces : ab_chk mX2_ofFaces.1.cls mX2_ofFaces kX2_ofFaces = true := by decide +kernel
def mX3_isMethodGroup : ab_Md := (yX3_isMethodGroup, cX3_isMethodGroup, 2, some .boolean, { frames := 0, cells := 0, slots := 0, locals := 0 })
def kX3_isMethodGroup : List ab_En := [
  (0, 1, .iload_n 1, [], (0, 0, 0), 0, 0, none),
  (1, 2, .bipush 10, [], (0, 0, 0), 10, 0, none),
  (3, 3, .if_icmp .lt 13, [8], (0, 0, 0), 0, 0, none),
  (6, 1, .iload_n 1, [], (0, 0, 0), 0, 0, none),
  (7, 2, .bipush 20, [], (0, 0, 0), 20, 0, none),
  (9, 3, .if_icmp .ge 7, [8], (0, 0, 0), 0, 0, none),
  (12, 1, .iconst 1, [], (0, 0, 0), 1, 0, none),
  (13, 3, .goto 4, [9], (0, 0, 0), 0, 0, none),
  (16, 1, .iconst 0, [], (0, 0, 0), 0, 0, none),
  (17, 1, .ireturn, [], (0, 0, 0), 0, 0, none)]
set_option maxRecDepth 100000 in
theorem vX3_isMethodGroup : ab_chk mX3_isMethodGroup.1.cls mX3_isMethodGroup kX3_isMethodGroup = true := by decide +kernel
def mX2_fromFaces : ab_Md := (yX2_fromFaces, cX2_fromFaces, 10, some .long, { frames := 1, cells := 0, slots := 0, locals := 27 })
def kX2_fromFaces : List ab_En := [
  (0, 1, .aload_n 0, [], (0, 0, 0), 0, 0, none),
  (1, 3, .getfield 19, [], (2, 1, 287), 0, 0, none),
  (4, 1, .iload_n 1, [], (0, 0, 0), 0, 0, none),
  (5, 3, .invokevirtual 89, [649, 71, 652, 650, 651], (3, 0, 0), 0, 0, some (mX3_isMethodGroup, 1)),
  (8, 3, .ifCond .ne 5, [7], (0, 0, 0), 0, 0, none),
  (11, 1, .lload_n 2, [], (0, 0, 0), 0, 0, none),
  (12, 1, .lreturn, [], (0, 0, 0), 0, 0, none),
  (13, 2, .lload 6, [], (0, 0, 0), 0, 0, none),
  (15, 1, .aload_n 0, [], (0, 0, 0), 0, 0, none),
  (16, 3, .getfield 15, [], (2, 0, 286), 0, 0, none),
  (19, 3, .getfield 93, [], (7, 1, 135), 0, 0, none),
  (22, 1, .land, [], (0, 0, 0), 0, 0, none),
  (23, 1, .aload_n 0, [], (0, 0, 0), 0, 0, none),
  (24, 3, .getfield 19, [], (2, 1, 287), 0, 0, none),
  (27, 3, .getfield 97, [], (3, 11, 254), 0, 0, none),
  (30, 1, .iload_n 1, [], (0, 0, 0), 0, 0, none),
  (31, 1, .laload, [], (0, 0, 0), 0, 0, none),
  (32, 3, .ldc2_w 84, [], (0, 0, 636), 0, (-1), none),
  (35, 1, .lxor, [], (0, 0, 0), 0, 0, none),
  (36, 1, .land, [], (0, 0, 0), 0, 0, none),
  (37, 1, .lconst 0, [], (0, 0, 0), 0, 0, none),
  (38, 1, .lcmp, [], (0, 0, 0), 0, 0, none),
  (39, 3, .ifCond .eq 5, [25], (0, 0, 0), 0, 0, none),
  (42, 1, .lconst 0, [], (0, 0, 0), 0, 0, none),
  (43, 1, .lreturn, [], (0, 0, 0), 0, 0, none),
  (44, 1, .aload_n 0, [], (0, 0, 0), 0, 0, none),
  (45, 3, .getfield 19, [], (2, 1, 287), 0, 0, none),
  (48, 1, .iload_n 1, [], (0, 0, 0), 0, 0, none),
  (49, 3, .invokevirtual 100, [653, 71, 656, 654, 655], (3, 0, 0), 0, 0, some (mX3_overridable, 1)),
  (52, 2, .lstore 8, [], (0, 0, 0), 0, 0, none),
  (54, 1, .aload_n 0, [], (0, 0, 0), 0, 0, none),
  (55, 3, .getfield 15, [], (2, 0, 286), 0, 0, none),
  (58, 1, .lload_n 2, [], (0, 0, 0), 0, 0, none),
  (59, 2, .lload 8, [], (0, 0, 0), 0, 0, none),
  (61, 1, .land, [], (0, 0, 0), 0, 0, none),
  (62, 1, .lload_n 2, [], (0, 0, 0), 0, 0, none),
  (63, 2, .lload 4, [], (0, 0, 0), 0, 0, none),
  (65, 1, .lor, [], (0, 0, 0), 0, 0, none),
  (66, 2, .lload 8, [], (0, 0, 0), 0, 0, none),
  (68, 1, .land, [], (0, 0, 0), 0, 0, none),
  (69, 3, .invokevirtual 103, [658, 69, 661, 659, 660], (7, 0, 0), 0, 0, some (mX8_withoutAnyBelow, 2)),
  (72, 1, .lreturn, [], (0, 0, 0), 0, 0, none)]
set_option maxRecDepth 100000 in
theorem vX2_fromFaces : ab_chk mX2_fromFaces.1.cls mX2_fromFaces kX2_fromFaces = true := by decide +kernel
def mX2_find : ab_Md := (yX2_find, cX2_find, 8, some .long, { frames := 3, cells := 0, slots := 0, locals := 70 })
def kX2_find : List ab_En := [
  (0, 1, .aload_n 0, [], (0, 0, 0), 0, 0, none),
  (1, 3, .getfield 19, [], (2, 1, 287), 0, 0, none),
  (4, 3, .getfield 39, [], (3, 7, 242), 0, 0, none),
  (7, 1, .iload_n 2, [], (0, 0, 0), 0, 0, none),
  (8, 1, .laload, [], (0, 0, 0), 0, 0, none),
  (9, 1, .iload_n 1, [], (0, 0, 0), 0, 0, none),
  (10, 3, .invokestatic 60, [627, 70, 504, 503], (0, 0, 0), 0, 0, some (mX7_has, 2)),
  (13, 3, .ifCond .eq 8, [11], (0, 0, 0), 0, 0, none),
  (16, 1, .iload_n 1, [], (0, 0, 0), 0, 0, none),
  (17, 3, .invokestatic 42, [622, 70, 123, 122], (0, 0, 0), 0, 0, some (mX7_one, 1)),
  (20, 1, .lreturn, [], (0, 0, 0), 0, 0, none),
  (21, 1, .aload_n 0, [], (0, 0, 0), 0, 0, none),
  (22, 3, .getfield 15, [], (2, 0, 286), 0, 0, none),
  (25, 3, .getfield 64, [], (7, 7, 155), 0, 0, none),
  (28, 1, .iload_n 1, [], (0, 0, 0), 0, 0, none),
  (29, 1, .iaload, [], (0, 0, 0), 0, 0, none),
  (30, 1, .istore_n 3, [], (0, 0, 0), 0, 0, none),
  (31, 1, .iload_n 3, [], (0, 0, 0), 0, 0, none),
  (32, 1, .iconst (-1), [], (0, 0, 0), (-1), 0, none),
  (33, 3, .if_icmp .ne 7, [22], (0, 0, 0), 0, 0, none),
  (36, 1, .lconst 0, [], (0, 0, 0), 0, 0, none),
  (37, 3, .goto 14, [30], (0, 0, 0), 0, 0, none),
  (40, 1, .aload_n 0, [], (0, 0, 0), 0, 0, none),
  (41, 3, .getfield 11, [], (2, 2, 288), 0, 0, none),
  (44, 1, .iload_n 2, [], (0, 0, 0), 0, 0, none),
  (45, 2, .bipush 40, [], (0, 0, 0), 40, 0, none),
  (47, 1, .imul, [], (0, 0, 0), 0, 0, none),
  (48, 1, .iload_n 3, [], (0, 0, 0), 0, 0, none),
  (49, 1, .iadd, [], (0, 0, 0), 0, 0, none),
  (50, 1, .laload, [], (0, 0, 0), 0, 0, none),
  (51, 2, .lstore 4, [], (0, 0, 0), 0, 0, none),
  (53, 1, .aload_n 0, [], (0, 0, 0), 0, 0, none),
  (54, 1, .iload_n 1, [], (0, 0, 0), 0, 0, none),
  (55, 1, .iload_n 2, [], (0, 0, 0), 0, 0, none),
  (56, 2, .lload 4, [], (0, 0, 0), 0, 0, none),
  (58, 3, .invokevirtual 67, [628, 73, 631, 630, 6], (2, 0, 0), 0, 0, some (mX2_fromParent, 3)),
  (61, 2, .lstore 6, [], (0, 0, 0), 0, 0, none),
  (63, 2, .lload 6, [], (0, 0, 0), 0, 0, none),
  (65, 1, .aload_n 0, [], (0, 0, 0), 0, 0, none),
  (66, 1, .iload_n 2, [], (0, 0, 0), 0, 0, none),
  (67, 1, .aload_n 0, [], (0, 0, 0), 0, 0, none),
  (68, 1, .iload_n 1, [], (0, 0, 0), 0, 0, none),
  (69, 1, .iload_n 2, [], (0, 0, 0), 0, 0, none),
  (70, 3, .invokevirtual 71, [637, 73, 640, 639, 7], (2, 0, 0), 0, 0, some (mX2_ofFaces, 2)),
  (73, 2, .lload 4, [], (0, 0, 0), 0, 0, none),
  (75, 2, .lload 6, [], (0, 0, 0), 0, 0, none),
  (77, 3, .invokevirtual 74, [645, 73, 648, 647, 8], (2, 0, 0), 0, 0, some (mX2_fromFaces, 4)),
  (80, 1, .lor, [], (0, 0, 0), 0, 0, none),
  (81, 1, .lreturn, [], (0, 0, 0), 0, 0, none)]
set_option maxRecDepth 100000 in
theorem vX2_find : ab_chk mX2_find.1.cls mX2_find kX2_find = true := by decide +kernel
def mX2_membersOf : ab_Md := (yX2_membersOf, cX2_membersOf, 5, some .long, { frames := 4, cells := 0, slots := 0, locals := 97 })
def kX2_membersOf : List ab_En := [
  (0, 1, .iload_n 2, [], (0, 0, 0), 0, 0, none),
  (1, 2, .bipush 20, [], (0, 0, 0), 20, 0, none),
  (3, 3, .if_icmp .lt 18, [12], (0, 0, 0), 0, 0, none),
  (6, 1, .aload_n 0, [], (0, 0, 0), 0, 0, none),
  (7, 3, .getfield 19, [], (2, 1, 287), 0, 0, none),
  (10, 3, .getfield 39, [], (3, 7, 242), 0, 0, none),
  (13, 1, .iload_n 2, [], (0, 0, 0), 0, 0, none),
  (14, 1, .laload, [], (0, 0, 0), 0, 0, none),
  (15, 1, .iload_n 1, [], (0, 0, 0), 0, 0, none),
  (16, 3, .invokestatic 42, [622, 70, 123, 122], (0, 0, 0), 0, 0, some (mX7_one, 1)),
  (19, 1, .land, [], (0, 0, 0), 0, 0, none),
  (20, 1, .lreturn, [], (0, 0, 0), 0, 0, none),
  (21, 1, .aload_n 0, [], (0, 0, 0), 0, 0, none),
  (22, 3, .getfield 19, [], (2, 1, 287), 0, 0, none),
  (25, 3, .getfield 39, [], (3, 7, 242), 0, 0, none),
  (28, 1, .iload_n 2, [], (0, 0, 0), 0, 0, none),
  (29, 1, .laload, [], (0, 0, 0), 0, 0, none),
  (30, 1, .lconst 0, [], (0, 0, 0), 0, 0, none),
  (31, 1, .lcmp, [], (0, 0, 0), 0, 0, none),
  (32, 3, .ifCond .ne 5, [22], (0, 0, 0), 0, 0, none),
  (35, 1, .lconst 0, [], (0, 0, 0), 0, 0, none),
  (36, 1, .lreturn, [], (0, 0, 0), 0, 0, none),
  (37, 1, .aload_n 0, [], (0, 0, 0), 0, 0, none),
  (38, 3, .getfield 23, [], (2, 3, 289), 0, 0, none),
  (41, 1, .iload_n 2, [], (0, 0, 0), 0, 0, none),
  (42, 1, .ishr, [], (0, 0, 0), 0, 0, none),
  (43, 1, .iconst 1, [], (0, 0, 0), 1, 0, none),
  (44, 1, .iand, [], (0, 0, 0), 0, 0, none),
  (45, 3, .ifCond .ne 64, [64], (0, 0, 0), 0, 0, none),
  (48, 1, .iconst 0, [], (0, 0, 0), 0, 0, none),
  (49, 1, .istore_n 3, [], (0, 0, 0), 0, 0, none),
  (50, 1, .iload_n 3, [], (0, 0, 0), 0, 0, none),
  (51, 1, .aload_n 0, [], (0, 0, 0), 0, 0, none),
  (52, 3, .getfield 15, [], (2, 0, 286), 0, 0, none),
  (55, 3, .getfield 48, [], (7, 0, 127), 0, 0, none),
  (58, 3, .if_icmp .ge 39, [56], (0, 0, 0), 0, 0, none),
  (61, 1, .aload_n 0, [], (0, 0, 0), 0, 0, none),
  (62, 3, .getfield 15, [], (2, 0, 286), 0, 0, none),
  (65, 3, .getfield 53, [], (7, 13, 173), 0, 0, none),
  (68, 1, .iload_n 3, [], (0, 0, 0), 0, 0, none),
  (69, 1, .iaload, [], (0, 0, 0), 0, 0, none),
  (70, 2, .istore 4, [], (0, 0, 0), 0, 0, none),
  (72, 1, .aload_n 0, [], (0, 0, 0), 0, 0, none),
  (73, 3, .getfield 11, [], (2, 2, 288), 0, 0, none),
  (76, 1, .iload_n 2, [], (0, 0, 0), 0, 0, none),
  (77, 2, .bipush 40, [], (0, 0, 0), 40, 0, none),
  (79, 1, .imul, [], (0, 0, 0), 0, 0, none),
  (80, 2, .iload 4, [], (0, 0, 0), 0, 0, none),
  (82, 1, .iadd, [], (0, 0, 0), 0, 0, none),
  (83, 1, .aload_n 0, [], (0, 0, 0), 0, 0, none),
  (84, 2, .iload 4, [], (0, 0, 0), 0, 0, none),
  (86, 1, .iload_n 2, [], (0, 0, 0), 0, 0, none),
  (87, 3, .invokevirtual 57, [623, 73, 626, 625, 5], (2, 0, 0), 0, 0, some (mX2_find, 2)),
  (90, 1, .lastore, [], (0, 0, 0), 0, 0, none),
  (91, 3, .iinc 3 1, [], (0, 0, 0), 1, 0, none),
  (94, 3, .goto (-44), [31], (0, 0, 0), 0, 0, none),
  (97, 1, .aload_n 0, [], (0, 0, 0), 0, 0, none),
  (98, 1, .dup, [], (0, 0, 0), 0, 0, none),
  (99, 3, .getfield 23, [], (2, 3, 289), 0, 0, none),
  (102, 1, .iconst 1, [], (0, 0, 0), 1, 0, none),
  (103, 1, .iload_n 2, [], (0, 0, 0), 0, 0, none),
  (104, 1, .ishl, [], (0, 0, 0), 0, 0, none),
  (105, 1, .ior, [], (0, 0, 0), 0, 0, none),
  (106, 3, .putfield 23, [0], (2, 3, 289), 0, 0, none),
  (109, 1, .aload_n 0, [], (0, 0, 0), 0, 0, none),
  (110, 3, .getfield 11, [], (2, 2, 288), 0, 0, none),
  (113, 1, .iload_n 2, [], (0, 0, 0), 0, 0, none),
  (114, 2, .bipush 40, [], (0, 0, 0), 40, 0, none),
  (116, 1, .imul, [], (0, 0, 0), 0, 0, none),
  (117, 1, .iload_n 1, [], (0, 0, 0), 0, 0, none),
  (118, 1, .iadd, [], (0, 0, 0), 0, 0, none),
  (119, 1, .laload, [], (0, 0, 0), 0, 0, none),
  (120, 1, .lreturn, [], (0, 0, 0), 0, 0, none)]
set_option maxRecDepth 100000 in
theorem vX2_membersOf : ab_chk mX2_membersOf.1.cls mX2_membersOf kX2_membersOf = true := by decide +kernel
def mX6_overriddenBy : ab_Md := (yX6_overriddenBy, cX6_overriddenBy, 3, some .long, { frames := 4, cells := 0, slots := 0, locals := 104 })
def kX6_overriddenBy : List ab_En := [
  (0, 1, .aload_n 0, [], (0, 0, 0), 0, 0, none),
  (1, 3, .getfield 9, [], (6, 2, 307), 0, 0, none),
  (4, 1, .aload_n 0, [], (0, 0, 0), 0, 0, none),
  (5, 1, .iload_n 2, [], (0, 0, 0), 0, 0, none),
  (6, 3, .invokevirtual 49, [784, 74, 787, 786, 16], (6, 0, 0), 0, 0, some (mX6_knownRow, 1)),
  (9, 1, .iload_n 1, [], (0, 0, 0), 0, 0, none),
  (10, 1, .iadd, [], (0, 0, 0), 0, 0, none),
  (11, 1, .laload, [], (0, 0, 0), 0, 0, none),
  (12, 1, .lreturn, [], (0, 0, 0), 0, 0, none)]
set_option maxRecDepth 100000 in
theorem vX6_overriddenBy : ab_chk mX6_overriddenBy.1.cls mX6_overriddenBy kX6_overriddenBy = true := by decide +kernel
def mX1_metBy : ab_Md := (yX1_metBy, cX1_metBy, 9, some .long, { frames := 1, cells := 0, slots := 0, locals := 21 })
def kX1_metBy : List ab_En := [
  (0, 1, .aload_n 0, [], (0, 0, 0), 0, 0, none),
  (1, 3, .getfield 29, [], (1, 1, 379), 0, 0, none),
  (4, 3, .getfield 85, [], (3, 9, 247), 0, 0, none),
  (7, 1, .iload_n 2, [], (0, 0, 0), 0, 0, none),
  (8, 1, .laload, [], (0, 0, 0), 0, 0, none),
  (9, 1, .aload_n 0, [], (0, 0, 0), 0, 0, none),
  (10, 3, .getfield 25, [], (1, 0, 378), 0, 0, none),
  (13, 1, .iload_n 1, [], (0, 0, 0), 0, 0, none),
  (14, 3, .invokevirtual 88, [848, 69, 635, 633, 634], (7, 0, 0), 0, 0, some (mX8_neighbours, 1)),
  (17, 3, .ldc2_w 94, [], (0, 0, 849), 0, (-1), none),
  (20, 1, .lxor, [], (0, 0, 0), 0, 0, none),
  (21, 1, .land, [], (0, 0, 0), 0, 0, none),
  (22, 1, .lload_n 3, [], (0, 0, 0), 0, 0, none),
  (23, 3, .ldc2_w 94, [], (0, 0, 849), 0, (-1), none),
  (26, 1, .lxor, [], (0, 0, 0), 0, 0, none),
  (27, 1, .land, [], (0, 0, 0), 0, 0, none),
  (28, 2, .lstore 5, [], (0, 0, 0), 0, 0, none),
  (30, 1, .aload_n 0, [], (0, 0, 0), 0, 0, none),
  (31, 3, .getfield 29, [], (1, 1, 379), 0, 0, none),
  (34, 3, .getfield 96, [], (3, 10, 251), 0, 0, none),
  (37, 1, .iload_n 2, [], (0, 0, 0), 0, 0, none),
  (38, 1, .laload, [], (0, 0, 0), 0, 0, none),
  (39, 1, .aload_n 0, [], (0, 0, 0), 0, 0, none),
  (40, 3, .getfield 25, [], (1, 0, 378), 0, 0, none),
  (43, 3, .getfield 99, [], (7, 1, 132), 0, 0, none),
  (46, 3, .ldc2_w 94, [], (0, 0, 849), 0, (-1), none),
  (49, 1, .lxor, [], (0, 0, 0), 0, 0, none),
  (50, 1, .land, [], (0, 0, 0), 0, 0, none),
  (51, 2, .lstore 7, [], (0, 0, 0), 0, 0, none),
  (53, 1, .aload_n 0, [], (0, 0, 0), 0, 0, none),
  (54, 3, .getfield 25, [], (1, 0, 378), 0, 0, none),
  (57, 3, .getfield 103, [], (7, 10, 163), 0, 0, none),
  (60, 1, .iload_n 1, [], (0, 0, 0), 0, 0, none),
  (61, 1, .laload, [], (0, 0, 0), 0, 0, none),
  (62, 1, .aload_n 0, [], (0, 0, 0), 0, 0, none),
  (63, 3, .getfield 29, [], (1, 1, 379), 0, 0, none),
  (66, 3, .getfield 55, [], (3, 7, 241), 0, 0, none),
  (69, 1, .iload_n 2, [], (0, 0, 0), 0, 0, none),
  (70, 1, .laload, [], (0, 0, 0), 0, 0, none),
  (71, 1, .land, [], (0, 0, 0), 0, 0, none),
  (72, 1, .aload_n 0, [], (0, 0, 0), 0, 0, none),
  (73, 3, .getfield 29, [], (1, 1, 379), 0, 0, none),
  (76, 3, .getfield 106, [], (3, 8, 244), 0, 0, none),
  (79, 1, .iload_n 2, [], (0, 0, 0), 0, 0, none),
  (80, 1, .laload, [], (0, 0, 0), 0, 0, none),
  (81, 3, .ldc2_w 94, [], (0, 0, 849), 0, (-1), none),
  (84, 1, .lxor, [], (0, 0, 0), 0, 0, none),
  (85, 1, .land, [], (0, 0, 0), 0, 0, none),
  (86, 2, .lload 5, [], (0, 0, 0), 0, 0, none),
  (88, 3, .ldc2_w 94, [], (0, 0, 849), 0, (-1), none),
  (91, 1, .lxor, [], (0, 0, 0), 0, 0, none),
  (92, 1, .land, [], (0, 0, 0), 0, 0, none),
  (93, 2, .lload 7, [], (0, 0, 0), 0, 0, none),
  (95, 3, .ldc2_w 94, [], (0, 0, 849), 0, (-1), none),
  (98, 1, .lxor, [], (0, 0, 0), 0, 0, none),
  (99, 1, .land, [], (0, 0, 0), 0, 0, none),
  (100, 1, .lreturn, [], (0, 0, 0), 0, 0, none)]
set_option maxRecDepth 100000 in
theorem vX1_metBy : ab_chk mX1_metBy.1.cls mX1_metBy kX1_metBy = true := by decide +kernel
def mX4_isPublicSeen : ab_Md := (yX4_isPublicSeen, cX4_isPublicSeen, 5, some .boolean, { frames := 0, cells := 0, slots := 0, locals := 0 })
def kX4_isPublicSeen : List ab_En := [
  (0, 1, .aload_n 0, [], (0, 0, 0), 0, 0, none),
  (1, 3, .getfield 22, [], (4, 3, 101), 0, 0, none),
  (4, 1, .iload_n 2, [], (0, 0, 0), 0, 0, none),
  (5, 1, .iaload, [], (0, 0, 0), 0, 0, none),
  (6, 1, .istore_n 3, [], (0, 0, 0), 0, 0, none),
  (7, 1, .aload_n 0, [], (0, 0, 0), 0, 0, none),
  (8, 3, .getfield 22, [], (4, 3, 101), 0, 0, none),
  (11, 1, .iload_n 1, [], (0, 0, 0), 0, 0, none),
  (12, 1, .iaload, [], (0, 0, 0), 0, 0, none),
  (13, 2, .istore 4, [], (0, 0, 0), 0, 0, none),
  (15, 1, .iload_n 3, [], (0, 0, 0), 0, 0, none),
  (16, 2, .iload 4, [], (0, 0, 0), 0, 0, none),
  (18, 3, .if_icmp .eq 30, [31], (0, 0, 0), 0, 0, none),
  (21, 1, .aload_n 0, [], (0, 0, 0), 0, 0, none),
  (22, 3, .getfield 18, [], (4, 2, 100), 0, 0, none),
  (25, 1, .iload_n 3, [], (0, 0, 0), 0, 0, none),
  (26, 1, .iaload, [], (0, 0, 0), 0, 0, none),
  (27, 2, .iload 4, [], (0, 0, 0), 0, 0, none),
  (29, 1, .ishr, [], (0, 0, 0), 0, 0, none),
  (30, 1, .iconst 1, [], (0, 0, 0), 1, 0, none),
  (31, 1, .iand, [], (0, 0, 0), 0, 0, none),
  (32, 3, .ifCond .eq 20, [33], (0, 0, 0), 0, 0, none),
  (35, 1, .aload_n 0, [], (0, 0, 0), 0, 0, none),
  (36, 3, .getfield 25, [], (4, 4, 102), 0, 0, none),
  (39, 1, .iload_n 1, [], (0, 0, 0), 0, 0, none),
  (40, 1, .iaload, [], (0, 0, 0), 0, 0, none),
  (41, 1, .iload_n 3, [], (0, 0, 0), 0, 0, none),
  (42, 1, .ishr, [], (0, 0, 0), 0, 0, none),
  (43, 1, .iconst 1, [], (0, 0, 0), 1, 0, none),
  (44, 1, .iand, [], (0, 0, 0), 0, 0, none),
  (45, 3, .ifCond .eq 7, [33], (0, 0, 0), 0, 0, none),
  (48, 1, .iconst 1, [], (0, 0, 0), 1, 0, none),
  (49, 3, .goto 4, [34], (0, 0, 0), 0, 0, none),
  (52, 1, .iconst 0, [], (0, 0, 0), 0, 0, none),
  (53, 1, .ireturn, [], (0, 0, 0), 0, 0, none)]
set_option maxRecDepth 100000 in
theorem vX4_isPublicSeen : ab_chk mX4_isPublicSeen.1.cls mX4_isPublicSeen kX4_isPublicSeen = true := by decide +kernel
def mX8_sameOrBelow : ab_Md := (yX8_sameOrBelow, cX8_sameOrBelow, 2, some .long, { frames := 1, cells := 0, slots := 0, locals := 20 })
def kX8_sameOrBelow : List ab_En := [
  (0, 1, .iload_n 1, [], (0, 0, 0), 0, 0, none),
  (1, 3, .invokestatic 15, [121, 70, 123, 122], (0, 0, 0), 0, 0, some (mX7_one, 1)),
  (4, 1, .aload_n 0, [], (0, 0, 0), 0, 0, none),
  (5, 3, .getfield 51, [], (7, 11, 167), 0, 0, none),
  (8, 1, .iload_n 1, [], (0, 0, 0), 0, 0, none),
  (9, 1, .laload, [], (0, 0, 0), 0, 0, none),
  (10, 1, .lor, [], (0, 0, 0), 0, 0, none),
  (11, 1, .lreturn, [], (0, 0, 0), 0, 0, none)]
set_option maxRecDepth 100000 in
theorem vX8_sameOrBelow : ab_chk mX8_sameOrBelow.1.cls mX8_sameOrBelow kX8_sameOrBelow = true := by decide +kernel
def mX5_isOpenWithinOuter : ab_Md := (yX5_isOpenWithinOuter, cX5_isOpenWithinOuter, 4, some .boolean, { frames := 2, cells := 0, slots := 0, locals := 41 })
def kX5_isOpenWithinOuter : List ab_En := [
  (0, 1, .aload_n 0, [], (0, 0, 0), 0, 0, none),
  (1, 3, .getfield 15, [], (5, 1, 328), 0, 0, none),
  (4, 3, .getfield 39, [], (7, 4, 144), 0, 0, none),
  (7, 1, .iload_n 2, [], (0, 0, 0), 0, 0, none),
  (8, 1, .iaload, [], (0, 0, 0), 0, 0, none),
  (9, 1, .istore_n 3, [], (0, 0, 0), 0, 0, none),
  (10, 1, .aload_n 0, [], (0, 0, 0), 0, 0, none),
  (11, 3, .getfield 15, [], (5, 1, 328), 0, 0, none),
  (14, 3, .getfield 43, [], (7, 6, 150), 0, 0, none),
  (17, 1, .iload_n 2, [], (0, 0, 0), 0, 0, none),
  (18, 1, .iaload, [], (0, 0, 0), 0, 0, none),
  (19, 1, .iconst 3, [], (0, 0, 0), 3, 0, none),
  (20, 3, .if_icmp .ne 42, [34], (0, 0, 0), 0, 0, none),
  (23, 1, .iload_n 3, [], (0, 0, 0), 0, 0, none),
  (24, 1, .iconst (-1), [], (0, 0, 0), (-1), 0, none),
  (25, 3, .if_icmp .ne 31, [30], (0, 0, 0), 0, 0, none),
  (28, 1, .aload_n 0, [], (0, 0, 0), 0, 0, none),
  (29, 3, .getfield 9, [], (5, 0, 327), 0, 0, none),
  (32, 1, .aload_n 0, [], (0, 0, 0), 0, 0, none),
  (33, 3, .getfield 15, [], (5, 1, 328), 0, 0, none),
  (36, 3, .getfield 46, [], (7, 3, 140), 0, 0, none),
  (39, 1, .iload_n 2, [], (0, 0, 0), 0, 0, none),
  (40, 1, .iaload, [], (0, 0, 0), 0, 0, none),
  (41, 1, .aload_n 0, [], (0, 0, 0), 0, 0, none),
  (42, 3, .getfield 15, [], (5, 1, 328), 0, 0, none),
  (45, 3, .getfield 46, [], (7, 3, 140), 0, 0, none),
  (48, 1, .iload_n 1, [], (0, 0, 0), 0, 0, none),
  (49, 1, .iaload, [], (0, 0, 0), 0, 0, none),
  (50, 3, .invokevirtual 49, [685, 68, 688, 686, 687], (4, 0, 0), 0, 0, some (mX4_isPublicSeen, 2)),
  (53, 3, .ifCond .eq 7, [32], (0, 0, 0), 0, 0, none),
  (56, 1, .iconst 1, [], (0, 0, 0), 1, 0, none),
  (57, 3, .goto 4, [33], (0, 0, 0), 0, 0, none),
  (60, 1, .iconst 0, [], (0, 0, 0), 0, 0, none),
  (61, 1, .ireturn, [], (0, 0, 0), 0, 0, none),
  (62, 1, .aload_n 0, [], (0, 0, 0), 0, 0, none),
  (63, 3, .getfield 15, [], (5, 1, 328), 0, 0, none),
  (66, 3, .getfield 43, [], (7, 6, 150), 0, 0, none),
  (69, 1, .iload_n 2, [], (0, 0, 0), 0, 0, none),
  (70, 1, .iaload, [], (0, 0, 0), 0, 0, none),
  (71, 3, .ifCond .ne 30, [55], (0, 0, 0), 0, 0, none),
  (74, 1, .aload_n 0, [], (0, 0, 0), 0, 0, none),
  (75, 3, .getfield 15, [], (5, 1, 328), 0, 0, none),
  (78, 3, .getfield 54, [], (7, 5, 147), 0, 0, none),
  (81, 1, .iload_n 1, [], (0, 0, 0), 0, 0, none),
  (82, 1, .iaload, [], (0, 0, 0), 0, 0, none),
  (83, 1, .aload_n 0, [], (0, 0, 0), 0, 0, none),
  (84, 3, .getfield 15, [], (5, 1, 328), 0, 0, none),
  (87, 3, .getfield 54, [], (7, 5, 147), 0, 0, none),
  (90, 1, .iload_n 2, [], (0, 0, 0), 0, 0, none),
  (91, 1, .iaload, [], (0, 0, 0), 0, 0, none),
  (92, 3, .if_icmp .ne 7, [53], (0, 0, 0), 0, 0, none),
  (95, 1, .iconst 1, [], (0, 0, 0), 1, 0, none),
  (96, 3, .goto 4, [54], (0, 0, 0), 0, 0, none),
  (99, 1, .iconst 0, [], (0, 0, 0), 0, 0, none),
  (100, 1, .ireturn, [], (0, 0, 0), 0, 0, none),
  (101, 1, .aload_n 0, [], (0, 0, 0), 0, 0, none),
  (102, 3, .getfield 15, [], (5, 1, 328), 0, 0, none),
  (105, 3, .getfield 46, [], (7, 3, 140), 0, 0, none),
  (108, 1, .iload_n 1, [], (0, 0, 0), 0, 0, none),
  (109, 1, .iaload, [], (0, 0, 0), 0, 0, none),
  (110, 1, .aload_n 0, [], (0, 0, 0), 0, 0, none),
  (111, 3, .getfield 15, [], (5, 1, 328), 0, 0, none),
  (114, 3, .getfield 46, [], (7, 3, 140), 0, 0, none),
  (117, 1, .iload_n 2, [], (0, 0, 0), 0, 0, none),
  (118, 1, .iaload, [], (0, 0, 0), 0, 0, none),
  (119, 3, .if_icmp .eq 44, [89], (0, 0, 0), 0, 0, none),
  (122, 1, .aload_n 0, [], (0, 0, 0), 0, 0, none),
  (123, 3, .getfield 15, [], (5, 1, 328), 0, 0, none),
  (126, 3, .getfield 43, [], (7, 6, 150), 0, 0, none),
  (129, 1, .iload_n 2, [], (0, 0, 0), 0, 0, none),
  (130, 1, .iaload, [], (0, 0, 0), 0, 0, none),
  (131, 1, .iconst 2, [], (0, 0, 0), 2, 0, none),
  (132, 3, .if_icmp .ne 35, [91], (0, 0, 0), 0, 0, none),
  (135, 1, .iload_n 3, [], (0, 0, 0), 0, 0, none),
  (136, 1, .iconst (-1), [], (0, 0, 0), (-1), 0, none),
  (137, 3, .if_icmp .eq 30, [91], (0, 0, 0), 0, 0, none),
  (140, 1, .aload_n 0, [], (0, 0, 0), 0, 0, none),
  (141, 3, .getfield 15, [], (5, 1, 328), 0, 0, none),
  (144, 3, .getfield 23, [], (7, 12, 170), 0, 0, none),
  (147, 1, .iload_n 1, [], (0, 0, 0), 0, 0, none),
  (148, 1, .laload, [], (0, 0, 0), 0, 0, none),
  (149, 1, .aload_n 0, [], (0, 0, 0), 0, 0, none),
  (150, 3, .getfield 15, [], (5, 1, 328), 0, 0, none),
  (153, 1, .iload_n 3, [], (0, 0, 0), 0, 0, none),
  (154, 3, .invokevirtual 57, [689, 69, 524, 522, 523], (7, 0, 0), 0, 0, some (mX8_sameOrBelow, 1)),
  (157, 1, .land, [], (0, 0, 0), 0, 0, none),
  (158, 1, .lconst 0, [], (0, 0, 0), 0, 0, none),
  (159, 1, .lcmp, [], (0, 0, 0), 0, 0, none),
  (160, 3, .ifCond .eq 7, [91], (0, 0, 0), 0, 0, none),
  (163, 1, .iconst 1, [], (0, 0, 0), 1, 0, none),
  (164, 3, .goto 4, [92], (0, 0, 0), 0, 0, none),
  (167, 1, .iconst 0, [], (0, 0, 0), 0, 0, none),
  (168, 1, .ireturn, [], (0, 0, 0), 0, 0, none)]
set_option maxRecDepth 100000 in
theorem vX5_isOpenWithinOuter : ab_chk mX5_isOpenWithinOuter.1.cls mX5_isOpenWithinOuter kX5_isOpenWithinOuter = true := by decide +kernel
end
section
def mX5_isTypeOpen : ab_Md := (yX5_isTypeOpen, cX5_isTypeOpen, 4, some .boolean, { frames := 3, cells := 0, slots := 0, locals := 64 })
def kX5_isTypeOpen : List ab_En := [
  (0, 1, .iload_n 2, [], (0, 0, 0), 0, 0, none),
  (1, 1, .istore_n 3, [], (0, 0, 0), 0, 0, none),
  (2, 1, .iload_n 3, [], (0, 0, 0), 0, 0, none),
  (3, 3, .ifCond .lt 36, [21], (0, 0, 0), 0, 0, none),
  (6, 1, .aload_n 0, [], (0, 0, 0), 0, 0, none),
  (7, 3, .getfield 15, [], (5, 1, 328), 0, 0, none),
  (10, 3, .getfield 23, [], (7, 12, 170), 0, 0, none),
  (13, 1, .iload_n 2, [], (0, 0, 0), 0, 0, none),
  (14, 1, .laload, [], (0, 0, 0), 0, 0, none),
  (15, 1, .iload_n 3, [], (0, 0, 0), 0, 0, none),
  (16, 3, .invokestatic 29, [680, 70, 504, 503], (0, 0, 0), 0, 0, some (mX7_has, 2)),
  (19, 3, .ifCond .eq 14, [19], (0, 0, 0), 0, 0, none),
  (22, 1, .aload_n 0, [], (0, 0, 0), 0, 0, none),
  (23, 1, .iload_n 1, [], (0, 0, 0), 0, 0, none),
  (24, 1, .iload_n 3, [], (0, 0, 0), 0, 0, none),
  (25, 3, .invokevirtual 35, [681, 75, 684, 683, 9], (5, 0, 0), 0, 0, some (mX5_isOpenWithinOuter, 2)),
  (28, 3, .ifCond .ne 5, [19], (0, 0, 0), 0, 0, none),
  (31, 1, .iconst 0, [], (0, 0, 0), 0, 0, none),
  (32, 1, .ireturn, [], (0, 0, 0), 0, 0, none),
  (33, 3, .iinc 3 (-1), [], (0, 0, 0), (-1), 0, none),
  (36, 3, .goto (-34), [2], (0, 0, 0), 0, 0, none),
  (39, 1, .iconst 1, [], (0, 0, 0), 1, 0, none),
  (40, 1, .ireturn, [], (0, 0, 0), 0, 0, none)]
set_option maxRecDepth 100000 in
theorem vX5_isTypeOpen : ab_chk mX5_isTypeOpen.1.cls mX5_isTypeOpen kX5_isTypeOpen = true := by decide +kernel
def mX1_addIf : ab_Md := (yX1_addIf, cX1_addIf, 4, none, { frames := 0, cells := 0, slots := 0, locals := 0 })
def kX1_addIf : List ab_En := [
  (0, 1, .iload_n 1, [], (0, 0, 0), 0, 0, none),
  (1, 3, .ifCond .eq 43, [24], (0, 0, 0), 0, 0, none),
  (4, 1, .aload_n 0, [], (0, 0, 0), 0, 0, none),
  (5, 3, .getfield 45, [], (1, 5, 383), 0, 0, none),
  (8, 3, .sipush 156, [], (0, 0, 0), 156, 0, none),
  (11, 3, .if_icmp .ge 33, [24], (0, 0, 0), 0, 0, none),
  (14, 1, .aload_n 0, [], (0, 0, 0), 0, 0, none),
  (15, 3, .getfield 11, [], (1, 6, 385), 0, 0, none),
  (18, 1, .aload_n 0, [], (0, 0, 0), 0, 0, none),
  (19, 3, .getfield 45, [], (1, 5, 383), 0, 0, none),
  (22, 1, .iload_n 2, [], (0, 0, 0), 0, 0, none),
  (23, 1, .iastore, [], (0, 0, 0), 0, 0, none),
  (24, 1, .aload_n 0, [], (0, 0, 0), 0, 0, none),
  (25, 3, .getfield 15, [], (1, 7, 387), 0, 0, none),
  (28, 1, .aload_n 0, [], (0, 0, 0), 0, 0, none),
  (29, 3, .getfield 45, [], (1, 5, 383), 0, 0, none),
  (32, 1, .iload_n 3, [], (0, 0, 0), 0, 0, none),
  (33, 1, .iastore, [], (0, 0, 0), 0, 0, none),
  (34, 1, .aload_n 0, [], (0, 0, 0), 0, 0, none),
  (35, 1, .dup, [], (0, 0, 0), 0, 0, none),
  (36, 3, .getfield 45, [], (1, 5, 383), 0, 0, none),
  (39, 1, .iconst 1, [], (0, 0, 0), 1, 0, none),
  (40, 1, .iadd, [], (0, 0, 0), 0, 0, none),
  (41, 3, .putfield 45, [0], (1, 5, 383), 0, 0, none),
  (44, 1, .return_, [], (0, 0, 0), 0, 0, none)]
set_option maxRecDepth 100000 in
theorem vX1_addIf : ab_chk mX1_addIf.1.cls mX1_addIf kX1_addIf = true := by decide +kernel
def mX8_hasFlag : ab_Md := (yX8_hasFlag, cX8_hasFlag, 3, some .boolean, { frames := 0, cells := 0, slots := 0, locals := 0 })
def kX8_hasFlag : List ab_En := [
  (0, 1, .aload_n 0, [], (0, 0, 0), 0, 0, none),
  (1, 3, .getfield 41, [], (7, 8, 157), 0, 0, none),
  (4, 1, .iload_n 1, [], (0, 0, 0), 0, 0, none),
  (5, 1, .iaload, [], (0, 0, 0), 0, 0, none),
  (6, 1, .iload_n 2, [], (0, 0, 0), 0, 0, none),
  (7, 1, .iand, [], (0, 0, 0), 0, 0, none),
  (8, 3, .ifCond .eq 7, [9], (0, 0, 0), 0, 0, none),
  (11, 1, .iconst 1, [], (0, 0, 0), 1, 0, none),
  (12, 3, .goto 4, [10], (0, 0, 0), 0, 0, none),
  (15, 1, .iconst 0, [], (0, 0, 0), 0, 0, none),
  (16, 1, .ireturn, [], (0, 0, 0), 0, 0, none)]
set_option maxRecDepth 100000 in
theorem vX8_hasFlag : ab_chk mX8_hasFlag.1.cls mX8_hasFlag kX8_hasFlag = true := by decide +kernel
def mX1_findInTypesAbove : ab_Md := (yX1_findInTypesAbove, cX1_findInTypesAbove, 4, none, { frames := 4, cells := 0, slots := 0, locals := 87 })
def kX1_findInTypesAbove : List ab_En := [
  (0, 1, .aload_n 0, [], (0, 0, 0), 0, 0, none),
  (1, 3, .getfield 25, [], (1, 0, 378), 0, 0, none),
  (4, 3, .getfield 109, [], (7, 7, 154), 0, 0, none),
  (7, 1, .iload_n 1, [], (0, 0, 0), 0, 0, none),
  (8, 1, .iaload, [], (0, 0, 0), 0, 0, none),
  (9, 1, .istore_n 2, [], (0, 0, 0), 0, 0, none),
  (10, 1, .aload_n 0, [], (0, 0, 0), 0, 0, none),
  (11, 1, .iload_n 2, [], (0, 0, 0), 0, 0, none),
  (12, 1, .iconst (-1), [], (0, 0, 0), (-1), 0, none),
  (13, 3, .if_icmp .eq 19, [18], (0, 0, 0), 0, 0, none),
  (16, 1, .aload_n 0, [], (0, 0, 0), 0, 0, none),
  (17, 3, .getfield 41, [], (1, 4, 382), 0, 0, none),
  (20, 1, .iload_n 1, [], (0, 0, 0), 0, 0, none),
  (21, 1, .iload_n 2, [], (0, 0, 0), 0, 0, none),
  (22, 3, .invokevirtual 112, [854, 75, 679, 677, 678], (5, 0, 0), 0, 0, some (mX5_isTypeOpen, 2)),
  (25, 3, .ifCond .ne 7, [18], (0, 0, 0), 0, 0, none),
  (28, 1, .iconst 1, [], (0, 0, 0), 1, 0, none),
  (29, 3, .goto 4, [19], (0, 0, 0), 0, 0, none),
  (32, 1, .iconst 0, [], (0, 0, 0), 0, 0, none),
  (33, 1, .iconst 1, [], (0, 0, 0), 1, 0, none),
  (34, 1, .iload_n 2, [], (0, 0, 0), 0, 0, none),
  (35, 3, .invokevirtual 118, [855, 78, 858, 857, 24], (1, 0, 0), 0, 0, some (mX1_addIf, 3)),
  (38, 1, .iconst 0, [], (0, 0, 0), 0, 0, none),
  (39, 1, .istore_n 3, [], (0, 0, 0), 0, 0, none),
  (40, 1, .iload_n 3, [], (0, 0, 0), 0, 0, none),
  (41, 1, .aload_n 0, [], (0, 0, 0), 0, 0, none),
  (42, 3, .getfield 25, [], (1, 0, 378), 0, 0, none),
  (45, 3, .getfield 122, [], (7, 0, 128), 0, 0, none),
  (48, 3, .if_icmp .ge 48, [52], (0, 0, 0), 0, 0, none),
  (51, 1, .aload_n 0, [], (0, 0, 0), 0, 0, none),
  (52, 1, .aload_n 0, [], (0, 0, 0), 0, 0, none),
  (53, 3, .getfield 25, [], (1, 0, 378), 0, 0, none),
  (56, 3, .getfield 125, [], (7, 9, 159), 0, 0, none),
  (59, 1, .iload_n 1, [], (0, 0, 0), 0, 0, none),
  (60, 1, .laload, [], (0, 0, 0), 0, 0, none),
  (61, 1, .iload_n 3, [], (0, 0, 0), 0, 0, none),
  (62, 3, .invokestatic 60, [842, 70, 504, 503], (0, 0, 0), 0, 0, some (mX7_has, 2)),
  (65, 3, .ifCond .eq 19, [46], (0, 0, 0), 0, 0, none),
  (68, 1, .aload_n 0, [], (0, 0, 0), 0, 0, none),
  (69, 3, .getfield 41, [], (1, 4, 382), 0, 0, none),
  (72, 1, .iload_n 1, [], (0, 0, 0), 0, 0, none),
  (73, 1, .iload_n 3, [], (0, 0, 0), 0, 0, none),
  (74, 3, .invokevirtual 112, [854, 75, 679, 677, 678], (5, 0, 0), 0, 0, some (mX5_isTypeOpen, 2)),
  (77, 3, .ifCond .ne 7, [46], (0, 0, 0), 0, 0, none),
  (80, 1, .iconst 1, [], (0, 0, 0), 1, 0, none),
  (81, 3, .goto 4, [47], (0, 0, 0), 0, 0, none),
  (84, 1, .iconst 0, [], (0, 0, 0), 0, 0, none),
  (85, 1, .iconst 2, [], (0, 0, 0), 2, 0, none),
  (86, 1, .iload_n 3, [], (0, 0, 0), 0, 0, none),
  (87, 3, .invokevirtual 118, [855, 78, 858, 857, 24], (1, 0, 0), 0, 0, some (mX1_addIf, 3)),
  (90, 3, .iinc 3 1, [], (0, 0, 0), 1, 0, none),
  (93, 3, .goto (-53), [24], (0, 0, 0), 0, 0, none),
  (96, 1, .aload_n 0, [], (0, 0, 0), 0, 0, none),
  (97, 1, .iload_n 2, [], (0, 0, 0), 0, 0, none),
  (98, 1, .iconst (-1), [], (0, 0, 0), (-1), 0, none),
  (99, 3, .if_icmp .eq 19, [64], (0, 0, 0), 0, 0, none),
  (102, 1, .aload_n 0, [], (0, 0, 0), 0, 0, none),
  (103, 3, .getfield 25, [], (1, 0, 378), 0, 0, none),
  (106, 1, .iload_n 2, [], (0, 0, 0), 0, 0, none),
  (107, 1, .iconst 2, [], (0, 0, 0), 2, 0, none),
  (108, 3, .invokevirtual 128, [859, 69, 593, 591, 592], (7, 0, 0), 0, 0, some (mX8_hasFlag, 2)),
  (111, 3, .ifCond .eq 7, [64], (0, 0, 0), 0, 0, none),
  (114, 1, .iconst 1, [], (0, 0, 0), 1, 0, none),
  (115, 3, .goto 4, [65], (0, 0, 0), 0, 0, none),
  (118, 1, .iconst 0, [], (0, 0, 0), 0, 0, none),
  (119, 1, .iconst 3, [], (0, 0, 0), 3, 0, none),
  (120, 1, .iload_n 2, [], (0, 0, 0), 0, 0, none),
  (121, 3, .invokevirtual 118, [855, 78, 858, 857, 24], (1, 0, 0), 0, 0, some (mX1_addIf, 3)),
  (124, 1, .return_, [], (0, 0, 0), 0, 0, none)]
set_option maxRecDepth 100000 in
theorem vX1_findInTypesAbove : ab_chk mX1_findInTypesAbove.1.cls mX1_findInTypesAbove kX1_findInTypesAbove = true := by decide +kernel
def mX3_exists : ab_Md := (yX3_exists, cX3_exists, 2, some .boolean, { frames := 0, cells := 0, slots := 0, locals := 0 })
def kX3_exists : List ab_En := [
  (0, 1, .iload_n 1, [], (0, 0, 0), 0, 0, none),
  (1, 3, .ifCond .lt 15, [8], (0, 0, 0), 0, 0, none),
  (4, 1, .iload_n 1, [], (0, 0, 0), 0, 0, none),
  (5, 1, .aload_n 0, [], (0, 0, 0), 0, 0, none),
  (6, 3, .getfield 9, [], (3, 1, 221), 0, 0, none),
  (9, 3, .if_icmp .ge 7, [8], (0, 0, 0), 0, 0, none),
  (12, 1, .iconst 1, [], (0, 0, 0), 1, 0, none),
  (13, 3, .goto 4, [9], (0, 0, 0), 0, 0, none),
  (16, 1, .iconst 0, [], (0, 0, 0), 0, 0, none),
  (17, 1, .ireturn, [], (0, 0, 0), 0, 0, none)]
set_option maxRecDepth 100000 in
theorem vX3_exists : ab_chk mX3_exists.1.cls mX3_exists kX3_exists = true := by decide +kernel
def mX3_isMethod : ab_Md := (yX3_isMethod, cX3_isMethod, 2, some .boolean, { frames := 1, cells := 0, slots := 0, locals := 21 })
def kX3_isMethod : List ab_En := [
  (0, 1, .aload_n 0, [], (0, 0, 0), 0, 0, none),
  (1, 1, .iload_n 1, [], (0, 0, 0), 0, 0, none),
  (2, 3, .invokevirtual 57, [774, 71, 697, 695, 696], (3, 0, 0), 0, 0, some (mX3_exists, 1)),
  (5, 3, .ifCond .eq 20, [13], (0, 0, 0), 0, 0, none),
  (8, 1, .aload_n 0, [], (0, 0, 0), 0, 0, none),
  (9, 1, .aload_n 0, [], (0, 0, 0), 0, 0, none),
  (10, 3, .getfield 19, [], (3, 3, 230), 0, 0, none),
  (13, 1, .iload_n 1, [], (0, 0, 0), 0, 0, none),
  (14, 1, .iaload, [], (0, 0, 0), 0, 0, none),
  (15, 3, .invokevirtual 61, [775, 71, 652, 650, 651], (3, 0, 0), 0, 0, some (mX3_isMethodGroup, 1)),
  (18, 3, .ifCond .eq 7, [13], (0, 0, 0), 0, 0, none),
  (21, 1, .iconst 1, [], (0, 0, 0), 1, 0, none),
  (22, 3, .goto 4, [14], (0, 0, 0), 0, 0, none),
  (25, 1, .iconst 0, [], (0, 0, 0), 0, 0, none),
  (26, 1, .ireturn, [], (0, 0, 0), 0, 0, none)]
set_option maxRecDepth 100000 in
theorem vX3_isMethod : ab_chk mX3_isMethod.1.cls mX3_isMethod kX3_isMethod = true := by decide +kernel
def mX3_hasFlag : ab_Md := (yX3_hasFlag, cX3_hasFlag, 3, some .boolean, { frames := 0, cells := 0, slots := 0, locals := 0 })
def kX3_hasFlag : List ab_En := [
  (0, 1, .aload_n 0, [], (0, 0, 0), 0, 0, none),
  (1, 3, .getfield 25, [], (3, 5, 238), 0, 0, none),
  (4, 1, .iload_n 1, [], (0, 0, 0), 0, 0, none),
  (5, 1, .iaload, [], (0, 0, 0), 0, 0, none),
  (6, 1, .iload_n 2, [], (0, 0, 0), 0, 0, none),
  (7, 1, .iand, [], (0, 0, 0), 0, 0, none),
  (8, 3, .ifCond .eq 7, [9], (0, 0, 0), 0, 0, none),
  (11, 1, .iconst 1, [], (0, 0, 0), 1, 0, none),
  (12, 3, .goto 4, [10], (0, 0, 0), 0, 0, none),
  (15, 1, .iconst 0, [], (0, 0, 0), 0, 0, none),
  (16, 1, .ireturn, [], (0, 0, 0), 0, 0, none)]
set_option maxRecDepth 100000 in
theorem vX3_hasFlag : ab_chk mX3_hasFlag.1.cls mX3_hasFlag kX3_hasFlag = true := by decide +kernel
def mX1_clashesWith : ab_Md := (yX1_clashesWith, cX1_clashesWith, 4, some .boolean, { frames := 1, cells := 0, slots := 0, locals := 22 })
def kX1_clashesWith : List ab_En := [
  (0, 1, .iload_n 3, [], (0, 0, 0), 0, 0, none),
  (1, 1, .iconst (-1), [], (0, 0, 0), (-1), 0, none),
  (2, 3, .if_icmp .ne 5, [5], (0, 0, 0), 0, 0, none),
  (5, 1, .iconst 0, [], (0, 0, 0), 0, 0, none),
  (6, 1, .ireturn, [], (0, 0, 0), 0, 0, none),
  (7, 1, .iload_n 1, [], (0, 0, 0), 0, 0, none),
  (8, 28, .lookupswitch 65 #[(4, 28), (5, 55)], [28, 7, 22], (0, 0, 0), 0, 0, none),
  (36, 1, .aload_n 0, [], (0, 0, 0), 0, 0, none),
  (37, 3, .getfield 29, [], (1, 1, 379), 0, 0, none),
  (40, 3, .getfield 153, [], (3, 4, 237), 0, 0, none),
  (43, 1, .iload_n 3, [], (0, 0, 0), 0, 0, none),
  (44, 1, .iaload, [], (0, 0, 0), 0, 0, none),
  (45, 1, .aload_n 0, [], (0, 0, 0), 0, 0, none),
  (46, 3, .getfield 29, [], (1, 1, 379), 0, 0, none),
  (49, 3, .getfield 153, [], (3, 4, 237), 0, 0, none),
  (52, 1, .iload_n 2, [], (0, 0, 0), 0, 0, none),
  (53, 1, .iaload, [], (0, 0, 0), 0, 0, none),
  (54, 3, .if_icmp .le 7, [20], (0, 0, 0), 0, 0, none),
  (57, 1, .iconst 1, [], (0, 0, 0), 1, 0, none),
  (58, 3, .goto 4, [21], (0, 0, 0), 0, 0, none),
  (61, 1, .iconst 0, [], (0, 0, 0), 0, 0, none),
  (62, 1, .ireturn, [], (0, 0, 0), 0, 0, none),
  (63, 1, .aload_n 0, [], (0, 0, 0), 0, 0, none),
  (64, 3, .getfield 29, [], (1, 1, 379), 0, 0, none),
  (67, 1, .iload_n 3, [], (0, 0, 0), 0, 0, none),
  (68, 1, .iconst 2, [], (0, 0, 0), 2, 0, none),
  (69, 3, .invokevirtual 156, [874, 71, 734, 732, 733], (3, 0, 0), 0, 0, some (mX3_hasFlag, 2)),
  (72, 1, .ireturn, [], (0, 0, 0), 0, 0, none),
  (73, 1, .aload_n 0, [], (0, 0, 0), 0, 0, none),
  (74, 3, .getfield 29, [], (1, 1, 379), 0, 0, none),
  (77, 1, .iload_n 3, [], (0, 0, 0), 0, 0, none),
  (78, 1, .iconst 1, [], (0, 0, 0), 1, 0, none),
  (79, 3, .invokevirtual 156, [874, 71, 734, 732, 733], (3, 0, 0), 0, 0, some (mX3_hasFlag, 2)),
  (82, 1, .aload_n 0, [], (0, 0, 0), 0, 0, none),
  (83, 3, .getfield 29, [], (1, 1, 379), 0, 0, none),
  (86, 1, .iload_n 2, [], (0, 0, 0), 0, 0, none),
  (87, 1, .iconst 1, [], (0, 0, 0), 1, 0, none),
  (88, 3, .invokevirtual 156, [874, 71, 734, 732, 733], (3, 0, 0), 0, 0, some (mX3_hasFlag, 2)),
  (91, 3, .if_icmp .eq 7, [41], (0, 0, 0), 0, 0, none),
  (94, 1, .iconst 1, [], (0, 0, 0), 1, 0, none),
  (95, 3, .goto 4, [42], (0, 0, 0), 0, 0, none),
  (98, 1, .iconst 0, [], (0, 0, 0), 0, 0, none),
  (99, 1, .ireturn, [], (0, 0, 0), 0, 0, none)]
set_option maxRecDepth 100000 in
theorem vX1_clashesWith : ab_chk mX1_clashesWith.1.cls mX1_clashesWith kX1_clashesWith = true := by decide +kernel
def mX1_clashes : ab_Md := (yX1_clashes, cX1_clashes, 7, some .boolean, { frames := 2, cells := 0, slots := 0, locals := 45 })
def kX1_clashes : List ab_En := [
  (0, 1, .aload_n 0, [], (0, 0, 0), 0, 0, none),
  (1, 3, .getfield 29, [], (1, 1, 379), 0, 0, none),
  (4, 3, .getfield 142, [], (3, 3, 233), 0, 0, none),
  (7, 1, .iload_n 2, [], (0, 0, 0), 0, 0, none),
  (8, 1, .iaload, [], (0, 0, 0), 0, 0, none),
  (9, 1, .istore_n 3, [], (0, 0, 0), 0, 0, none),
  (10, 1, .aload_n 0, [], (0, 0, 0), 0, 0, none),
  (11, 3, .getfield 22, [], (1, 9, 390), 0, 0, none),
  (14, 1, .iload_n 3, [], (0, 0, 0), 0, 0, none),
  (15, 2, .bipush 10, [], (0, 0, 0), 10, 0, none),
  (17, 1, .isub, [], (0, 0, 0), 0, 0, none),
  (18, 1, .laload, [], (0, 0, 0), 0, 0, none),
  (19, 2, .lstore 4, [], (0, 0, 0), 0, 0, none),
  (21, 1, .iconst 0, [], (0, 0, 0), 0, 0, none),
  (22, 2, .istore 6, [], (0, 0, 0), 0, 0, none),
  (24, 2, .iload 6, [], (0, 0, 0), 0, 0, none),
  (26, 1, .aload_n 0, [], (0, 0, 0), 0, 0, none),
  (27, 3, .getfield 25, [], (1, 0, 378), 0, 0, none),
  (30, 3, .getfield 122, [], (7, 0, 128), 0, 0, none),
  (33, 3, .if_icmp .ge 47, [42], (0, 0, 0), 0, 0, none),
  (36, 2, .lload 4, [], (0, 0, 0), 0, 0, none),
  (38, 1, .lconst 0, [], (0, 0, 0), 0, 0, none),
  (39, 1, .lcmp, [], (0, 0, 0), 0, 0, none),
  (40, 3, .ifCond .eq 40, [42], (0, 0, 0), 0, 0, none),
  (43, 2, .lload 4, [], (0, 0, 0), 0, 0, none),
  (45, 2, .iload 6, [], (0, 0, 0), 0, 0, none),
  (47, 3, .invokestatic 60, [842, 70, 504, 503], (0, 0, 0), 0, 0, some (mX7_has, 2)),
  (50, 3, .ifCond .eq 24, [40], (0, 0, 0), 0, 0, none),
  (53, 1, .aload_n 0, [], (0, 0, 0), 0, 0, none),
  (54, 1, .iload_n 1, [], (0, 0, 0), 0, 0, none),
  (55, 1, .iload_n 2, [], (0, 0, 0), 0, 0, none),
  (56, 1, .aload_n 0, [], (0, 0, 0), 0, 0, none),
  (57, 3, .getfield 29, [], (1, 1, 379), 0, 0, none),
  (60, 2, .iload 6, [], (0, 0, 0), 0, 0, none),
  (62, 1, .iload_n 3, [], (0, 0, 0), 0, 0, none),
  (63, 3, .invokevirtual 145, [869, 71, 597, 595, 596], (3, 0, 0), 0, 0, some (mX3_declared, 2)),
  (66, 3, .invokevirtual 149, [870, 78, 873, 872, 27], (1, 0, 0), 0, 0, some (mX1_clashesWith, 3)),
  (69, 3, .ifCond .eq 5, [40], (0, 0, 0), 0, 0, none),
  (72, 1, .iconst 1, [], (0, 0, 0), 1, 0, none),
  (73, 1, .ireturn, [], (0, 0, 0), 0, 0, none),
  (74, 3, .iinc 6 1, [], (0, 0, 0), 1, 0, none),
  (77, 3, .goto (-53), [15], (0, 0, 0), 0, 0, none),
  (80, 1, .iconst 0, [], (0, 0, 0), 0, 0, none),
  (81, 1, .ireturn, [], (0, 0, 0), 0, 0, none)]
set_option maxRecDepth 100000 in
theorem vX1_clashes : ab_chk mX1_clashes.1.cls mX1_clashes kX1_clashes = true := by decide +kernel
def mX1_findInDeclared : ab_Md := (yX1_findInDeclared, cX1_findInDeclared, 4, none, { frames := 3, cells := 0, slots := 0, locals := 71 })
def kX1_findInDeclared : List ab_En := [
  (0, 1, .iconst 4, [], (0, 0, 0), 4, 0, none),
  (1, 1, .istore_n 2, [], (0, 0, 0), 0, 0, none),
  (2, 1, .iload_n 2, [], (0, 0, 0), 0, 0, none),
  (3, 2, .bipush 6, [], (0, 0, 0), 6, 0, none),
  (5, 3, .if_icmp .gt 64, [36], (0, 0, 0), 0, 0, none),
  (8, 1, .iconst 0, [], (0, 0, 0), 0, 0, none),
  (9, 1, .istore_n 3, [], (0, 0, 0), 0, 0, none),
  (10, 1, .iload_n 3, [], (0, 0, 0), 0, 0, none),
  (11, 1, .aload_n 0, [], (0, 0, 0), 0, 0, none),
  (12, 3, .getfield 29, [], (1, 1, 379), 0, 0, none),
  (15, 3, .getfield 131, [], (3, 1, 222), 0, 0, none),
  (18, 3, .if_icmp .ge 45, [34], (0, 0, 0), 0, 0, none),
  (21, 1, .aload_n 0, [], (0, 0, 0), 0, 0, none),
  (22, 3, .getfield 29, [], (1, 1, 379), 0, 0, none),
  (25, 3, .getfield 132, [], (3, 2, 228), 0, 0, none),
  (28, 1, .iload_n 3, [], (0, 0, 0), 0, 0, none),
  (29, 1, .iaload, [], (0, 0, 0), 0, 0, none),
  (30, 1, .iload_n 1, [], (0, 0, 0), 0, 0, none),
  (31, 3, .if_icmp .ne 26, [32], (0, 0, 0), 0, 0, none),
  (34, 1, .aload_n 0, [], (0, 0, 0), 0, 0, none),
  (35, 3, .getfield 29, [], (1, 1, 379), 0, 0, none),
  (38, 1, .iload_n 3, [], (0, 0, 0), 0, 0, none),
  (39, 3, .invokevirtual 135, [864, 71, 773, 771, 772], (3, 0, 0), 0, 0, some (mX3_isMethod, 1)),
  (42, 3, .ifCond .eq 15, [32], (0, 0, 0), 0, 0, none),
  (45, 1, .aload_n 0, [], (0, 0, 0), 0, 0, none),
  (46, 1, .aload_n 0, [], (0, 0, 0), 0, 0, none),
  (47, 1, .iload_n 2, [], (0, 0, 0), 0, 0, none),
  (48, 1, .iload_n 3, [], (0, 0, 0), 0, 0, none),
  (49, 3, .invokevirtual 139, [865, 78, 868, 867, 26], (1, 0, 0), 0, 0, some (mX1_clashes, 2)),
  (52, 1, .iload_n 2, [], (0, 0, 0), 0, 0, none),
  (53, 1, .iload_n 3, [], (0, 0, 0), 0, 0, none),
  (54, 3, .invokevirtual 118, [855, 78, 858, 857, 24], (1, 0, 0), 0, 0, some (mX1_addIf, 3)),
  (57, 3, .iinc 3 1, [], (0, 0, 0), 1, 0, none),
  (60, 3, .goto (-50), [7], (0, 0, 0), 0, 0, none),
  (63, 3, .iinc 2 1, [], (0, 0, 0), 1, 0, none),
  (66, 3, .goto (-64), [2], (0, 0, 0), 0, 0, none),
  (69, 1, .return_, [], (0, 0, 0), 0, 0, none)]
set_option maxRecDepth 100000 in
theorem vX1_findInDeclared : ab_chk mX1_findInDeclared.1.cls mX1_findInDeclared kX1_findInDeclared = true := by decide +kernel
def mX1_isFound : ab_Md := (yX1_isFound, cX1_isFound, 2, some .boolean, { frames := 2, cells := 0, slots := 0, locals := 42 })
def kX1_isFound : List ab_En := [
  (0, 1, .aload_n 0, [], (0, 0, 0), 0, 0, none),
  (1, 3, .getfield 29, [], (1, 1, 379), 0, 0, none),
  (4, 1, .iload_n 1, [], (0, 0, 0), 0, 0, none),
  (5, 3, .invokevirtual 135, [864, 71, 773, 771, 772], (3, 0, 0), 0, 0, some (mX3_isMethod, 1)),
  (8, 3, .ifCond .eq 39, [24], (0, 0, 0), 0, 0, none),
  (11, 1, .aload_n 0, [], (0, 0, 0), 0, 0, none),
  (12, 3, .getfield 18, [], (1, 8, 389), 0, 0, none),
  (15, 1, .aload_n 0, [], (0, 0, 0), 0, 0, none),
  (16, 3, .getfield 29, [], (1, 1, 379), 0, 0, none),
  (19, 3, .getfield 142, [], (3, 3, 233), 0, 0, none),
  (22, 1, .iload_n 1, [], (0, 0, 0), 0, 0, none),
  (23, 1, .iaload, [], (0, 0, 0), 0, 0, none),
  (24, 2, .bipush 10, [], (0, 0, 0), 10, 0, none),
  (26, 1, .isub, [], (0, 0, 0), 0, 0, none),
  (27, 1, .laload, [], (0, 0, 0), 0, 0, none),
  (28, 1, .aload_n 0, [], (0, 0, 0), 0, 0, none),
  (29, 3, .getfield 29, [], (1, 1, 379), 0, 0, none),
  (32, 3, .getfield 132, [], (3, 2, 228), 0, 0, none),
  (35, 1, .iload_n 1, [], (0, 0, 0), 0, 0, none),
  (36, 1, .iaload, [], (0, 0, 0), 0, 0, none),
  (37, 3, .invokestatic 60, [842, 70, 504, 503], (0, 0, 0), 0, 0, some (mX7_has, 2)),
  (40, 3, .ifCond .eq 7, [24], (0, 0, 0), 0, 0, none),
  (43, 1, .iconst 1, [], (0, 0, 0), 1, 0, none),
  (44, 3, .goto 4, [25], (0, 0, 0), 0, 0, none),
  (47, 1, .iconst 0, [], (0, 0, 0), 0, 0, none),
  (48, 1, .ireturn, [], (0, 0, 0), 0, 0, none)]
set_option maxRecDepth 100000 in
theorem vX1_isFound : ab_chk mX1_isFound.1.cls mX1_isFound kX1_isFound = true := by decide +kernel
def mX1_isRivalled : ab_Md := (yX1_isRivalled, cX1_isRivalled, 6, some .boolean, { frames := 2, cells := 0, slots := 0, locals := 43 })
def kX1_isRivalled : List ab_En := [
  (0, 1, .aload_n 0, [], (0, 0, 0), 0, 0, none),
  (1, 3, .getfield 29, [], (1, 1, 379), 0, 0, none),
  (4, 3, .getfield 142, [], (3, 3, 233), 0, 0, none),
  (7, 1, .iload_n 1, [], (0, 0, 0), 0, 0, none),
  (8, 1, .iaload, [], (0, 0, 0), 0, 0, none),
  (9, 1, .istore_n 2, [], (0, 0, 0), 0, 0, none),
  (10, 1, .aload_n 0, [], (0, 0, 0), 0, 0, none),
  (11, 3, .getfield 29, [], (1, 1, 379), 0, 0, none),
  (14, 3, .getfield 132, [], (3, 2, 228), 0, 0, none),
  (17, 1, .iload_n 1, [], (0, 0, 0), 0, 0, none),
  (18, 1, .iaload, [], (0, 0, 0), 0, 0, none),
  (19, 1, .istore_n 3, [], (0, 0, 0), 0, 0, none),
  (20, 1, .aload_n 0, [], (0, 0, 0), 0, 0, none),
  (21, 3, .getfield 18, [], (1, 8, 389), 0, 0, none),
  (24, 1, .iload_n 2, [], (0, 0, 0), 0, 0, none),
  (25, 2, .bipush 10, [], (0, 0, 0), 10, 0, none),
  (27, 1, .isub, [], (0, 0, 0), 0, 0, none),
  (28, 1, .laload, [], (0, 0, 0), 0, 0, none),
  (29, 1, .aload_n 0, [], (0, 0, 0), 0, 0, none),
  (30, 3, .getfield 29, [], (1, 1, 379), 0, 0, none),
  (33, 1, .iload_n 2, [], (0, 0, 0), 0, 0, none),
  (34, 3, .invokevirtual 166, [888, 71, 656, 654, 655], (3, 0, 0), 0, 0, some (mX3_overridable, 1)),
  (37, 1, .land, [], (0, 0, 0), 0, 0, none),
  (38, 2, .lstore 4, [], (0, 0, 0), 0, 0, none),
  (40, 1, .aload_n 0, [], (0, 0, 0), 0, 0, none),
  (41, 3, .getfield 25, [], (1, 0, 378), 0, 0, none),
  (44, 1, .iload_n 3, [], (0, 0, 0), 0, 0, none),
  (45, 3, .invokevirtual 157, [879, 69, 501, 499, 500], (7, 0, 0), 0, 0, some (mX8_isClass, 1)),
  (48, 3, .ifCond .ne 37, [45], (0, 0, 0), 0, 0, none),
  (51, 1, .aload_n 0, [], (0, 0, 0), 0, 0, none),
  (52, 3, .getfield 29, [], (1, 1, 379), 0, 0, none),
  (55, 1, .iload_n 1, [], (0, 0, 0), 0, 0, none),
  (56, 1, .iconst 4, [], (0, 0, 0), 4, 0, none),
  (57, 3, .invokevirtual 156, [874, 71, 734, 732, 733], (3, 0, 0), 0, 0, some (mX3_hasFlag, 2)),
  (60, 3, .ifCond .ne 25, [45], (0, 0, 0), 0, 0, none),
  (63, 2, .lload 4, [], (0, 0, 0), 0, 0, none),
  (65, 1, .iload_n 3, [], (0, 0, 0), 0, 0, none),
  (66, 3, .invokestatic 60, [842, 70, 504, 503], (0, 0, 0), 0, 0, some (mX7_has, 2)),
  (69, 3, .ifCond .eq 16, [45], (0, 0, 0), 0, 0, none),
  (72, 2, .lload 4, [], (0, 0, 0), 0, 0, none),
  (74, 3, .invokestatic 169, [889, 81, 569, 568], (0, 0, 0), 0, 0, some (mJ13_bitCount_95d88, 1)),
  (77, 1, .iconst 1, [], (0, 0, 0), 1, 0, none),
  (78, 3, .if_icmp .le 7, [45], (0, 0, 0), 0, 0, none),
  (81, 1, .iconst 1, [], (0, 0, 0), 1, 0, none),
  (82, 3, .goto 4, [46], (0, 0, 0), 0, 0, none),
  (85, 1, .iconst 0, [], (0, 0, 0), 0, 0, none),
  (86, 1, .ireturn, [], (0, 0, 0), 0, 0, none)]
set_option maxRecDepth 100000 in
theorem vX1_isRivalled : ab_chk mX1_isRivalled.1.cls mX1_isRivalled kX1_isRivalled = true := by decide +kernel
def mX1_findInMembers : ab_Md := (yX1_findInMembers, cX1_findInMembers, 4, none, { frames := 3, cells := 0, slots := 0, locals := 68 })
def kX1_findInMembers : List ab_En := [
  (0, 1, .aload_n 0, [], (0, 0, 0), 0, 0, none),
  (1, 3, .getfield 25, [], (1, 0, 378), 0, 0, none),
  (4, 1, .iload_n 1, [], (0, 0, 0), 0, 0, none),
  (5, 3, .invokevirtual 157, [879, 69, 501, 499, 500], (7, 0, 0), 0, 0, some (mX8_isClass, 1)),
  (8, 3, .ifCond .eq 19, [13], (0, 0, 0), 0, 0, none),
  (11, 1, .aload_n 0, [], (0, 0, 0), 0, 0, none),
  (12, 3, .getfield 25, [], (1, 0, 378), 0, 0, none),
  (15, 1, .iload_n 1, [], (0, 0, 0), 0, 0, none),
  (16, 1, .iconst 4, [], (0, 0, 0), 4, 0, none),
  (17, 3, .invokevirtual 128, [859, 69, 593, 591, 592], (7, 0, 0), 0, 0, some (mX8_hasFlag, 2)),
  (20, 3, .ifCond .ne 7, [13], (0, 0, 0), 0, 0, none),
  (23, 1, .iconst 1, [], (0, 0, 0), 1, 0, none),
  (24, 3, .goto 4, [14], (0, 0, 0), 0, 0, none),
  (27, 1, .iconst 0, [], (0, 0, 0), 0, 0, none),
  (28, 1, .istore_n 2, [], (0, 0, 0), 0, 0, none),
  (29, 1, .iconst 0, [], (0, 0, 0), 0, 0, none),
  (30, 1, .istore_n 3, [], (0, 0, 0), 0, 0, none),
  (31, 1, .iload_n 3, [], (0, 0, 0), 0, 0, none),
  (32, 1, .aload_n 0, [], (0, 0, 0), 0, 0, none),
  (33, 3, .getfield 29, [], (1, 1, 379), 0, 0, none),
  (36, 3, .getfield 131, [], (3, 1, 222), 0, 0, none),
  (39, 3, .if_icmp .ge 45, [43], (0, 0, 0), 0, 0, none),
  (42, 1, .iload_n 2, [], (0, 0, 0), 0, 0, none),
  (43, 3, .ifCond .eq 41, [43], (0, 0, 0), 0, 0, none),
  (46, 1, .aload_n 0, [], (0, 0, 0), 0, 0, none),
  (47, 1, .aload_n 0, [], (0, 0, 0), 0, 0, none),
  (48, 1, .iload_n 3, [], (0, 0, 0), 0, 0, none),
  (49, 3, .invokevirtual 160, [880, 78, 883, 882, 29], (1, 0, 0), 0, 0, some (mX1_isFound, 1)),
  (52, 3, .ifCond .eq 19, [37], (0, 0, 0), 0, 0, none),
  (55, 1, .aload_n 0, [], (0, 0, 0), 0, 0, none),
  (56, 3, .getfield 29, [], (1, 1, 379), 0, 0, none),
  (59, 1, .iload_n 3, [], (0, 0, 0), 0, 0, none),
  (60, 1, .iconst 4, [], (0, 0, 0), 4, 0, none),
  (61, 3, .invokevirtual 156, [874, 71, 734, 732, 733], (3, 0, 0), 0, 0, some (mX3_hasFlag, 2)),
  (64, 3, .ifCond .eq 7, [37], (0, 0, 0), 0, 0, none),
  (67, 1, .iconst 1, [], (0, 0, 0), 1, 0, none),
  (68, 3, .goto 4, [38], (0, 0, 0), 0, 0, none),
  (71, 1, .iconst 0, [], (0, 0, 0), 0, 0, none),
  (72, 2, .bipush 7, [], (0, 0, 0), 7, 0, none),
  (74, 1, .iload_n 3, [], (0, 0, 0), 0, 0, none),
  (75, 3, .invokevirtual 118, [855, 78, 858, 857, 24], (1, 0, 0), 0, 0, some (mX1_addIf, 3)),
  (78, 3, .iinc 3 1, [], (0, 0, 0), 1, 0, none),
  (81, 3, .goto (-50), [17], (0, 0, 0), 0, 0, none),
  (84, 1, .iconst 0, [], (0, 0, 0), 0, 0, none),
  (85, 1, .istore_n 3, [], (0, 0, 0), 0, 0, none),
  (86, 1, .iload_n 3, [], (0, 0, 0), 0, 0, none),
  (87, 1, .aload_n 0, [], (0, 0, 0), 0, 0, none),
  (88, 3, .getfield 29, [], (1, 1, 379), 0, 0, none),
  (91, 3, .getfield 131, [], (3, 1, 222), 0, 0, none),
  (94, 3, .if_icmp .ge 37, [67], (0, 0, 0), 0, 0, none),
  (97, 1, .aload_n 0, [], (0, 0, 0), 0, 0, none),
  (98, 1, .aload_n 0, [], (0, 0, 0), 0, 0, none),
  (99, 1, .iload_n 3, [], (0, 0, 0), 0, 0, none),
  (100, 3, .invokevirtual 160, [880, 78, 883, 882, 29], (1, 0, 0), 0, 0, some (mX1_isFound, 1)),
  (103, 3, .ifCond .eq 15, [61], (0, 0, 0), 0, 0, none),
  (106, 1, .aload_n 0, [], (0, 0, 0), 0, 0, none),
  (107, 1, .iload_n 3, [], (0, 0, 0), 0, 0, none),
  (108, 3, .invokevirtual 163, [884, 78, 887, 886, 30], (1, 0, 0), 0, 0, some (mX1_isRivalled, 1)),
  (111, 3, .ifCond .eq 7, [61], (0, 0, 0), 0, 0, none),
  (114, 1, .iconst 1, [], (0, 0, 0), 1, 0, none),
  (115, 3, .goto 4, [62], (0, 0, 0), 0, 0, none),
  (118, 1, .iconst 0, [], (0, 0, 0), 0, 0, none),
  (119, 2, .bipush 8, [], (0, 0, 0), 8, 0, none),
  (121, 1, .iload_n 3, [], (0, 0, 0), 0, 0, none),
  (122, 3, .invokevirtual 118, [855, 78, 858, 857, 24], (1, 0, 0), 0, 0, some (mX1_addIf, 3)),
  (125, 3, .iinc 3 1, [], (0, 0, 0), 1, 0, none),
  (128, 3, .goto (-42), [45], (0, 0, 0), 0, 0, none),
  (131, 1, .return_, [], (0, 0, 0), 0, 0, none)]
set_option maxRecDepth 100000 in
theorem vX1_findInMembers : ab_chk mX1_findInMembers.1.cls mX1_findInMembers kX1_findInMembers = true := by decide +kernel
def mX1_find : ab_Md := (yX1_find, cX1_find, 4, none, { frames := 5, cells := 0, slots := 0, locals := 126 })
def kX1_find : List ab_En := [
  (0, 1, .aload_n 0, [], (0, 0, 0), 0, 0, none),
  (1, 1, .iconst 0, [], (0, 0, 0), 0, 0, none),
  (2, 3, .putfield 45, [0], (1, 5, 383), 0, 0, none),
  (5, 1, .iconst 0, [], (0, 0, 0), 0, 0, none),
  (6, 1, .istore_n 2, [], (0, 0, 0), 0, 0, none),
  (7, 1, .iload_n 2, [], (0, 0, 0), 0, 0, none),
  (8, 2, .bipush 10, [], (0, 0, 0), 10, 0, none),
  (10, 3, .if_icmp .ge 70, [46], (0, 0, 0), 0, 0, none),
  (13, 2, .bipush 10, [], (0, 0, 0), 10, 0, none),
  (15, 1, .iload_n 2, [], (0, 0, 0), 0, 0, none),
  (16, 1, .iadd, [], (0, 0, 0), 0, 0, none),
  (17, 1, .istore_n 3, [], (0, 0, 0), 0, 0, none),
  (18, 1, .aload_n 0, [], (0, 0, 0), 0, 0, none),
  (19, 3, .getfield 18, [], (1, 8, 389), 0, 0, none),
  (22, 1, .iload_n 2, [], (0, 0, 0), 0, 0, none),
  (23, 1, .aload_n 0, [], (0, 0, 0), 0, 0, none),
  (24, 3, .getfield 33, [], (1, 2, 380), 0, 0, none),
  (27, 1, .iload_n 1, [], (0, 0, 0), 0, 0, none),
  (28, 1, .iload_n 3, [], (0, 0, 0), 0, 0, none),
  (29, 3, .invokevirtual 49, [841, 73, 621, 619, 620], (2, 0, 0), 0, 0, some (mX2_membersOf, 2)),
  (32, 1, .lastore, [], (0, 0, 0), 0, 0, none),
  (33, 1, .aload_n 0, [], (0, 0, 0), 0, 0, none),
  (34, 3, .getfield 22, [], (1, 9, 390), 0, 0, none),
  (37, 1, .iload_n 2, [], (0, 0, 0), 0, 0, none),
  (38, 1, .aload_n 0, [], (0, 0, 0), 0, 0, none),
  (39, 3, .getfield 29, [], (1, 1, 379), 0, 0, none),
  (42, 3, .getfield 55, [], (3, 7, 241), 0, 0, none),
  (45, 1, .iload_n 3, [], (0, 0, 0), 0, 0, none),
  (46, 1, .laload, [], (0, 0, 0), 0, 0, none),
  (47, 1, .iload_n 1, [], (0, 0, 0), 0, 0, none),
  (48, 3, .invokestatic 60, [842, 70, 504, 503], (0, 0, 0), 0, 0, some (mX7_has, 2)),
  (51, 3, .ifCond .eq 21, [42], (0, 0, 0), 0, 0, none),
  (54, 1, .aload_n 0, [], (0, 0, 0), 0, 0, none),
  (55, 1, .iload_n 1, [], (0, 0, 0), 0, 0, none),
  (56, 1, .iload_n 3, [], (0, 0, 0), 0, 0, none),
  (57, 1, .aload_n 0, [], (0, 0, 0), 0, 0, none),
  (58, 3, .getfield 37, [], (1, 3, 381), 0, 0, none),
  (61, 1, .iload_n 1, [], (0, 0, 0), 0, 0, none),
  (62, 1, .iload_n 3, [], (0, 0, 0), 0, 0, none),
  (63, 3, .invokevirtual 66, [843, 74, 783, 781, 782], (6, 0, 0), 0, 0, some (mX6_overriddenBy, 2)),
  (66, 3, .invokevirtual 71, [844, 78, 847, 846, 22], (1, 0, 0), 0, 0, some (mX1_metBy, 3)),
  (69, 3, .goto 4, [43], (0, 0, 0), 0, 0, none),
  (72, 1, .lconst 0, [], (0, 0, 0), 0, 0, none),
  (73, 1, .lastore, [], (0, 0, 0), 0, 0, none),
  (74, 3, .iinc 2 1, [], (0, 0, 0), 1, 0, none),
  (77, 3, .goto (-70), [5], (0, 0, 0), 0, 0, none),
  (80, 1, .aload_n 0, [], (0, 0, 0), 0, 0, none),
  (81, 1, .iload_n 1, [], (0, 0, 0), 0, 0, none),
  (82, 3, .invokevirtual 75, [850, 78, 853, 852, 23], (1, 0, 0), 0, 0, some (mX1_findInTypesAbove, 1)),
  (85, 1, .aload_n 0, [], (0, 0, 0), 0, 0, none),
  (86, 1, .iload_n 1, [], (0, 0, 0), 0, 0, none),
  (87, 3, .invokevirtual 79, [860, 78, 863, 862, 25], (1, 0, 0), 0, 0, some (mX1_findInDeclared, 1)),
  (90, 1, .aload_n 0, [], (0, 0, 0), 0, 0, none),
  (91, 1, .iload_n 1, [], (0, 0, 0), 0, 0, none),
  (92, 3, .invokevirtual 82, [875, 78, 878, 877, 28], (1, 0, 0), 0, 0, some (mX1_findInMembers, 1)),
  (95, 1, .return_, [], (0, 0, 0), 0, 0, none)]
set_option maxRecDepth 100000 in
theorem vX1_find : ab_chk mX1_find.1.cls mX1_find kX1_find = true := by decide +kernel
def mX2_forget : ab_Md := (yX2_forget, cX2_forget, 1, none, { frames := 0, cells := 0, slots := 0, locals := 0 })
def kX2_forget : List ab_En := [
  (0, 1, .aload_n 0, [], (0, 0, 0), 0, 0, none),
  (1, 1, .iconst 0, [], (0, 0, 0), 0, 0, none),
  (2, 3, .putfield 23, [0], (2, 3, 289), 0, 0, none),
  (5, 1, .return_, [], (0, 0, 0), 0, 0, none)]
set_option maxRecDepth 100000 in
theorem vX2_forget : ab_chk mX2_forget.1.cls mX2_forget kX2_forget = true := by decide +kernel
def mX2_howMany : ab_Md := (yX2_howMany, cX2_howMany, 4, some .int, { frames := 5, cells := 0, slots := 0, locals := 121 })
def kX2_howMany : List ab_En := [
  (0, 1, .iconst 0, [], (0, 0, 0), 0, 0, none),
  (1, 1, .istore_n 2, [], (0, 0, 0), 0, 0, none),
  (2, 1, .iconst 0, [], (0, 0, 0), 0, 0, none),
  (3, 1, .istore_n 3, [], (0, 0, 0), 0, 0, none),
  (4, 1, .iload_n 3, [], (0, 0, 0), 0, 0, none),
  (5, 2, .bipush 30, [], (0, 0, 0), 30, 0, none),
  (7, 3, .if_icmp .ge 21, [17], (0, 0, 0), 0, 0, none),
  (10, 1, .iload_n 2, [], (0, 0, 0), 0, 0, none),
  (11, 1, .aload_n 0, [], (0, 0, 0), 0, 0, none),
  (12, 1, .iload_n 1, [], (0, 0, 0), 0, 0, none),
  (13, 1, .iload_n 3, [], (0, 0, 0), 0, 0, none),
  (14, 3, .invokevirtual 29, [618, 73, 621, 619, 620], (2, 0, 0), 0, 0, some (mX2_membersOf, 2)),
  (17, 3, .invokestatic 33, [663, 81, 569, 568], (0, 0, 0), 0, 0, some (mJ13_bitCount_95d88, 1)),
  (20, 1, .iadd, [], (0, 0, 0), 0, 0, none),
  (21, 1, .istore_n 2, [], (0, 0, 0), 0, 0, none),
  (22, 3, .iinc 3 1, [], (0, 0, 0), 1, 0, none),
  (25, 3, .goto (-21), [4], (0, 0, 0), 0, 0, none),
  (28, 1, .iload_n 2, [], (0, 0, 0), 0, 0, none),
  (29, 1, .ireturn, [], (0, 0, 0), 0, 0, none)]
set_option maxRecDepth 100000 in
theorem vX2_howMany : ab_chk mX2_howMany.1.cls mX2_howMany kX2_howMany = true := by decide +kernel
def mX3_fitsInterface : ab_Md := (yX3_fitsInterface, cX3_fitsInterface, 4, some .boolean, { frames := 0, cells := 0, slots := 0, locals := 0 })
def kX3_fitsInterface : List ab_En := [
  (0, 1, .iload_n 1, [], (0, 0, 0), 0, 0, none),
  (1, 3, .ifCond .ne 20, [13], (0, 0, 0), 0, 0, none),
  (4, 1, .iload_n 2, [], (0, 0, 0), 0, 0, none),
  (5, 1, .iconst 3, [], (0, 0, 0), 3, 0, none),
  (6, 3, .if_icmp .ne 13, [11], (0, 0, 0), 0, 0, none),
  (9, 1, .iload_n 3, [], (0, 0, 0), 0, 0, none),
  (10, 1, .iconst 1, [], (0, 0, 0), 1, 0, none),
  (11, 1, .iand, [], (0, 0, 0), 0, 0, none),
  (12, 3, .ifCond .eq 7, [11], (0, 0, 0), 0, 0, none),
  (15, 1, .iconst 1, [], (0, 0, 0), 1, 0, none),
  (16, 3, .goto 4, [12], (0, 0, 0), 0, 0, none),
  (19, 1, .iconst 0, [], (0, 0, 0), 0, 0, none),
  (20, 1, .ireturn, [], (0, 0, 0), 0, 0, none),
  (21, 1, .iload_n 1, [], (0, 0, 0), 0, 0, none),
  (22, 1, .iconst 1, [], (0, 0, 0), 1, 0, none),
  (23, 3, .if_icmp .ne 22, [27], (0, 0, 0), 0, 0, none),
  (26, 1, .iload_n 2, [], (0, 0, 0), 0, 0, none),
  (27, 1, .iconst 3, [], (0, 0, 0), 3, 0, none),
  (28, 3, .if_icmp .eq 7, [21], (0, 0, 0), 0, 0, none),
  (31, 1, .iload_n 2, [], (0, 0, 0), 0, 0, none),
  (32, 3, .ifCond .ne 13, [27], (0, 0, 0), 0, 0, none),
  (35, 1, .iload_n 3, [], (0, 0, 0), 0, 0, none),
  (36, 1, .iconst 2, [], (0, 0, 0), 2, 0, none),
  (37, 1, .iand, [], (0, 0, 0), 0, 0, none),
  (38, 3, .ifCond .ne 7, [27], (0, 0, 0), 0, 0, none),
  (41, 1, .iconst 1, [], (0, 0, 0), 1, 0, none),
  (42, 3, .goto 4, [28], (0, 0, 0), 0, 0, none),
  (45, 1, .iconst 0, [], (0, 0, 0), 0, 0, none),
  (46, 1, .ireturn, [], (0, 0, 0), 0, 0, none)]
set_option maxRecDepth 100000 in
theorem vX3_fitsInterface : ab_chk mX3_fitsInterface.1.cls mX3_fitsInterface kX3_fitsInterface = true := by decide +kernel
def mX3_brokenRule : ab_Md := (yX3_brokenRule, cX3_brokenRule, 8, some .int, { frames := 2, cells := 0, slots := 0, locals := 43 })
def kX3_brokenRule : List ab_En := [
  (0, 1, .aload_n 0, [], (0, 0, 0), 0, 0, none),
  (1, 3, .getfield 47, [], (3, 0, 220), 0, 0, none),
  (4, 1, .iload_n 1, [], (0, 0, 0), 0, 0, none),
  (5, 3, .invokevirtual 66, [585, 69, 501, 499, 500], (7, 0, 0), 0, 0, some (mX8_isClass, 1)),
  (8, 3, .ifCond .ne 7, [7], (0, 0, 0), 0, 0, none),
  (11, 1, .iconst 1, [], (0, 0, 0), 1, 0, none),
  (12, 3, .goto 4, [8], (0, 0, 0), 0, 0, none),
  (15, 1, .iconst 0, [], (0, 0, 0), 0, 0, none),
  (16, 2, .istore 6, [], (0, 0, 0), 0, 0, none),
  (18, 2, .iload 6, [], (0, 0, 0), 0, 0, none),
  (20, 3, .ifCond .eq 17, [19], (0, 0, 0), 0, 0, none),
  (23, 1, .aload_n 0, [], (0, 0, 0), 0, 0, none),
  (24, 1, .iload_n 2, [], (0, 0, 0), 0, 0, none),
  (25, 2, .iload 4, [], (0, 0, 0), 0, 0, none),
  (27, 2, .iload 5, [], (0, 0, 0), 0, 0, none),
  (29, 3, .invokevirtual 71, [586, 71, 589, 588, 4], (3, 0, 0), 0, 0, some (mX3_fitsInterface, 3)),
  (32, 3, .ifCond .ne 5, [19], (0, 0, 0), 0, 0, none),
  (35, 1, .iconst 5, [], (0, 0, 0), 5, 0, none),
  (36, 1, .ireturn, [], (0, 0, 0), 0, 0, none),
  (37, 2, .iload 5, [], (0, 0, 0), 0, 0, none),
  (39, 1, .iconst 4, [], (0, 0, 0), 4, 0, none),
  (40, 1, .iand, [], (0, 0, 0), 0, 0, none),
  (41, 3, .ifCond .eq 7, [25], (0, 0, 0), 0, 0, none),
  (44, 1, .iconst 1, [], (0, 0, 0), 1, 0, none),
  (45, 3, .goto 4, [26], (0, 0, 0), 0, 0, none),
  (48, 1, .iconst 0, [], (0, 0, 0), 0, 0, none),
  (49, 2, .istore 7, [], (0, 0, 0), 0, 0, none),
  (51, 1, .iload_n 2, [], (0, 0, 0), 0, 0, none),
  (52, 1, .iconst 2, [], (0, 0, 0), 2, 0, none),
  (53, 3, .if_icmp .ne 8, [32], (0, 0, 0), 0, 0, none),
  (56, 2, .iload 5, [], (0, 0, 0), 0, 0, none),
  (58, 3, .ifCond .ne 12, [36], (0, 0, 0), 0, 0, none),
  (61, 1, .iload_n 2, [], (0, 0, 0), 0, 0, none),
  (62, 3, .ifCond .ne 11, [38], (0, 0, 0), 0, 0, none),
  (65, 2, .iload 7, [], (0, 0, 0), 0, 0, none),
  (67, 3, .ifCond .eq 6, [38], (0, 0, 0), 0, 0, none),
  (70, 2, .bipush 6, [], (0, 0, 0), 6, 0, none),
  (72, 1, .ireturn, [], (0, 0, 0), 0, 0, none),
  (73, 2, .iload 7, [], (0, 0, 0), 0, 0, none),
  (75, 3, .ifCond .eq 18, [48], (0, 0, 0), 0, 0, none),
  (78, 2, .iload 4, [], (0, 0, 0), 0, 0, none),
  (80, 3, .ifCond .eq 10, [46], (0, 0, 0), 0, 0, none),
  (83, 2, .iload 5, [], (0, 0, 0), 0, 0, none),
  (85, 1, .iconst 3, [], (0, 0, 0), 3, 0, none),
  (86, 1, .iand, [], (0, 0, 0), 0, 0, none),
  (87, 3, .ifCond .eq 6, [48], (0, 0, 0), 0, 0, none),
  (90, 2, .bipush 7, [], (0, 0, 0), 7, 0, none),
  (92, 1, .ireturn, [], (0, 0, 0), 0, 0, none),
  (93, 2, .iload 7, [], (0, 0, 0), 0, 0, none),
  (95, 3, .ifCond .eq 23, [60], (0, 0, 0), 0, 0, none),
  (98, 2, .iload 6, [], (0, 0, 0), 0, 0, none),
  (100, 3, .ifCond .ne 18, [60], (0, 0, 0), 0, 0, none),
  (103, 1, .aload_n 0, [], (0, 0, 0), 0, 0, none),
  (104, 3, .getfield 47, [], (3, 0, 220), 0, 0, none),
  (107, 1, .iload_n 1, [], (0, 0, 0), 0, 0, none),
  (108, 1, .iconst 4, [], (0, 0, 0), 4, 0, none),
  (109, 3, .invokevirtual 75, [590, 69, 593, 591, 592], (7, 0, 0), 0, 0, some (mX8_hasFlag, 2)),
  (112, 3, .ifCond .ne 6, [60], (0, 0, 0), 0, 0, none),
  (115, 2, .bipush 7, [], (0, 0, 0), 7, 0, none),
  (117, 1, .ireturn, [], (0, 0, 0), 0, 0, none),
  (118, 1, .aload_n 0, [], (0, 0, 0), 0, 0, none),
  (119, 1, .iload_n 1, [], (0, 0, 0), 0, 0, none),
  (120, 1, .iload_n 2, [], (0, 0, 0), 0, 0, none),
  (121, 2, .bipush 10, [], (0, 0, 0), 10, 0, none),
  (123, 1, .imul, [], (0, 0, 0), 0, 0, none),
  (124, 1, .iload_n 3, [], (0, 0, 0), 0, 0, none),
  (125, 1, .iadd, [], (0, 0, 0), 0, 0, none),
  (126, 3, .invokevirtual 79, [594, 71, 597, 595, 596], (3, 0, 0), 0, 0, some (mX3_declared, 2)),
  (129, 1, .iconst (-1), [], (0, 0, 0), (-1), 0, none),
  (130, 3, .if_icmp .eq 8, [72], (0, 0, 0), 0, 0, none),
  (133, 2, .bipush 8, [], (0, 0, 0), 8, 0, none),
  (135, 3, .goto 4, [73], (0, 0, 0), 0, 0, none),
  (138, 1, .iconst 0, [], (0, 0, 0), 0, 0, none),
  (139, 1, .ireturn, [], (0, 0, 0), 0, 0, none)]
set_option maxRecDepth 100000 in
theorem vX3_brokenRule : ab_chk mX3_brokenRule.1.cls mX3_brokenRule kX3_brokenRule = true := by decide +kernel
def mX3_add : ab_Md := (yX3_add, cX3_add, 8, some .int, { frames := 1, cells := 0, slots := 0, locals := 20 })
def kX3_add : List ab_En := [
  (0, 1, .aload_n 0, [], (0, 0, 0), 0, 0, none),
  (1, 3, .getfield 9, [], (3, 1, 221), 0, 0, none),
  (4, 2, .bipush 120, [], (0, 0, 0), 120, 0, none),
  (6, 3, .if_icmp .lt 6, [6], (0, 0, 0), 0, 0, none),
  (9, 2, .bipush (-4), [], (0, 0, 0), (-4), 0, none),
  (11, 1, .ireturn, [], (0, 0, 0), 0, 0, none),
  (12, 1, .aload_n 0, [], (0, 0, 0), 0, 0, none),
  (13, 1, .dup, [], (0, 0, 0), 0, 0, none),
  (14, 3, .getfield 9, [], (3, 1, 221), 0, 0, none),
  (17, 1, .dup_x1, [], (0, 0, 0), 0, 0, none),
  (18, 1, .iconst 1, [], (0, 0, 0), 1, 0, none),
  (19, 1, .iadd, [], (0, 0, 0), 0, 0, none),
  (20, 3, .putfield 9, [0], (3, 1, 221), 0, 0, none),
  (23, 2, .istore 6, [], (0, 0, 0), 0, 0, none),
  (25, 1, .iload_n 2, [], (0, 0, 0), 0, 0, none),
  (26, 2, .bipush 10, [], (0, 0, 0), 10, 0, none),
  (28, 1, .imul, [], (0, 0, 0), 0, 0, none),
  (29, 1, .iload_n 3, [], (0, 0, 0), 0, 0, none),
  (30, 1, .iadd, [], (0, 0, 0), 0, 0, none),
  (31, 2, .istore 7, [], (0, 0, 0), 0, 0, none),
  (33, 1, .aload_n 0, [], (0, 0, 0), 0, 0, none),
  (34, 3, .getfield 15, [], (3, 2, 224), 0, 0, none),
  (37, 2, .iload 6, [], (0, 0, 0), 0, 0, none),
  (39, 1, .iload_n 1, [], (0, 0, 0), 0, 0, none),
  (40, 1, .iastore, [], (0, 0, 0), 0, 0, none),
  (41, 1, .aload_n 0, [], (0, 0, 0), 0, 0, none),
  (42, 3, .getfield 19, [], (3, 3, 230), 0, 0, none),
  (45, 2, .iload 6, [], (0, 0, 0), 0, 0, none),
  (47, 2, .iload 7, [], (0, 0, 0), 0, 0, none),
  (49, 1, .iastore, [], (0, 0, 0), 0, 0, none),
  (50, 1, .aload_n 0, [], (0, 0, 0), 0, 0, none),
  (51, 3, .getfield 22, [], (3, 4, 235), 0, 0, none),
  (54, 2, .iload 6, [], (0, 0, 0), 0, 0, none),
  (56, 2, .iload 4, [], (0, 0, 0), 0, 0, none),
  (58, 1, .iastore, [], (0, 0, 0), 0, 0, none),
  (59, 1, .aload_n 0, [], (0, 0, 0), 0, 0, none),
  (60, 3, .getfield 25, [], (3, 5, 238), 0, 0, none),
  (63, 2, .iload 6, [], (0, 0, 0), 0, 0, none),
  (65, 2, .iload 5, [], (0, 0, 0), 0, 0, none),
  (67, 1, .iastore, [], (0, 0, 0), 0, 0, none),
  (68, 1, .aload_n 0, [], (0, 0, 0), 0, 0, none),
  (69, 3, .getfield 28, [], (3, 6, 239), 0, 0, none),
  (72, 2, .iload 7, [], (0, 0, 0), 0, 0, none),
  (74, 2, .bipush 40, [], (0, 0, 0), 40, 0, none),
  (76, 1, .imul, [], (0, 0, 0), 0, 0, none),
  (77, 1, .iload_n 1, [], (0, 0, 0), 0, 0, none),
  (78, 1, .iadd, [], (0, 0, 0), 0, 0, none),
  (79, 2, .iload 6, [], (0, 0, 0), 0, 0, none),
  (81, 1, .iastore, [], (0, 0, 0), 0, 0, none),
  (82, 1, .aload_n 0, [], (0, 0, 0), 0, 0, none),
  (83, 3, .getfield 31, [], (3, 7, 240), 0, 0, none),
  (86, 2, .iload 7, [], (0, 0, 0), 0, 0, none),
  (88, 1, .dup2, [], (0, 0, 0), 0, 0, none),
  (89, 1, .laload, [], (0, 0, 0), 0, 0, none),
  (90, 1, .iload_n 1, [], (0, 0, 0), 0, 0, none),
  (91, 3, .invokestatic 83, [602, 70, 123, 122], (0, 0, 0), 0, 0, some (mX7_one, 1)),
  (94, 1, .lor, [], (0, 0, 0), 0, 0, none),
  (95, 1, .lastore, [], (0, 0, 0), 0, 0, none),
  (96, 1, .aload_n 0, [], (0, 0, 0), 0, 0, none),
  (97, 3, .getfield 35, [], (3, 8, 243), 0, 0, none),
  (100, 2, .iload 7, [], (0, 0, 0), 0, 0, none),
  (102, 1, .dup2, [], (0, 0, 0), 0, 0, none),
  (103, 1, .laload, [], (0, 0, 0), 0, 0, none),
  (104, 2, .iload 4, [], (0, 0, 0), 0, 0, none),
  (106, 3, .ifCond .ne 10, [68], (0, 0, 0), 0, 0, none),
  (109, 1, .iload_n 1, [], (0, 0, 0), 0, 0, none),
  (110, 3, .invokestatic 83, [602, 70, 123, 122], (0, 0, 0), 0, 0, some (mX7_one, 1)),
  (113, 3, .goto 4, [69], (0, 0, 0), 0, 0, none),
  (116, 1, .lconst 0, [], (0, 0, 0), 0, 0, none),
  (117, 1, .lor, [], (0, 0, 0), 0, 0, none),
  (118, 1, .lastore, [], (0, 0, 0), 0, 0, none),
  (119, 1, .aload_n 0, [], (0, 0, 0), 0, 0, none),
  (120, 3, .getfield 38, [], (3, 9, 246), 0, 0, none),
  (123, 2, .iload 7, [], (0, 0, 0), 0, 0, none),
  (125, 1, .dup2, [], (0, 0, 0), 0, 0, none),
  (126, 1, .laload, [], (0, 0, 0), 0, 0, none),
  (127, 2, .iload 4, [], (0, 0, 0), 0, 0, none),
  (129, 1, .iconst 1, [], (0, 0, 0), 1, 0, none),
  (130, 3, .if_icmp .ne 10, [82], (0, 0, 0), 0, 0, none),
  (133, 1, .iload_n 1, [], (0, 0, 0), 0, 0, none),
  (134, 3, .invokestatic 83, [602, 70, 123, 122], (0, 0, 0), 0, 0, some (mX7_one, 1)),
  (137, 3, .goto 4, [83], (0, 0, 0), 0, 0, none),
  (140, 1, .lconst 0, [], (0, 0, 0), 0, 0, none),
  (141, 1, .lor, [], (0, 0, 0), 0, 0, none),
  (142, 1, .lastore, [], (0, 0, 0), 0, 0, none),
  (143, 1, .aload_n 0, [], (0, 0, 0), 0, 0, none),
  (144, 3, .getfield 41, [], (3, 10, 250), 0, 0, none),
  (147, 2, .iload 7, [], (0, 0, 0), 0, 0, none),
  (149, 1, .dup2, [], (0, 0, 0), 0, 0, none),
  (150, 1, .laload, [], (0, 0, 0), 0, 0, none),
  (151, 2, .iload 5, [], (0, 0, 0), 0, 0, none),
  (153, 1, .iconst 1, [], (0, 0, 0), 1, 0, none),
  (154, 1, .iand, [], (0, 0, 0), 0, 0, none),
  (155, 3, .ifCond .eq 10, [97], (0, 0, 0), 0, 0, none),
  (158, 1, .iload_n 1, [], (0, 0, 0), 0, 0, none),
  (159, 3, .invokestatic 83, [602, 70, 123, 122], (0, 0, 0), 0, 0, some (mX7_one, 1)),
  (162, 3, .goto 4, [98], (0, 0, 0), 0, 0, none),
  (165, 1, .lconst 0, [], (0, 0, 0), 0, 0, none),
  (166, 1, .lor, [], (0, 0, 0), 0, 0, none),
  (167, 1, .lastore, [], (0, 0, 0), 0, 0, none),
  (168, 1, .aload_n 0, [], (0, 0, 0), 0, 0, none),
  (169, 3, .getfield 44, [], (3, 11, 252), 0, 0, none),
  (172, 2, .iload 7, [], (0, 0, 0), 0, 0, none),
  (174, 1, .dup2, [], (0, 0, 0), 0, 0, none),
  (175, 1, .laload, [], (0, 0, 0), 0, 0, none),
  (176, 2, .iload 5, [], (0, 0, 0), 0, 0, none),
  (178, 1, .iconst 4, [], (0, 0, 0), 4, 0, none),
  (179, 1, .iand, [], (0, 0, 0), 0, 0, none),
  (180, 3, .ifCond .eq 10, [112], (0, 0, 0), 0, 0, none),
  (183, 1, .iload_n 1, [], (0, 0, 0), 0, 0, none),
  (184, 3, .invokestatic 83, [602, 70, 123, 122], (0, 0, 0), 0, 0, some (mX7_one, 1)),
  (187, 3, .goto 4, [113], (0, 0, 0), 0, 0, none),
  (190, 1, .lconst 0, [], (0, 0, 0), 0, 0, none),
  (191, 1, .lor, [], (0, 0, 0), 0, 0, none),
  (192, 1, .lastore, [], (0, 0, 0), 0, 0, none),
  (193, 2, .iload 6, [], (0, 0, 0), 0, 0, none),
  (195, 1, .ireturn, [], (0, 0, 0), 0, 0, none)]
set_option maxRecDepth 100000 in
theorem vX3_add : ab_chk mX3_add.1.cls mX3_add kX3_add = true := by decide +kernel
def mX4_hasModule : ab_Md := (yX4_hasModule, cX4_hasModule, 2, some .boolean, { frames := 0, cells := 0, slots := 0, locals := 0 })
def kX4_hasModule : List ab_En := [
  (0, 1, .iload_n 1, [], (0, 0, 0), 0, 0, none),
  (1, 3, .ifCond .lt 15, [8], (0, 0, 0), 0, 0, none),
  (4, 1, .iload_n 1, [], (0, 0, 0), 0, 0, none),
  (5, 1, .aload_n 0, [], (0, 0, 0), 0, 0, none),
  (6, 3, .getfield 9, [], (4, 0, 96), 0, 0, none),
  (9, 3, .if_icmp .ge 7, [8], (0, 0, 0), 0, 0, none),
  (12, 1, .iconst 1, [], (0, 0, 0), 1, 0, none),
  (13, 3, .goto 4, [9], (0, 0, 0), 0, 0, none),
  (16, 1, .iconst 0, [], (0, 0, 0), 0, 0, none),
  (17, 1, .ireturn, [], (0, 0, 0), 0, 0, none)]
set_option maxRecDepth 100000 in
theorem vX4_hasModule : ab_chk mX4_hasModule.1.cls mX4_hasModule kX4_hasModule = true := by decide +kernel
def mX4_hasPack : ab_Md := (yX4_hasPack, cX4_hasPack, 2, some .boolean, { frames := 0, cells := 0, slots := 0, locals := 0 })
def kX4_hasPack : List ab_En := [
  (0, 1, .iload_n 1, [], (0, 0, 0), 0, 0, none),
  (1, 3, .ifCond .lt 15, [8], (0, 0, 0), 0, 0, none),
  (4, 1, .iload_n 1, [], (0, 0, 0), 0, 0, none),
  (5, 1, .aload_n 0, [], (0, 0, 0), 0, 0, none),
  (6, 3, .getfield 15, [], (4, 1, 98), 0, 0, none),
  (9, 3, .if_icmp .ge 7, [8], (0, 0, 0), 0, 0, none),
  (12, 1, .iconst 1, [], (0, 0, 0), 1, 0, none),
  (13, 3, .goto 4, [9], (0, 0, 0), 0, 0, none),
  (16, 1, .iconst 0, [], (0, 0, 0), 0, 0, none),
  (17, 1, .ireturn, [], (0, 0, 0), 0, 0, none)]
set_option maxRecDepth 100000 in
theorem vX4_hasPack : ab_chk mX4_hasPack.1.cls mX4_hasPack kX4_hasPack = true := by decide +kernel
def mX4_addModule : ab_Md := (yX4_addModule, cX4_addModule, 1, some .int, { frames := 0, cells := 0, slots := 0, locals := 0 })
def kX4_addModule : List ab_En := [
  (0, 1, .aload_n 0, [], (0, 0, 0), 0, 0, none),
  (1, 3, .getfield 9, [], (4, 0, 96), 0, 0, none),
  (4, 2, .bipush 6, [], (0, 0, 0), 6, 0, none),
  (6, 3, .if_icmp .lt 6, [6], (0, 0, 0), 0, 0, none),
  (9, 2, .bipush (-4), [], (0, 0, 0), (-4), 0, none),
  (11, 1, .ireturn, [], (0, 0, 0), 0, 0, none),
  (12, 1, .aload_n 0, [], (0, 0, 0), 0, 0, none),
  (13, 3, .getfield 18, [], (4, 2, 100), 0, 0, none),
  (16, 1, .aload_n 0, [], (0, 0, 0), 0, 0, none),
  (17, 3, .getfield 9, [], (4, 0, 96), 0, 0, none),
  (20, 1, .iconst 1, [], (0, 0, 0), 1, 0, none),
  (21, 1, .iastore, [], (0, 0, 0), 0, 0, none),
  (22, 1, .aload_n 0, [], (0, 0, 0), 0, 0, none),
  (23, 1, .dup, [], (0, 0, 0), 0, 0, none),
  (24, 3, .getfield 9, [], (4, 0, 96), 0, 0, none),
  (27, 1, .dup_x1, [], (0, 0, 0), 0, 0, none),
  (28, 1, .iconst 1, [], (0, 0, 0), 1, 0, none),
  (29, 1, .iadd, [], (0, 0, 0), 0, 0, none),
  (30, 3, .putfield 9, [0], (4, 0, 96), 0, 0, none),
  (33, 1, .ireturn, [], (0, 0, 0), 0, 0, none)]
set_option maxRecDepth 100000 in
theorem vX4_addModule : ab_chk mX4_addModule.1.cls mX4_addModule kX4_addModule = true := by decide +kernel
def mX4_addReading : ab_Md := (yX4_addReading, cX4_addReading, 3, some .int, { frames := 0, cells := 0, slots := 0, locals := 0 })
def kX4_addReading : List ab_En := [
  (0, 1, .iload_n 1, [], (0, 0, 0), 0, 0, none),
  (1, 1, .iload_n 2, [], (0, 0, 0), 0, 0, none),
  (2, 3, .if_icmp .eq 16, [12], (0, 0, 0), 0, 0, none),
  (5, 1, .aload_n 0, [], (0, 0, 0), 0, 0, none),
  (6, 3, .getfield 18, [], (4, 2, 100), 0, 0, none),
  (9, 1, .iload_n 1, [], (0, 0, 0), 0, 0, none),
  (10, 1, .iaload, [], (0, 0, 0), 0, 0, none),
  (11, 1, .iload_n 2, [], (0, 0, 0), 0, 0, none),
  (12, 1, .ishr, [], (0, 0, 0), 0, 0, none),
  (13, 1, .iconst 1, [], (0, 0, 0), 1, 0, none),
  (14, 1, .iand, [], (0, 0, 0), 0, 0, none),
  (15, 3, .ifCond .eq 5, [14], (0, 0, 0), 0, 0, none),
  (18, 1, .iconst 0, [], (0, 0, 0), 0, 0, none),
  (19, 1, .ireturn, [], (0, 0, 0), 0, 0, none),
  (20, 1, .aload_n 0, [], (0, 0, 0), 0, 0, none),
  (21, 3, .getfield 18, [], (4, 2, 100), 0, 0, none),
  (24, 1, .iload_n 1, [], (0, 0, 0), 0, 0, none),
  (25, 1, .dup2, [], (0, 0, 0), 0, 0, none),
  (26, 1, .iaload, [], (0, 0, 0), 0, 0, none),
  (27, 1, .iconst 1, [], (0, 0, 0), 1, 0, none),
  (28, 1, .iload_n 2, [], (0, 0, 0), 0, 0, none),
  (29, 1, .ishl, [], (0, 0, 0), 0, 0, none),
  (30, 1, .ior, [], (0, 0, 0), 0, 0, none),
  (31, 1, .iastore, [], (0, 0, 0), 0, 0, none),
  (32, 1, .iconst 1, [], (0, 0, 0), 1, 0, none),
  (33, 1, .ireturn, [], (0, 0, 0), 0, 0, none)]
set_option maxRecDepth 100000 in
theorem vX4_addReading : ab_chk mX4_addReading.1.cls mX4_addReading kX4_addReading = true := by decide +kernel
def mX4_addPack : ab_Md := (yX4_addPack, cX4_addPack, 2, some .int, { frames := 0, cells := 0, slots := 0, locals := 0 })
def kX4_addPack : List ab_En := [
  (0, 1, .aload_n 0, [], (0, 0, 0), 0, 0, none),
  (1, 3, .getfield 15, [], (4, 1, 98), 0, 0, none),
  (4, 2, .bipush 10, [], (0, 0, 0), 10, 0, none),
  (6, 3, .if_icmp .lt 6, [6], (0, 0, 0), 0, 0, none),
  (9, 2, .bipush (-4), [], (0, 0, 0), (-4), 0, none),
  (11, 1, .ireturn, [], (0, 0, 0), 0, 0, none),
  (12, 1, .aload_n 0, [], (0, 0, 0), 0, 0, none),
  (13, 3, .getfield 22, [], (4, 3, 101), 0, 0, none),
  (16, 1, .aload_n 0, [], (0, 0, 0), 0, 0, none),
  (17, 3, .getfield 15, [], (4, 1, 98), 0, 0, none),
  (20, 1, .iload_n 1, [], (0, 0, 0), 0, 0, none),
  (21, 1, .iastore, [], (0, 0, 0), 0, 0, none),
  (22, 1, .aload_n 0, [], (0, 0, 0), 0, 0, none),
  (23, 1, .dup, [], (0, 0, 0), 0, 0, none),
  (24, 3, .getfield 15, [], (4, 1, 98), 0, 0, none),
  (27, 1, .dup_x1, [], (0, 0, 0), 0, 0, none),
  (28, 1, .iconst 1, [], (0, 0, 0), 1, 0, none),
  (29, 1, .iadd, [], (0, 0, 0), 0, 0, none),
  (30, 3, .putfield 15, [0], (4, 1, 98), 0, 0, none),
  (33, 1, .ireturn, [], (0, 0, 0), 0, 0, none)]
set_option maxRecDepth 100000 in
theorem vX4_addPack : ab_chk mX4_addPack.1.cls mX4_addPack kX4_addPack = true := by decide +kernel
def mX4_addExport : ab_Md := (yX4_addExport, cX4_addExport, 4, some .int, { frames := 0, cells := 0, slots := 0, locals := 0 })
def kX4_addExport : List ab_En := [
  (0, 1, .iload_n 2, [], (0, 0, 0), 0, 0, none),
  (1, 1, .iconst (-1), [], (0, 0, 0), (-1), 0, none),
  (2, 3, .if_icmp .ne 7, [5], (0, 0, 0), 0, 0, none),
  (5, 1, .iconst (-1), [], (0, 0, 0), (-1), 0, none),
  (6, 3, .goto 6, [8], (0, 0, 0), 0, 0, none),
  (9, 1, .iconst 1, [], (0, 0, 0), 1, 0, none),
  (10, 1, .iload_n 2, [], (0, 0, 0), 0, 0, none),
  (11, 1, .ishl, [], (0, 0, 0), 0, 0, none),
  (12, 1, .istore_n 3, [], (0, 0, 0), 0, 0, none),
  (13, 1, .aload_n 0, [], (0, 0, 0), 0, 0, none),
  (14, 3, .getfield 25, [], (4, 4, 102), 0, 0, none),
  (17, 1, .iload_n 1, [], (0, 0, 0), 0, 0, none),
  (18, 1, .iaload, [], (0, 0, 0), 0, 0, none),
  (19, 1, .iload_n 3, [], (0, 0, 0), 0, 0, none),
  (20, 1, .iand, [], (0, 0, 0), 0, 0, none),
  (21, 1, .iload_n 3, [], (0, 0, 0), 0, 0, none),
  (22, 3, .if_icmp .ne 5, [19], (0, 0, 0), 0, 0, none),
  (25, 1, .iconst 0, [], (0, 0, 0), 0, 0, none),
  (26, 1, .ireturn, [], (0, 0, 0), 0, 0, none),
  (27, 1, .aload_n 0, [], (0, 0, 0), 0, 0, none),
  (28, 3, .getfield 25, [], (4, 4, 102), 0, 0, none),
  (31, 1, .iload_n 1, [], (0, 0, 0), 0, 0, none),
  (32, 1, .dup2, [], (0, 0, 0), 0, 0, none),
  (33, 1, .iaload, [], (0, 0, 0), 0, 0, none),
  (34, 1, .iload_n 3, [], (0, 0, 0), 0, 0, none),
  (35, 1, .ior, [], (0, 0, 0), 0, 0, none),
  (36, 1, .iastore, [], (0, 0, 0), 0, 0, none),
  (37, 1, .iconst 1, [], (0, 0, 0), 1, 0, none),
  (38, 1, .ireturn, [], (0, 0, 0), 0, 0, none)]
set_option maxRecDepth 100000 in
theorem vX4_addExport : ab_chk mX4_addExport.1.cls mX4_addExport kX4_addExport = true := by decide +kernel
def mX5_isNearEnough : ab_Md := (yX5_isNearEnough, cX5_isNearEnough, 4, some .boolean, { frames := 0, cells := 0, slots := 0, locals := 0 })
def kX5_isNearEnough : List ab_En := [
  (0, 1, .aload_n 0, [], (0, 0, 0), 0, 0, none),
  (1, 3, .getfield 19, [], (5, 2, 329), 0, 0, none),
  (4, 3, .getfield 85, [], (3, 2, 227), 0, 0, none),
  (7, 1, .iload_n 2, [], (0, 0, 0), 0, 0, none),
  (8, 1, .iaload, [], (0, 0, 0), 0, 0, none),
  (9, 1, .istore_n 3, [], (0, 0, 0), 0, 0, none),
  (10, 1, .aload_n 0, [], (0, 0, 0), 0, 0, none),
  (11, 3, .getfield 19, [], (5, 2, 329), 0, 0, none),
  (14, 3, .getfield 81, [], (3, 4, 236), 0, 0, none),
  (17, 1, .iload_n 2, [], (0, 0, 0), 0, 0, none),
  (18, 1, .iaload, [], (0, 0, 0), 0, 0, none),
  (19, 25, .lookupswitch 54 #[(0, 25), (3, 52)], [29, 12, 27], (0, 0, 0), 0, 0, none),
  (44, 1, .aload_n 0, [], (0, 0, 0), 0, 0, none),
  (45, 3, .getfield 15, [], (5, 1, 328), 0, 0, none),
  (48, 3, .getfield 54, [], (7, 5, 147), 0, 0, none),
  (51, 1, .iload_n 1, [], (0, 0, 0), 0, 0, none),
  (52, 1, .iaload, [], (0, 0, 0), 0, 0, none),
  (53, 1, .aload_n 0, [], (0, 0, 0), 0, 0, none),
  (54, 3, .getfield 15, [], (5, 1, 328), 0, 0, none),
  (57, 3, .getfield 54, [], (7, 5, 147), 0, 0, none),
  (60, 1, .iload_n 3, [], (0, 0, 0), 0, 0, none),
  (61, 1, .iaload, [], (0, 0, 0), 0, 0, none),
  (62, 3, .if_icmp .ne 7, [25], (0, 0, 0), 0, 0, none),
  (65, 1, .iconst 1, [], (0, 0, 0), 1, 0, none),
  (66, 3, .goto 4, [26], (0, 0, 0), 0, 0, none),
  (69, 1, .iconst 0, [], (0, 0, 0), 0, 0, none),
  (70, 1, .ireturn, [], (0, 0, 0), 0, 0, none),
  (71, 1, .iconst 1, [], (0, 0, 0), 1, 0, none),
  (72, 1, .ireturn, [], (0, 0, 0), 0, 0, none),
  (73, 1, .aload_n 0, [], (0, 0, 0), 0, 0, none),
  (74, 3, .getfield 15, [], (5, 1, 328), 0, 0, none),
  (77, 3, .getfield 46, [], (7, 3, 140), 0, 0, none),
  (80, 1, .iload_n 1, [], (0, 0, 0), 0, 0, none),
  (81, 1, .iaload, [], (0, 0, 0), 0, 0, none),
  (82, 1, .aload_n 0, [], (0, 0, 0), 0, 0, none),
  (83, 3, .getfield 15, [], (5, 1, 328), 0, 0, none),
  (86, 3, .getfield 46, [], (7, 3, 140), 0, 0, none),
  (89, 1, .iload_n 3, [], (0, 0, 0), 0, 0, none),
  (90, 1, .iaload, [], (0, 0, 0), 0, 0, none),
  (91, 3, .if_icmp .ne 7, [42], (0, 0, 0), 0, 0, none),
  (94, 1, .iconst 1, [], (0, 0, 0), 1, 0, none),
  (95, 3, .goto 4, [43], (0, 0, 0), 0, 0, none),
  (98, 1, .iconst 0, [], (0, 0, 0), 0, 0, none),
  (99, 1, .ireturn, [], (0, 0, 0), 0, 0, none)]
set_option maxRecDepth 100000 in
theorem vX5_isNearEnough : ab_chk mX5_isNearEnough.1.cls mX5_isNearEnough kX5_isNearEnough = true := by decide +kernel
def mX8_sameOrAbove : ab_Md := (yX8_sameOrAbove, cX8_sameOrAbove, 2, some .long, { frames := 1, cells := 0, slots := 0, locals := 20 })
def kX8_sameOrAbove : List ab_En := [
  (0, 1, .iload_n 1, [], (0, 0, 0), 0, 0, none),
  (1, 3, .invokestatic 15, [121, 70, 123, 122], (0, 0, 0), 0, 0, some (mX7_one, 1)),
  (4, 1, .aload_n 0, [], (0, 0, 0), 0, 0, none),
  (5, 3, .getfield 48, [], (7, 10, 162), 0, 0, none),
  (8, 1, .iload_n 1, [], (0, 0, 0), 0, 0, none),
  (9, 1, .laload, [], (0, 0, 0), 0, 0, none),
  (10, 1, .lor, [], (0, 0, 0), 0, 0, none),
  (11, 1, .lreturn, [], (0, 0, 0), 0, 0, none)]
set_option maxRecDepth 100000 in
theorem vX8_sameOrAbove : ab_chk mX8_sameOrAbove.1.cls mX8_sameOrAbove kX8_sameOrAbove = true := by decide +kernel
def mX5_isProtectedOpen : ab_Md := (yX5_isProtectedOpen, cX5_isProtectedOpen, 7, some .boolean, { frames := 2, cells := 0, slots := 0, locals := 41 })
def kX5_isProtectedOpen : List ab_En := [
  (0, 1, .aload_n 0, [], (0, 0, 0), 0, 0, none),
  (1, 3, .getfield 15, [], (5, 1, 328), 0, 0, none),
  (4, 3, .getfield 23, [], (7, 12, 170), 0, 0, none),
  (7, 1, .iload_n 1, [], (0, 0, 0), 0, 0, none),
  (8, 1, .laload, [], (0, 0, 0), 0, 0, none),
  (9, 1, .aload_n 0, [], (0, 0, 0), 0, 0, none),
  (10, 3, .getfield 15, [], (5, 1, 328), 0, 0, none),
  (13, 1, .aload_n 0, [], (0, 0, 0), 0, 0, none),
  (14, 3, .getfield 19, [], (5, 2, 329), 0, 0, none),
  (17, 3, .getfield 85, [], (3, 2, 227), 0, 0, none),
  (20, 2, .iload 4, [], (0, 0, 0), 0, 0, none),
  (22, 1, .iaload, [], (0, 0, 0), 0, 0, none),
  (23, 3, .invokevirtual 57, [689, 69, 524, 522, 523], (7, 0, 0), 0, 0, some (mX8_sameOrBelow, 1)),
  (26, 1, .land, [], (0, 0, 0), 0, 0, none),
  (27, 2, .lstore 5, [], (0, 0, 0), 0, 0, none),
  (29, 1, .iload_n 2, [], (0, 0, 0), 0, 0, none),
  (30, 3, .ifCond .ne 38, [36], (0, 0, 0), 0, 0, none),
  (33, 1, .aload_n 0, [], (0, 0, 0), 0, 0, none),
  (34, 3, .getfield 19, [], (5, 2, 329), 0, 0, none),
  (37, 2, .iload 4, [], (0, 0, 0), 0, 0, none),
  (39, 1, .iconst 1, [], (0, 0, 0), 1, 0, none),
  (40, 3, .invokevirtual 88, [731, 71, 734, 732, 733], (3, 0, 0), 0, 0, some (mX3_hasFlag, 2)),
  (43, 3, .ifCond .ne 25, [36], (0, 0, 0), 0, 0, none),
  (46, 2, .lload 5, [], (0, 0, 0), 0, 0, none),
  (48, 1, .aload_n 0, [], (0, 0, 0), 0, 0, none),
  (49, 3, .getfield 15, [], (5, 1, 328), 0, 0, none),
  (52, 1, .iload_n 3, [], (0, 0, 0), 0, 0, none),
  (53, 3, .invokevirtual 91, [735, 69, 528, 526, 527], (7, 0, 0), 0, 0, some (mX8_sameOrAbove, 1)),
  (56, 1, .land, [], (0, 0, 0), 0, 0, none),
  (57, 1, .lconst 0, [], (0, 0, 0), 0, 0, none),
  (58, 1, .lcmp, [], (0, 0, 0), 0, 0, none),
  (59, 3, .ifCond .eq 7, [34], (0, 0, 0), 0, 0, none),
  (62, 1, .iconst 1, [], (0, 0, 0), 1, 0, none),
  (63, 3, .goto 4, [35], (0, 0, 0), 0, 0, none),
  (66, 1, .iconst 0, [], (0, 0, 0), 0, 0, none),
  (67, 1, .ireturn, [], (0, 0, 0), 0, 0, none),
  (68, 2, .lload 5, [], (0, 0, 0), 0, 0, none),
  (70, 1, .lconst 0, [], (0, 0, 0), 0, 0, none),
  (71, 1, .lcmp, [], (0, 0, 0), 0, 0, none),
  (72, 3, .ifCond .eq 7, [42], (0, 0, 0), 0, 0, none),
  (75, 1, .iconst 1, [], (0, 0, 0), 1, 0, none),
  (76, 3, .goto 4, [43], (0, 0, 0), 0, 0, none),
  (79, 1, .iconst 0, [], (0, 0, 0), 0, 0, none),
  (80, 1, .ireturn, [], (0, 0, 0), 0, 0, none)]
set_option maxRecDepth 100000 in
theorem vX5_isProtectedOpen : ab_chk mX5_isProtectedOpen.1.cls mX5_isProtectedOpen kX5_isProtectedOpen = true := by decide +kernel
end
section
def mX5_isMemberOpen : ab_Md := (yX5_isMemberOpen, cX5_isMemberOpen, 5, some .boolean, { frames := 3, cells := 0, slots := 0, locals := 67 })
def kX5_isMemberOpen : List ab_En := [
  (0, 2, .iload 4, [], (0, 0, 0), 0, 0, none),
  (2, 1, .iconst (-1), [], (0, 0, 0), (-1), 0, none),
  (3, 3, .if_icmp .ne 5, [5], (0, 0, 0), 0, 0, none),
  (6, 1, .iconst 0, [], (0, 0, 0), 0, 0, none),
  (7, 1, .ireturn, [], (0, 0, 0), 0, 0, none),
  (8, 1, .aload_n 0, [], (0, 0, 0), 0, 0, none),
  (9, 1, .iload_n 1, [], (0, 0, 0), 0, 0, none),
  (10, 2, .iload 4, [], (0, 0, 0), 0, 0, none),
  (12, 3, .invokevirtual 78, [723, 75, 726, 725, 11], (5, 0, 0), 0, 0, some (mX5_isNearEnough, 2)),
  (15, 3, .ifCond .ne 29, [24], (0, 0, 0), 0, 0, none),
  (18, 1, .aload_n 0, [], (0, 0, 0), 0, 0, none),
  (19, 3, .getfield 19, [], (5, 2, 329), 0, 0, none),
  (22, 3, .getfield 81, [], (3, 4, 236), 0, 0, none),
  (25, 2, .iload 4, [], (0, 0, 0), 0, 0, none),
  (27, 1, .iaload, [], (0, 0, 0), 0, 0, none),
  (28, 1, .iconst 2, [], (0, 0, 0), 2, 0, none),
  (29, 3, .if_icmp .ne 19, [26], (0, 0, 0), 0, 0, none),
  (32, 1, .aload_n 0, [], (0, 0, 0), 0, 0, none),
  (33, 1, .iload_n 1, [], (0, 0, 0), 0, 0, none),
  (34, 1, .iload_n 2, [], (0, 0, 0), 0, 0, none),
  (35, 1, .iload_n 3, [], (0, 0, 0), 0, 0, none),
  (36, 2, .iload 4, [], (0, 0, 0), 0, 0, none),
  (38, 3, .invokevirtual 82, [727, 75, 730, 729, 12], (5, 0, 0), 0, 0, some (mX5_isProtectedOpen, 4)),
  (41, 3, .ifCond .eq 7, [26], (0, 0, 0), 0, 0, none),
  (44, 1, .iconst 1, [], (0, 0, 0), 1, 0, none),
  (45, 3, .goto 4, [27], (0, 0, 0), 0, 0, none),
  (48, 1, .iconst 0, [], (0, 0, 0), 0, 0, none),
  (49, 1, .ireturn, [], (0, 0, 0), 0, 0, none)]
set_option maxRecDepth 100000 in
theorem vX5_isMemberOpen : ab_chk mX5_isMemberOpen.1.cls mX5_isMemberOpen kX5_isMemberOpen = true := by decide +kernel
def mX5_openOnes : ab_Md := (yX5_openOnes, cX5_openOnes, 10, some .long, { frames := 4, cells := 0, slots := 0, locals := 91 })
def kX5_openOnes : List ab_En := [
  (0, 1, .lconst 0, [], (0, 0, 0), 0, 0, none),
  (1, 2, .lstore 7, [], (0, 0, 0), 0, 0, none),
  (3, 1, .iconst 0, [], (0, 0, 0), 0, 0, none),
  (4, 2, .istore 9, [], (0, 0, 0), 0, 0, none),
  (6, 2, .iload 9, [], (0, 0, 0), 0, 0, none),
  (8, 1, .aload_n 0, [], (0, 0, 0), 0, 0, none),
  (9, 3, .getfield 15, [], (5, 1, 328), 0, 0, none),
  (12, 3, .getfield 61, [], (7, 0, 125), 0, 0, none),
  (15, 3, .if_icmp .ge 51, [31], (0, 0, 0), 0, 0, none),
  (18, 1, .lload_n 1, [], (0, 0, 0), 0, 0, none),
  (19, 2, .iload 9, [], (0, 0, 0), 0, 0, none),
  (21, 3, .invokestatic 29, [680, 70, 504, 503], (0, 0, 0), 0, 0, some (mX7_has, 2)),
  (24, 3, .ifCond .eq 36, [29], (0, 0, 0), 0, 0, none),
  (27, 1, .aload_n 0, [], (0, 0, 0), 0, 0, none),
  (28, 1, .iload_n 3, [], (0, 0, 0), 0, 0, none),
  (29, 2, .iload 4, [], (0, 0, 0), 0, 0, none),
  (31, 2, .iload 5, [], (0, 0, 0), 0, 0, none),
  (33, 1, .aload_n 0, [], (0, 0, 0), 0, 0, none),
  (34, 3, .getfield 19, [], (5, 2, 329), 0, 0, none),
  (37, 2, .iload 9, [], (0, 0, 0), 0, 0, none),
  (39, 2, .iload 6, [], (0, 0, 0), 0, 0, none),
  (41, 3, .invokevirtual 65, [718, 71, 597, 595, 596], (3, 0, 0), 0, 0, some (mX3_declared, 2)),
  (44, 3, .invokevirtual 71, [719, 75, 722, 721, 10], (5, 0, 0), 0, 0, some (mX5_isMemberOpen, 4)),
  (47, 3, .ifCond .eq 13, [29], (0, 0, 0), 0, 0, none),
  (50, 2, .lload 7, [], (0, 0, 0), 0, 0, none),
  (52, 2, .iload 9, [], (0, 0, 0), 0, 0, none),
  (54, 3, .invokestatic 75, [736, 70, 123, 122], (0, 0, 0), 0, 0, some (mX7_one, 1)),
  (57, 1, .lor, [], (0, 0, 0), 0, 0, none),
  (58, 2, .lstore 7, [], (0, 0, 0), 0, 0, none),
  (60, 3, .iinc 9 1, [], (0, 0, 0), 1, 0, none),
  (63, 3, .goto (-57), [4], (0, 0, 0), 0, 0, none),
  (66, 2, .lload 7, [], (0, 0, 0), 0, 0, none),
  (68, 1, .lreturn, [], (0, 0, 0), 0, 0, none)]
set_option maxRecDepth 100000 in
theorem vX5_openOnes : ab_chk mX5_openOnes.1.cls mX5_openOnes kX5_openOnes = true := by decide +kernel
def mX5_isMakerOpen : ab_Md := (yX5_isMakerOpen, cX5_isMakerOpen, 4, some .boolean, { frames := 1, cells := 0, slots := 0, locals := 23 })
def kX5_isMakerOpen : List ab_En := [
  (0, 1, .aload_n 0, [], (0, 0, 0), 0, 0, none),
  (1, 1, .iload_n 1, [], (0, 0, 0), 0, 0, none),
  (2, 1, .iload_n 3, [], (0, 0, 0), 0, 0, none),
  (3, 3, .invokevirtual 78, [723, 75, 726, 725, 11], (5, 0, 0), 0, 0, some (mX5_isNearEnough, 2)),
  (6, 3, .ifCond .ne 20, [14], (0, 0, 0), 0, 0, none),
  (9, 1, .aload_n 0, [], (0, 0, 0), 0, 0, none),
  (10, 3, .getfield 19, [], (5, 2, 329), 0, 0, none),
  (13, 3, .getfield 81, [], (3, 4, 236), 0, 0, none),
  (16, 1, .iload_n 3, [], (0, 0, 0), 0, 0, none),
  (17, 1, .iaload, [], (0, 0, 0), 0, 0, none),
  (18, 1, .iconst 2, [], (0, 0, 0), 2, 0, none),
  (19, 3, .if_icmp .ne 11, [16], (0, 0, 0), 0, 0, none),
  (22, 1, .iload_n 2, [], (0, 0, 0), 0, 0, none),
  (23, 3, .ifCond .eq 7, [16], (0, 0, 0), 0, 0, none),
  (26, 1, .iconst 1, [], (0, 0, 0), 1, 0, none),
  (27, 3, .goto 4, [17], (0, 0, 0), 0, 0, none),
  (30, 1, .iconst 0, [], (0, 0, 0), 0, 0, none),
  (31, 1, .ireturn, [], (0, 0, 0), 0, 0, none)]
set_option maxRecDepth 100000 in
theorem vX5_isMakerOpen : ab_chk mX5_isMakerOpen.1.cls mX5_isMakerOpen kX5_isMakerOpen = true := by decide +kernel
def mX6_forget : ab_Md := (yX6_forget, cX6_forget, 1, none, { frames := 0, cells := 0, slots := 0, locals := 0 })
def kX6_forget : List ab_En := [
  (0, 1, .aload_n 0, [], (0, 0, 0), 0, 0, none),
  (1, 1, .iconst 0, [], (0, 0, 0), 0, 0, none),
  (2, 3, .putfield 26, [0], (6, 4, 309), 0, 0, none),
  (5, 1, .return_, [], (0, 0, 0), 0, 0, none)]
set_option maxRecDepth 100000 in
theorem vX6_forget : ab_chk mX6_forget.1.cls mX6_forget kX6_forget = true := by decide +kernel
def mX6_holds : ab_Md := (yX6_holds, cX6_holds, 4, some .boolean, { frames := 5, cells := 0, slots := 0, locals := 126 })
def kX6_holds : List ab_En := [
  (0, 1, .aload_n 0, [], (0, 0, 0), 0, 0, none),
  (1, 3, .getfield 22, [], (6, 1, 306), 0, 0, none),
  (4, 3, .getfield 30, [], (3, 3, 232), 0, 0, none),
  (7, 1, .iload_n 1, [], (0, 0, 0), 0, 0, none),
  (8, 1, .iaload, [], (0, 0, 0), 0, 0, none),
  (9, 1, .istore_n 3, [], (0, 0, 0), 0, 0, none),
  (10, 1, .iload_n 3, [], (0, 0, 0), 0, 0, none),
  (11, 1, .aload_n 0, [], (0, 0, 0), 0, 0, none),
  (12, 3, .getfield 22, [], (6, 1, 306), 0, 0, none),
  (15, 3, .getfield 30, [], (3, 3, 232), 0, 0, none),
  (18, 1, .iload_n 2, [], (0, 0, 0), 0, 0, none),
  (19, 1, .iaload, [], (0, 0, 0), 0, 0, none),
  (20, 3, .if_icmp .ne 36, [30], (0, 0, 0), 0, 0, none),
  (23, 1, .aload_n 0, [], (0, 0, 0), 0, 0, none),
  (24, 1, .aload_n 0, [], (0, 0, 0), 0, 0, none),
  (25, 3, .getfield 22, [], (6, 1, 306), 0, 0, none),
  (28, 3, .getfield 36, [], (3, 2, 226), 0, 0, none),
  (31, 1, .iload_n 1, [], (0, 0, 0), 0, 0, none),
  (32, 1, .iaload, [], (0, 0, 0), 0, 0, none),
  (33, 1, .iload_n 3, [], (0, 0, 0), 0, 0, none),
  (34, 3, .invokevirtual 39, [780, 74, 783, 781, 782], (6, 0, 0), 0, 0, some (mX6_overriddenBy, 2)),
  (37, 1, .aload_n 0, [], (0, 0, 0), 0, 0, none),
  (38, 3, .getfield 22, [], (6, 1, 306), 0, 0, none),
  (41, 3, .getfield 36, [], (3, 2, 226), 0, 0, none),
  (44, 1, .iload_n 2, [], (0, 0, 0), 0, 0, none),
  (45, 1, .iaload, [], (0, 0, 0), 0, 0, none),
  (46, 3, .invokestatic 43, [797, 70, 504, 503], (0, 0, 0), 0, 0, some (mX7_has, 2)),
  (49, 3, .ifCond .eq 7, [30], (0, 0, 0), 0, 0, none),
  (52, 1, .iconst 1, [], (0, 0, 0), 1, 0, none),
  (53, 3, .goto 4, [31], (0, 0, 0), 0, 0, none),
  (56, 1, .iconst 0, [], (0, 0, 0), 0, 0, none),
  (57, 1, .ireturn, [], (0, 0, 0), 0, 0, none)]
set_option maxRecDepth 100000 in
theorem vX6_holds : ab_chk mX6_holds.1.cls mX6_holds kX6_holds = true := by decide +kernel
def mX8_exists : ab_Md := (yX8_exists, cX8_exists, 2, some .boolean, { frames := 0, cells := 0, slots := 0, locals := 0 })
def kX8_exists : List ab_En := [
  (0, 1, .iload_n 1, [], (0, 0, 0), 0, 0, none),
  (1, 3, .ifCond .lt 15, [8], (0, 0, 0), 0, 0, none),
  (4, 1, .iload_n 1, [], (0, 0, 0), 0, 0, none),
  (5, 1, .aload_n 0, [], (0, 0, 0), 0, 0, none),
  (6, 3, .getfield 9, [], (7, 0, 124), 0, 0, none),
  (9, 3, .if_icmp .ge 7, [8], (0, 0, 0), 0, 0, none),
  (12, 1, .iconst 1, [], (0, 0, 0), 1, 0, none),
  (13, 3, .goto 4, [9], (0, 0, 0), 0, 0, none),
  (16, 1, .iconst 0, [], (0, 0, 0), 0, 0, none),
  (17, 1, .ireturn, [], (0, 0, 0), 0, 0, none)]
set_option maxRecDepth 100000 in
theorem vX8_exists : ab_chk mX8_exists.1.cls mX8_exists kX8_exists = true := by decide +kernel
def mX8_faceCount : ab_Md := (yX8_faceCount, cX8_faceCount, 2, some .int, { frames := 1, cells := 0, slots := 0, locals := 21 })
def kX8_faceCount : List ab_En := [
  (0, 1, .aload_n 0, [], (0, 0, 0), 0, 0, none),
  (1, 3, .getfield 44, [], (7, 9, 158), 0, 0, none),
  (4, 1, .iload_n 1, [], (0, 0, 0), 0, 0, none),
  (5, 1, .laload, [], (0, 0, 0), 0, 0, none),
  (6, 3, .invokestatic 70, [567, 81, 569, 568], (0, 0, 0), 0, 0, some (mJ13_bitCount_95d88, 1)),
  (9, 1, .ireturn, [], (0, 0, 0), 0, 0, none)]
set_option maxRecDepth 100000 in
theorem vX8_faceCount : ab_chk mX8_faceCount.1.cls mX8_faceCount kX8_faceCount = true := by decide +kernel
def mX8_isSameOrBelow : ab_Md := (yX8_isSameOrBelow, cX8_isSameOrBelow, 3, some .boolean, { frames := 2, cells := 0, slots := 0, locals := 41 })
def kX8_isSameOrBelow : List ab_En := [
  (0, 1, .aload_n 0, [], (0, 0, 0), 0, 0, none),
  (1, 1, .iload_n 2, [], (0, 0, 0), 0, 0, none),
  (2, 3, .invokevirtual 76, [521, 69, 524, 522, 523], (7, 0, 0), 0, 0, some (mX8_sameOrBelow, 1)),
  (5, 1, .iload_n 1, [], (0, 0, 0), 0, 0, none),
  (6, 3, .invokestatic 66, [502, 70, 504, 503], (0, 0, 0), 0, 0, some (mX7_has, 2)),
  (9, 1, .ireturn, [], (0, 0, 0), 0, 0, none)]
set_option maxRecDepth 100000 in
theorem vX8_isSameOrBelow : ab_chk mX8_isSameOrBelow.1.cls mX8_isSameOrBelow kX8_isSameOrBelow = true := by decide +kernel
def mX8_brokenRule : ab_Md := (yX8_brokenRule, cX8_brokenRule, 8, some .int, { frames := 2, cells := 0, slots := 0, locals := 43 })
def kX8_brokenRule : List ab_En := [
  (0, 2, .iload 5, [], (0, 0, 0), 0, 0, none),
  (2, 1, .iconst 1, [], (0, 0, 0), 1, 0, none),
  (3, 1, .iand, [], (0, 0, 0), 0, 0, none),
  (4, 3, .ifCond .eq 7, [6], (0, 0, 0), 0, 0, none),
  (7, 1, .iconst 1, [], (0, 0, 0), 1, 0, none),
  (8, 3, .goto 4, [7], (0, 0, 0), 0, 0, none),
  (11, 1, .iconst 0, [], (0, 0, 0), 0, 0, none),
  (12, 2, .istore 6, [], (0, 0, 0), 0, 0, none),
  (14, 2, .iload 5, [], (0, 0, 0), 0, 0, none),
  (16, 1, .iconst 2, [], (0, 0, 0), 2, 0, none),
  (17, 1, .iand, [], (0, 0, 0), 0, 0, none),
  (18, 3, .ifCond .eq 7, [14], (0, 0, 0), 0, 0, none),
  (21, 1, .iconst 1, [], (0, 0, 0), 1, 0, none),
  (22, 3, .goto 4, [15], (0, 0, 0), 0, 0, none),
  (25, 1, .iconst 0, [], (0, 0, 0), 0, 0, none),
  (26, 2, .istore 7, [], (0, 0, 0), 0, 0, none),
  (28, 1, .iload_n 2, [], (0, 0, 0), 0, 0, none),
  (29, 1, .iconst (-1), [], (0, 0, 0), (-1), 0, none),
  (30, 3, .if_icmp .ne 22, [29], (0, 0, 0), 0, 0, none),
  (33, 2, .iload 4, [], (0, 0, 0), 0, 0, none),
  (35, 1, .iconst 1, [], (0, 0, 0), 1, 0, none),
  (36, 3, .if_icmp .eq 9, [25], (0, 0, 0), 0, 0, none),
  (39, 2, .iload 4, [], (0, 0, 0), 0, 0, none),
  (41, 1, .iconst 3, [], (0, 0, 0), 3, 0, none),
  (42, 3, .if_icmp .ne 8, [27], (0, 0, 0), 0, 0, none),
  (45, 2, .iload 6, [], (0, 0, 0), 0, 0, none),
  (47, 3, .ifCond .eq 50, [55], (0, 0, 0), 0, 0, none),
  (50, 1, .iconst 1, [], (0, 0, 0), 1, 0, none),
  (51, 1, .ireturn, [], (0, 0, 0), 0, 0, none),
  (52, 1, .aload_n 0, [], (0, 0, 0), 0, 0, none),
  (53, 3, .getfield 25, [], (7, 3, 139), 0, 0, none),
  (56, 1, .iload_n 2, [], (0, 0, 0), 0, 0, none),
  (57, 1, .iaload, [], (0, 0, 0), 0, 0, none),
  (58, 1, .iload_n 1, [], (0, 0, 0), 0, 0, none),
  (59, 3, .if_icmp .eq 5, [37], (0, 0, 0), 0, 0, none),
  (62, 1, .iconst 2, [], (0, 0, 0), 2, 0, none),
  (63, 1, .ireturn, [], (0, 0, 0), 0, 0, none),
  (64, 1, .aload_n 0, [], (0, 0, 0), 0, 0, none),
  (65, 1, .iload_n 2, [], (0, 0, 0), 0, 0, none),
  (66, 3, .invokevirtual 79, [498, 69, 501, 499, 500], (7, 0, 0), 0, 0, some (mX8_isClass, 1)),
  (69, 3, .ifCond .ne 16, [48], (0, 0, 0), 0, 0, none),
  (72, 2, .iload 4, [], (0, 0, 0), 0, 0, none),
  (74, 1, .iconst 3, [], (0, 0, 0), 3, 0, none),
  (75, 3, .if_icmp .ne 8, [46], (0, 0, 0), 0, 0, none),
  (78, 2, .iload 6, [], (0, 0, 0), 0, 0, none),
  (80, 3, .ifCond .ne 5, [48], (0, 0, 0), 0, 0, none),
  (83, 1, .iconst 3, [], (0, 0, 0), 3, 0, none),
  (84, 1, .ireturn, [], (0, 0, 0), 0, 0, none),
  (85, 1, .iload_n 3, [], (0, 0, 0), 0, 0, none),
  (86, 1, .iconst 1, [], (0, 0, 0), 1, 0, none),
  (87, 3, .if_icmp .ne 10, [55], (0, 0, 0), 0, 0, none),
  (90, 2, .iload 6, [], (0, 0, 0), 0, 0, none),
  (92, 3, .ifCond .ne 5, [55], (0, 0, 0), 0, 0, none),
  (95, 1, .iconst 3, [], (0, 0, 0), 3, 0, none),
  (96, 1, .ireturn, [], (0, 0, 0), 0, 0, none),
  (97, 2, .iload 7, [], (0, 0, 0), 0, 0, none),
  (99, 3, .ifCond .eq 19, [66], (0, 0, 0), 0, 0, none),
  (102, 1, .iload_n 3, [], (0, 0, 0), 0, 0, none),
  (103, 1, .iconst 1, [], (0, 0, 0), 1, 0, none),
  (104, 3, .if_icmp .eq 10, [64], (0, 0, 0), 0, 0, none),
  (107, 2, .iload 5, [], (0, 0, 0), 0, 0, none),
  (109, 1, .iconst 4, [], (0, 0, 0), 4, 0, none),
  (110, 1, .iand, [], (0, 0, 0), 0, 0, none),
  (111, 3, .ifCond .eq 7, [66], (0, 0, 0), 0, 0, none),
  (114, 1, .iconst 4, [], (0, 0, 0), 4, 0, none),
  (115, 3, .goto 4, [67], (0, 0, 0), 0, 0, none),
  (118, 1, .iconst 0, [], (0, 0, 0), 0, 0, none),
  (119, 1, .ireturn, [], (0, 0, 0), 0, 0, none)]
set_option maxRecDepth 100000 in
theorem vX8_brokenRule : ab_chk mX8_brokenRule.1.cls mX8_brokenRule kX8_brokenRule = true := by decide +kernel
def mX8_putWithin : ab_Md := (yX8_putWithin, cX8_putWithin, 3, none, { frames := 1, cells := 0, slots := 0, locals := 20 })
def kX8_putWithin : List ab_En := [
  (0, 1, .aload_n 0, [], (0, 0, 0), 0, 0, none),
  (1, 3, .getfield 29, [], (7, 4, 143), 0, 0, none),
  (4, 1, .iload_n 1, [], (0, 0, 0), 0, 0, none),
  (5, 1, .iload_n 2, [], (0, 0, 0), 0, 0, none),
  (6, 1, .iastore, [], (0, 0, 0), 0, 0, none),
  (7, 1, .aload_n 0, [], (0, 0, 0), 0, 0, none),
  (8, 3, .getfield 32, [], (7, 5, 146), 0, 0, none),
  (11, 1, .iload_n 1, [], (0, 0, 0), 0, 0, none),
  (12, 1, .iload_n 1, [], (0, 0, 0), 0, 0, none),
  (13, 1, .iastore, [], (0, 0, 0), 0, 0, none),
  (14, 1, .aload_n 0, [], (0, 0, 0), 0, 0, none),
  (15, 3, .getfield 54, [], (7, 12, 169), 0, 0, none),
  (18, 1, .iload_n 1, [], (0, 0, 0), 0, 0, none),
  (19, 1, .iload_n 1, [], (0, 0, 0), 0, 0, none),
  (20, 3, .invokestatic 15, [121, 70, 123, 122], (0, 0, 0), 0, 0, some (mX7_one, 1)),
  (23, 1, .lastore, [], (0, 0, 0), 0, 0, none),
  (24, 1, .iload_n 2, [], (0, 0, 0), 0, 0, none),
  (25, 1, .iconst (-1), [], (0, 0, 0), (-1), 0, none),
  (26, 3, .if_icmp .eq 30, [38], (0, 0, 0), 0, 0, none),
  (29, 1, .aload_n 0, [], (0, 0, 0), 0, 0, none),
  (30, 3, .getfield 32, [], (7, 5, 146), 0, 0, none),
  (33, 1, .iload_n 1, [], (0, 0, 0), 0, 0, none),
  (34, 1, .aload_n 0, [], (0, 0, 0), 0, 0, none),
  (35, 3, .getfield 32, [], (7, 5, 146), 0, 0, none),
  (38, 1, .iload_n 2, [], (0, 0, 0), 0, 0, none),
  (39, 1, .iaload, [], (0, 0, 0), 0, 0, none),
  (40, 1, .iastore, [], (0, 0, 0), 0, 0, none),
  (41, 1, .aload_n 0, [], (0, 0, 0), 0, 0, none),
  (42, 3, .getfield 54, [], (7, 12, 169), 0, 0, none),
  (45, 1, .iload_n 1, [], (0, 0, 0), 0, 0, none),
  (46, 1, .dup2, [], (0, 0, 0), 0, 0, none),
  (47, 1, .laload, [], (0, 0, 0), 0, 0, none),
  (48, 1, .aload_n 0, [], (0, 0, 0), 0, 0, none),
  (49, 3, .getfield 54, [], (7, 12, 169), 0, 0, none),
  (52, 1, .iload_n 2, [], (0, 0, 0), 0, 0, none),
  (53, 1, .laload, [], (0, 0, 0), 0, 0, none),
  (54, 1, .lor, [], (0, 0, 0), 0, 0, none),
  (55, 1, .lastore, [], (0, 0, 0), 0, 0, none),
  (56, 1, .return_, [], (0, 0, 0), 0, 0, none)]
set_option maxRecDepth 100000 in
theorem vX8_putWithin : ab_chk mX8_putWithin.1.cls mX8_putWithin kX8_putWithin = true := by decide +kernel
def mX8_putLastInOrder : ab_Md := (yX8_putLastInOrder, cX8_putLastInOrder, 5, none, { frames := 1, cells := 0, slots := 0, locals := 26 })
def kX8_putLastInOrder : List ab_En := [
  (0, 1, .iconst 0, [], (0, 0, 0), 0, 0, none),
  (1, 1, .istore_n 3, [], (0, 0, 0), 0, 0, none),
  (2, 1, .iconst 0, [], (0, 0, 0), 0, 0, none),
  (3, 2, .istore 4, [], (0, 0, 0), 0, 0, none),
  (5, 2, .iload 4, [], (0, 0, 0), 0, 0, none),
  (7, 1, .aload_n 0, [], (0, 0, 0), 0, 0, none),
  (8, 3, .getfield 9, [], (7, 0, 124), 0, 0, none),
  (11, 3, .if_icmp .ge 39, [26], (0, 0, 0), 0, 0, none),
  (14, 1, .lload_n 1, [], (0, 0, 0), 0, 0, none),
  (15, 1, .aload_n 0, [], (0, 0, 0), 0, 0, none),
  (16, 3, .getfield 57, [], (7, 13, 172), 0, 0, none),
  (19, 2, .iload 4, [], (0, 0, 0), 0, 0, none),
  (21, 1, .iaload, [], (0, 0, 0), 0, 0, none),
  (22, 3, .invokestatic 66, [502, 70, 504, 503], (0, 0, 0), 0, 0, some (mX7_has, 2)),
  (25, 3, .ifCond .ne 19, [24], (0, 0, 0), 0, 0, none),
  (28, 1, .aload_n 0, [], (0, 0, 0), 0, 0, none),
  (29, 3, .getfield 60, [], (7, 14, 175), 0, 0, none),
  (32, 1, .iload_n 3, [], (0, 0, 0), 0, 0, none),
  (33, 3, .iinc 3 1, [], (0, 0, 0), 1, 0, none),
  (36, 1, .aload_n 0, [], (0, 0, 0), 0, 0, none),
  (37, 3, .getfield 57, [], (7, 13, 172), 0, 0, none),
  (40, 2, .iload 4, [], (0, 0, 0), 0, 0, none),
  (42, 1, .iaload, [], (0, 0, 0), 0, 0, none),
  (43, 1, .iastore, [], (0, 0, 0), 0, 0, none),
  (44, 3, .iinc 4 1, [], (0, 0, 0), 1, 0, none),
  (47, 3, .goto (-42), [4], (0, 0, 0), 0, 0, none),
  (50, 1, .iconst 0, [], (0, 0, 0), 0, 0, none),
  (51, 2, .istore 4, [], (0, 0, 0), 0, 0, none),
  (53, 2, .iload 4, [], (0, 0, 0), 0, 0, none),
  (55, 1, .aload_n 0, [], (0, 0, 0), 0, 0, none),
  (56, 3, .getfield 9, [], (7, 0, 124), 0, 0, none),
  (59, 3, .if_icmp .ge 39, [50], (0, 0, 0), 0, 0, none),
  (62, 1, .lload_n 1, [], (0, 0, 0), 0, 0, none),
  (63, 1, .aload_n 0, [], (0, 0, 0), 0, 0, none),
  (64, 3, .getfield 57, [], (7, 13, 172), 0, 0, none),
  (67, 2, .iload 4, [], (0, 0, 0), 0, 0, none),
  (69, 1, .iaload, [], (0, 0, 0), 0, 0, none),
  (70, 3, .invokestatic 66, [502, 70, 504, 503], (0, 0, 0), 0, 0, some (mX7_has, 2)),
  (73, 3, .ifCond .eq 19, [48], (0, 0, 0), 0, 0, none),
  (76, 1, .aload_n 0, [], (0, 0, 0), 0, 0, none),
  (77, 3, .getfield 60, [], (7, 14, 175), 0, 0, none),
  (80, 1, .iload_n 3, [], (0, 0, 0), 0, 0, none),
  (81, 3, .iinc 3 1, [], (0, 0, 0), 1, 0, none),
  (84, 1, .aload_n 0, [], (0, 0, 0), 0, 0, none),
  (85, 3, .getfield 57, [], (7, 13, 172), 0, 0, none),
  (88, 2, .iload 4, [], (0, 0, 0), 0, 0, none),
  (90, 1, .iaload, [], (0, 0, 0), 0, 0, none),
  (91, 1, .iastore, [], (0, 0, 0), 0, 0, none),
  (92, 3, .iinc 4 1, [], (0, 0, 0), 1, 0, none),
  (95, 3, .goto (-42), [28], (0, 0, 0), 0, 0, none),
  (98, 1, .aload_n 0, [], (0, 0, 0), 0, 0, none),
  (99, 3, .getfield 60, [], (7, 14, 175), 0, 0, none),
  (102, 1, .iconst 0, [], (0, 0, 0), 0, 0, none),
  (103, 1, .aload_n 0, [], (0, 0, 0), 0, 0, none),
  (104, 3, .getfield 57, [], (7, 13, 172), 0, 0, none),
  (107, 1, .iconst 0, [], (0, 0, 0), 0, 0, none),
  (108, 1, .aload_n 0, [], (0, 0, 0), 0, 0, none),
  (109, 3, .getfield 9, [], (7, 0, 124), 0, 0, none),
  (112, 3, .invokestatic 103, [533, 535, 534, 80], (0, 0, 0), 0, 0, none),
  (115, 1, .return_, [], (0, 0, 0), 0, 0, none)]
set_option maxRecDepth 100000 in
theorem vX8_putLastInOrder : ab_chk mX8_putLastInOrder.1.cls mX8_putLastInOrder kX8_putLastInOrder = true := by decide +kernel
def mX8_putBelow : ab_Md := (yX8_putBelow, cX8_putBelow, 8, none, { frames := 2, cells := 0, slots := 0, locals := 50 })
def kX8_putBelow : List ab_En := [
  (0, 1, .aload_n 0, [], (0, 0, 0), 0, 0, none),
  (1, 1, .iload_n 1, [], (0, 0, 0), 0, 0, none),
  (2, 3, .invokevirtual 76, [521, 69, 524, 522, 523], (7, 0, 0), 0, 0, some (mX8_sameOrBelow, 1)),
  (5, 1, .lstore_n 3, [], (0, 0, 0), 0, 0, none),
  (6, 1, .aload_n 0, [], (0, 0, 0), 0, 0, none),
  (7, 1, .iload_n 2, [], (0, 0, 0), 0, 0, none),
  (8, 3, .invokevirtual 96, [525, 69, 528, 526, 527], (7, 0, 0), 0, 0, some (mX8_sameOrAbove, 1)),
  (11, 2, .lstore 5, [], (0, 0, 0), 0, 0, none),
  (13, 1, .iconst 0, [], (0, 0, 0), 0, 0, none),
  (14, 2, .istore 7, [], (0, 0, 0), 0, 0, none),
  (16, 2, .iload 7, [], (0, 0, 0), 0, 0, none),
  (18, 1, .aload_n 0, [], (0, 0, 0), 0, 0, none),
  (19, 3, .getfield 9, [], (7, 0, 124), 0, 0, none),
  (22, 3, .if_icmp .ge 51, [40], (0, 0, 0), 0, 0, none),
  (25, 1, .lload_n 3, [], (0, 0, 0), 0, 0, none),
  (26, 2, .iload 7, [], (0, 0, 0), 0, 0, none),
  (28, 3, .invokestatic 66, [502, 70, 504, 503], (0, 0, 0), 0, 0, some (mX7_has, 2)),
  (31, 3, .ifCond .eq 15, [26], (0, 0, 0), 0, 0, none),
  (34, 1, .aload_n 0, [], (0, 0, 0), 0, 0, none),
  (35, 3, .getfield 48, [], (7, 10, 162), 0, 0, none),
  (38, 2, .iload 7, [], (0, 0, 0), 0, 0, none),
  (40, 1, .dup2, [], (0, 0, 0), 0, 0, none),
  (41, 1, .laload, [], (0, 0, 0), 0, 0, none),
  (42, 2, .lload 5, [], (0, 0, 0), 0, 0, none),
  (44, 1, .lor, [], (0, 0, 0), 0, 0, none),
  (45, 1, .lastore, [], (0, 0, 0), 0, 0, none),
  (46, 2, .lload 5, [], (0, 0, 0), 0, 0, none),
  (48, 2, .iload 7, [], (0, 0, 0), 0, 0, none),
  (50, 3, .invokestatic 66, [502, 70, 504, 503], (0, 0, 0), 0, 0, some (mX7_has, 2)),
  (53, 3, .ifCond .eq 14, [38], (0, 0, 0), 0, 0, none),
  (56, 1, .aload_n 0, [], (0, 0, 0), 0, 0, none),
  (57, 3, .getfield 51, [], (7, 11, 167), 0, 0, none),
  (60, 2, .iload 7, [], (0, 0, 0), 0, 0, none),
  (62, 1, .dup2, [], (0, 0, 0), 0, 0, none),
  (63, 1, .laload, [], (0, 0, 0), 0, 0, none),
  (64, 1, .lload_n 3, [], (0, 0, 0), 0, 0, none),
  (65, 1, .lor, [], (0, 0, 0), 0, 0, none),
  (66, 1, .lastore, [], (0, 0, 0), 0, 0, none),
  (67, 3, .iinc 7 1, [], (0, 0, 0), 1, 0, none),
  (70, 3, .goto (-54), [10], (0, 0, 0), 0, 0, none),
  (73, 1, .aload_n 0, [], (0, 0, 0), 0, 0, none),
  (74, 1, .lload_n 3, [], (0, 0, 0), 0, 0, none),
  (75, 3, .invokevirtual 99, [529, 69, 532, 531, 2], (7, 0, 0), 0, 0, some (mX8_putLastInOrder, 1)),
  (78, 1, .return_, [], (0, 0, 0), 0, 0, none)]
set_option maxRecDepth 100000 in
theorem vX8_putBelow : ab_chk mX8_putBelow.1.cls mX8_putBelow kX8_putBelow = true := by decide +kernel
def mX8_setParent : ab_Md := (yX8_setParent, cX8_setParent, 3, none, { frames := 3, cells := 0, slots := 0, locals := 77 })
def kX8_setParent : List ab_En := [
  (0, 1, .aload_n 0, [], (0, 0, 0), 0, 0, none),
  (1, 3, .getfield 38, [], (7, 7, 151), 0, 0, none),
  (4, 1, .iload_n 1, [], (0, 0, 0), 0, 0, none),
  (5, 1, .iload_n 2, [], (0, 0, 0), 0, 0, none),
  (6, 1, .iastore, [], (0, 0, 0), 0, 0, none),
  (7, 1, .aload_n 0, [], (0, 0, 0), 0, 0, none),
  (8, 1, .iload_n 1, [], (0, 0, 0), 0, 0, none),
  (9, 1, .iload_n 2, [], (0, 0, 0), 0, 0, none),
  (10, 3, .invokevirtual 93, [517, 69, 520, 519, 1], (7, 0, 0), 0, 0, some (mX8_putBelow, 2)),
  (13, 1, .return_, [], (0, 0, 0), 0, 0, none)]
set_option maxRecDepth 100000 in
theorem vX8_setParent : ab_chk mX8_setParent.1.cls mX8_setParent kX8_setParent = true := by decide +kernel
def mX8_add : ab_Md := (yX8_add, cX8_add, 7, some .int, { frames := 4, cells := 0, slots := 0, locals := 99 })
def kX8_add : List ab_En := [
  (0, 1, .aload_n 0, [], (0, 0, 0), 0, 0, none),
  (1, 3, .getfield 9, [], (7, 0, 124), 0, 0, none),
  (4, 2, .bipush 40, [], (0, 0, 0), 40, 0, none),
  (6, 3, .if_icmp .lt 6, [6], (0, 0, 0), 0, 0, none),
  (9, 2, .bipush (-4), [], (0, 0, 0), (-4), 0, none),
  (11, 1, .ireturn, [], (0, 0, 0), 0, 0, none),
  (12, 1, .aload_n 0, [], (0, 0, 0), 0, 0, none),
  (13, 1, .dup, [], (0, 0, 0), 0, 0, none),
  (14, 3, .getfield 9, [], (7, 0, 124), 0, 0, none),
  (17, 1, .dup_x1, [], (0, 0, 0), 0, 0, none),
  (18, 1, .iconst 1, [], (0, 0, 0), 1, 0, none),
  (19, 1, .iadd, [], (0, 0, 0), 0, 0, none),
  (20, 3, .putfield 9, [0], (7, 0, 124), 0, 0, none),
  (23, 2, .istore 6, [], (0, 0, 0), 0, 0, none),
  (25, 1, .aload_n 0, [], (0, 0, 0), 0, 0, none),
  (26, 3, .getfield 25, [], (7, 3, 139), 0, 0, none),
  (29, 2, .iload 6, [], (0, 0, 0), 0, 0, none),
  (31, 1, .iload_n 1, [], (0, 0, 0), 0, 0, none),
  (32, 1, .iastore, [], (0, 0, 0), 0, 0, none),
  (33, 1, .aload_n 0, [], (0, 0, 0), 0, 0, none),
  (34, 3, .getfield 35, [], (7, 6, 149), 0, 0, none),
  (37, 2, .iload 6, [], (0, 0, 0), 0, 0, none),
  (39, 2, .iload 4, [], (0, 0, 0), 0, 0, none),
  (41, 1, .iastore, [], (0, 0, 0), 0, 0, none),
  (42, 1, .aload_n 0, [], (0, 0, 0), 0, 0, none),
  (43, 3, .getfield 41, [], (7, 8, 157), 0, 0, none),
  (46, 2, .iload 6, [], (0, 0, 0), 0, 0, none),
  (48, 2, .iload 5, [], (0, 0, 0), 0, 0, none),
  (50, 1, .iastore, [], (0, 0, 0), 0, 0, none),
  (51, 1, .aload_n 0, [], (0, 0, 0), 0, 0, none),
  (52, 3, .getfield 38, [], (7, 7, 151), 0, 0, none),
  (55, 2, .iload 6, [], (0, 0, 0), 0, 0, none),
  (57, 1, .iconst (-1), [], (0, 0, 0), (-1), 0, none),
  (58, 1, .iastore, [], (0, 0, 0), 0, 0, none),
  (59, 1, .aload_n 0, [], (0, 0, 0), 0, 0, none),
  (60, 3, .getfield 57, [], (7, 13, 172), 0, 0, none),
  (63, 2, .iload 6, [], (0, 0, 0), 0, 0, none),
  (65, 2, .iload 6, [], (0, 0, 0), 0, 0, none),
  (67, 1, .iastore, [], (0, 0, 0), 0, 0, none),
  (68, 1, .aload_n 0, [], (0, 0, 0), 0, 0, none),
  (69, 3, .getfield 63, [], (7, 15, 176), 0, 0, none),
  (72, 1, .iload_n 1, [], (0, 0, 0), 0, 0, none),
  (73, 1, .dup2, [], (0, 0, 0), 0, 0, none),
  (74, 1, .laload, [], (0, 0, 0), 0, 0, none),
  (75, 2, .iload 6, [], (0, 0, 0), 0, 0, none),
  (77, 3, .invokestatic 15, [121, 70, 123, 122], (0, 0, 0), 0, 0, some (mX7_one, 1)),
  (80, 1, .lor, [], (0, 0, 0), 0, 0, none),
  (81, 1, .lastore, [], (0, 0, 0), 0, 0, none),
  (82, 2, .iload 5, [], (0, 0, 0), 0, 0, none),
  (84, 1, .iconst 1, [], (0, 0, 0), 1, 0, none),
  (85, 1, .iand, [], (0, 0, 0), 0, 0, none),
  (86, 3, .ifCond .eq 17, [59], (0, 0, 0), 0, 0, none),
  (89, 1, .aload_n 0, [], (0, 0, 0), 0, 0, none),
  (90, 1, .dup, [], (0, 0, 0), 0, 0, none),
  (91, 3, .getfield 83, [], (7, 2, 138), 0, 0, none),
  (94, 2, .iload 6, [], (0, 0, 0), 0, 0, none),
  (96, 3, .invokestatic 15, [121, 70, 123, 122], (0, 0, 0), 0, 0, some (mX7_one, 1)),
  (99, 1, .lor, [], (0, 0, 0), 0, 0, none),
  (100, 3, .putfield 83, [1], (7, 2, 138), 0, 0, none),
  (103, 1, .aload_n 0, [], (0, 0, 0), 0, 0, none),
  (104, 2, .iload 6, [], (0, 0, 0), 0, 0, none),
  (106, 1, .iload_n 2, [], (0, 0, 0), 0, 0, none),
  (107, 3, .invokevirtual 86, [509, 69, 512, 511, 0], (7, 0, 0), 0, 0, some (mX8_putWithin, 2)),
  (110, 1, .iload_n 3, [], (0, 0, 0), 0, 0, none),
  (111, 3, .ifCond .ne 24, [76], (0, 0, 0), 0, 0, none),
  (114, 1, .aload_n 0, [], (0, 0, 0), 0, 0, none),
  (115, 1, .dup, [], (0, 0, 0), 0, 0, none),
  (116, 3, .getfield 21, [], (7, 1, 131), 0, 0, none),
  (119, 2, .iload 6, [], (0, 0, 0), 0, 0, none),
  (121, 3, .invokestatic 15, [121, 70, 123, 122], (0, 0, 0), 0, 0, some (mX7_one, 1)),
  (124, 1, .lor, [], (0, 0, 0), 0, 0, none),
  (125, 3, .putfield 21, [1], (7, 1, 131), 0, 0, none),
  (128, 1, .aload_n 0, [], (0, 0, 0), 0, 0, none),
  (129, 2, .iload 6, [], (0, 0, 0), 0, 0, none),
  (131, 1, .iconst 0, [], (0, 0, 0), 0, 0, none),
  (132, 3, .invokevirtual 90, [513, 69, 516, 514, 515], (7, 0, 0), 0, 0, some (mX8_setParent, 2)),
  (135, 2, .iload 6, [], (0, 0, 0), 0, 0, none),
  (137, 1, .ireturn, [], (0, 0, 0), 0, 0, none)]
set_option maxRecDepth 100000 in
theorem vX8_add : ab_chk mX8_add.1.cls mX8_add kX8_add = true := by decide +kernel
def mX8_addFace : ab_Md := (yX8_addFace, cX8_addFace, 3, none, { frames := 3, cells := 0, slots := 0, locals := 77 })
def kX8_addFace : List ab_En := [
  (0, 1, .aload_n 0, [], (0, 0, 0), 0, 0, none),
  (1, 3, .getfield 44, [], (7, 9, 158), 0, 0, none),
  (4, 1, .iload_n 1, [], (0, 0, 0), 0, 0, none),
  (5, 1, .dup2, [], (0, 0, 0), 0, 0, none),
  (6, 1, .laload, [], (0, 0, 0), 0, 0, none),
  (7, 1, .iload_n 2, [], (0, 0, 0), 0, 0, none),
  (8, 3, .invokestatic 15, [121, 70, 123, 122], (0, 0, 0), 0, 0, some (mX7_one, 1)),
  (11, 1, .lor, [], (0, 0, 0), 0, 0, none),
  (12, 1, .lastore, [], (0, 0, 0), 0, 0, none),
  (13, 1, .aload_n 0, [], (0, 0, 0), 0, 0, none),
  (14, 1, .iload_n 1, [], (0, 0, 0), 0, 0, none),
  (15, 1, .iload_n 2, [], (0, 0, 0), 0, 0, none),
  (16, 3, .invokevirtual 93, [517, 69, 520, 519, 1], (7, 0, 0), 0, 0, some (mX8_putBelow, 2)),
  (19, 1, .return_, [], (0, 0, 0), 0, 0, none)]
set_option maxRecDepth 100000 in
theorem vX8_addFace : ab_chk mX8_addFace.1.cls mX8_addFace kX8_addFace = true := by decide +kernel
def mX9_usedType : ab_Md := (yX9_usedType, cX9_usedType, 6, some .int, { frames := 5, cells := 0, slots := 0, locals := 121 })
def kX9_usedType : List ab_En := [
  (0, 1, .iload_n 2, [], (0, 0, 0), 0, 0, none),
  (1, 1, .iconst 3, [], (0, 0, 0), 3, 0, none),
  (2, 3, .if_icmp .ne 13, [9], (0, 0, 0), 0, 0, none),
  (5, 1, .aload_n 0, [], (0, 0, 0), 0, 0, none),
  (6, 3, .getfield 9, [], (8, 0, 343), 0, 0, none),
  (9, 3, .getfield 27, [], (7, 7, 152), 0, 0, none),
  (12, 1, .iload_n 1, [], (0, 0, 0), 0, 0, none),
  (13, 1, .iaload, [], (0, 0, 0), 0, 0, none),
  (14, 1, .ireturn, [], (0, 0, 0), 0, 0, none),
  (15, 1, .iload_n 2, [], (0, 0, 0), 0, 0, none),
  (16, 1, .iconst 2, [], (0, 0, 0), 2, 0, none),
  (17, 3, .if_icmp .eq 5, [14], (0, 0, 0), 0, 0, none),
  (20, 1, .iload_n 3, [], (0, 0, 0), 0, 0, none),
  (21, 1, .ireturn, [], (0, 0, 0), 0, 0, none),
  (22, 1, .iload_n 1, [], (0, 0, 0), 0, 0, none),
  (23, 2, .istore 5, [], (0, 0, 0), 0, 0, none),
  (25, 2, .iload 5, [], (0, 0, 0), 0, 0, none),
  (27, 3, .ifCond .lt 45, [38], (0, 0, 0), 0, 0, none),
  (30, 1, .aload_n 0, [], (0, 0, 0), 0, 0, none),
  (31, 3, .getfield 9, [], (8, 0, 343), 0, 0, none),
  (34, 3, .getfield 33, [], (7, 12, 171), 0, 0, none),
  (37, 1, .iload_n 1, [], (0, 0, 0), 0, 0, none),
  (38, 1, .laload, [], (0, 0, 0), 0, 0, none),
  (39, 2, .iload 5, [], (0, 0, 0), 0, 0, none),
  (41, 3, .invokestatic 37, [707, 70, 504, 503], (0, 0, 0), 0, 0, some (mX7_has, 2)),
  (44, 3, .ifCond .eq 22, [36], (0, 0, 0), 0, 0, none),
  (47, 1, .aload_n 0, [], (0, 0, 0), 0, 0, none),
  (48, 3, .getfield 19, [], (8, 2, 345), 0, 0, none),
  (51, 2, .iload 5, [], (0, 0, 0), 0, 0, none),
  (53, 2, .iload 4, [], (0, 0, 0), 0, 0, none),
  (55, 3, .invokevirtual 43, [708, 73, 621, 619, 620], (2, 0, 0), 0, 0, some (mX2_membersOf, 2)),
  (58, 1, .lconst 0, [], (0, 0, 0), 0, 0, none),
  (59, 1, .lcmp, [], (0, 0, 0), 0, 0, none),
  (60, 3, .ifCond .eq 6, [36], (0, 0, 0), 0, 0, none),
  (63, 2, .iload 5, [], (0, 0, 0), 0, 0, none),
  (65, 1, .ireturn, [], (0, 0, 0), 0, 0, none),
  (66, 3, .iinc 5 (-1), [], (0, 0, 0), (-1), 0, none),
  (69, 3, .goto (-44), [16], (0, 0, 0), 0, 0, none),
  (72, 1, .iload_n 1, [], (0, 0, 0), 0, 0, none),
  (73, 1, .ireturn, [], (0, 0, 0), 0, 0, none)]
set_option maxRecDepth 100000 in
theorem vX9_usedType : ab_chk mX9_usedType.1.cls mX9_usedType kX9_usedType = true := by decide +kernel
def mX9_preferred : ab_Md := (yX9_preferred, cX9_preferred, 11, some .int, { frames := 1, cells := 0, slots := 0, locals := 22 })
def kX9_preferred : List ab_En := [
  (0, 1, .lload_n 1, [], (0, 0, 0), 0, 0, none),
  (1, 1, .aload_n 0, [], (0, 0, 0), 0, 0, none),
  (2, 3, .getfield 9, [], (8, 0, 343), 0, 0, none),
  (5, 3, .getfield 79, [], (7, 1, 133), 0, 0, none),
  (8, 1, .land, [], (0, 0, 0), 0, 0, none),
  (9, 2, .lstore 4, [], (0, 0, 0), 0, 0, none),
  (11, 2, .lload 4, [], (0, 0, 0), 0, 0, none),
  (13, 1, .lconst 0, [], (0, 0, 0), 0, 0, none),
  (14, 1, .lcmp, [], (0, 0, 0), 0, 0, none),
  (15, 3, .ifCond .eq 8, [12], (0, 0, 0), 0, 0, none),
  (18, 2, .lload 4, [], (0, 0, 0), 0, 0, none),
  (20, 3, .goto 4, [13], (0, 0, 0), 0, 0, none),
  (23, 1, .lload_n 1, [], (0, 0, 0), 0, 0, none),
  (24, 2, .lstore 6, [], (0, 0, 0), 0, 0, none),
  (26, 1, .iconst (-1), [], (0, 0, 0), (-1), 0, none),
  (27, 2, .istore 8, [], (0, 0, 0), 0, 0, none),
  (29, 1, .iconst 0, [], (0, 0, 0), 0, 0, none),
  (30, 2, .istore 9, [], (0, 0, 0), 0, 0, none),
  (32, 2, .iload 9, [], (0, 0, 0), 0, 0, none),
  (34, 1, .aload_n 0, [], (0, 0, 0), 0, 0, none),
  (35, 3, .getfield 9, [], (8, 0, 343), 0, 0, none),
  (38, 3, .getfield 83, [], (7, 0, 126), 0, 0, none),
  (41, 3, .if_icmp .ge 53, [45], (0, 0, 0), 0, 0, none),
  (44, 2, .lload 6, [], (0, 0, 0), 0, 0, none),
  (46, 2, .iload 9, [], (0, 0, 0), 0, 0, none),
  (48, 3, .invokestatic 37, [707, 70, 504, 503], (0, 0, 0), 0, 0, some (mX7_has, 2)),
  (51, 3, .ifCond .eq 37, [43], (0, 0, 0), 0, 0, none),
  (54, 1, .aload_n 0, [], (0, 0, 0), 0, 0, none),
  (55, 3, .getfield 15, [], (8, 1, 344), 0, 0, none),
  (58, 2, .iload 9, [], (0, 0, 0), 0, 0, none),
  (60, 1, .iload_n 3, [], (0, 0, 0), 0, 0, none),
  (61, 3, .invokevirtual 87, [743, 71, 597, 595, 596], (3, 0, 0), 0, 0, some (mX3_declared, 2)),
  (64, 2, .istore 10, [], (0, 0, 0), 0, 0, none),
  (66, 2, .iload 8, [], (0, 0, 0), 0, 0, none),
  (68, 1, .iconst (-1), [], (0, 0, 0), (-1), 0, none),
  (69, 3, .if_icmp .eq 10, [39], (0, 0, 0), 0, 0, none),
  (72, 2, .iload 10, [], (0, 0, 0), 0, 0, none),
  (74, 2, .iload 8, [], (0, 0, 0), 0, 0, none),
  (76, 3, .if_icmp .ge 8, [41], (0, 0, 0), 0, 0, none),
  (79, 2, .iload 10, [], (0, 0, 0), 0, 0, none),
  (81, 3, .goto 5, [42], (0, 0, 0), 0, 0, none),
  (84, 2, .iload 8, [], (0, 0, 0), 0, 0, none),
  (86, 2, .istore 8, [], (0, 0, 0), 0, 0, none),
  (88, 3, .iinc 9 1, [], (0, 0, 0), 1, 0, none),
  (91, 3, .goto (-59), [18], (0, 0, 0), 0, 0, none),
  (94, 2, .iload 8, [], (0, 0, 0), 0, 0, none),
  (96, 1, .ireturn, [], (0, 0, 0), 0, 0, none)]
set_option maxRecDepth 100000 in
theorem vX9_preferred : ab_chk mX9_preferred.1.cls mX9_preferred kX9_preferred = true := by decide +kernel
def mX9_hasStaticAhead : ab_Md := (yX9_hasStaticAhead, cX9_hasStaticAhead, 3, some .boolean, { frames := 0, cells := 0, slots := 0, locals := 0 })
def kX9_hasStaticAhead : List ab_En := [
  (0, 1, .aload_n 0, [], (0, 0, 0), 0, 0, none),
  (1, 3, .getfield 9, [], (8, 0, 343), 0, 0, none),
  (4, 3, .getfield 33, [], (7, 12, 171), 0, 0, none),
  (7, 1, .iload_n 1, [], (0, 0, 0), 0, 0, none),
  (8, 1, .laload, [], (0, 0, 0), 0, 0, none),
  (9, 1, .aload_n 0, [], (0, 0, 0), 0, 0, none),
  (10, 3, .getfield 9, [], (8, 0, 343), 0, 0, none),
  (13, 3, .getfield 97, [], (7, 2, 137), 0, 0, none),
  (16, 1, .land, [], (0, 0, 0), 0, 0, none),
  (17, 1, .iload_n 2, [], (0, 0, 0), 0, 0, none),
  (18, 1, .lushr, [], (0, 0, 0), 0, 0, none),
  (19, 1, .iconst 1, [], (0, 0, 0), 1, 0, none),
  (20, 1, .lushr, [], (0, 0, 0), 0, 0, none),
  (21, 1, .lconst 0, [], (0, 0, 0), 0, 0, none),
  (22, 1, .lcmp, [], (0, 0, 0), 0, 0, none),
  (23, 3, .ifCond .eq 7, [18], (0, 0, 0), 0, 0, none),
  (26, 1, .iconst 1, [], (0, 0, 0), 1, 0, none),
  (27, 3, .goto 4, [19], (0, 0, 0), 0, 0, none),
  (30, 1, .iconst 0, [], (0, 0, 0), 0, 0, none),
  (31, 1, .ireturn, [], (0, 0, 0), 0, 0, none)]
set_option maxRecDepth 100000 in
theorem vX9_hasStaticAhead : ab_chk mX9_hasStaticAhead.1.cls mX9_hasStaticAhead kX9_hasStaticAhead = true := by decide +kernel
def mX9_allowed : ab_Md := (yX9_allowed, cX9_allowed, 6, some .int, { frames := 1, cells := 0, slots := 0, locals := 22 })
def kX9_allowed : List ab_En := [
  (0, 2, .iload 4, [], (0, 0, 0), 0, 0, none),
  (2, 1, .iconst (-1), [], (0, 0, 0), (-1), 0, none),
  (3, 3, .if_icmp .ne 6, [5], (0, 0, 0), 0, 0, none),
  (6, 2, .bipush (-13), [], (0, 0, 0), (-13), 0, none),
  (8, 1, .ireturn, [], (0, 0, 0), 0, 0, none),
  (9, 1, .aload_n 0, [], (0, 0, 0), 0, 0, none),
  (10, 3, .getfield 15, [], (8, 1, 344), 0, 0, none),
  (13, 2, .iload 4, [], (0, 0, 0), 0, 0, none),
  (15, 1, .iconst 1, [], (0, 0, 0), 1, 0, none),
  (16, 3, .invokevirtual 91, [748, 71, 734, 732, 733], (3, 0, 0), 0, 0, some (mX3_hasFlag, 2)),
  (19, 2, .istore 5, [], (0, 0, 0), 0, 0, none),
  (21, 2, .iload 5, [], (0, 0, 0), 0, 0, none),
  (23, 3, .ifCond .ne 25, [26], (0, 0, 0), 0, 0, none),
  (26, 1, .iload_n 2, [], (0, 0, 0), 0, 0, none),
  (27, 1, .iconst 1, [], (0, 0, 0), 1, 0, none),
  (28, 3, .if_icmp .eq 17, [24], (0, 0, 0), 0, 0, none),
  (31, 1, .iload_n 2, [], (0, 0, 0), 0, 0, none),
  (32, 1, .iconst 2, [], (0, 0, 0), 2, 0, none),
  (33, 3, .if_icmp .ne 15, [26], (0, 0, 0), 0, 0, none),
  (36, 1, .aload_n 0, [], (0, 0, 0), 0, 0, none),
  (37, 1, .iload_n 1, [], (0, 0, 0), 0, 0, none),
  (38, 1, .iload_n 3, [], (0, 0, 0), 0, 0, none),
  (39, 3, .invokevirtual 94, [749, 76, 752, 751, 15], (8, 0, 0), 0, 0, some (mX9_hasStaticAhead, 2)),
  (42, 3, .ifCond .eq 6, [26], (0, 0, 0), 0, 0, none),
  (45, 2, .bipush (-15), [], (0, 0, 0), (-15), 0, none),
  (47, 1, .ireturn, [], (0, 0, 0), 0, 0, none),
  (48, 1, .iload_n 2, [], (0, 0, 0), 0, 0, none),
  (49, 1, .iconst 3, [], (0, 0, 0), 3, 0, none),
  (50, 3, .if_icmp .ne 21, [37], (0, 0, 0), 0, 0, none),
  (53, 1, .aload_n 0, [], (0, 0, 0), 0, 0, none),
  (54, 3, .getfield 15, [], (8, 1, 344), 0, 0, none),
  (57, 2, .iload 4, [], (0, 0, 0), 0, 0, none),
  (59, 1, .iconst 4, [], (0, 0, 0), 4, 0, none),
  (60, 3, .invokevirtual 91, [748, 71, 734, 732, 733], (3, 0, 0), 0, 0, some (mX3_hasFlag, 2)),
  (63, 3, .ifCond .eq 8, [37], (0, 0, 0), 0, 0, none),
  (66, 2, .bipush (-16), [], (0, 0, 0), (-16), 0, none),
  (68, 3, .goto 5, [38], (0, 0, 0), 0, 0, none),
  (71, 2, .iload 4, [], (0, 0, 0), 0, 0, none),
  (73, 1, .ireturn, [], (0, 0, 0), 0, 0, none)]
set_option maxRecDepth 100000 in
theorem vX9_allowed : ab_chk mX9_allowed.1.cls mX9_allowed kX9_allowed = true := by decide +kernel
def mX9_meant : ab_Md := (yX9_meant, cX9_meant, 9, some .int, { frames := 5, cells := 0, slots := 0, locals := 121 })
def kX9_meant : List ab_En := [
  (0, 1, .iload_n 3, [], (0, 0, 0), 0, 0, none),
  (1, 1, .iconst (-1), [], (0, 0, 0), (-1), 0, none),
  (2, 3, .if_icmp .eq 20, [12], (0, 0, 0), 0, 0, none),
  (5, 1, .iload_n 2, [], (0, 0, 0), 0, 0, none),
  (6, 1, .iconst 1, [], (0, 0, 0), 1, 0, none),
  (7, 3, .if_icmp .gt 18, [14], (0, 0, 0), 0, 0, none),
  (10, 1, .aload_n 0, [], (0, 0, 0), 0, 0, none),
  (11, 3, .getfield 23, [], (8, 3, 346), 0, 0, none),
  (14, 1, .iload_n 1, [], (0, 0, 0), 0, 0, none),
  (15, 1, .iload_n 3, [], (0, 0, 0), 0, 0, none),
  (16, 3, .invokevirtual 49, [713, 75, 679, 677, 678], (5, 0, 0), 0, 0, some (mX5_isTypeOpen, 2)),
  (19, 3, .ifCond .ne 6, [14], (0, 0, 0), 0, 0, none),
  (22, 2, .bipush (-11), [], (0, 0, 0), (-11), 0, none),
  (24, 1, .ireturn, [], (0, 0, 0), 0, 0, none),
  (25, 1, .aload_n 0, [], (0, 0, 0), 0, 0, none),
  (26, 3, .getfield 19, [], (8, 2, 345), 0, 0, none),
  (29, 1, .iload_n 3, [], (0, 0, 0), 0, 0, none),
  (30, 2, .iload 4, [], (0, 0, 0), 0, 0, none),
  (32, 3, .invokevirtual 43, [708, 73, 621, 619, 620], (2, 0, 0), 0, 0, some (mX2_membersOf, 2)),
  (35, 2, .lstore 5, [], (0, 0, 0), 0, 0, none),
  (37, 2, .lload 5, [], (0, 0, 0), 0, 0, none),
  (39, 1, .lconst 0, [], (0, 0, 0), 0, 0, none),
  (40, 1, .lcmp, [], (0, 0, 0), 0, 0, none),
  (41, 3, .ifCond .ne 6, [26], (0, 0, 0), 0, 0, none),
  (44, 2, .bipush (-12), [], (0, 0, 0), (-12), 0, none),
  (46, 1, .ireturn, [], (0, 0, 0), 0, 0, none),
  (47, 1, .aload_n 0, [], (0, 0, 0), 0, 0, none),
  (48, 3, .getfield 23, [], (8, 3, 346), 0, 0, none),
  (51, 2, .lload 5, [], (0, 0, 0), 0, 0, none),
  (53, 1, .iload_n 1, [], (0, 0, 0), 0, 0, none),
  (54, 1, .iload_n 2, [], (0, 0, 0), 0, 0, none),
  (55, 1, .iload_n 3, [], (0, 0, 0), 0, 0, none),
  (56, 2, .iload 4, [], (0, 0, 0), 0, 0, none),
  (58, 3, .invokevirtual 55, [714, 75, 717, 715, 716], (5, 0, 0), 0, 0, some (mX5_openOnes, 5)),
  (61, 2, .lstore 7, [], (0, 0, 0), 0, 0, none),
  (63, 2, .lload 7, [], (0, 0, 0), 0, 0, none),
  (65, 1, .lconst 0, [], (0, 0, 0), 0, 0, none),
  (66, 1, .lcmp, [], (0, 0, 0), 0, 0, none),
  (67, 3, .ifCond .ne 6, [41], (0, 0, 0), 0, 0, none),
  (70, 2, .bipush (-13), [], (0, 0, 0), (-13), 0, none),
  (72, 1, .ireturn, [], (0, 0, 0), 0, 0, none),
  (73, 1, .aload_n 0, [], (0, 0, 0), 0, 0, none),
  (74, 3, .getfield 15, [], (8, 1, 344), 0, 0, none),
  (77, 2, .iload 4, [], (0, 0, 0), 0, 0, none),
  (79, 3, .invokevirtual 59, [737, 71, 652, 650, 651], (3, 0, 0), 0, 0, some (mX3_isMethodGroup, 1)),
  (82, 3, .ifCond .ne 15, [52], (0, 0, 0), 0, 0, none),
  (85, 2, .lload 7, [], (0, 0, 0), 0, 0, none),
  (87, 3, .invokestatic 65, [738, 81, 569, 568], (0, 0, 0), 0, 0, some (mJ13_bitCount_95d88, 1)),
  (90, 1, .iconst 1, [], (0, 0, 0), 1, 0, none),
  (91, 3, .if_icmp .le 6, [52], (0, 0, 0), 0, 0, none),
  (94, 2, .bipush (-14), [], (0, 0, 0), (-14), 0, none),
  (96, 1, .ireturn, [], (0, 0, 0), 0, 0, none),
  (97, 1, .aload_n 0, [], (0, 0, 0), 0, 0, none),
  (98, 1, .iload_n 1, [], (0, 0, 0), 0, 0, none),
  (99, 1, .iload_n 2, [], (0, 0, 0), 0, 0, none),
  (100, 1, .iload_n 3, [], (0, 0, 0), 0, 0, none),
  (101, 1, .aload_n 0, [], (0, 0, 0), 0, 0, none),
  (102, 2, .lload 7, [], (0, 0, 0), 0, 0, none),
  (104, 2, .iload 4, [], (0, 0, 0), 0, 0, none),
  (106, 3, .invokevirtual 71, [739, 76, 742, 741, 13], (8, 0, 0), 0, 0, some (mX9_preferred, 2)),
  (109, 3, .invokevirtual 75, [744, 76, 747, 746, 14], (8, 0, 0), 0, 0, some (mX9_allowed, 4)),
  (112, 1, .ireturn, [], (0, 0, 0), 0, 0, none)]
set_option maxRecDepth 100000 in
theorem vX9_meant : ab_chk mX9_meant.1.cls mX9_meant kX9_meant = true := by decide +kernel
def mX9_maker : ab_Md := (yX9_maker, cX9_maker, 7, some .int, { frames := 4, cells := 0, slots := 0, locals := 87 })
def kX9_maker : List ab_En := [
  (0, 1, .iload_n 2, [], (0, 0, 0), 0, 0, none),
  (1, 1, .iconst 2, [], (0, 0, 0), 2, 0, none),
  (2, 3, .if_icmp .ne 15, [9], (0, 0, 0), 0, 0, none),
  (5, 1, .aload_n 0, [], (0, 0, 0), 0, 0, none),
  (6, 3, .getfield 9, [], (8, 0, 343), 0, 0, none),
  (9, 3, .getfield 27, [], (7, 7, 152), 0, 0, none),
  (12, 1, .iload_n 1, [], (0, 0, 0), 0, 0, none),
  (13, 1, .iaload, [], (0, 0, 0), 0, 0, none),
  (14, 3, .goto 4, [10], (0, 0, 0), 0, 0, none),
  (17, 1, .iload_n 3, [], (0, 0, 0), 0, 0, none),
  (18, 2, .istore 5, [], (0, 0, 0), 0, 0, none),
  (20, 2, .iload 5, [], (0, 0, 0), 0, 0, none),
  (22, 1, .iconst (-1), [], (0, 0, 0), (-1), 0, none),
  (23, 3, .if_icmp .eq 21, [23], (0, 0, 0), 0, 0, none),
  (26, 1, .iload_n 2, [], (0, 0, 0), 0, 0, none),
  (27, 1, .iconst 2, [], (0, 0, 0), 2, 0, none),
  (28, 3, .if_icmp .eq 19, [25], (0, 0, 0), 0, 0, none),
  (31, 1, .aload_n 0, [], (0, 0, 0), 0, 0, none),
  (32, 3, .getfield 23, [], (8, 3, 346), 0, 0, none),
  (35, 1, .iload_n 1, [], (0, 0, 0), 0, 0, none),
  (36, 2, .iload 5, [], (0, 0, 0), 0, 0, none),
  (38, 3, .invokevirtual 49, [713, 75, 679, 677, 678], (5, 0, 0), 0, 0, some (mX5_isTypeOpen, 2)),
  (41, 3, .ifCond .ne 6, [25], (0, 0, 0), 0, 0, none),
  (44, 2, .bipush (-11), [], (0, 0, 0), (-11), 0, none),
  (46, 1, .ireturn, [], (0, 0, 0), 0, 0, none),
  (47, 1, .aload_n 0, [], (0, 0, 0), 0, 0, none),
  (48, 3, .getfield 15, [], (8, 1, 344), 0, 0, none),
  (51, 2, .iload 5, [], (0, 0, 0), 0, 0, none),
  (53, 2, .bipush 20, [], (0, 0, 0), 20, 0, none),
  (55, 2, .iload 4, [], (0, 0, 0), 0, 0, none),
  (57, 1, .iadd, [], (0, 0, 0), 0, 0, none),
  (58, 3, .invokevirtual 87, [743, 71, 597, 595, 596], (3, 0, 0), 0, 0, some (mX3_declared, 2)),
  (61, 2, .istore 6, [], (0, 0, 0), 0, 0, none),
  (63, 2, .iload 6, [], (0, 0, 0), 0, 0, none),
  (65, 1, .iconst (-1), [], (0, 0, 0), (-1), 0, none),
  (66, 3, .if_icmp .ne 6, [38], (0, 0, 0), 0, 0, none),
  (69, 2, .bipush (-12), [], (0, 0, 0), (-12), 0, none),
  (71, 1, .ireturn, [], (0, 0, 0), 0, 0, none),
  (72, 1, .aload_n 0, [], (0, 0, 0), 0, 0, none),
  (73, 3, .getfield 23, [], (8, 3, 346), 0, 0, none),
  (76, 1, .iload_n 1, [], (0, 0, 0), 0, 0, none),
  (77, 1, .iload_n 2, [], (0, 0, 0), 0, 0, none),
  (78, 2, .iload 6, [], (0, 0, 0), 0, 0, none),
  (80, 3, .invokevirtual 100, [761, 75, 764, 762, 763], (5, 0, 0), 0, 0, some (mX5_isMakerOpen, 3)),
  (83, 3, .ifCond .ne 6, [47], (0, 0, 0), 0, 0, none),
  (86, 2, .bipush (-13), [], (0, 0, 0), (-13), 0, none),
  (88, 1, .ireturn, [], (0, 0, 0), 0, 0, none),
  (89, 1, .iload_n 2, [], (0, 0, 0), 0, 0, none),
  (90, 3, .ifCond .ne 19, [57], (0, 0, 0), 0, 0, none),
  (93, 1, .aload_n 0, [], (0, 0, 0), 0, 0, none),
  (94, 3, .getfield 9, [], (8, 0, 343), 0, 0, none),
  (97, 2, .iload 5, [], (0, 0, 0), 0, 0, none),
  (99, 1, .iconst 4, [], (0, 0, 0), 4, 0, none),
  (100, 3, .invokevirtual 104, [765, 69, 593, 591, 592], (7, 0, 0), 0, 0, some (mX8_hasFlag, 2)),
  (103, 3, .ifCond .eq 6, [57], (0, 0, 0), 0, 0, none),
  (106, 2, .bipush (-15), [], (0, 0, 0), (-15), 0, none),
  (108, 1, .ireturn, [], (0, 0, 0), 0, 0, none),
  (109, 1, .iload_n 2, [], (0, 0, 0), 0, 0, none),
  (110, 1, .iconst 1, [], (0, 0, 0), 1, 0, none),
  (111, 3, .if_icmp .ne 21, [68], (0, 0, 0), 0, 0, none),
  (114, 1, .aload_n 0, [], (0, 0, 0), 0, 0, none),
  (115, 3, .getfield 9, [], (8, 0, 343), 0, 0, none),
  (118, 2, .iload 5, [], (0, 0, 0), 0, 0, none),
  (120, 1, .iconst 2, [], (0, 0, 0), 2, 0, none),
  (121, 3, .invokevirtual 104, [765, 69, 593, 591, 592], (7, 0, 0), 0, 0, some (mX8_hasFlag, 2)),
  (124, 3, .ifCond .eq 8, [68], (0, 0, 0), 0, 0, none),
  (127, 2, .bipush (-16), [], (0, 0, 0), (-16), 0, none),
  (129, 3, .goto 5, [69], (0, 0, 0), 0, 0, none),
  (132, 2, .iload 6, [], (0, 0, 0), 0, 0, none),
  (134, 1, .ireturn, [], (0, 0, 0), 0, 0, none)]
set_option maxRecDepth 100000 in
theorem vX9_maker : ab_chk mX9_maker.1.cls mX9_maker kX9_maker = true := by decide +kernel
def mX10_module : ab_Md := (yX10_module, cX10_module, 1, some .int, { frames := 1, cells := 0, slots := 0, locals := 20 })
def kX10_module : List ab_En := [
  (0, 1, .aload_n 0, [], (0, 0, 0), 0, 0, none),
  (1, 3, .getfield 10, [], (9, 0, 412), 0, 0, none),
  (4, 3, .invokevirtual 84, [444, 68, 447, 445, 446], (4, 0, 0), 0, 0, some (mX4_addModule, 0)),
  (7, 1, .ireturn, [], (0, 0, 0), 0, 0, none)]
set_option maxRecDepth 100000 in
theorem vX10_module : ab_chk mX10_module.1.cls mX10_module kX10_module = true := by decide +kernel
def mX10_reads : ab_Md := (yX10_reads, cX10_reads, 3, some .int, { frames := 1, cells := 0, slots := 0, locals := 22 })
def kX10_reads : List ab_En := [
  (0, 1, .aload_n 0, [], (0, 0, 0), 0, 0, none),
  (1, 3, .getfield 10, [], (9, 0, 412), 0, 0, none),
  (4, 1, .iload_n 1, [], (0, 0, 0), 0, 0, none),
  (5, 3, .invokevirtual 88, [452, 68, 455, 453, 454], (4, 0, 0), 0, 0, some (mX4_hasModule, 1)),
  (8, 3, .ifCond .eq 14, [10], (0, 0, 0), 0, 0, none),
  (11, 1, .aload_n 0, [], (0, 0, 0), 0, 0, none),
  (12, 3, .getfield 10, [], (9, 0, 412), 0, 0, none),
  (15, 1, .iload_n 2, [], (0, 0, 0), 0, 0, none),
  (16, 3, .invokevirtual 88, [452, 68, 455, 453, 454], (4, 0, 0), 0, 0, some (mX4_hasModule, 1)),
  (19, 3, .ifCond .ne 5, [12], (0, 0, 0), 0, 0, none),
  (22, 1, .iconst (-1), [], (0, 0, 0), (-1), 0, none),
  (23, 1, .ireturn, [], (0, 0, 0), 0, 0, none),
  (24, 1, .aload_n 0, [], (0, 0, 0), 0, 0, none),
  (25, 3, .getfield 10, [], (9, 0, 412), 0, 0, none),
  (28, 1, .iload_n 1, [], (0, 0, 0), 0, 0, none),
  (29, 1, .iload_n 2, [], (0, 0, 0), 0, 0, none),
  (30, 3, .invokevirtual 92, [456, 68, 459, 457, 458], (4, 0, 0), 0, 0, some (mX4_addReading, 2)),
  (33, 1, .ireturn, [], (0, 0, 0), 0, 0, none)]
set_option maxRecDepth 100000 in
theorem vX10_reads : ab_chk mX10_reads.1.cls mX10_reads kX10_reads = true := by decide +kernel
def mX10_pack : ab_Md := (yX10_pack, cX10_pack, 2, some .int, { frames := 1, cells := 0, slots := 0, locals := 21 })
def kX10_pack : List ab_En := [
  (0, 1, .aload_n 0, [], (0, 0, 0), 0, 0, none),
  (1, 3, .getfield 10, [], (9, 0, 412), 0, 0, none),
  (4, 1, .iload_n 1, [], (0, 0, 0), 0, 0, none),
  (5, 3, .invokevirtual 88, [452, 68, 455, 453, 454], (4, 0, 0), 0, 0, some (mX4_hasModule, 1)),
  (8, 3, .ifCond .ne 5, [7], (0, 0, 0), 0, 0, none),
  (11, 1, .iconst (-1), [], (0, 0, 0), (-1), 0, none),
  (12, 1, .ireturn, [], (0, 0, 0), 0, 0, none),
  (13, 1, .aload_n 0, [], (0, 0, 0), 0, 0, none),
  (14, 3, .getfield 10, [], (9, 0, 412), 0, 0, none),
  (17, 1, .iload_n 1, [], (0, 0, 0), 0, 0, none),
  (18, 3, .invokevirtual 96, [464, 68, 467, 465, 466], (4, 0, 0), 0, 0, some (mX4_addPack, 1)),
  (21, 1, .ireturn, [], (0, 0, 0), 0, 0, none)]
set_option maxRecDepth 100000 in
theorem vX10_pack : ab_chk mX10_pack.1.cls mX10_pack kX10_pack = true := by decide +kernel
def mX10_export : ab_Md := (yX10_export, cX10_export, 3, some .int, { frames := 1, cells := 0, slots := 0, locals := 23 })
def kX10_export : List ab_En := [
  (0, 1, .aload_n 0, [], (0, 0, 0), 0, 0, none),
  (1, 3, .getfield 10, [], (9, 0, 412), 0, 0, none),
  (4, 1, .iload_n 1, [], (0, 0, 0), 0, 0, none),
  (5, 3, .invokevirtual 100, [472, 68, 475, 473, 474], (4, 0, 0), 0, 0, some (mX4_hasPack, 1)),
  (8, 3, .ifCond .eq 19, [13], (0, 0, 0), 0, 0, none),
  (11, 1, .iload_n 2, [], (0, 0, 0), 0, 0, none),
  (12, 1, .iconst (-1), [], (0, 0, 0), (-1), 0, none),
  (13, 3, .if_icmp .eq 16, [15], (0, 0, 0), 0, 0, none),
  (16, 1, .aload_n 0, [], (0, 0, 0), 0, 0, none),
  (17, 3, .getfield 10, [], (9, 0, 412), 0, 0, none),
  (20, 1, .iload_n 2, [], (0, 0, 0), 0, 0, none),
  (21, 3, .invokevirtual 88, [452, 68, 455, 453, 454], (4, 0, 0), 0, 0, some (mX4_hasModule, 1)),
  (24, 3, .ifCond .ne 5, [15], (0, 0, 0), 0, 0, none),
  (27, 1, .iconst (-1), [], (0, 0, 0), (-1), 0, none),
  (28, 1, .ireturn, [], (0, 0, 0), 0, 0, none),
  (29, 1, .aload_n 0, [], (0, 0, 0), 0, 0, none),
  (30, 3, .getfield 10, [], (9, 0, 412), 0, 0, none),
  (33, 1, .iload_n 1, [], (0, 0, 0), 0, 0, none),
  (34, 1, .iload_n 2, [], (0, 0, 0), 0, 0, none),
  (35, 3, .invokevirtual 103, [476, 68, 479, 477, 478], (4, 0, 0), 0, 0, some (mX4_addExport, 2)),
  (38, 1, .ireturn, [], (0, 0, 0), 0, 0, none)]
set_option maxRecDepth 100000 in
theorem vX10_export : ab_chk mX10_export.1.cls mX10_export kX10_export = true := by decide +kernel
def mX10_isWithin : ab_Md := (yX10_isWithin, cX10_isWithin, 2, some .boolean, { frames := 0, cells := 0, slots := 0, locals := 0 })
def kX10_isWithin : List ab_En := [
  (0, 1, .iload_n 0, [], (0, 0, 0), 0, 0, none),
  (1, 3, .ifCond .lt 12, [7], (0, 0, 0), 0, 0, none),
  (4, 1, .iload_n 0, [], (0, 0, 0), 0, 0, none),
  (5, 1, .iload_n 1, [], (0, 0, 0), 0, 0, none),
  (6, 3, .if_icmp .ge 7, [7], (0, 0, 0), 0, 0, none),
  (9, 1, .iconst 1, [], (0, 0, 0), 1, 0, none),
  (10, 3, .goto 4, [8], (0, 0, 0), 0, 0, none),
  (13, 1, .iconst 0, [], (0, 0, 0), 0, 0, none),
  (14, 1, .ireturn, [], (0, 0, 0), 0, 0, none)]
set_option maxRecDepth 100000 in
theorem vX10_isWithin : ab_chk mX10_isWithin.1.cls mX10_isWithin kX10_isWithin = true := by decide +kernel
def mX10_areFlags : ab_Md := (yX10_areFlags, cX10_areFlags, 1, some .boolean, { frames := 0, cells := 0, slots := 0, locals := 0 })
def kX10_areFlags : List ab_En := [
  (0, 1, .iload_n 0, [], (0, 0, 0), 0, 0, none),
  (1, 3, .ifCond .lt 13, [7], (0, 0, 0), 0, 0, none),
  (4, 1, .iload_n 0, [], (0, 0, 0), 0, 0, none),
  (5, 2, .bipush 7, [], (0, 0, 0), 7, 0, none),
  (7, 3, .if_icmp .gt 7, [7], (0, 0, 0), 0, 0, none),
  (10, 1, .iconst 1, [], (0, 0, 0), 1, 0, none),
  (11, 3, .goto 4, [8], (0, 0, 0), 0, 0, none),
  (14, 1, .iconst 0, [], (0, 0, 0), 0, 0, none),
  (15, 1, .ireturn, [], (0, 0, 0), 0, 0, none)]
set_option maxRecDepth 100000 in
theorem vX10_areFlags : ab_chk mX10_areFlags.1.cls mX10_areFlags kX10_areFlags = true := by decide +kernel
def mX10_forgetAnswers : ab_Md := (yX10_forgetAnswers, cX10_forgetAnswers, 1, none, { frames := 1, cells := 0, slots := 0, locals := 20 })
def kX10_forgetAnswers : List ab_En := [
  (0, 1, .aload_n 0, [], (0, 0, 0), 0, 0, none),
  (1, 3, .getfield 37, [], (9, 3, 415), 0, 0, none),
  (4, 3, .invokevirtual 248, [540, 73, 543, 541, 542], (2, 0, 0), 0, 0, some (mX2_forget, 0)),
  (7, 1, .aload_n 0, [], (0, 0, 0), 0, 0, none),
  (8, 3, .getfield 44, [], (9, 4, 416), 0, 0, none),
  (11, 3, .invokevirtual 251, [544, 74, 547, 545, 546], (6, 0, 0), 0, 0, some (mX6_forget, 0)),
  (14, 1, .return_, [], (0, 0, 0), 0, 0, none)]
set_option maxRecDepth 100000 in
theorem vX10_forgetAnswers : ab_chk mX10_forgetAnswers.1.cls mX10_forgetAnswers kX10_forgetAnswers = true := by decide +kernel
def mX10_type : ab_Md := (yX10_type, cX10_type, 8, some .int, { frames := 5, cells := 0, slots := 0, locals := 125 })
def kX10_type : List ab_En := [
  (0, 1, .aload_n 0, [], (0, 0, 0), 0, 0, none),
  (1, 3, .getfield 10, [], (9, 0, 412), 0, 0, none),
  (4, 1, .iload_n 1, [], (0, 0, 0), 0, 0, none),
  (5, 3, .invokevirtual 100, [472, 68, 475, 473, 474], (4, 0, 0), 0, 0, some (mX4_hasPack, 1)),
  (8, 3, .ifCond .eq 44, [24], (0, 0, 0), 0, 0, none),
  (11, 1, .iload_n 2, [], (0, 0, 0), 0, 0, none),
  (12, 1, .iconst (-1), [], (0, 0, 0), (-1), 0, none),
  (13, 3, .if_icmp .eq 14, [13], (0, 0, 0), 0, 0, none),
  (16, 1, .aload_n 0, [], (0, 0, 0), 0, 0, none),
  (17, 3, .getfield 19, [], (9, 1, 413), 0, 0, none),
  (20, 1, .iload_n 2, [], (0, 0, 0), 0, 0, none),
  (21, 3, .invokevirtual 106, [484, 69, 487, 485, 486], (7, 0, 0), 0, 0, some (mX8_exists, 1)),
  (24, 3, .ifCond .eq 28, [24], (0, 0, 0), 0, 0, none),
  (27, 1, .iload_n 3, [], (0, 0, 0), 0, 0, none),
  (28, 1, .iconst 2, [], (0, 0, 0), 2, 0, none),
  (29, 3, .invokestatic 109, [488, 67, 490, 489], (0, 0, 0), 0, 0, some (mX10_isWithin, 2)),
  (32, 3, .ifCond .eq 20, [24], (0, 0, 0), 0, 0, none),
  (35, 2, .iload 4, [], (0, 0, 0), 0, 0, none),
  (37, 1, .iconst 4, [], (0, 0, 0), 4, 0, none),
  (38, 3, .invokestatic 109, [488, 67, 490, 489], (0, 0, 0), 0, 0, some (mX10_isWithin, 2)),
  (41, 3, .ifCond .eq 11, [24], (0, 0, 0), 0, 0, none),
  (44, 2, .iload 5, [], (0, 0, 0), 0, 0, none),
  (46, 3, .invokestatic 113, [491, 67, 493, 492], (0, 0, 0), 0, 0, some (mX10_areFlags, 1)),
  (49, 3, .ifCond .ne 5, [26], (0, 0, 0), 0, 0, none),
  (52, 1, .iconst (-1), [], (0, 0, 0), (-1), 0, none),
  (53, 1, .ireturn, [], (0, 0, 0), 0, 0, none),
  (54, 1, .aload_n 0, [], (0, 0, 0), 0, 0, none),
  (55, 3, .getfield 19, [], (9, 1, 413), 0, 0, none),
  (58, 1, .iload_n 1, [], (0, 0, 0), 0, 0, none),
  (59, 1, .iload_n 2, [], (0, 0, 0), 0, 0, none),
  (60, 1, .iload_n 3, [], (0, 0, 0), 0, 0, none),
  (61, 2, .iload 4, [], (0, 0, 0), 0, 0, none),
  (63, 2, .iload 5, [], (0, 0, 0), 0, 0, none),
  (65, 3, .invokevirtual 116, [494, 69, 497, 495, 496], (7, 0, 0), 0, 0, some (mX8_brokenRule, 5)),
  (68, 2, .istore 6, [], (0, 0, 0), 0, 0, none),
  (70, 2, .iload 6, [], (0, 0, 0), 0, 0, none),
  (72, 3, .ifCond .eq 9, [41], (0, 0, 0), 0, 0, none),
  (75, 2, .bipush (-10), [], (0, 0, 0), (-10), 0, none),
  (77, 2, .iload 6, [], (0, 0, 0), 0, 0, none),
  (79, 1, .isub, [], (0, 0, 0), 0, 0, none),
  (80, 1, .ireturn, [], (0, 0, 0), 0, 0, none),
  (81, 1, .aload_n 0, [], (0, 0, 0), 0, 0, none),
  (82, 3, .getfield 19, [], (9, 1, 413), 0, 0, none),
  (85, 1, .iload_n 1, [], (0, 0, 0), 0, 0, none),
  (86, 1, .iload_n 2, [], (0, 0, 0), 0, 0, none),
  (87, 1, .iload_n 3, [], (0, 0, 0), 0, 0, none),
  (88, 2, .iload 4, [], (0, 0, 0), 0, 0, none),
  (90, 2, .iload 5, [], (0, 0, 0), 0, 0, none),
  (92, 3, .invokevirtual 120, [505, 69, 508, 506, 507], (7, 0, 0), 0, 0, some (mX8_add, 5)),
  (95, 2, .istore 7, [], (0, 0, 0), 0, 0, none),
  (97, 1, .aload_n 0, [], (0, 0, 0), 0, 0, none),
  (98, 3, .invokevirtual 123, [536, 67, 539, 538, 3], (9, 0, 0), 0, 0, some (mX10_forgetAnswers, 0)),
  (101, 2, .iload 7, [], (0, 0, 0), 0, 0, none),
  (103, 1, .ireturn, [], (0, 0, 0), 0, 0, none)]
set_option maxRecDepth 100000 in
theorem vX10_type : ab_chk mX10_type.1.cls mX10_type kX10_type = true := by decide +kernel
def mX10_parent : ab_Md := (yX10_parent, cX10_parent, 3, some .int, { frames := 4, cells := 0, slots := 0, locals := 99 })
def kX10_parent : List ab_En := [
  (0, 1, .aload_n 0, [], (0, 0, 0), 0, 0, none),
  (1, 3, .getfield 19, [], (9, 1, 413), 0, 0, none),
  (4, 1, .iload_n 1, [], (0, 0, 0), 0, 0, none),
  (5, 3, .invokevirtual 106, [484, 69, 487, 485, 486], (7, 0, 0), 0, 0, some (mX8_exists, 1)),
  (8, 3, .ifCond .eq 40, [22], (0, 0, 0), 0, 0, none),
  (11, 1, .aload_n 0, [], (0, 0, 0), 0, 0, none),
  (12, 3, .getfield 19, [], (9, 1, 413), 0, 0, none),
  (15, 1, .iload_n 2, [], (0, 0, 0), 0, 0, none),
  (16, 3, .invokevirtual 106, [484, 69, 487, 485, 486], (7, 0, 0), 0, 0, some (mX8_exists, 1)),
  (19, 3, .ifCond .eq 29, [22], (0, 0, 0), 0, 0, none),
  (22, 1, .aload_n 0, [], (0, 0, 0), 0, 0, none),
  (23, 3, .getfield 19, [], (9, 1, 413), 0, 0, none),
  (26, 1, .iload_n 1, [], (0, 0, 0), 0, 0, none),
  (27, 3, .invokevirtual 126, [552, 69, 501, 499, 500], (7, 0, 0), 0, 0, some (mX8_isClass, 1)),
  (30, 3, .ifCond .eq 18, [22], (0, 0, 0), 0, 0, none),
  (33, 1, .aload_n 0, [], (0, 0, 0), 0, 0, none),
  (34, 3, .getfield 19, [], (9, 1, 413), 0, 0, none),
  (37, 1, .iload_n 2, [], (0, 0, 0), 0, 0, none),
  (38, 3, .invokevirtual 126, [552, 69, 501, 499, 500], (7, 0, 0), 0, 0, some (mX8_isClass, 1)),
  (41, 3, .ifCond .eq 7, [22], (0, 0, 0), 0, 0, none),
  (44, 1, .iload_n 1, [], (0, 0, 0), 0, 0, none),
  (45, 3, .ifCond .ne 5, [24], (0, 0, 0), 0, 0, none),
  (48, 1, .iconst (-1), [], (0, 0, 0), (-1), 0, none),
  (49, 1, .ireturn, [], (0, 0, 0), 0, 0, none),
  (50, 1, .aload_n 0, [], (0, 0, 0), 0, 0, none),
  (51, 3, .getfield 19, [], (9, 1, 413), 0, 0, none),
  (54, 3, .getfield 129, [], (7, 7, 156), 0, 0, none),
  (57, 1, .iload_n 1, [], (0, 0, 0), 0, 0, none),
  (58, 1, .iaload, [], (0, 0, 0), 0, 0, none),
  (59, 3, .ifCond .ne 15, [36], (0, 0, 0), 0, 0, none),
  (62, 1, .aload_n 0, [], (0, 0, 0), 0, 0, none),
  (63, 3, .getfield 19, [], (9, 1, 413), 0, 0, none),
  (66, 1, .iload_n 2, [], (0, 0, 0), 0, 0, none),
  (67, 1, .iload_n 1, [], (0, 0, 0), 0, 0, none),
  (68, 3, .invokevirtual 133, [553, 69, 556, 554, 555], (7, 0, 0), 0, 0, some (mX8_isSameOrBelow, 2)),
  (71, 3, .ifCond .eq 6, [38], (0, 0, 0), 0, 0, none),
  (74, 2, .bipush (-2), [], (0, 0, 0), (-2), 0, none),
  (76, 1, .ireturn, [], (0, 0, 0), 0, 0, none),
  (77, 1, .aload_n 0, [], (0, 0, 0), 0, 0, none),
  (78, 3, .getfield 19, [], (9, 1, 413), 0, 0, none),
  (81, 1, .iload_n 1, [], (0, 0, 0), 0, 0, none),
  (82, 1, .iload_n 2, [], (0, 0, 0), 0, 0, none),
  (83, 3, .invokevirtual 136, [557, 69, 516, 514, 515], (7, 0, 0), 0, 0, some (mX8_setParent, 2)),
  (86, 1, .aload_n 0, [], (0, 0, 0), 0, 0, none),
  (87, 3, .invokevirtual 123, [536, 67, 539, 538, 3], (9, 0, 0), 0, 0, some (mX10_forgetAnswers, 0)),
  (90, 1, .iconst 1, [], (0, 0, 0), 1, 0, none),
  (91, 1, .ireturn, [], (0, 0, 0), 0, 0, none)]
set_option maxRecDepth 100000 in
theorem vX10_parent : ab_chk mX10_parent.1.cls mX10_parent kX10_parent = true := by decide +kernel
end
section
def mX10_face : ab_Md := (yX10_face, cX10_face, 3, some .int, { frames := 4, cells := 0, slots := 0, locals := 99 })
def kX10_face : List ab_En := [
  (0, 1, .aload_n 0, [], (0, 0, 0), 0, 0, none),
  (1, 3, .getfield 19, [], (9, 1, 413), 0, 0, none),
  (4, 1, .iload_n 1, [], (0, 0, 0), 0, 0, none),
  (5, 3, .invokevirtual 106, [484, 69, 487, 485, 486], (7, 0, 0), 0, 0, some (mX8_exists, 1)),
  (8, 3, .ifCond .eq 29, [17], (0, 0, 0), 0, 0, none),
  (11, 1, .aload_n 0, [], (0, 0, 0), 0, 0, none),
  (12, 3, .getfield 19, [], (9, 1, 413), 0, 0, none),
  (15, 1, .iload_n 2, [], (0, 0, 0), 0, 0, none),
  (16, 3, .invokevirtual 106, [484, 69, 487, 485, 486], (7, 0, 0), 0, 0, some (mX8_exists, 1)),
  (19, 3, .ifCond .eq 18, [17], (0, 0, 0), 0, 0, none),
  (22, 1, .aload_n 0, [], (0, 0, 0), 0, 0, none),
  (23, 3, .getfield 19, [], (9, 1, 413), 0, 0, none),
  (26, 1, .iload_n 2, [], (0, 0, 0), 0, 0, none),
  (27, 3, .invokevirtual 126, [552, 69, 501, 499, 500], (7, 0, 0), 0, 0, some (mX8_isClass, 1)),
  (30, 3, .ifCond .ne 7, [17], (0, 0, 0), 0, 0, none),
  (33, 1, .iload_n 1, [], (0, 0, 0), 0, 0, none),
  (34, 3, .ifCond .ne 5, [19], (0, 0, 0), 0, 0, none),
  (37, 1, .iconst (-1), [], (0, 0, 0), (-1), 0, none),
  (38, 1, .ireturn, [], (0, 0, 0), 0, 0, none),
  (39, 1, .aload_n 0, [], (0, 0, 0), 0, 0, none),
  (40, 3, .getfield 19, [], (9, 1, 413), 0, 0, none),
  (43, 3, .getfield 140, [], (7, 9, 161), 0, 0, none),
  (46, 1, .iload_n 1, [], (0, 0, 0), 0, 0, none),
  (47, 1, .laload, [], (0, 0, 0), 0, 0, none),
  (48, 1, .iload_n 2, [], (0, 0, 0), 0, 0, none),
  (49, 3, .invokestatic 144, [562, 70, 504, 503], (0, 0, 0), 0, 0, some (mX7_has, 2)),
  (52, 3, .ifCond .ne 15, [33], (0, 0, 0), 0, 0, none),
  (55, 1, .aload_n 0, [], (0, 0, 0), 0, 0, none),
  (56, 3, .getfield 19, [], (9, 1, 413), 0, 0, none),
  (59, 1, .iload_n 2, [], (0, 0, 0), 0, 0, none),
  (60, 1, .iload_n 1, [], (0, 0, 0), 0, 0, none),
  (61, 3, .invokevirtual 133, [553, 69, 556, 554, 555], (7, 0, 0), 0, 0, some (mX8_isSameOrBelow, 2)),
  (64, 3, .ifCond .eq 6, [35], (0, 0, 0), 0, 0, none),
  (67, 2, .bipush (-2), [], (0, 0, 0), (-2), 0, none),
  (69, 1, .ireturn, [], (0, 0, 0), 0, 0, none),
  (70, 1, .aload_n 0, [], (0, 0, 0), 0, 0, none),
  (71, 3, .getfield 19, [], (9, 1, 413), 0, 0, none),
  (74, 1, .iload_n 1, [], (0, 0, 0), 0, 0, none),
  (75, 3, .invokevirtual 150, [563, 69, 566, 564, 565], (7, 0, 0), 0, 0, some (mX8_faceCount, 1)),
  (78, 1, .iconst 4, [], (0, 0, 0), 4, 0, none),
  (79, 3, .if_icmp .lt 6, [43], (0, 0, 0), 0, 0, none),
  (82, 2, .bipush (-4), [], (0, 0, 0), (-4), 0, none),
  (84, 1, .ireturn, [], (0, 0, 0), 0, 0, none),
  (85, 1, .aload_n 0, [], (0, 0, 0), 0, 0, none),
  (86, 3, .getfield 19, [], (9, 1, 413), 0, 0, none),
  (89, 1, .iload_n 1, [], (0, 0, 0), 0, 0, none),
  (90, 1, .iload_n 2, [], (0, 0, 0), 0, 0, none),
  (91, 3, .invokevirtual 153, [573, 69, 576, 574, 575], (7, 0, 0), 0, 0, some (mX8_addFace, 2)),
  (94, 1, .aload_n 0, [], (0, 0, 0), 0, 0, none),
  (95, 3, .invokevirtual 123, [536, 67, 539, 538, 3], (9, 0, 0), 0, 0, some (mX10_forgetAnswers, 0)),
  (98, 1, .aload_n 0, [], (0, 0, 0), 0, 0, none),
  (99, 3, .getfield 19, [], (9, 1, 413), 0, 0, none),
  (102, 1, .iload_n 1, [], (0, 0, 0), 0, 0, none),
  (103, 3, .invokevirtual 150, [563, 69, 566, 564, 565], (7, 0, 0), 0, 0, some (mX8_faceCount, 1)),
  (106, 1, .ireturn, [], (0, 0, 0), 0, 0, none)]
set_option maxRecDepth 100000 in
theorem vX10_face : ab_chk mX10_face.1.cls mX10_face kX10_face = true := by decide +kernel
def mX10_member : ab_Md := (yX10_member, cX10_member, 8, some .int, { frames := 3, cells := 0, slots := 0, locals := 70 })
def kX10_member : List ab_En := [
  (0, 1, .aload_n 0, [], (0, 0, 0), 0, 0, none),
  (1, 3, .getfield 19, [], (9, 1, 413), 0, 0, none),
  (4, 1, .iload_n 1, [], (0, 0, 0), 0, 0, none),
  (5, 3, .invokevirtual 106, [484, 69, 487, 485, 486], (7, 0, 0), 0, 0, some (mX8_exists, 1)),
  (8, 3, .ifCond .eq 37, [20], (0, 0, 0), 0, 0, none),
  (11, 1, .iload_n 2, [], (0, 0, 0), 0, 0, none),
  (12, 1, .iconst 3, [], (0, 0, 0), 3, 0, none),
  (13, 3, .invokestatic 109, [488, 67, 490, 489], (0, 0, 0), 0, 0, some (mX10_isWithin, 2)),
  (16, 3, .ifCond .eq 29, [20], (0, 0, 0), 0, 0, none),
  (19, 1, .iload_n 3, [], (0, 0, 0), 0, 0, none),
  (20, 2, .bipush 10, [], (0, 0, 0), 10, 0, none),
  (22, 3, .invokestatic 109, [488, 67, 490, 489], (0, 0, 0), 0, 0, some (mX10_isWithin, 2)),
  (25, 3, .ifCond .eq 20, [20], (0, 0, 0), 0, 0, none),
  (28, 2, .iload 4, [], (0, 0, 0), 0, 0, none),
  (30, 1, .iconst 4, [], (0, 0, 0), 4, 0, none),
  (31, 3, .invokestatic 109, [488, 67, 490, 489], (0, 0, 0), 0, 0, some (mX10_isWithin, 2)),
  (34, 3, .ifCond .eq 11, [20], (0, 0, 0), 0, 0, none),
  (37, 2, .iload 5, [], (0, 0, 0), 0, 0, none),
  (39, 3, .invokestatic 113, [491, 67, 493, 492], (0, 0, 0), 0, 0, some (mX10_areFlags, 1)),
  (42, 3, .ifCond .ne 5, [22], (0, 0, 0), 0, 0, none),
  (45, 1, .iconst (-1), [], (0, 0, 0), (-1), 0, none),
  (46, 1, .ireturn, [], (0, 0, 0), 0, 0, none),
  (47, 1, .aload_n 0, [], (0, 0, 0), 0, 0, none),
  (48, 3, .getfield 28, [], (9, 2, 414), 0, 0, none),
  (51, 1, .iload_n 1, [], (0, 0, 0), 0, 0, none),
  (52, 1, .iload_n 2, [], (0, 0, 0), 0, 0, none),
  (53, 1, .iload_n 3, [], (0, 0, 0), 0, 0, none),
  (54, 2, .iload 4, [], (0, 0, 0), 0, 0, none),
  (56, 2, .iload 5, [], (0, 0, 0), 0, 0, none),
  (58, 3, .invokevirtual 156, [581, 71, 584, 582, 583], (3, 0, 0), 0, 0, some (mX3_brokenRule, 5)),
  (61, 2, .istore 6, [], (0, 0, 0), 0, 0, none),
  (63, 2, .iload 6, [], (0, 0, 0), 0, 0, none),
  (65, 3, .ifCond .eq 9, [37], (0, 0, 0), 0, 0, none),
  (68, 2, .bipush (-10), [], (0, 0, 0), (-10), 0, none),
  (70, 2, .iload 6, [], (0, 0, 0), 0, 0, none),
  (72, 1, .isub, [], (0, 0, 0), 0, 0, none),
  (73, 1, .ireturn, [], (0, 0, 0), 0, 0, none),
  (74, 1, .aload_n 0, [], (0, 0, 0), 0, 0, none),
  (75, 3, .getfield 28, [], (9, 2, 414), 0, 0, none),
  (78, 1, .iload_n 1, [], (0, 0, 0), 0, 0, none),
  (79, 1, .iload_n 2, [], (0, 0, 0), 0, 0, none),
  (80, 1, .iload_n 3, [], (0, 0, 0), 0, 0, none),
  (81, 2, .iload 4, [], (0, 0, 0), 0, 0, none),
  (83, 2, .iload 5, [], (0, 0, 0), 0, 0, none),
  (85, 3, .invokevirtual 157, [598, 71, 601, 599, 600], (3, 0, 0), 0, 0, some (mX3_add, 5)),
  (88, 2, .istore 7, [], (0, 0, 0), 0, 0, none),
  (90, 1, .aload_n 0, [], (0, 0, 0), 0, 0, none),
  (91, 3, .invokevirtual 123, [536, 67, 539, 538, 3], (9, 0, 0), 0, 0, some (mX10_forgetAnswers, 0)),
  (94, 2, .iload 7, [], (0, 0, 0), 0, 0, none),
  (96, 1, .ireturn, [], (0, 0, 0), 0, 0, none)]
set_option maxRecDepth 100000 in
theorem vX10_member : ab_chk mX10_member.1.cls mX10_member kX10_member = true := by decide +kernel
def mX10_count : ab_Md := (yX10_count, cX10_count, 2, some .int, { frames := 0, cells := 0, slots := 0, locals := 0 })
def kX10_count : List ab_En := [
  (0, 1, .iload_n 1, [], (0, 0, 0), 0, 0, none),
  (1, 31, .tableswitch 63 0 3 #[31, 39, 47, 55], [18, 2, 6, 10, 14], (0, 0, 0), 0, 0, none),
  (32, 1, .aload_n 0, [], (0, 0, 0), 0, 0, none),
  (33, 3, .getfield 10, [], (9, 0, 412), 0, 0, none),
  (36, 3, .getfield 158, [], (4, 0, 97), 0, 0, none),
  (39, 1, .ireturn, [], (0, 0, 0), 0, 0, none),
  (40, 1, .aload_n 0, [], (0, 0, 0), 0, 0, none),
  (41, 3, .getfield 10, [], (9, 0, 412), 0, 0, none),
  (44, 3, .getfield 161, [], (4, 1, 99), 0, 0, none),
  (47, 1, .ireturn, [], (0, 0, 0), 0, 0, none),
  (48, 1, .aload_n 0, [], (0, 0, 0), 0, 0, none),
  (49, 3, .getfield 19, [], (9, 1, 413), 0, 0, none),
  (52, 3, .getfield 164, [], (7, 0, 130), 0, 0, none),
  (55, 1, .ireturn, [], (0, 0, 0), 0, 0, none),
  (56, 1, .aload_n 0, [], (0, 0, 0), 0, 0, none),
  (57, 3, .getfield 28, [], (9, 2, 414), 0, 0, none),
  (60, 3, .getfield 167, [], (3, 1, 223), 0, 0, none),
  (63, 1, .ireturn, [], (0, 0, 0), 0, 0, none),
  (64, 1, .iconst (-1), [], (0, 0, 0), (-1), 0, none),
  (65, 1, .ireturn, [], (0, 0, 0), 0, 0, none)]
set_option maxRecDepth 100000 in
theorem vX10_count : ab_chk mX10_count.1.cls mX10_count kX10_count = true := by decide +kernel
def mX10_typeOrNone : ab_Md := (yX10_typeOrNone, cX10_typeOrNone, 1, some .int, { frames := 0, cells := 0, slots := 0, locals := 0 })
def kX10_typeOrNone : List ab_En := [
  (0, 1, .iload_n 0, [], (0, 0, 0), 0, 0, none),
  (1, 1, .iconst (-1), [], (0, 0, 0), (-1), 0, none),
  (2, 3, .if_icmp .ne 8, [5], (0, 0, 0), 0, 0, none),
  (5, 2, .bipush (-2), [], (0, 0, 0), (-2), 0, none),
  (7, 3, .goto 4, [6], (0, 0, 0), 0, 0, none),
  (10, 1, .iload_n 0, [], (0, 0, 0), 0, 0, none),
  (11, 1, .ireturn, [], (0, 0, 0), 0, 0, none)]
set_option maxRecDepth 100000 in
theorem vX10_typeOrNone : ab_chk mX10_typeOrNone.1.cls mX10_typeOrNone kX10_typeOrNone = true := by decide +kernel
def mX10_about : ab_Md := (yX10_about, cX10_about, 3, some .int, { frames := 6, cells := 0, slots := 0, locals := 144 })
def kX10_about : List ab_En := [
  (0, 1, .aload_n 0, [], (0, 0, 0), 0, 0, none),
  (1, 3, .getfield 19, [], (9, 1, 413), 0, 0, none),
  (4, 1, .iload_n 1, [], (0, 0, 0), 0, 0, none),
  (5, 3, .invokevirtual 106, [484, 69, 487, 485, 486], (7, 0, 0), 0, 0, some (mX8_exists, 1)),
  (8, 3, .ifCond .ne 5, [7], (0, 0, 0), 0, 0, none),
  (11, 1, .iconst (-1), [], (0, 0, 0), (-1), 0, none),
  (12, 1, .ireturn, [], (0, 0, 0), 0, 0, none),
  (13, 1, .iload_n 2, [], (0, 0, 0), 0, 0, none),
  (14, 42, .tableswitch 119 0 6 #[42, 52, 65, 75, 88, 97, 106], [52, 9, 15, 22, 28, 35, 40, 45], (0, 0, 0), 0, 0, none),
  (56, 1, .aload_n 0, [], (0, 0, 0), 0, 0, none),
  (57, 3, .getfield 19, [], (9, 1, 413), 0, 0, none),
  (60, 3, .getfield 168, [], (7, 3, 142), 0, 0, none),
  (63, 1, .iload_n 1, [], (0, 0, 0), 0, 0, none),
  (64, 1, .iaload, [], (0, 0, 0), 0, 0, none),
  (65, 1, .ireturn, [], (0, 0, 0), 0, 0, none),
  (66, 1, .aload_n 0, [], (0, 0, 0), 0, 0, none),
  (67, 3, .getfield 19, [], (9, 1, 413), 0, 0, none),
  (70, 3, .getfield 171, [], (7, 4, 145), 0, 0, none),
  (73, 1, .iload_n 1, [], (0, 0, 0), 0, 0, none),
  (74, 1, .iaload, [], (0, 0, 0), 0, 0, none),
  (75, 3, .invokestatic 174, [611, 67, 613, 612], (0, 0, 0), 0, 0, some (mX10_typeOrNone, 1)),
  (78, 1, .ireturn, [], (0, 0, 0), 0, 0, none),
  (79, 1, .aload_n 0, [], (0, 0, 0), 0, 0, none),
  (80, 3, .getfield 19, [], (9, 1, 413), 0, 0, none),
  (83, 3, .getfield 177, [], (7, 5, 148), 0, 0, none),
  (86, 1, .iload_n 1, [], (0, 0, 0), 0, 0, none),
  (87, 1, .iaload, [], (0, 0, 0), 0, 0, none),
  (88, 1, .ireturn, [], (0, 0, 0), 0, 0, none),
  (89, 1, .aload_n 0, [], (0, 0, 0), 0, 0, none),
  (90, 3, .getfield 19, [], (9, 1, 413), 0, 0, none),
  (93, 3, .getfield 129, [], (7, 7, 156), 0, 0, none),
  (96, 1, .iload_n 1, [], (0, 0, 0), 0, 0, none),
  (97, 1, .iaload, [], (0, 0, 0), 0, 0, none),
  (98, 3, .invokestatic 174, [611, 67, 613, 612], (0, 0, 0), 0, 0, some (mX10_typeOrNone, 1)),
  (101, 1, .ireturn, [], (0, 0, 0), 0, 0, none),
  (102, 1, .aload_n 0, [], (0, 0, 0), 0, 0, none),
  (103, 3, .getfield 19, [], (9, 1, 413), 0, 0, none),
  (106, 1, .iload_n 1, [], (0, 0, 0), 0, 0, none),
  (107, 3, .invokevirtual 150, [563, 69, 566, 564, 565], (7, 0, 0), 0, 0, some (mX8_faceCount, 1)),
  (110, 1, .ireturn, [], (0, 0, 0), 0, 0, none),
  (111, 1, .aload_n 0, [], (0, 0, 0), 0, 0, none),
  (112, 3, .getfield 37, [], (9, 3, 415), 0, 0, none),
  (115, 1, .iload_n 1, [], (0, 0, 0), 0, 0, none),
  (116, 3, .invokevirtual 180, [614, 73, 617, 615, 616], (2, 0, 0), 0, 0, some (mX2_howMany, 1)),
  (119, 1, .ireturn, [], (0, 0, 0), 0, 0, none),
  (120, 1, .aload_n 0, [], (0, 0, 0), 0, 0, none),
  (121, 3, .getfield 19, [], (9, 1, 413), 0, 0, none),
  (124, 3, .getfield 183, [], (7, 11, 168), 0, 0, none),
  (127, 1, .iload_n 1, [], (0, 0, 0), 0, 0, none),
  (128, 1, .laload, [], (0, 0, 0), 0, 0, none),
  (129, 3, .invokestatic 186, [664, 81, 569, 568], (0, 0, 0), 0, 0, some (mJ13_bitCount_95d88, 1)),
  (132, 1, .ireturn, [], (0, 0, 0), 0, 0, none),
  (133, 1, .iconst (-1), [], (0, 0, 0), (-1), 0, none),
  (134, 1, .ireturn, [], (0, 0, 0), 0, 0, none)]
set_option maxRecDepth 100000 in
theorem vX10_about : ab_chk mX10_about.1.cls mX10_about kX10_about = true := by decide +kernel
def mX10_yesOrNo : ab_Md := (yX10_yesOrNo, cX10_yesOrNo, 1, some .int, { frames := 0, cells := 0, slots := 0, locals := 0 })
def kX10_yesOrNo : List ab_En := [
  (0, 1, .iload_n 0, [], (0, 0, 0), 0, 0, none),
  (1, 3, .ifCond .eq 7, [4], (0, 0, 0), 0, 0, none),
  (4, 1, .iconst 1, [], (0, 0, 0), 1, 0, none),
  (5, 3, .goto 4, [5], (0, 0, 0), 0, 0, none),
  (8, 1, .iconst 0, [], (0, 0, 0), 0, 0, none),
  (9, 1, .ireturn, [], (0, 0, 0), 0, 0, none)]
set_option maxRecDepth 100000 in
theorem vX10_yesOrNo : ab_chk mX10_yesOrNo.1.cls mX10_yesOrNo kX10_yesOrNo = true := by decide +kernel
def mX10_below : ab_Md := (yX10_below, cX10_below, 3, some .int, { frames := 1, cells := 0, slots := 0, locals := 22 })
def kX10_below : List ab_En := [
  (0, 1, .aload_n 0, [], (0, 0, 0), 0, 0, none),
  (1, 3, .getfield 19, [], (9, 1, 413), 0, 0, none),
  (4, 1, .iload_n 1, [], (0, 0, 0), 0, 0, none),
  (5, 3, .invokevirtual 106, [484, 69, 487, 485, 486], (7, 0, 0), 0, 0, some (mX8_exists, 1)),
  (8, 3, .ifCond .eq 14, [10], (0, 0, 0), 0, 0, none),
  (11, 1, .aload_n 0, [], (0, 0, 0), 0, 0, none),
  (12, 3, .getfield 19, [], (9, 1, 413), 0, 0, none),
  (15, 1, .iload_n 2, [], (0, 0, 0), 0, 0, none),
  (16, 3, .invokevirtual 106, [484, 69, 487, 485, 486], (7, 0, 0), 0, 0, some (mX8_exists, 1)),
  (19, 3, .ifCond .ne 5, [12], (0, 0, 0), 0, 0, none),
  (22, 1, .iconst (-1), [], (0, 0, 0), (-1), 0, none),
  (23, 1, .ireturn, [], (0, 0, 0), 0, 0, none),
  (24, 1, .aload_n 0, [], (0, 0, 0), 0, 0, none),
  (25, 3, .getfield 19, [], (9, 1, 413), 0, 0, none),
  (28, 3, .getfield 192, [], (7, 10, 166), 0, 0, none),
  (31, 1, .iload_n 1, [], (0, 0, 0), 0, 0, none),
  (32, 1, .laload, [], (0, 0, 0), 0, 0, none),
  (33, 1, .iload_n 2, [], (0, 0, 0), 0, 0, none),
  (34, 3, .invokestatic 144, [562, 70, 504, 503], (0, 0, 0), 0, 0, some (mX7_has, 2)),
  (37, 3, .invokestatic 195, [669, 67, 671, 670], (0, 0, 0), 0, 0, some (mX10_yesOrNo, 1)),
  (40, 1, .ireturn, [], (0, 0, 0), 0, 0, none)]
set_option maxRecDepth 100000 in
theorem vX10_below : ab_chk mX10_below.1.cls mX10_below kX10_below = true := by decide +kernel
def mX10_open : ab_Md := (yX10_open, cX10_open, 3, some .int, { frames := 4, cells := 0, slots := 0, locals := 87 })
def kX10_open : List ab_En := [
  (0, 1, .aload_n 0, [], (0, 0, 0), 0, 0, none),
  (1, 3, .getfield 19, [], (9, 1, 413), 0, 0, none),
  (4, 1, .iload_n 1, [], (0, 0, 0), 0, 0, none),
  (5, 3, .invokevirtual 106, [484, 69, 487, 485, 486], (7, 0, 0), 0, 0, some (mX8_exists, 1)),
  (8, 3, .ifCond .eq 14, [10], (0, 0, 0), 0, 0, none),
  (11, 1, .aload_n 0, [], (0, 0, 0), 0, 0, none),
  (12, 3, .getfield 19, [], (9, 1, 413), 0, 0, none),
  (15, 1, .iload_n 2, [], (0, 0, 0), 0, 0, none),
  (16, 3, .invokevirtual 106, [484, 69, 487, 485, 486], (7, 0, 0), 0, 0, some (mX8_exists, 1)),
  (19, 3, .ifCond .ne 5, [12], (0, 0, 0), 0, 0, none),
  (22, 1, .iconst (-1), [], (0, 0, 0), (-1), 0, none),
  (23, 1, .ireturn, [], (0, 0, 0), 0, 0, none),
  (24, 1, .aload_n 0, [], (0, 0, 0), 0, 0, none),
  (25, 3, .getfield 53, [], (9, 5, 417), 0, 0, none),
  (28, 1, .iload_n 1, [], (0, 0, 0), 0, 0, none),
  (29, 1, .iload_n 2, [], (0, 0, 0), 0, 0, none),
  (30, 3, .invokevirtual 199, [676, 75, 679, 677, 678], (5, 0, 0), 0, 0, some (mX5_isTypeOpen, 2)),
  (33, 3, .invokestatic 195, [669, 67, 671, 670], (0, 0, 0), 0, 0, some (mX10_yesOrNo, 1)),
  (36, 1, .ireturn, [], (0, 0, 0), 0, 0, none)]
set_option maxRecDepth 100000 in
theorem vX10_open : ab_chk mX10_open.1.cls mX10_open kX10_open = true := by decide +kernel
def mX10_of : ab_Md := (yX10_of, cX10_of, 5, some .int, { frames := 5, cells := 0, slots := 0, locals := 121 })
def kX10_of : List ab_En := [
  (0, 1, .aload_n 0, [], (0, 0, 0), 0, 0, none),
  (1, 3, .getfield 19, [], (9, 1, 413), 0, 0, none),
  (4, 1, .iload_n 1, [], (0, 0, 0), 0, 0, none),
  (5, 3, .invokevirtual 106, [484, 69, 487, 485, 486], (7, 0, 0), 0, 0, some (mX8_exists, 1)),
  (8, 3, .ifCond .eq 14, [10], (0, 0, 0), 0, 0, none),
  (11, 1, .aload_n 0, [], (0, 0, 0), 0, 0, none),
  (12, 3, .getfield 28, [], (9, 2, 414), 0, 0, none),
  (15, 1, .iload_n 2, [], (0, 0, 0), 0, 0, none),
  (16, 3, .invokevirtual 202, [694, 71, 697, 695, 696], (3, 0, 0), 0, 0, some (mX3_exists, 1)),
  (19, 3, .ifCond .ne 5, [12], (0, 0, 0), 0, 0, none),
  (22, 1, .iconst (-1), [], (0, 0, 0), (-1), 0, none),
  (23, 1, .ireturn, [], (0, 0, 0), 0, 0, none),
  (24, 1, .aload_n 0, [], (0, 0, 0), 0, 0, none),
  (25, 3, .getfield 37, [], (9, 3, 415), 0, 0, none),
  (28, 1, .iload_n 1, [], (0, 0, 0), 0, 0, none),
  (29, 1, .aload_n 0, [], (0, 0, 0), 0, 0, none),
  (30, 3, .getfield 28, [], (9, 2, 414), 0, 0, none),
  (33, 3, .getfield 203, [], (3, 3, 234), 0, 0, none),
  (36, 1, .iload_n 2, [], (0, 0, 0), 0, 0, none),
  (37, 1, .iaload, [], (0, 0, 0), 0, 0, none),
  (38, 3, .invokevirtual 206, [698, 73, 621, 619, 620], (2, 0, 0), 0, 0, some (mX2_membersOf, 2)),
  (41, 1, .lstore_n 3, [], (0, 0, 0), 0, 0, none),
  (42, 1, .lload_n 3, [], (0, 0, 0), 0, 0, none),
  (43, 1, .aload_n 0, [], (0, 0, 0), 0, 0, none),
  (44, 3, .getfield 28, [], (9, 2, 414), 0, 0, none),
  (47, 3, .getfield 210, [], (3, 2, 229), 0, 0, none),
  (50, 1, .iload_n 2, [], (0, 0, 0), 0, 0, none),
  (51, 1, .iaload, [], (0, 0, 0), 0, 0, none),
  (52, 3, .invokestatic 144, [562, 70, 504, 503], (0, 0, 0), 0, 0, some (mX7_has, 2)),
  (55, 3, .invokestatic 195, [669, 67, 671, 670], (0, 0, 0), 0, 0, some (mX10_yesOrNo, 1)),
  (58, 1, .ireturn, [], (0, 0, 0), 0, 0, none)]
set_option maxRecDepth 100000 in
theorem vX10_of : ab_chk mX10_of.1.cls mX10_of kX10_of = true := by decide +kernel
def mX10_use : ab_Md := (yX10_use, cX10_use, 7, some .int, { frames := 6, cells := 0, slots := 0, locals := 149 })
def kX10_use : List ab_En := [
  (0, 1, .aload_n 0, [], (0, 0, 0), 0, 0, none),
  (1, 3, .getfield 19, [], (9, 1, 413), 0, 0, none),
  (4, 1, .iload_n 1, [], (0, 0, 0), 0, 0, none),
  (5, 3, .invokevirtual 106, [484, 69, 487, 485, 486], (7, 0, 0), 0, 0, some (mX8_exists, 1)),
  (8, 3, .ifCond .eq 49, [27], (0, 0, 0), 0, 0, none),
  (11, 1, .iload_n 2, [], (0, 0, 0), 0, 0, none),
  (12, 3, .ifCond .lt 45, [27], (0, 0, 0), 0, 0, none),
  (15, 1, .iload_n 2, [], (0, 0, 0), 0, 0, none),
  (16, 1, .iconst 3, [], (0, 0, 0), 3, 0, none),
  (17, 3, .if_icmp .gt 40, [27], (0, 0, 0), 0, 0, none),
  (20, 1, .iload_n 2, [], (0, 0, 0), 0, 0, none),
  (21, 1, .iconst 1, [], (0, 0, 0), 1, 0, none),
  (22, 3, .if_icmp .gt 14, [18], (0, 0, 0), 0, 0, none),
  (25, 1, .aload_n 0, [], (0, 0, 0), 0, 0, none),
  (26, 3, .getfield 19, [], (9, 1, 413), 0, 0, none),
  (29, 1, .iload_n 3, [], (0, 0, 0), 0, 0, none),
  (30, 3, .invokevirtual 106, [484, 69, 487, 485, 486], (7, 0, 0), 0, 0, some (mX8_exists, 1)),
  (33, 3, .ifCond .eq 24, [27], (0, 0, 0), 0, 0, none),
  (36, 2, .iload 4, [], (0, 0, 0), 0, 0, none),
  (38, 3, .ifCond .lt 19, [27], (0, 0, 0), 0, 0, none),
  (41, 2, .iload 4, [], (0, 0, 0), 0, 0, none),
  (43, 1, .iconst 1, [], (0, 0, 0), 1, 0, none),
  (44, 3, .if_icmp .gt 13, [27], (0, 0, 0), 0, 0, none),
  (47, 2, .iload 5, [], (0, 0, 0), 0, 0, none),
  (49, 2, .bipush 10, [], (0, 0, 0), 10, 0, none),
  (51, 3, .invokestatic 109, [488, 67, 490, 489], (0, 0, 0), 0, 0, some (mX10_isWithin, 2)),
  (54, 3, .ifCond .ne 5, [29], (0, 0, 0), 0, 0, none),
  (57, 1, .iconst (-1), [], (0, 0, 0), (-1), 0, none),
  (58, 1, .ireturn, [], (0, 0, 0), 0, 0, none),
  (59, 2, .iload 4, [], (0, 0, 0), 0, 0, none),
  (61, 2, .bipush 10, [], (0, 0, 0), 10, 0, none),
  (63, 1, .imul, [], (0, 0, 0), 0, 0, none),
  (64, 2, .iload 5, [], (0, 0, 0), 0, 0, none),
  (66, 1, .iadd, [], (0, 0, 0), 0, 0, none),
  (67, 2, .istore 6, [], (0, 0, 0), 0, 0, none),
  (69, 1, .aload_n 0, [], (0, 0, 0), 0, 0, none),
  (70, 3, .getfield 62, [], (9, 6, 418), 0, 0, none),
  (73, 1, .iload_n 1, [], (0, 0, 0), 0, 0, none),
  (74, 1, .iload_n 2, [], (0, 0, 0), 0, 0, none),
  (75, 1, .aload_n 0, [], (0, 0, 0), 0, 0, none),
  (76, 3, .getfield 62, [], (9, 6, 418), 0, 0, none),
  (79, 1, .iload_n 1, [], (0, 0, 0), 0, 0, none),
  (80, 1, .iload_n 2, [], (0, 0, 0), 0, 0, none),
  (81, 1, .iload_n 3, [], (0, 0, 0), 0, 0, none),
  (82, 2, .iload 6, [], (0, 0, 0), 0, 0, none),
  (84, 3, .invokevirtual 213, [703, 76, 706, 704, 705], (8, 0, 0), 0, 0, some (mX9_usedType, 4)),
  (87, 2, .iload 6, [], (0, 0, 0), 0, 0, none),
  (89, 3, .invokevirtual 217, [709, 76, 712, 710, 711], (8, 0, 0), 0, 0, some (mX9_meant, 4)),
  (92, 1, .ireturn, [], (0, 0, 0), 0, 0, none)]
set_option maxRecDepth 100000 in
theorem vX10_use : ab_chk mX10_use.1.cls mX10_use kX10_use = true := by decide +kernel
def mX10_make : ab_Md := (yX10_make, cX10_make, 5, some .int, { frames := 5, cells := 0, slots := 0, locals := 113 })
def kX10_make : List ab_En := [
  (0, 1, .aload_n 0, [], (0, 0, 0), 0, 0, none),
  (1, 3, .getfield 19, [], (9, 1, 413), 0, 0, none),
  (4, 1, .iload_n 1, [], (0, 0, 0), 0, 0, none),
  (5, 3, .invokevirtual 106, [484, 69, 487, 485, 486], (7, 0, 0), 0, 0, some (mX8_exists, 1)),
  (8, 3, .ifCond .eq 38, [22], (0, 0, 0), 0, 0, none),
  (11, 1, .iload_n 2, [], (0, 0, 0), 0, 0, none),
  (12, 3, .ifCond .lt 34, [22], (0, 0, 0), 0, 0, none),
  (15, 1, .iload_n 2, [], (0, 0, 0), 0, 0, none),
  (16, 1, .iconst 2, [], (0, 0, 0), 2, 0, none),
  (17, 3, .if_icmp .gt 29, [22], (0, 0, 0), 0, 0, none),
  (20, 1, .iload_n 2, [], (0, 0, 0), 0, 0, none),
  (21, 1, .iconst 1, [], (0, 0, 0), 1, 0, none),
  (22, 3, .if_icmp .gt 14, [18], (0, 0, 0), 0, 0, none),
  (25, 1, .aload_n 0, [], (0, 0, 0), 0, 0, none),
  (26, 3, .getfield 19, [], (9, 1, 413), 0, 0, none),
  (29, 1, .iload_n 3, [], (0, 0, 0), 0, 0, none),
  (30, 3, .invokevirtual 106, [484, 69, 487, 485, 486], (7, 0, 0), 0, 0, some (mX8_exists, 1)),
  (33, 3, .ifCond .eq 13, [22], (0, 0, 0), 0, 0, none),
  (36, 2, .iload 4, [], (0, 0, 0), 0, 0, none),
  (38, 2, .bipush 10, [], (0, 0, 0), 10, 0, none),
  (40, 3, .invokestatic 109, [488, 67, 490, 489], (0, 0, 0), 0, 0, some (mX10_isWithin, 2)),
  (43, 3, .ifCond .ne 5, [24], (0, 0, 0), 0, 0, none),
  (46, 1, .iconst (-1), [], (0, 0, 0), (-1), 0, none),
  (47, 1, .ireturn, [], (0, 0, 0), 0, 0, none),
  (48, 1, .aload_n 0, [], (0, 0, 0), 0, 0, none),
  (49, 3, .getfield 62, [], (9, 6, 418), 0, 0, none),
  (52, 1, .iload_n 1, [], (0, 0, 0), 0, 0, none),
  (53, 1, .iload_n 2, [], (0, 0, 0), 0, 0, none),
  (54, 1, .iload_n 3, [], (0, 0, 0), 0, 0, none),
  (55, 2, .iload 4, [], (0, 0, 0), 0, 0, none),
  (57, 3, .invokevirtual 220, [757, 76, 760, 758, 759], (8, 0, 0), 0, 0, some (mX9_maker, 4)),
  (60, 1, .ireturn, [], (0, 0, 0), 0, 0, none)]
set_option maxRecDepth 100000 in
theorem vX10_make : ab_chk mX10_make.1.cls mX10_make kX10_make = true := by decide +kernel
def mX10_overrides : ab_Md := (yX10_overrides, cX10_overrides, 3, some .int, { frames := 6, cells := 0, slots := 0, locals := 149 })
def kX10_overrides : List ab_En := [
  (0, 1, .aload_n 0, [], (0, 0, 0), 0, 0, none),
  (1, 3, .getfield 28, [], (9, 2, 414), 0, 0, none),
  (4, 1, .iload_n 1, [], (0, 0, 0), 0, 0, none),
  (5, 3, .invokevirtual 223, [770, 71, 773, 771, 772], (3, 0, 0), 0, 0, some (mX3_isMethod, 1)),
  (8, 3, .ifCond .eq 14, [10], (0, 0, 0), 0, 0, none),
  (11, 1, .aload_n 0, [], (0, 0, 0), 0, 0, none),
  (12, 3, .getfield 28, [], (9, 2, 414), 0, 0, none),
  (15, 1, .iload_n 2, [], (0, 0, 0), 0, 0, none),
  (16, 3, .invokevirtual 223, [770, 71, 773, 771, 772], (3, 0, 0), 0, 0, some (mX3_isMethod, 1)),
  (19, 3, .ifCond .ne 5, [12], (0, 0, 0), 0, 0, none),
  (22, 1, .iconst (-1), [], (0, 0, 0), (-1), 0, none),
  (23, 1, .ireturn, [], (0, 0, 0), 0, 0, none),
  (24, 1, .aload_n 0, [], (0, 0, 0), 0, 0, none),
  (25, 3, .getfield 44, [], (9, 4, 416), 0, 0, none),
  (28, 1, .iload_n 1, [], (0, 0, 0), 0, 0, none),
  (29, 1, .iload_n 2, [], (0, 0, 0), 0, 0, none),
  (30, 3, .invokevirtual 226, [776, 74, 779, 777, 778], (6, 0, 0), 0, 0, some (mX6_holds, 2)),
  (33, 3, .invokestatic 195, [669, 67, 671, 670], (0, 0, 0), 0, 0, some (mX10_yesOrNo, 1)),
  (36, 1, .ireturn, [], (0, 0, 0), 0, 0, none)]
set_option maxRecDepth 100000 in
theorem vX10_overrides : ab_chk mX10_overrides.1.cls mX10_overrides kX10_overrides = true := by decide +kernel
def mX10_choose : ab_Md := (yX10_choose, cX10_choose, 3, some .int, { frames := 6, cells := 0, slots := 0, locals := 153 })
def kX10_choose : List ab_En := [
  (0, 1, .aload_n 0, [], (0, 0, 0), 0, 0, none),
  (1, 3, .getfield 28, [], (9, 2, 414), 0, 0, none),
  (4, 1, .iload_n 1, [], (0, 0, 0), 0, 0, none),
  (5, 3, .invokevirtual 223, [770, 71, 773, 771, 772], (3, 0, 0), 0, 0, some (mX3_isMethod, 1)),
  (8, 3, .ifCond .eq 57, [31], (0, 0, 0), 0, 0, none),
  (11, 1, .aload_n 0, [], (0, 0, 0), 0, 0, none),
  (12, 3, .getfield 19, [], (9, 1, 413), 0, 0, none),
  (15, 1, .iload_n 2, [], (0, 0, 0), 0, 0, none),
  (16, 3, .invokevirtual 106, [484, 69, 487, 485, 486], (7, 0, 0), 0, 0, some (mX8_exists, 1)),
  (19, 3, .ifCond .eq 46, [31], (0, 0, 0), 0, 0, none),
  (22, 1, .aload_n 0, [], (0, 0, 0), 0, 0, none),
  (23, 3, .getfield 19, [], (9, 1, 413), 0, 0, none),
  (26, 1, .iload_n 2, [], (0, 0, 0), 0, 0, none),
  (27, 3, .invokevirtual 126, [552, 69, 501, 499, 500], (7, 0, 0), 0, 0, some (mX8_isClass, 1)),
  (30, 3, .ifCond .eq 35, [31], (0, 0, 0), 0, 0, none),
  (33, 1, .aload_n 0, [], (0, 0, 0), 0, 0, none),
  (34, 3, .getfield 19, [], (9, 1, 413), 0, 0, none),
  (37, 1, .iload_n 2, [], (0, 0, 0), 0, 0, none),
  (38, 1, .iconst 4, [], (0, 0, 0), 4, 0, none),
  (39, 3, .invokevirtual 229, [807, 69, 593, 591, 592], (7, 0, 0), 0, 0, some (mX8_hasFlag, 2)),
  (42, 3, .ifCond .ne 23, [31], (0, 0, 0), 0, 0, none),
  (45, 1, .aload_n 0, [], (0, 0, 0), 0, 0, none),
  (46, 3, .getfield 19, [], (9, 1, 413), 0, 0, none),
  (49, 1, .iload_n 2, [], (0, 0, 0), 0, 0, none),
  (50, 1, .aload_n 0, [], (0, 0, 0), 0, 0, none),
  (51, 3, .getfield 28, [], (9, 2, 414), 0, 0, none),
  (54, 3, .getfield 210, [], (3, 2, 229), 0, 0, none),
  (57, 1, .iload_n 1, [], (0, 0, 0), 0, 0, none),
  (58, 1, .iaload, [], (0, 0, 0), 0, 0, none),
  (59, 3, .invokevirtual 133, [553, 69, 556, 554, 555], (7, 0, 0), 0, 0, some (mX8_isSameOrBelow, 2)),
  (62, 3, .ifCond .ne 5, [33], (0, 0, 0), 0, 0, none),
  (65, 1, .iconst (-1), [], (0, 0, 0), (-1), 0, none),
  (66, 1, .ireturn, [], (0, 0, 0), 0, 0, none),
  (67, 1, .aload_n 0, [], (0, 0, 0), 0, 0, none),
  (68, 3, .getfield 71, [], (9, 7, 419), 0, 0, none),
  (71, 1, .iload_n 1, [], (0, 0, 0), 0, 0, none),
  (72, 1, .iload_n 2, [], (0, 0, 0), 0, 0, none),
  (73, 3, .invokevirtual 232, [808, 77, 811, 809, 810], (0, 0, 0), 0, 0, some (mX0_chosen, 2)),
  (76, 1, .ireturn, [], (0, 0, 0), 0, 0, none)]
set_option maxRecDepth 100000 in
theorem vX10_choose : ab_chk mX10_choose.1.cls mX10_choose kX10_choose = true := by decide +kernel
def mX10_check : ab_Md := (yX10_check, cX10_check, 2, some .int, { frames := 6, cells := 0, slots := 0, locals := 149 })
def kX10_check : List ab_En := [
  (0, 1, .aload_n 0, [], (0, 0, 0), 0, 0, none),
  (1, 3, .getfield 19, [], (9, 1, 413), 0, 0, none),
  (4, 1, .iload_n 1, [], (0, 0, 0), 0, 0, none),
  (5, 3, .invokevirtual 106, [484, 69, 487, 485, 486], (7, 0, 0), 0, 0, some (mX8_exists, 1)),
  (8, 3, .ifCond .ne 5, [7], (0, 0, 0), 0, 0, none),
  (11, 1, .iconst (-1), [], (0, 0, 0), (-1), 0, none),
  (12, 1, .ireturn, [], (0, 0, 0), 0, 0, none),
  (13, 1, .aload_n 0, [], (0, 0, 0), 0, 0, none),
  (14, 3, .getfield 80, [], (9, 8, 420), 0, 0, none),
  (17, 1, .iload_n 1, [], (0, 0, 0), 0, 0, none),
  (18, 3, .invokevirtual 235, [837, 78, 840, 838, 839], (1, 0, 0), 0, 0, some (mX1_find, 1)),
  (21, 1, .aload_n 0, [], (0, 0, 0), 0, 0, none),
  (22, 3, .getfield 80, [], (9, 8, 420), 0, 0, none),
  (25, 3, .getfield 239, [], (1, 5, 384), 0, 0, none),
  (28, 1, .ireturn, [], (0, 0, 0), 0, 0, none)]
set_option maxRecDepth 100000 in
theorem vX10_check : ab_chk mX10_check.1.cls mX10_check kX10_check = true := by decide +kernel
def mX10_fault : ab_Md := (yX10_fault, cX10_fault, 4, some .int, { frames := 6, cells := 0, slots := 0, locals := 149 })
def kX10_fault : List ab_En := [
  (0, 1, .aload_n 0, [], (0, 0, 0), 0, 0, none),
  (1, 3, .getfield 19, [], (9, 1, 413), 0, 0, none),
  (4, 1, .iload_n 1, [], (0, 0, 0), 0, 0, none),
  (5, 3, .invokevirtual 106, [484, 69, 487, 485, 486], (7, 0, 0), 0, 0, some (mX8_exists, 1)),
  (8, 3, .ifCond .eq 12, [10], (0, 0, 0), 0, 0, none),
  (11, 1, .iload_n 3, [], (0, 0, 0), 0, 0, none),
  (12, 3, .ifCond .lt 8, [10], (0, 0, 0), 0, 0, none),
  (15, 1, .iload_n 3, [], (0, 0, 0), 0, 0, none),
  (16, 1, .iconst 1, [], (0, 0, 0), 1, 0, none),
  (17, 3, .if_icmp .le 5, [12], (0, 0, 0), 0, 0, none),
  (20, 1, .iconst (-1), [], (0, 0, 0), (-1), 0, none),
  (21, 1, .ireturn, [], (0, 0, 0), 0, 0, none),
  (22, 1, .aload_n 0, [], (0, 0, 0), 0, 0, none),
  (23, 3, .getfield 80, [], (9, 8, 420), 0, 0, none),
  (26, 1, .iload_n 1, [], (0, 0, 0), 0, 0, none),
  (27, 3, .invokevirtual 235, [837, 78, 840, 838, 839], (1, 0, 0), 0, 0, some (mX1_find, 1)),
  (30, 1, .iload_n 2, [], (0, 0, 0), 0, 0, none),
  (31, 1, .aload_n 0, [], (0, 0, 0), 0, 0, none),
  (32, 3, .getfield 80, [], (9, 8, 420), 0, 0, none),
  (35, 3, .getfield 239, [], (1, 5, 384), 0, 0, none),
  (38, 3, .invokestatic 109, [488, 67, 490, 489], (0, 0, 0), 0, 0, some (mX10_isWithin, 2)),
  (41, 3, .ifCond .ne 5, [24], (0, 0, 0), 0, 0, none),
  (44, 1, .iconst (-1), [], (0, 0, 0), (-1), 0, none),
  (45, 1, .ireturn, [], (0, 0, 0), 0, 0, none),
  (46, 1, .iload_n 3, [], (0, 0, 0), 0, 0, none),
  (47, 3, .ifCond .ne 15, [32], (0, 0, 0), 0, 0, none),
  (50, 1, .aload_n 0, [], (0, 0, 0), 0, 0, none),
  (51, 3, .getfield 80, [], (9, 8, 420), 0, 0, none),
  (54, 3, .getfield 242, [], (1, 6, 386), 0, 0, none),
  (57, 1, .iload_n 2, [], (0, 0, 0), 0, 0, none),
  (58, 1, .iaload, [], (0, 0, 0), 0, 0, none),
  (59, 3, .goto 12, [37], (0, 0, 0), 0, 0, none),
  (62, 1, .aload_n 0, [], (0, 0, 0), 0, 0, none),
  (63, 3, .getfield 80, [], (9, 8, 420), 0, 0, none),
  (66, 3, .getfield 245, [], (1, 7, 388), 0, 0, none),
  (69, 1, .iload_n 2, [], (0, 0, 0), 0, 0, none),
  (70, 1, .iaload, [], (0, 0, 0), 0, 0, none),
  (71, 1, .ireturn, [], (0, 0, 0), 0, 0, none)]
set_option maxRecDepth 100000 in
theorem vX10_fault : ab_chk mX10_fault.1.cls mX10_fault kX10_fault = true := by decide +kernel
def mX11_module : ab_Md := (yX11_module, cX11_module, 1, some .int, { frames := 0, cells := 0, slots := 0, locals := 0 })
def kX11_module : List ab_En := [
  (0, 1, .aload_n 0, [], (0, 0, 0), 0, 0, none),
  (1, 3, .getfield 83, [], (10, 0, 900), 0, 0, none),
  (4, 2, .bipush 6, [], (0, 0, 0), 6, 0, none),
  (6, 3, .if_icmp .ne 6, [6], (0, 0, 0), 0, 0, none),
  (9, 2, .bipush (-4), [], (0, 0, 0), (-4), 0, none),
  (11, 1, .ireturn, [], (0, 0, 0), 0, 0, none),
  (12, 1, .aload_n 0, [], (0, 0, 0), 0, 0, none),
  (13, 3, .getfield 7, [], (10, 1, 901), 0, 0, none),
  (16, 2, .bipush 6, [], (0, 0, 0), 6, 0, none),
  (18, 1, .aload_n 0, [], (0, 0, 0), 0, 0, none),
  (19, 3, .getfield 83, [], (10, 0, 900), 0, 0, none),
  (22, 1, .imul, [], (0, 0, 0), 0, 0, none),
  (23, 1, .iconst 1, [], (0, 0, 0), 1, 0, none),
  (24, 1, .bastore, [], (0, 0, 0), 0, 0, none),
  (25, 1, .aload_n 0, [], (0, 0, 0), 0, 0, none),
  (26, 1, .dup, [], (0, 0, 0), 0, 0, none),
  (27, 3, .getfield 83, [], (10, 0, 900), 0, 0, none),
  (30, 1, .iconst 1, [], (0, 0, 0), 1, 0, none),
  (31, 1, .iadd, [], (0, 0, 0), 0, 0, none),
  (32, 3, .putfield 83, [0], (10, 0, 900), 0, 0, none),
  (35, 1, .aload_n 0, [], (0, 0, 0), 0, 0, none),
  (36, 3, .getfield 83, [], (10, 0, 900), 0, 0, none),
  (39, 1, .iconst 1, [], (0, 0, 0), 1, 0, none),
  (40, 1, .isub, [], (0, 0, 0), 0, 0, none),
  (41, 1, .ireturn, [], (0, 0, 0), 0, 0, none)]
set_option maxRecDepth 100000 in
theorem vX11_module : ab_chk mX11_module.1.cls mX11_module kX11_module = true := by decide +kernel
def mX11_noModule : ab_Md := (yX11_noModule, cX11_noModule, 2, some .boolean, { frames := 0, cells := 0, slots := 0, locals := 0 })
def kX11_noModule : List ab_En := [
  (0, 1, .iload_n 1, [], (0, 0, 0), 0, 0, none),
  (1, 3, .ifCond .lt 11, [6], (0, 0, 0), 0, 0, none),
  (4, 1, .iload_n 1, [], (0, 0, 0), 0, 0, none),
  (5, 1, .aload_n 0, [], (0, 0, 0), 0, 0, none),
  (6, 3, .getfield 83, [], (10, 0, 900), 0, 0, none),
  (9, 3, .if_icmp .lt 7, [8], (0, 0, 0), 0, 0, none),
  (12, 1, .iconst 1, [], (0, 0, 0), 1, 0, none),
  (13, 3, .goto 4, [9], (0, 0, 0), 0, 0, none),
  (16, 1, .iconst 0, [], (0, 0, 0), 0, 0, none),
  (17, 1, .ireturn, [], (0, 0, 0), 0, 0, none)]
set_option maxRecDepth 100000 in
theorem vX11_noModule : ab_chk mX11_noModule.1.cls mX11_noModule kX11_noModule = true := by decide +kernel
def mX11_noPack : ab_Md := (yX11_noPack, cX11_noPack, 2, some .boolean, { frames := 0, cells := 0, slots := 0, locals := 0 })
def kX11_noPack : List ab_En := [
  (0, 1, .iload_n 1, [], (0, 0, 0), 0, 0, none),
  (1, 3, .ifCond .lt 11, [6], (0, 0, 0), 0, 0, none),
  (4, 1, .iload_n 1, [], (0, 0, 0), 0, 0, none),
  (5, 1, .aload_n 0, [], (0, 0, 0), 0, 0, none),
  (6, 3, .getfield 87, [], (10, 2, 902), 0, 0, none),
  (9, 3, .if_icmp .lt 7, [8], (0, 0, 0), 0, 0, none),
  (12, 1, .iconst 1, [], (0, 0, 0), 1, 0, none),
  (13, 3, .goto 4, [9], (0, 0, 0), 0, 0, none),
  (16, 1, .iconst 0, [], (0, 0, 0), 0, 0, none),
  (17, 1, .ireturn, [], (0, 0, 0), 0, 0, none)]
set_option maxRecDepth 100000 in
theorem vX11_noPack : ab_chk mX11_noPack.1.cls mX11_noPack kX11_noPack = true := by decide +kernel
def mX11_noType : ab_Md := (yX11_noType, cX11_noType, 2, some .boolean, { frames := 0, cells := 0, slots := 0, locals := 0 })
def kX11_noType : List ab_En := [
  (0, 1, .iload_n 1, [], (0, 0, 0), 0, 0, none),
  (1, 3, .ifCond .lt 11, [6], (0, 0, 0), 0, 0, none),
  (4, 1, .iload_n 1, [], (0, 0, 0), 0, 0, none),
  (5, 1, .aload_n 0, [], (0, 0, 0), 0, 0, none),
  (6, 3, .getfield 90, [], (10, 6, 906), 0, 0, none),
  (9, 3, .if_icmp .lt 7, [8], (0, 0, 0), 0, 0, none),
  (12, 1, .iconst 1, [], (0, 0, 0), 1, 0, none),
  (13, 3, .goto 4, [9], (0, 0, 0), 0, 0, none),
  (16, 1, .iconst 0, [], (0, 0, 0), 0, 0, none),
  (17, 1, .ireturn, [], (0, 0, 0), 0, 0, none)]
set_option maxRecDepth 100000 in
theorem vX11_noType : ab_chk mX11_noType.1.cls mX11_noType kX11_noType = true := by decide +kernel
def mX11_noMember : ab_Md := (yX11_noMember, cX11_noMember, 2, some .boolean, { frames := 0, cells := 0, slots := 0, locals := 0 })
def kX11_noMember : List ab_En := [
  (0, 1, .iload_n 1, [], (0, 0, 0), 0, 0, none),
  (1, 3, .ifCond .lt 11, [6], (0, 0, 0), 0, 0, none),
  (4, 1, .iload_n 1, [], (0, 0, 0), 0, 0, none),
  (5, 1, .aload_n 0, [], (0, 0, 0), 0, 0, none),
  (6, 3, .getfield 93, [], (10, 16, 916), 0, 0, none),
  (9, 3, .if_icmp .lt 7, [8], (0, 0, 0), 0, 0, none),
  (12, 1, .iconst 1, [], (0, 0, 0), 1, 0, none),
  (13, 3, .goto 4, [9], (0, 0, 0), 0, 0, none),
  (16, 1, .iconst 0, [], (0, 0, 0), 0, 0, none),
  (17, 1, .ireturn, [], (0, 0, 0), 0, 0, none)]
set_option maxRecDepth 100000 in
theorem vX11_noMember : ab_chk mX11_noMember.1.cls mX11_noMember kX11_noMember = true := by decide +kernel
def mX11_reads : ab_Md := (yX11_reads, cX11_reads, 3, some .int, { frames := 1, cells := 0, slots := 0, locals := 21 })
def kX11_reads : List ab_En := [
  (0, 1, .aload_n 0, [], (0, 0, 0), 0, 0, none),
  (1, 1, .iload_n 1, [], (0, 0, 0), 0, 0, none),
  (2, 3, .invokevirtual 96, [1000, 79, 1003, 1002, 31], (10, 0, 0), 0, 0, some (mX11_noModule, 1)),
  (5, 3, .ifCond .ne 11, [8], (0, 0, 0), 0, 0, none),
  (8, 1, .aload_n 0, [], (0, 0, 0), 0, 0, none),
  (9, 1, .iload_n 2, [], (0, 0, 0), 0, 0, none),
  (10, 3, .invokevirtual 96, [1000, 79, 1003, 1002, 31], (10, 0, 0), 0, 0, some (mX11_noModule, 1)),
  (13, 3, .ifCond .eq 5, [10], (0, 0, 0), 0, 0, none),
  (16, 1, .iconst (-1), [], (0, 0, 0), (-1), 0, none),
  (17, 1, .ireturn, [], (0, 0, 0), 0, 0, none),
  (18, 1, .iload_n 1, [], (0, 0, 0), 0, 0, none),
  (19, 1, .iload_n 2, [], (0, 0, 0), 0, 0, none),
  (20, 3, .if_icmp .eq 17, [22], (0, 0, 0), 0, 0, none),
  (23, 1, .aload_n 0, [], (0, 0, 0), 0, 0, none),
  (24, 3, .getfield 7, [], (10, 1, 901), 0, 0, none),
  (27, 2, .bipush 6, [], (0, 0, 0), 6, 0, none),
  (29, 1, .iload_n 1, [], (0, 0, 0), 0, 0, none),
  (30, 1, .imul, [], (0, 0, 0), 0, 0, none),
  (31, 1, .iload_n 2, [], (0, 0, 0), 0, 0, none),
  (32, 1, .iadd, [], (0, 0, 0), 0, 0, none),
  (33, 1, .baload, [], (0, 0, 0), 0, 0, none),
  (34, 3, .ifCond .eq 5, [24], (0, 0, 0), 0, 0, none),
  (37, 1, .iconst 0, [], (0, 0, 0), 0, 0, none),
  (38, 1, .ireturn, [], (0, 0, 0), 0, 0, none),
  (39, 1, .aload_n 0, [], (0, 0, 0), 0, 0, none),
  (40, 3, .getfield 7, [], (10, 1, 901), 0, 0, none),
  (43, 2, .bipush 6, [], (0, 0, 0), 6, 0, none),
  (45, 1, .iload_n 1, [], (0, 0, 0), 0, 0, none),
  (46, 1, .imul, [], (0, 0, 0), 0, 0, none),
  (47, 1, .iload_n 2, [], (0, 0, 0), 0, 0, none),
  (48, 1, .iadd, [], (0, 0, 0), 0, 0, none),
  (49, 1, .iconst 1, [], (0, 0, 0), 1, 0, none),
  (50, 1, .bastore, [], (0, 0, 0), 0, 0, none),
  (51, 1, .iconst 1, [], (0, 0, 0), 1, 0, none),
  (52, 1, .ireturn, [], (0, 0, 0), 0, 0, none)]
set_option maxRecDepth 100000 in
theorem vX11_reads : ab_chk mX11_reads.1.cls mX11_reads kX11_reads = true := by decide +kernel
def mX11_pack : ab_Md := (yX11_pack, cX11_pack, 2, some .int, { frames := 1, cells := 0, slots := 0, locals := 21 })
def kX11_pack : List ab_En := [
  (0, 1, .aload_n 0, [], (0, 0, 0), 0, 0, none),
  (1, 1, .iload_n 1, [], (0, 0, 0), 0, 0, none),
  (2, 3, .invokevirtual 96, [1000, 79, 1003, 1002, 31], (10, 0, 0), 0, 0, some (mX11_noModule, 1)),
  (5, 3, .ifCond .eq 5, [6], (0, 0, 0), 0, 0, none),
  (8, 1, .iconst (-1), [], (0, 0, 0), (-1), 0, none),
  (9, 1, .ireturn, [], (0, 0, 0), 0, 0, none),
  (10, 1, .aload_n 0, [], (0, 0, 0), 0, 0, none),
  (11, 3, .getfield 87, [], (10, 2, 902), 0, 0, none),
  (14, 2, .bipush 10, [], (0, 0, 0), 10, 0, none),
  (16, 3, .if_icmp .ne 6, [12], (0, 0, 0), 0, 0, none),
  (19, 2, .bipush (-4), [], (0, 0, 0), (-4), 0, none),
  (21, 1, .ireturn, [], (0, 0, 0), 0, 0, none),
  (22, 1, .aload_n 0, [], (0, 0, 0), 0, 0, none),
  (23, 3, .getfield 13, [], (10, 3, 903), 0, 0, none),
  (26, 1, .aload_n 0, [], (0, 0, 0), 0, 0, none),
  (27, 3, .getfield 87, [], (10, 2, 902), 0, 0, none),
  (30, 1, .iload_n 1, [], (0, 0, 0), 0, 0, none),
  (31, 1, .iastore, [], (0, 0, 0), 0, 0, none),
  (32, 1, .aload_n 0, [], (0, 0, 0), 0, 0, none),
  (33, 1, .dup, [], (0, 0, 0), 0, 0, none),
  (34, 3, .getfield 87, [], (10, 2, 902), 0, 0, none),
  (37, 1, .iconst 1, [], (0, 0, 0), 1, 0, none),
  (38, 1, .iadd, [], (0, 0, 0), 0, 0, none),
  (39, 3, .putfield 87, [0], (10, 2, 902), 0, 0, none),
  (42, 1, .aload_n 0, [], (0, 0, 0), 0, 0, none),
  (43, 3, .getfield 87, [], (10, 2, 902), 0, 0, none),
  (46, 1, .iconst 1, [], (0, 0, 0), 1, 0, none),
  (47, 1, .isub, [], (0, 0, 0), 0, 0, none),
  (48, 1, .ireturn, [], (0, 0, 0), 0, 0, none)]
set_option maxRecDepth 100000 in
theorem vX11_pack : ab_chk mX11_pack.1.cls mX11_pack kX11_pack = true := by decide +kernel
def mX11_export : ab_Md := (yX11_export, cX11_export, 3, some .int, { frames := 1, cells := 0, slots := 0, locals := 21 })
def kX11_export : List ab_En := [
  (0, 1, .aload_n 0, [], (0, 0, 0), 0, 0, none),
  (1, 1, .iload_n 1, [], (0, 0, 0), 0, 0, none),
  (2, 3, .invokevirtual 100, [1012, 79, 1015, 1014, 32], (10, 0, 0), 0, 0, some (mX11_noPack, 1)),
  (5, 3, .ifCond .ne 16, [11], (0, 0, 0), 0, 0, none),
  (8, 1, .iload_n 2, [], (0, 0, 0), 0, 0, none),
  (9, 1, .iconst (-1), [], (0, 0, 0), (-1), 0, none),
  (10, 3, .if_icmp .eq 13, [13], (0, 0, 0), 0, 0, none),
  (13, 1, .aload_n 0, [], (0, 0, 0), 0, 0, none),
  (14, 1, .iload_n 2, [], (0, 0, 0), 0, 0, none),
  (15, 3, .invokevirtual 96, [1000, 79, 1003, 1002, 31], (10, 0, 0), 0, 0, some (mX11_noModule, 1)),
  (18, 3, .ifCond .eq 5, [13], (0, 0, 0), 0, 0, none),
  (21, 1, .iconst (-1), [], (0, 0, 0), (-1), 0, none),
  (22, 1, .ireturn, [], (0, 0, 0), 0, 0, none),
  (23, 1, .aload_n 0, [], (0, 0, 0), 0, 0, none),
  (24, 3, .getfield 20, [], (10, 5, 905), 0, 0, none),
  (27, 1, .iload_n 1, [], (0, 0, 0), 0, 0, none),
  (28, 1, .baload, [], (0, 0, 0), 0, 0, none),
  (29, 3, .ifCond .ne 21, [29], (0, 0, 0), 0, 0, none),
  (32, 1, .iload_n 2, [], (0, 0, 0), 0, 0, none),
  (33, 3, .ifCond .lt 19, [31], (0, 0, 0), 0, 0, none),
  (36, 1, .aload_n 0, [], (0, 0, 0), 0, 0, none),
  (37, 3, .getfield 17, [], (10, 4, 904), 0, 0, none),
  (40, 2, .bipush 6, [], (0, 0, 0), 6, 0, none),
  (42, 1, .iload_n 1, [], (0, 0, 0), 0, 0, none),
  (43, 1, .imul, [], (0, 0, 0), 0, 0, none),
  (44, 1, .iload_n 2, [], (0, 0, 0), 0, 0, none),
  (45, 1, .iadd, [], (0, 0, 0), 0, 0, none),
  (46, 1, .baload, [], (0, 0, 0), 0, 0, none),
  (47, 3, .ifCond .eq 5, [31], (0, 0, 0), 0, 0, none),
  (50, 1, .iconst 0, [], (0, 0, 0), 0, 0, none),
  (51, 1, .ireturn, [], (0, 0, 0), 0, 0, none),
  (52, 1, .iload_n 2, [], (0, 0, 0), 0, 0, none),
  (53, 3, .ifCond .ge 13, [39], (0, 0, 0), 0, 0, none),
  (56, 1, .aload_n 0, [], (0, 0, 0), 0, 0, none),
  (57, 3, .getfield 20, [], (10, 5, 905), 0, 0, none),
  (60, 1, .iload_n 1, [], (0, 0, 0), 0, 0, none),
  (61, 1, .iconst 1, [], (0, 0, 0), 1, 0, none),
  (62, 1, .bastore, [], (0, 0, 0), 0, 0, none),
  (63, 3, .goto 15, [48], (0, 0, 0), 0, 0, none),
  (66, 1, .aload_n 0, [], (0, 0, 0), 0, 0, none),
  (67, 3, .getfield 17, [], (10, 4, 904), 0, 0, none),
  (70, 2, .bipush 6, [], (0, 0, 0), 6, 0, none),
  (72, 1, .iload_n 1, [], (0, 0, 0), 0, 0, none),
  (73, 1, .imul, [], (0, 0, 0), 0, 0, none),
  (74, 1, .iload_n 2, [], (0, 0, 0), 0, 0, none),
  (75, 1, .iadd, [], (0, 0, 0), 0, 0, none),
  (76, 1, .iconst 1, [], (0, 0, 0), 1, 0, none),
  (77, 1, .bastore, [], (0, 0, 0), 0, 0, none),
  (78, 1, .iconst 1, [], (0, 0, 0), 1, 0, none),
  (79, 1, .ireturn, [], (0, 0, 0), 0, 0, none)]
set_option maxRecDepth 100000 in
theorem vX11_export : ab_chk mX11_export.1.cls mX11_export kX11_export = true := by decide +kernel
def mX11_has : ab_Md := (yX11_has, cX11_has, 2, some .boolean, { frames := 0, cells := 0, slots := 0, locals := 0 })
def kX11_has : List ab_En := [
  (0, 1, .iload_n 0, [], (0, 0, 0), 0, 0, none),
  (1, 1, .iload_n 1, [], (0, 0, 0), 0, 0, none),
  (2, 1, .iand, [], (0, 0, 0), 0, 0, none),
  (3, 3, .ifCond .eq 7, [6], (0, 0, 0), 0, 0, none),
  (6, 1, .iconst 1, [], (0, 0, 0), 1, 0, none),
  (7, 3, .goto 4, [7], (0, 0, 0), 0, 0, none),
  (10, 1, .iconst 0, [], (0, 0, 0), 0, 0, none),
  (11, 1, .ireturn, [], (0, 0, 0), 0, 0, none)]
set_option maxRecDepth 100000 in
theorem vX11_has : ab_chk mX11_has.1.cls mX11_has kX11_has = true := by decide +kernel
def mX11_ruleOfType : ab_Md := (yX11_ruleOfType, cX11_ruleOfType, 6, some .int, { frames := 1, cells := 0, slots := 0, locals := 21 })
def kX11_ruleOfType : List ab_En := [
  (0, 1, .iload_n 2, [], (0, 0, 0), 0, 0, none),
  (1, 3, .ifCond .ge 26, [14], (0, 0, 0), 0, 0, none),
  (4, 2, .iload 4, [], (0, 0, 0), 0, 0, none),
  (6, 1, .iconst 1, [], (0, 0, 0), 1, 0, none),
  (7, 3, .if_icmp .eq 9, [8], (0, 0, 0), 0, 0, none),
  (10, 2, .iload 4, [], (0, 0, 0), 0, 0, none),
  (12, 1, .iconst 3, [], (0, 0, 0), 3, 0, none),
  (13, 3, .if_icmp .ne 12, [12], (0, 0, 0), 0, 0, none),
  (16, 2, .iload 5, [], (0, 0, 0), 0, 0, none),
  (18, 1, .iconst 1, [], (0, 0, 0), 1, 0, none),
  (19, 3, .invokestatic 103, [1031, 79, 1033, 1032], (0, 0, 0), 0, 0, some (mX11_has, 2)),
  (22, 3, .ifCond .eq 58, [44], (0, 0, 0), 0, 0, none),
  (25, 1, .iconst 1, [], (0, 0, 0), 1, 0, none),
  (26, 1, .ireturn, [], (0, 0, 0), 0, 0, none),
  (27, 1, .aload_n 0, [], (0, 0, 0), 0, 0, none),
  (28, 3, .getfield 23, [], (10, 7, 907), 0, 0, none),
  (31, 1, .iload_n 2, [], (0, 0, 0), 0, 0, none),
  (32, 1, .iaload, [], (0, 0, 0), 0, 0, none),
  (33, 1, .iload_n 1, [], (0, 0, 0), 0, 0, none),
  (34, 3, .if_icmp .eq 5, [22], (0, 0, 0), 0, 0, none),
  (37, 1, .iconst 2, [], (0, 0, 0), 2, 0, none),
  (38, 1, .ireturn, [], (0, 0, 0), 0, 0, none),
  (39, 1, .aload_n 0, [], (0, 0, 0), 0, 0, none),
  (40, 3, .getfield 29, [], (10, 9, 909), 0, 0, none),
  (43, 1, .iload_n 2, [], (0, 0, 0), 0, 0, none),
  (44, 1, .iaload, [], (0, 0, 0), 0, 0, none),
  (45, 1, .iconst 1, [], (0, 0, 0), 1, 0, none),
  (46, 3, .if_icmp .ne 18, [35], (0, 0, 0), 0, 0, none),
  (49, 2, .iload 4, [], (0, 0, 0), 0, 0, none),
  (51, 1, .iconst 3, [], (0, 0, 0), 3, 0, none),
  (52, 3, .if_icmp .ne 26, [42], (0, 0, 0), 0, 0, none),
  (55, 2, .iload 5, [], (0, 0, 0), 0, 0, none),
  (57, 1, .iconst 1, [], (0, 0, 0), 1, 0, none),
  (58, 3, .invokestatic 103, [1031, 79, 1033, 1032], (0, 0, 0), 0, 0, some (mX11_has, 2)),
  (61, 3, .ifCond .eq 17, [42], (0, 0, 0), 0, 0, none),
  (64, 1, .iload_n 3, [], (0, 0, 0), 0, 0, none),
  (65, 1, .iconst 1, [], (0, 0, 0), 1, 0, none),
  (66, 3, .if_icmp .ne 14, [44], (0, 0, 0), 0, 0, none),
  (69, 2, .iload 5, [], (0, 0, 0), 0, 0, none),
  (71, 1, .iconst 1, [], (0, 0, 0), 1, 0, none),
  (72, 3, .invokestatic 103, [1031, 79, 1033, 1032], (0, 0, 0), 0, 0, some (mX11_has, 2)),
  (75, 3, .ifCond .ne 5, [44], (0, 0, 0), 0, 0, none),
  (78, 1, .iconst 3, [], (0, 0, 0), 3, 0, none),
  (79, 1, .ireturn, [], (0, 0, 0), 0, 0, none),
  (80, 1, .iload_n 3, [], (0, 0, 0), 0, 0, none),
  (81, 1, .iconst 1, [], (0, 0, 0), 1, 0, none),
  (82, 3, .if_icmp .ne 12, [51], (0, 0, 0), 0, 0, none),
  (85, 2, .iload 5, [], (0, 0, 0), 0, 0, none),
  (87, 1, .iconst 2, [], (0, 0, 0), 2, 0, none),
  (88, 3, .invokestatic 103, [1031, 79, 1033, 1032], (0, 0, 0), 0, 0, some (mX11_has, 2)),
  (91, 3, .ifCond .ne 21, [59], (0, 0, 0), 0, 0, none),
  (94, 2, .iload 5, [], (0, 0, 0), 0, 0, none),
  (96, 1, .iconst 2, [], (0, 0, 0), 2, 0, none),
  (97, 3, .invokestatic 103, [1031, 79, 1033, 1032], (0, 0, 0), 0, 0, some (mX11_has, 2)),
  (100, 3, .ifCond .eq 16, [61], (0, 0, 0), 0, 0, none),
  (103, 2, .iload 5, [], (0, 0, 0), 0, 0, none),
  (105, 1, .iconst 4, [], (0, 0, 0), 4, 0, none),
  (106, 3, .invokestatic 103, [1031, 79, 1033, 1032], (0, 0, 0), 0, 0, some (mX11_has, 2)),
  (109, 3, .ifCond .eq 7, [61], (0, 0, 0), 0, 0, none),
  (112, 1, .iconst 4, [], (0, 0, 0), 4, 0, none),
  (113, 3, .goto 4, [62], (0, 0, 0), 0, 0, none),
  (116, 1, .iconst 0, [], (0, 0, 0), 0, 0, none),
  (117, 1, .ireturn, [], (0, 0, 0), 0, 0, none)]
set_option maxRecDepth 100000 in
theorem vX11_ruleOfType : ab_chk mX11_ruleOfType.1.cls mX11_ruleOfType kX11_ruleOfType = true := by decide +kernel
def mX11_noForm : ab_Md := (yX11_noForm, cX11_noForm, 2, some .boolean, { frames := 0, cells := 0, slots := 0, locals := 0 })
def kX11_noForm : List ab_En := [
  (0, 1, .iload_n 0, [], (0, 0, 0), 0, 0, none),
  (1, 3, .ifCond .lt 18, [10], (0, 0, 0), 0, 0, none),
  (4, 1, .iload_n 0, [], (0, 0, 0), 0, 0, none),
  (5, 1, .iconst 3, [], (0, 0, 0), 3, 0, none),
  (6, 3, .if_icmp .gt 13, [10], (0, 0, 0), 0, 0, none),
  (9, 1, .iload_n 1, [], (0, 0, 0), 0, 0, none),
  (10, 3, .ifCond .lt 9, [10], (0, 0, 0), 0, 0, none),
  (13, 1, .iload_n 1, [], (0, 0, 0), 0, 0, none),
  (14, 2, .bipush 7, [], (0, 0, 0), 7, 0, none),
  (16, 3, .if_icmp .le 7, [12], (0, 0, 0), 0, 0, none),
  (19, 1, .iconst 1, [], (0, 0, 0), 1, 0, none),
  (20, 3, .goto 4, [13], (0, 0, 0), 0, 0, none),
  (23, 1, .iconst 0, [], (0, 0, 0), 0, 0, none),
  (24, 1, .ireturn, [], (0, 0, 0), 0, 0, none)]
set_option maxRecDepth 100000 in
theorem vX11_noForm : ab_chk mX11_noForm.1.cls mX11_noForm kX11_noForm = true := by decide +kernel
def mX11_type : ab_Md := (yX11_type, cX11_type, 8, some .int, { frames := 2, cells := 0, slots := 0, locals := 46 })
def kX11_type : List ab_En := [
  (0, 1, .aload_n 0, [], (0, 0, 0), 0, 0, none),
  (1, 1, .iload_n 1, [], (0, 0, 0), 0, 0, none),
  (2, 3, .invokevirtual 100, [1012, 79, 1015, 1014, 32], (10, 0, 0), 0, 0, some (mX11_noPack, 1)),
  (5, 3, .ifCond .ne 35, [20], (0, 0, 0), 0, 0, none),
  (8, 1, .iload_n 2, [], (0, 0, 0), 0, 0, none),
  (9, 1, .iconst (-1), [], (0, 0, 0), (-1), 0, none),
  (10, 3, .if_icmp .eq 11, [11], (0, 0, 0), 0, 0, none),
  (13, 1, .aload_n 0, [], (0, 0, 0), 0, 0, none),
  (14, 1, .iload_n 2, [], (0, 0, 0), 0, 0, none),
  (15, 3, .invokevirtual 107, [1020, 79, 1023, 1022, 33], (10, 0, 0), 0, 0, some (mX11_noType, 1)),
  (18, 3, .ifCond .ne 22, [20], (0, 0, 0), 0, 0, none),
  (21, 1, .iload_n 3, [], (0, 0, 0), 0, 0, none),
  (22, 3, .ifCond .lt 18, [20], (0, 0, 0), 0, 0, none),
  (25, 1, .iload_n 3, [], (0, 0, 0), 0, 0, none),
  (26, 1, .iconst 1, [], (0, 0, 0), 1, 0, none),
  (27, 3, .if_icmp .gt 13, [20], (0, 0, 0), 0, 0, none),
  (30, 2, .iload 4, [], (0, 0, 0), 0, 0, none),
  (32, 2, .iload 5, [], (0, 0, 0), 0, 0, none),
  (34, 3, .invokestatic 110, [1024, 79, 1026, 1025], (0, 0, 0), 0, 0, some (mX11_noForm, 2)),
  (37, 3, .ifCond .eq 5, [22], (0, 0, 0), 0, 0, none),
  (40, 1, .iconst (-1), [], (0, 0, 0), (-1), 0, none),
  (41, 1, .ireturn, [], (0, 0, 0), 0, 0, none),
  (42, 1, .aload_n 0, [], (0, 0, 0), 0, 0, none),
  (43, 1, .iload_n 1, [], (0, 0, 0), 0, 0, none),
  (44, 1, .iload_n 2, [], (0, 0, 0), 0, 0, none),
  (45, 1, .iload_n 3, [], (0, 0, 0), 0, 0, none),
  (46, 2, .iload 4, [], (0, 0, 0), 0, 0, none),
  (48, 2, .iload 5, [], (0, 0, 0), 0, 0, none),
  (50, 3, .invokevirtual 113, [1027, 79, 1030, 1029, 34], (10, 0, 0), 0, 0, some (mX11_ruleOfType, 5)),
  (53, 2, .istore 6, [], (0, 0, 0), 0, 0, none),
  (55, 2, .iload 6, [], (0, 0, 0), 0, 0, none),
  (57, 3, .ifCond .le 9, [36], (0, 0, 0), 0, 0, none),
  (60, 2, .bipush (-10), [], (0, 0, 0), (-10), 0, none),
  (62, 2, .iload 6, [], (0, 0, 0), 0, 0, none),
  (64, 1, .isub, [], (0, 0, 0), 0, 0, none),
  (65, 1, .ireturn, [], (0, 0, 0), 0, 0, none),
  (66, 1, .aload_n 0, [], (0, 0, 0), 0, 0, none),
  (67, 3, .getfield 90, [], (10, 6, 906), 0, 0, none),
  (70, 2, .bipush 40, [], (0, 0, 0), 40, 0, none),
  (72, 3, .if_icmp .ne 6, [42], (0, 0, 0), 0, 0, none),
  (75, 2, .bipush (-4), [], (0, 0, 0), (-4), 0, none),
  (77, 1, .ireturn, [], (0, 0, 0), 0, 0, none),
  (78, 1, .aload_n 0, [], (0, 0, 0), 0, 0, none),
  (79, 1, .dup, [], (0, 0, 0), 0, 0, none),
  (80, 3, .getfield 90, [], (10, 6, 906), 0, 0, none),
  (83, 1, .dup_x1, [], (0, 0, 0), 0, 0, none),
  (84, 1, .iconst 1, [], (0, 0, 0), 1, 0, none),
  (85, 1, .iadd, [], (0, 0, 0), 0, 0, none),
  (86, 3, .putfield 90, [0], (10, 6, 906), 0, 0, none),
  (89, 2, .istore 7, [], (0, 0, 0), 0, 0, none),
  (91, 1, .aload_n 0, [], (0, 0, 0), 0, 0, none),
  (92, 3, .getfield 23, [], (10, 7, 907), 0, 0, none),
  (95, 2, .iload 7, [], (0, 0, 0), 0, 0, none),
  (97, 1, .iload_n 1, [], (0, 0, 0), 0, 0, none),
  (98, 1, .iastore, [], (0, 0, 0), 0, 0, none),
  (99, 1, .aload_n 0, [], (0, 0, 0), 0, 0, none),
  (100, 3, .getfield 26, [], (10, 8, 908), 0, 0, none),
  (103, 2, .iload 7, [], (0, 0, 0), 0, 0, none),
  (105, 1, .iload_n 2, [], (0, 0, 0), 0, 0, none),
  (106, 3, .ifCond .ge 8, [62], (0, 0, 0), 0, 0, none),
  (109, 2, .bipush (-2), [], (0, 0, 0), (-2), 0, none),
  (111, 3, .goto 4, [63], (0, 0, 0), 0, 0, none),
  (114, 1, .iload_n 2, [], (0, 0, 0), 0, 0, none),
  (115, 1, .iastore, [], (0, 0, 0), 0, 0, none),
  (116, 1, .aload_n 0, [], (0, 0, 0), 0, 0, none),
  (117, 3, .getfield 29, [], (10, 9, 909), 0, 0, none),
  (120, 2, .iload 7, [], (0, 0, 0), 0, 0, none),
  (122, 1, .iload_n 3, [], (0, 0, 0), 0, 0, none),
  (123, 1, .iastore, [], (0, 0, 0), 0, 0, none),
  (124, 1, .aload_n 0, [], (0, 0, 0), 0, 0, none),
  (125, 3, .getfield 32, [], (10, 10, 910), 0, 0, none),
  (128, 2, .iload 7, [], (0, 0, 0), 0, 0, none),
  (130, 2, .iload 4, [], (0, 0, 0), 0, 0, none),
  (132, 1, .iastore, [], (0, 0, 0), 0, 0, none),
  (133, 1, .aload_n 0, [], (0, 0, 0), 0, 0, none),
  (134, 3, .getfield 35, [], (10, 11, 911), 0, 0, none),
  (137, 2, .iload 7, [], (0, 0, 0), 0, 0, none),
  (139, 2, .iload 5, [], (0, 0, 0), 0, 0, none),
  (141, 1, .iastore, [], (0, 0, 0), 0, 0, none),
  (142, 1, .aload_n 0, [], (0, 0, 0), 0, 0, none),
  (143, 3, .getfield 38, [], (10, 12, 912), 0, 0, none),
  (146, 2, .iload 7, [], (0, 0, 0), 0, 0, none),
  (148, 1, .iload_n 3, [], (0, 0, 0), 0, 0, none),
  (149, 3, .ifCond .ne 7, [86], (0, 0, 0), 0, 0, none),
  (152, 1, .iconst 0, [], (0, 0, 0), 0, 0, none),
  (153, 3, .goto 5, [87], (0, 0, 0), 0, 0, none),
  (156, 2, .bipush (-2), [], (0, 0, 0), (-2), 0, none),
  (158, 1, .iastore, [], (0, 0, 0), 0, 0, none),
  (159, 1, .aload_n 0, [], (0, 0, 0), 0, 0, none),
  (160, 3, .getfield 47, [], (10, 15, 915), 0, 0, none),
  (163, 2, .bipush 40, [], (0, 0, 0), 40, 0, none),
  (165, 2, .iload 7, [], (0, 0, 0), 0, 0, none),
  (167, 1, .imul, [], (0, 0, 0), 0, 0, none),
  (168, 1, .iload_n 3, [], (0, 0, 0), 0, 0, none),
  (169, 3, .ifCond .ne 7, [97], (0, 0, 0), 0, 0, none),
  (172, 1, .iconst 1, [], (0, 0, 0), 1, 0, none),
  (173, 3, .goto 4, [98], (0, 0, 0), 0, 0, none),
  (176, 1, .iconst 0, [], (0, 0, 0), 0, 0, none),
  (177, 1, .bastore, [], (0, 0, 0), 0, 0, none),
  (178, 1, .aload_n 0, [], (0, 0, 0), 0, 0, none),
  (179, 1, .iconst 0, [], (0, 0, 0), 0, 0, none),
  (180, 3, .putfield 117, [2], (10, 22, 922), 0, 0, none),
  (183, 2, .iload 7, [], (0, 0, 0), 0, 0, none),
  (185, 1, .ireturn, [], (0, 0, 0), 0, 0, none)]
set_option maxRecDepth 100000 in
theorem vX11_type : ab_chk mX11_type.1.cls mX11_type kX11_type = true := by decide +kernel
def mX11_raise : ab_Md := (yX11_raise, cX11_raise, 5, none, { frames := 0, cells := 0, slots := 0, locals := 0 })
def kX11_raise : List ab_En := [
  (0, 1, .iconst 0, [], (0, 0, 0), 0, 0, none),
  (1, 1, .istore_n 3, [], (0, 0, 0), 0, 0, none),
  (2, 1, .iload_n 3, [], (0, 0, 0), 0, 0, none),
  (3, 1, .aload_n 0, [], (0, 0, 0), 0, 0, none),
  (4, 3, .getfield 90, [], (10, 6, 906), 0, 0, none),
  (7, 3, .if_icmp .ge 88, [57], (0, 0, 0), 0, 0, none),
  (10, 1, .iload_n 3, [], (0, 0, 0), 0, 0, none),
  (11, 1, .iload_n 1, [], (0, 0, 0), 0, 0, none),
  (12, 3, .if_icmp .eq 20, [19], (0, 0, 0), 0, 0, none),
  (15, 1, .aload_n 0, [], (0, 0, 0), 0, 0, none),
  (16, 3, .getfield 47, [], (10, 15, 915), 0, 0, none),
  (19, 2, .bipush 40, [], (0, 0, 0), 40, 0, none),
  (21, 1, .iload_n 3, [], (0, 0, 0), 0, 0, none),
  (22, 1, .imul, [], (0, 0, 0), 0, 0, none),
  (23, 1, .iload_n 1, [], (0, 0, 0), 0, 0, none),
  (24, 1, .iadd, [], (0, 0, 0), 0, 0, none),
  (25, 1, .baload, [], (0, 0, 0), 0, 0, none),
  (26, 3, .ifCond .ne 6, [19], (0, 0, 0), 0, 0, none),
  (29, 3, .goto 60, [55], (0, 0, 0), 0, 0, none),
  (32, 1, .aload_n 0, [], (0, 0, 0), 0, 0, none),
  (33, 3, .getfield 47, [], (10, 15, 915), 0, 0, none),
  (36, 2, .bipush 40, [], (0, 0, 0), 40, 0, none),
  (38, 1, .iload_n 3, [], (0, 0, 0), 0, 0, none),
  (39, 1, .imul, [], (0, 0, 0), 0, 0, none),
  (40, 1, .iload_n 2, [], (0, 0, 0), 0, 0, none),
  (41, 1, .iadd, [], (0, 0, 0), 0, 0, none),
  (42, 1, .iconst 1, [], (0, 0, 0), 1, 0, none),
  (43, 1, .bastore, [], (0, 0, 0), 0, 0, none),
  (44, 1, .iconst 0, [], (0, 0, 0), 0, 0, none),
  (45, 2, .istore 4, [], (0, 0, 0), 0, 0, none),
  (47, 2, .iload 4, [], (0, 0, 0), 0, 0, none),
  (49, 1, .aload_n 0, [], (0, 0, 0), 0, 0, none),
  (50, 3, .getfield 90, [], (10, 6, 906), 0, 0, none),
  (53, 3, .if_icmp .ge 36, [55], (0, 0, 0), 0, 0, none),
  (56, 1, .aload_n 0, [], (0, 0, 0), 0, 0, none),
  (57, 3, .getfield 47, [], (10, 15, 915), 0, 0, none),
  (60, 2, .bipush 40, [], (0, 0, 0), 40, 0, none),
  (62, 1, .iload_n 3, [], (0, 0, 0), 0, 0, none),
  (63, 1, .imul, [], (0, 0, 0), 0, 0, none),
  (64, 2, .iload 4, [], (0, 0, 0), 0, 0, none),
  (66, 1, .iadd, [], (0, 0, 0), 0, 0, none),
  (67, 1, .dup2, [], (0, 0, 0), 0, 0, none),
  (68, 1, .baload, [], (0, 0, 0), 0, 0, none),
  (69, 1, .aload_n 0, [], (0, 0, 0), 0, 0, none),
  (70, 3, .getfield 47, [], (10, 15, 915), 0, 0, none),
  (73, 2, .bipush 40, [], (0, 0, 0), 40, 0, none),
  (75, 1, .iload_n 2, [], (0, 0, 0), 0, 0, none),
  (76, 1, .imul, [], (0, 0, 0), 0, 0, none),
  (77, 2, .iload 4, [], (0, 0, 0), 0, 0, none),
  (79, 1, .iadd, [], (0, 0, 0), 0, 0, none),
  (80, 1, .baload, [], (0, 0, 0), 0, 0, none),
  (81, 1, .ior, [], (0, 0, 0), 0, 0, none),
  (82, 1, .bastore, [], (0, 0, 0), 0, 0, none),
  (83, 3, .iinc 4 1, [], (0, 0, 0), 1, 0, none),
  (86, 3, .goto (-39), [30], (0, 0, 0), 0, 0, none),
  (89, 3, .iinc 3 1, [], (0, 0, 0), 1, 0, none),
  (92, 3, .goto (-90), [2], (0, 0, 0), 0, 0, none),
  (95, 1, .aload_n 0, [], (0, 0, 0), 0, 0, none),
  (96, 1, .iconst 0, [], (0, 0, 0), 0, 0, none),
  (97, 3, .putfield 117, [2], (10, 22, 922), 0, 0, none),
  (100, 1, .return_, [], (0, 0, 0), 0, 0, none)]
set_option maxRecDepth 100000 in
theorem vX11_raise : ab_chk mX11_raise.1.cls mX11_raise kX11_raise = true := by decide +kernel
def mX11_isBelow : ab_Md := (yX11_isBelow, cX11_isBelow, 3, some .boolean, { frames := 0, cells := 0, slots := 0, locals := 0 })
def kX11_isBelow : List ab_En := [
  (0, 1, .aload_n 0, [], (0, 0, 0), 0, 0, none),
  (1, 3, .getfield 47, [], (10, 15, 915), 0, 0, none),
  (4, 2, .bipush 40, [], (0, 0, 0), 40, 0, none),
  (6, 1, .iload_n 1, [], (0, 0, 0), 0, 0, none),
  (7, 1, .imul, [], (0, 0, 0), 0, 0, none),
  (8, 1, .iload_n 2, [], (0, 0, 0), 0, 0, none),
  (9, 1, .iadd, [], (0, 0, 0), 0, 0, none),
  (10, 1, .baload, [], (0, 0, 0), 0, 0, none),
  (11, 1, .ireturn, [], (0, 0, 0), 0, 0, none)]
set_option maxRecDepth 100000 in
theorem vX11_isBelow : ab_chk mX11_isBelow.1.cls mX11_isBelow kX11_isBelow = true := by decide +kernel
def mX11_isAt : ab_Md := (yX11_isAt, cX11_isAt, 3, some .boolean, { frames := 1, cells := 0, slots := 0, locals := 22 })
def kX11_isAt : List ab_En := [
  (0, 1, .iload_n 1, [], (0, 0, 0), 0, 0, none),
  (1, 1, .iload_n 2, [], (0, 0, 0), 0, 0, none),
  (2, 3, .if_icmp .eq 12, [8], (0, 0, 0), 0, 0, none),
  (5, 1, .aload_n 0, [], (0, 0, 0), 0, 0, none),
  (6, 1, .iload_n 1, [], (0, 0, 0), 0, 0, none),
  (7, 1, .iload_n 2, [], (0, 0, 0), 0, 0, none),
  (8, 3, .invokevirtual 121, [1042, 79, 1045, 1044, 36], (10, 0, 0), 0, 0, some (mX11_isBelow, 2)),
  (11, 3, .ifCond .eq 7, [10], (0, 0, 0), 0, 0, none),
  (14, 1, .iconst 1, [], (0, 0, 0), 1, 0, none),
  (15, 3, .goto 4, [11], (0, 0, 0), 0, 0, none),
  (18, 1, .iconst 0, [], (0, 0, 0), 0, 0, none),
  (19, 1, .ireturn, [], (0, 0, 0), 0, 0, none)]
set_option maxRecDepth 100000 in
theorem vX11_isAt : ab_chk mX11_isAt.1.cls mX11_isAt kX11_isAt = true := by decide +kernel
end
section
def mX11_parent : ab_Md := (yX11_parent, cX11_parent, 3, some .int, { frames := 2, cells := 0, slots := 0, locals := 44 })
def kX11_parent : List ab_En := [
  (0, 1, .aload_n 0, [], (0, 0, 0), 0, 0, none),
  (1, 1, .iload_n 1, [], (0, 0, 0), 0, 0, none),
  (2, 3, .invokevirtual 107, [1020, 79, 1023, 1022, 33], (10, 0, 0), 0, 0, some (mX11_noType, 1)),
  (5, 3, .ifCond .ne 35, [22], (0, 0, 0), 0, 0, none),
  (8, 1, .aload_n 0, [], (0, 0, 0), 0, 0, none),
  (9, 1, .iload_n 2, [], (0, 0, 0), 0, 0, none),
  (10, 3, .invokevirtual 107, [1020, 79, 1023, 1022, 33], (10, 0, 0), 0, 0, some (mX11_noType, 1)),
  (13, 3, .ifCond .ne 27, [22], (0, 0, 0), 0, 0, none),
  (16, 1, .aload_n 0, [], (0, 0, 0), 0, 0, none),
  (17, 3, .getfield 29, [], (10, 9, 909), 0, 0, none),
  (20, 1, .iload_n 1, [], (0, 0, 0), 0, 0, none),
  (21, 1, .iaload, [], (0, 0, 0), 0, 0, none),
  (22, 1, .iconst 1, [], (0, 0, 0), 1, 0, none),
  (23, 3, .if_icmp .eq 17, [22], (0, 0, 0), 0, 0, none),
  (26, 1, .aload_n 0, [], (0, 0, 0), 0, 0, none),
  (27, 3, .getfield 29, [], (10, 9, 909), 0, 0, none),
  (30, 1, .iload_n 2, [], (0, 0, 0), 0, 0, none),
  (31, 1, .iaload, [], (0, 0, 0), 0, 0, none),
  (32, 1, .iconst 1, [], (0, 0, 0), 1, 0, none),
  (33, 3, .if_icmp .eq 7, [22], (0, 0, 0), 0, 0, none),
  (36, 1, .iload_n 1, [], (0, 0, 0), 0, 0, none),
  (37, 3, .ifCond .ne 5, [24], (0, 0, 0), 0, 0, none),
  (40, 1, .iconst (-1), [], (0, 0, 0), (-1), 0, none),
  (41, 1, .ireturn, [], (0, 0, 0), 0, 0, none),
  (42, 1, .aload_n 0, [], (0, 0, 0), 0, 0, none),
  (43, 3, .getfield 38, [], (10, 12, 912), 0, 0, none),
  (46, 1, .iload_n 1, [], (0, 0, 0), 0, 0, none),
  (47, 1, .iaload, [], (0, 0, 0), 0, 0, none),
  (48, 3, .ifCond .ne 12, [34], (0, 0, 0), 0, 0, none),
  (51, 1, .aload_n 0, [], (0, 0, 0), 0, 0, none),
  (52, 1, .iload_n 2, [], (0, 0, 0), 0, 0, none),
  (53, 1, .iload_n 1, [], (0, 0, 0), 0, 0, none),
  (54, 3, .invokevirtual 124, [1038, 79, 1041, 1040, 35], (10, 0, 0), 0, 0, some (mX11_isAt, 2)),
  (57, 3, .ifCond .eq 6, [36], (0, 0, 0), 0, 0, none),
  (60, 2, .bipush (-2), [], (0, 0, 0), (-2), 0, none),
  (62, 1, .ireturn, [], (0, 0, 0), 0, 0, none),
  (63, 1, .aload_n 0, [], (0, 0, 0), 0, 0, none),
  (64, 3, .getfield 38, [], (10, 12, 912), 0, 0, none),
  (67, 1, .iload_n 1, [], (0, 0, 0), 0, 0, none),
  (68, 1, .iload_n 2, [], (0, 0, 0), 0, 0, none),
  (69, 1, .iastore, [], (0, 0, 0), 0, 0, none),
  (70, 1, .aload_n 0, [], (0, 0, 0), 0, 0, none),
  (71, 1, .iload_n 1, [], (0, 0, 0), 0, 0, none),
  (72, 1, .iload_n 2, [], (0, 0, 0), 0, 0, none),
  (73, 3, .invokevirtual 127, [1046, 79, 1049, 1048, 37], (10, 0, 0), 0, 0, some (mX11_raise, 2)),
  (76, 1, .iconst 1, [], (0, 0, 0), 1, 0, none),
  (77, 1, .ireturn, [], (0, 0, 0), 0, 0, none)]
set_option maxRecDepth 100000 in
theorem vX11_parent : ab_chk mX11_parent.1.cls mX11_parent kX11_parent = true := by decide +kernel
def mX11_face : ab_Md := (yX11_face, cX11_face, 5, some .int, { frames := 2, cells := 0, slots := 0, locals := 44 })
def kX11_face : List ab_En := [
  (0, 1, .aload_n 0, [], (0, 0, 0), 0, 0, none),
  (1, 1, .iload_n 1, [], (0, 0, 0), 0, 0, none),
  (2, 3, .invokevirtual 107, [1020, 79, 1023, 1022, 33], (10, 0, 0), 0, 0, some (mX11_noType, 1)),
  (5, 3, .ifCond .ne 24, [15], (0, 0, 0), 0, 0, none),
  (8, 1, .aload_n 0, [], (0, 0, 0), 0, 0, none),
  (9, 1, .iload_n 2, [], (0, 0, 0), 0, 0, none),
  (10, 3, .invokevirtual 107, [1020, 79, 1023, 1022, 33], (10, 0, 0), 0, 0, some (mX11_noType, 1)),
  (13, 3, .ifCond .ne 16, [15], (0, 0, 0), 0, 0, none),
  (16, 1, .aload_n 0, [], (0, 0, 0), 0, 0, none),
  (17, 3, .getfield 29, [], (10, 9, 909), 0, 0, none),
  (20, 1, .iload_n 2, [], (0, 0, 0), 0, 0, none),
  (21, 1, .iaload, [], (0, 0, 0), 0, 0, none),
  (22, 3, .ifCond .eq 7, [15], (0, 0, 0), 0, 0, none),
  (25, 1, .iload_n 1, [], (0, 0, 0), 0, 0, none),
  (26, 3, .ifCond .ne 5, [17], (0, 0, 0), 0, 0, none),
  (29, 1, .iconst (-1), [], (0, 0, 0), (-1), 0, none),
  (30, 1, .ireturn, [], (0, 0, 0), 0, 0, none),
  (31, 1, .aload_n 0, [], (0, 0, 0), 0, 0, none),
  (32, 1, .iload_n 2, [], (0, 0, 0), 0, 0, none),
  (33, 1, .iload_n 1, [], (0, 0, 0), 0, 0, none),
  (34, 3, .invokevirtual 124, [1038, 79, 1041, 1040, 35], (10, 0, 0), 0, 0, some (mX11_isAt, 2)),
  (37, 1, .istore_n 3, [], (0, 0, 0), 0, 0, none),
  (38, 1, .iconst 0, [], (0, 0, 0), 0, 0, none),
  (39, 2, .istore 4, [], (0, 0, 0), 0, 0, none),
  (41, 2, .iload 4, [], (0, 0, 0), 0, 0, none),
  (43, 1, .aload_n 0, [], (0, 0, 0), 0, 0, none),
  (44, 3, .getfield 44, [], (10, 14, 914), 0, 0, none),
  (47, 1, .iload_n 1, [], (0, 0, 0), 0, 0, none),
  (48, 1, .iaload, [], (0, 0, 0), 0, 0, none),
  (49, 3, .if_icmp .ge 32, [48], (0, 0, 0), 0, 0, none),
  (52, 1, .iload_n 3, [], (0, 0, 0), 0, 0, none),
  (53, 1, .aload_n 0, [], (0, 0, 0), 0, 0, none),
  (54, 3, .getfield 41, [], (10, 13, 913), 0, 0, none),
  (57, 1, .iconst 4, [], (0, 0, 0), 4, 0, none),
  (58, 1, .iload_n 1, [], (0, 0, 0), 0, 0, none),
  (59, 1, .imul, [], (0, 0, 0), 0, 0, none),
  (60, 2, .iload 4, [], (0, 0, 0), 0, 0, none),
  (62, 1, .iadd, [], (0, 0, 0), 0, 0, none),
  (63, 1, .iaload, [], (0, 0, 0), 0, 0, none),
  (64, 1, .iload_n 2, [], (0, 0, 0), 0, 0, none),
  (65, 3, .if_icmp .ne 7, [43], (0, 0, 0), 0, 0, none),
  (68, 1, .iconst 1, [], (0, 0, 0), 1, 0, none),
  (69, 3, .goto 4, [44], (0, 0, 0), 0, 0, none),
  (72, 1, .iconst 0, [], (0, 0, 0), 0, 0, none),
  (73, 1, .ior, [], (0, 0, 0), 0, 0, none),
  (74, 1, .istore_n 3, [], (0, 0, 0), 0, 0, none),
  (75, 3, .iinc 4 1, [], (0, 0, 0), 1, 0, none),
  (78, 3, .goto (-37), [24], (0, 0, 0), 0, 0, none),
  (81, 1, .iload_n 3, [], (0, 0, 0), 0, 0, none),
  (82, 3, .ifCond .eq 6, [52], (0, 0, 0), 0, 0, none),
  (85, 2, .bipush (-2), [], (0, 0, 0), (-2), 0, none),
  (87, 1, .ireturn, [], (0, 0, 0), 0, 0, none),
  (88, 1, .aload_n 0, [], (0, 0, 0), 0, 0, none),
  (89, 3, .getfield 44, [], (10, 14, 914), 0, 0, none),
  (92, 1, .iload_n 1, [], (0, 0, 0), 0, 0, none),
  (93, 1, .iaload, [], (0, 0, 0), 0, 0, none),
  (94, 1, .iconst 4, [], (0, 0, 0), 4, 0, none),
  (95, 3, .if_icmp .ne 6, [60], (0, 0, 0), 0, 0, none),
  (98, 2, .bipush (-4), [], (0, 0, 0), (-4), 0, none),
  (100, 1, .ireturn, [], (0, 0, 0), 0, 0, none),
  (101, 1, .aload_n 0, [], (0, 0, 0), 0, 0, none),
  (102, 3, .getfield 41, [], (10, 13, 913), 0, 0, none),
  (105, 1, .iconst 4, [], (0, 0, 0), 4, 0, none),
  (106, 1, .iload_n 1, [], (0, 0, 0), 0, 0, none),
  (107, 1, .imul, [], (0, 0, 0), 0, 0, none),
  (108, 1, .aload_n 0, [], (0, 0, 0), 0, 0, none),
  (109, 3, .getfield 44, [], (10, 14, 914), 0, 0, none),
  (112, 1, .iload_n 1, [], (0, 0, 0), 0, 0, none),
  (113, 1, .iaload, [], (0, 0, 0), 0, 0, none),
  (114, 1, .iadd, [], (0, 0, 0), 0, 0, none),
  (115, 1, .iload_n 2, [], (0, 0, 0), 0, 0, none),
  (116, 1, .iastore, [], (0, 0, 0), 0, 0, none),
  (117, 1, .aload_n 0, [], (0, 0, 0), 0, 0, none),
  (118, 3, .getfield 44, [], (10, 14, 914), 0, 0, none),
  (121, 1, .iload_n 1, [], (0, 0, 0), 0, 0, none),
  (122, 1, .dup2, [], (0, 0, 0), 0, 0, none),
  (123, 1, .iaload, [], (0, 0, 0), 0, 0, none),
  (124, 1, .iconst 1, [], (0, 0, 0), 1, 0, none),
  (125, 1, .iadd, [], (0, 0, 0), 0, 0, none),
  (126, 1, .iastore, [], (0, 0, 0), 0, 0, none),
  (127, 1, .aload_n 0, [], (0, 0, 0), 0, 0, none),
  (128, 1, .iload_n 1, [], (0, 0, 0), 0, 0, none),
  (129, 1, .iload_n 2, [], (0, 0, 0), 0, 0, none),
  (130, 3, .invokevirtual 127, [1046, 79, 1049, 1048, 37], (10, 0, 0), 0, 0, some (mX11_raise, 2)),
  (133, 1, .aload_n 0, [], (0, 0, 0), 0, 0, none),
  (134, 3, .getfield 44, [], (10, 14, 914), 0, 0, none),
  (137, 1, .iload_n 1, [], (0, 0, 0), 0, 0, none),
  (138, 1, .iaload, [], (0, 0, 0), 0, 0, none),
  (139, 1, .ireturn, [], (0, 0, 0), 0, 0, none)]
set_option maxRecDepth 100000 in
theorem vX11_face : ab_chk mX11_face.1.cls mX11_face kX11_face = true := by decide +kernel
def mX11_declared : ab_Md := (yX11_declared, cX11_declared, 5, some .int, { frames := 0, cells := 0, slots := 0, locals := 0 })
def kX11_declared : List ab_En := [
  (0, 1, .iconst 0, [], (0, 0, 0), 0, 0, none),
  (1, 2, .istore 4, [], (0, 0, 0), 0, 0, none),
  (3, 2, .iload 4, [], (0, 0, 0), 0, 0, none),
  (5, 1, .aload_n 0, [], (0, 0, 0), 0, 0, none),
  (6, 3, .getfield 93, [], (10, 16, 916), 0, 0, none),
  (9, 3, .if_icmp .ge 45, [28], (0, 0, 0), 0, 0, none),
  (12, 1, .aload_n 0, [], (0, 0, 0), 0, 0, none),
  (13, 3, .getfield 50, [], (10, 17, 917), 0, 0, none),
  (16, 2, .iload 4, [], (0, 0, 0), 0, 0, none),
  (18, 1, .iaload, [], (0, 0, 0), 0, 0, none),
  (19, 1, .iload_n 1, [], (0, 0, 0), 0, 0, none),
  (20, 3, .if_icmp .ne 28, [26], (0, 0, 0), 0, 0, none),
  (23, 1, .aload_n 0, [], (0, 0, 0), 0, 0, none),
  (24, 3, .getfield 53, [], (10, 18, 918), 0, 0, none),
  (27, 2, .iload 4, [], (0, 0, 0), 0, 0, none),
  (29, 1, .iaload, [], (0, 0, 0), 0, 0, none),
  (30, 1, .iload_n 2, [], (0, 0, 0), 0, 0, none),
  (31, 3, .if_icmp .ne 17, [26], (0, 0, 0), 0, 0, none),
  (34, 1, .aload_n 0, [], (0, 0, 0), 0, 0, none),
  (35, 3, .getfield 56, [], (10, 19, 919), 0, 0, none),
  (38, 2, .iload 4, [], (0, 0, 0), 0, 0, none),
  (40, 1, .iaload, [], (0, 0, 0), 0, 0, none),
  (41, 1, .iload_n 3, [], (0, 0, 0), 0, 0, none),
  (42, 3, .if_icmp .ne 6, [26], (0, 0, 0), 0, 0, none),
  (45, 2, .iload 4, [], (0, 0, 0), 0, 0, none),
  (47, 1, .ireturn, [], (0, 0, 0), 0, 0, none),
  (48, 3, .iinc 4 1, [], (0, 0, 0), 1, 0, none),
  (51, 3, .goto (-48), [2], (0, 0, 0), 0, 0, none),
  (54, 2, .bipush (-2), [], (0, 0, 0), (-2), 0, none),
  (56, 1, .ireturn, [], (0, 0, 0), 0, 0, none)]
set_option maxRecDepth 100000 in
theorem vX11_declared : ab_chk mX11_declared.1.cls mX11_declared kX11_declared = true := by decide +kernel
def mX11_ruleOfMember : ab_Md := (yX11_ruleOfMember, cX11_ruleOfMember, 8, some .int, { frames := 1, cells := 0, slots := 0, locals := 24 })
def kX11_ruleOfMember : List ab_En := [
  (0, 1, .aload_n 0, [], (0, 0, 0), 0, 0, none),
  (1, 3, .getfield 29, [], (10, 9, 909), 0, 0, none),
  (4, 1, .iload_n 1, [], (0, 0, 0), 0, 0, none),
  (5, 1, .iaload, [], (0, 0, 0), 0, 0, none),
  (6, 1, .iconst 1, [], (0, 0, 0), 1, 0, none),
  (7, 3, .if_icmp .ne 73, [41], (0, 0, 0), 0, 0, none),
  (10, 1, .iload_n 2, [], (0, 0, 0), 0, 0, none),
  (11, 3, .ifCond .ne 22, [17], (0, 0, 0), 0, 0, none),
  (14, 2, .iload 4, [], (0, 0, 0), 0, 0, none),
  (16, 1, .iconst 3, [], (0, 0, 0), 3, 0, none),
  (17, 3, .if_icmp .ne 16, [17], (0, 0, 0), 0, 0, none),
  (20, 2, .iload 5, [], (0, 0, 0), 0, 0, none),
  (22, 1, .iconst 1, [], (0, 0, 0), 1, 0, none),
  (23, 3, .invokestatic 103, [1031, 79, 1033, 1032], (0, 0, 0), 0, 0, some (mX11_has, 2)),
  (26, 3, .ifCond .eq 7, [17], (0, 0, 0), 0, 0, none),
  (29, 1, .iconst 1, [], (0, 0, 0), 1, 0, none),
  (30, 3, .goto 4, [18], (0, 0, 0), 0, 0, none),
  (33, 1, .iconst 0, [], (0, 0, 0), 0, 0, none),
  (34, 2, .istore 6, [], (0, 0, 0), 0, 0, none),
  (36, 1, .iload_n 2, [], (0, 0, 0), 0, 0, none),
  (37, 1, .iconst 1, [], (0, 0, 0), 1, 0, none),
  (38, 3, .if_icmp .ne 27, [33], (0, 0, 0), 0, 0, none),
  (41, 2, .iload 4, [], (0, 0, 0), 0, 0, none),
  (43, 1, .iconst 3, [], (0, 0, 0), 3, 0, none),
  (44, 3, .if_icmp .eq 8, [27], (0, 0, 0), 0, 0, none),
  (47, 2, .iload 4, [], (0, 0, 0), 0, 0, none),
  (49, 3, .ifCond .ne 16, [33], (0, 0, 0), 0, 0, none),
  (52, 2, .iload 5, [], (0, 0, 0), 0, 0, none),
  (54, 1, .iconst 2, [], (0, 0, 0), 2, 0, none),
  (55, 3, .invokestatic 103, [1031, 79, 1033, 1032], (0, 0, 0), 0, 0, some (mX11_has, 2)),
  (58, 3, .ifCond .ne 7, [33], (0, 0, 0), 0, 0, none),
  (61, 1, .iconst 1, [], (0, 0, 0), 1, 0, none),
  (62, 3, .goto 4, [34], (0, 0, 0), 0, 0, none),
  (65, 1, .iconst 0, [], (0, 0, 0), 0, 0, none),
  (66, 2, .istore 7, [], (0, 0, 0), 0, 0, none),
  (68, 2, .iload 6, [], (0, 0, 0), 0, 0, none),
  (70, 3, .ifCond .ne 10, [41], (0, 0, 0), 0, 0, none),
  (73, 2, .iload 7, [], (0, 0, 0), 0, 0, none),
  (75, 3, .ifCond .ne 5, [41], (0, 0, 0), 0, 0, none),
  (78, 1, .iconst 5, [], (0, 0, 0), 5, 0, none),
  (79, 1, .ireturn, [], (0, 0, 0), 0, 0, none),
  (80, 1, .iload_n 2, [], (0, 0, 0), 0, 0, none),
  (81, 1, .iconst 2, [], (0, 0, 0), 2, 0, none),
  (82, 3, .if_icmp .ne 8, [46], (0, 0, 0), 0, 0, none),
  (85, 2, .iload 5, [], (0, 0, 0), 0, 0, none),
  (87, 3, .ifCond .ne 16, [52], (0, 0, 0), 0, 0, none),
  (90, 1, .iload_n 2, [], (0, 0, 0), 0, 0, none),
  (91, 3, .ifCond .ne 15, [54], (0, 0, 0), 0, 0, none),
  (94, 2, .iload 5, [], (0, 0, 0), 0, 0, none),
  (96, 1, .iconst 4, [], (0, 0, 0), 4, 0, none),
  (97, 3, .invokestatic 103, [1031, 79, 1033, 1032], (0, 0, 0), 0, 0, some (mX11_has, 2)),
  (100, 3, .ifCond .eq 6, [54], (0, 0, 0), 0, 0, none),
  (103, 2, .bipush 6, [], (0, 0, 0), 6, 0, none),
  (105, 1, .ireturn, [], (0, 0, 0), 0, 0, none),
  (106, 1, .iload_n 2, [], (0, 0, 0), 0, 0, none),
  (107, 1, .iconst 1, [], (0, 0, 0), 1, 0, none),
  (108, 3, .if_icmp .ne 51, [81], (0, 0, 0), 0, 0, none),
  (111, 2, .iload 5, [], (0, 0, 0), 0, 0, none),
  (113, 1, .iconst 4, [], (0, 0, 0), 4, 0, none),
  (114, 3, .invokestatic 103, [1031, 79, 1033, 1032], (0, 0, 0), 0, 0, some (mX11_has, 2)),
  (117, 3, .ifCond .eq 42, [81], (0, 0, 0), 0, 0, none),
  (120, 2, .iload 4, [], (0, 0, 0), 0, 0, none),
  (122, 3, .ifCond .eq 34, [79], (0, 0, 0), 0, 0, none),
  (125, 2, .iload 5, [], (0, 0, 0), 0, 0, none),
  (127, 1, .iconst 3, [], (0, 0, 0), 3, 0, none),
  (128, 3, .invokestatic 103, [1031, 79, 1033, 1032], (0, 0, 0), 0, 0, some (mX11_has, 2)),
  (131, 3, .ifCond .ne 25, [79], (0, 0, 0), 0, 0, none),
  (134, 1, .aload_n 0, [], (0, 0, 0), 0, 0, none),
  (135, 3, .getfield 29, [], (10, 9, 909), 0, 0, none),
  (138, 1, .iload_n 1, [], (0, 0, 0), 0, 0, none),
  (139, 1, .iaload, [], (0, 0, 0), 0, 0, none),
  (140, 3, .ifCond .ne 19, [81], (0, 0, 0), 0, 0, none),
  (143, 1, .aload_n 0, [], (0, 0, 0), 0, 0, none),
  (144, 3, .getfield 35, [], (10, 11, 911), 0, 0, none),
  (147, 1, .iload_n 1, [], (0, 0, 0), 0, 0, none),
  (148, 1, .iaload, [], (0, 0, 0), 0, 0, none),
  (149, 1, .iconst 4, [], (0, 0, 0), 4, 0, none),
  (150, 3, .invokestatic 103, [1031, 79, 1033, 1032], (0, 0, 0), 0, 0, some (mX11_has, 2)),
  (153, 3, .ifCond .ne 6, [81], (0, 0, 0), 0, 0, none),
  (156, 2, .bipush 7, [], (0, 0, 0), 7, 0, none),
  (158, 1, .ireturn, [], (0, 0, 0), 0, 0, none),
  (159, 1, .aload_n 0, [], (0, 0, 0), 0, 0, none),
  (160, 1, .iload_n 1, [], (0, 0, 0), 0, 0, none),
  (161, 1, .iload_n 2, [], (0, 0, 0), 0, 0, none),
  (162, 1, .iload_n 3, [], (0, 0, 0), 0, 0, none),
  (163, 3, .invokevirtual 131, [1062, 79, 1065, 1064, 39], (10, 0, 0), 0, 0, some (mX11_declared, 3)),
  (166, 3, .ifCond .lt 8, [89], (0, 0, 0), 0, 0, none),
  (169, 2, .bipush 8, [], (0, 0, 0), 8, 0, none),
  (171, 3, .goto 4, [90], (0, 0, 0), 0, 0, none),
  (174, 1, .iconst 0, [], (0, 0, 0), 0, 0, none),
  (175, 1, .ireturn, [], (0, 0, 0), 0, 0, none)]
set_option maxRecDepth 100000 in
theorem vX11_ruleOfMember : ab_chk mX11_ruleOfMember.1.cls mX11_ruleOfMember kX11_ruleOfMember = true := by decide +kernel
def mX11_member : ab_Md := (yX11_member, cX11_member, 8, some .int, { frames := 2, cells := 0, slots := 0, locals := 51 })
def kX11_member : List ab_En := [
  (0, 1, .aload_n 0, [], (0, 0, 0), 0, 0, none),
  (1, 1, .iload_n 1, [], (0, 0, 0), 0, 0, none),
  (2, 3, .invokevirtual 107, [1020, 79, 1023, 1022, 33], (10, 0, 0), 0, 0, some (mX11_noType, 1)),
  (5, 3, .ifCond .ne 32, [18], (0, 0, 0), 0, 0, none),
  (8, 1, .iload_n 2, [], (0, 0, 0), 0, 0, none),
  (9, 3, .ifCond .lt 28, [18], (0, 0, 0), 0, 0, none),
  (12, 1, .iload_n 2, [], (0, 0, 0), 0, 0, none),
  (13, 1, .iconst 2, [], (0, 0, 0), 2, 0, none),
  (14, 3, .if_icmp .gt 23, [18], (0, 0, 0), 0, 0, none),
  (17, 1, .iload_n 3, [], (0, 0, 0), 0, 0, none),
  (18, 3, .ifCond .lt 19, [18], (0, 0, 0), 0, 0, none),
  (21, 1, .iload_n 3, [], (0, 0, 0), 0, 0, none),
  (22, 2, .bipush 9, [], (0, 0, 0), 9, 0, none),
  (24, 3, .if_icmp .gt 13, [18], (0, 0, 0), 0, 0, none),
  (27, 2, .iload 4, [], (0, 0, 0), 0, 0, none),
  (29, 2, .iload 5, [], (0, 0, 0), 0, 0, none),
  (31, 3, .invokestatic 110, [1024, 79, 1026, 1025], (0, 0, 0), 0, 0, some (mX11_noForm, 2)),
  (34, 3, .ifCond .eq 5, [20], (0, 0, 0), 0, 0, none),
  (37, 1, .iconst (-1), [], (0, 0, 0), (-1), 0, none),
  (38, 1, .ireturn, [], (0, 0, 0), 0, 0, none),
  (39, 1, .aload_n 0, [], (0, 0, 0), 0, 0, none),
  (40, 1, .iload_n 1, [], (0, 0, 0), 0, 0, none),
  (41, 1, .iload_n 2, [], (0, 0, 0), 0, 0, none),
  (42, 1, .iload_n 3, [], (0, 0, 0), 0, 0, none),
  (43, 2, .iload 4, [], (0, 0, 0), 0, 0, none),
  (45, 2, .iload 5, [], (0, 0, 0), 0, 0, none),
  (47, 3, .invokevirtual 135, [1058, 79, 1061, 1060, 38], (10, 0, 0), 0, 0, some (mX11_ruleOfMember, 5)),
  (50, 2, .istore 6, [], (0, 0, 0), 0, 0, none),
  (52, 2, .iload 6, [], (0, 0, 0), 0, 0, none),
  (54, 3, .ifCond .le 9, [34], (0, 0, 0), 0, 0, none),
  (57, 2, .bipush (-10), [], (0, 0, 0), (-10), 0, none),
  (59, 2, .iload 6, [], (0, 0, 0), 0, 0, none),
  (61, 1, .isub, [], (0, 0, 0), 0, 0, none),
  (62, 1, .ireturn, [], (0, 0, 0), 0, 0, none),
  (63, 1, .aload_n 0, [], (0, 0, 0), 0, 0, none),
  (64, 3, .getfield 93, [], (10, 16, 916), 0, 0, none),
  (67, 2, .bipush 120, [], (0, 0, 0), 120, 0, none),
  (69, 3, .if_icmp .ne 6, [40], (0, 0, 0), 0, 0, none),
  (72, 2, .bipush (-4), [], (0, 0, 0), (-4), 0, none),
  (74, 1, .ireturn, [], (0, 0, 0), 0, 0, none),
  (75, 1, .aload_n 0, [], (0, 0, 0), 0, 0, none),
  (76, 1, .dup, [], (0, 0, 0), 0, 0, none),
  (77, 3, .getfield 93, [], (10, 16, 916), 0, 0, none),
  (80, 1, .dup_x1, [], (0, 0, 0), 0, 0, none),
  (81, 1, .iconst 1, [], (0, 0, 0), 1, 0, none),
  (82, 1, .iadd, [], (0, 0, 0), 0, 0, none),
  (83, 3, .putfield 93, [0], (10, 16, 916), 0, 0, none),
  (86, 2, .istore 7, [], (0, 0, 0), 0, 0, none),
  (88, 1, .aload_n 0, [], (0, 0, 0), 0, 0, none),
  (89, 3, .getfield 50, [], (10, 17, 917), 0, 0, none),
  (92, 2, .iload 7, [], (0, 0, 0), 0, 0, none),
  (94, 1, .iload_n 1, [], (0, 0, 0), 0, 0, none),
  (95, 1, .iastore, [], (0, 0, 0), 0, 0, none),
  (96, 1, .aload_n 0, [], (0, 0, 0), 0, 0, none),
  (97, 3, .getfield 53, [], (10, 18, 918), 0, 0, none),
  (100, 2, .iload 7, [], (0, 0, 0), 0, 0, none),
  (102, 1, .iload_n 2, [], (0, 0, 0), 0, 0, none),
  (103, 1, .iastore, [], (0, 0, 0), 0, 0, none),
  (104, 1, .aload_n 0, [], (0, 0, 0), 0, 0, none),
  (105, 3, .getfield 56, [], (10, 19, 919), 0, 0, none),
  (108, 2, .iload 7, [], (0, 0, 0), 0, 0, none),
  (110, 1, .iload_n 3, [], (0, 0, 0), 0, 0, none),
  (111, 1, .iastore, [], (0, 0, 0), 0, 0, none),
  (112, 1, .aload_n 0, [], (0, 0, 0), 0, 0, none),
  (113, 3, .getfield 59, [], (10, 20, 920), 0, 0, none),
  (116, 2, .iload 7, [], (0, 0, 0), 0, 0, none),
  (118, 2, .iload 4, [], (0, 0, 0), 0, 0, none),
  (120, 1, .iastore, [], (0, 0, 0), 0, 0, none),
  (121, 1, .aload_n 0, [], (0, 0, 0), 0, 0, none),
  (122, 3, .getfield 62, [], (10, 21, 921), 0, 0, none),
  (125, 2, .iload 7, [], (0, 0, 0), 0, 0, none),
  (127, 2, .iload 5, [], (0, 0, 0), 0, 0, none),
  (129, 1, .iastore, [], (0, 0, 0), 0, 0, none),
  (130, 1, .aload_n 0, [], (0, 0, 0), 0, 0, none),
  (131, 1, .iconst 0, [], (0, 0, 0), 0, 0, none),
  (132, 3, .putfield 117, [2], (10, 22, 922), 0, 0, none),
  (135, 2, .iload 7, [], (0, 0, 0), 0, 0, none),
  (137, 1, .ireturn, [], (0, 0, 0), 0, 0, none)]
set_option maxRecDepth 100000 in
theorem vX11_member : ab_chk mX11_member.1.cls mX11_member kX11_member = true := by decide +kernel
def mX11_count : ab_Md := (yX11_count, cX11_count, 2, some .int, { frames := 0, cells := 0, slots := 0, locals := 0 })
def kX11_count : List ab_En := [
  (0, 1, .iload_n 1, [], (0, 0, 0), 0, 0, none),
  (1, 3, .ifCond .ne 10, [5], (0, 0, 0), 0, 0, none),
  (4, 1, .aload_n 0, [], (0, 0, 0), 0, 0, none),
  (5, 3, .getfield 83, [], (10, 0, 900), 0, 0, none),
  (8, 3, .goto 40, [24], (0, 0, 0), 0, 0, none),
  (11, 1, .iload_n 1, [], (0, 0, 0), 0, 0, none),
  (12, 1, .iconst 1, [], (0, 0, 0), 1, 0, none),
  (13, 3, .if_icmp .ne 10, [11], (0, 0, 0), 0, 0, none),
  (16, 1, .aload_n 0, [], (0, 0, 0), 0, 0, none),
  (17, 3, .getfield 87, [], (10, 2, 902), 0, 0, none),
  (20, 3, .goto 28, [24], (0, 0, 0), 0, 0, none),
  (23, 1, .iload_n 1, [], (0, 0, 0), 0, 0, none),
  (24, 1, .iconst 2, [], (0, 0, 0), 2, 0, none),
  (25, 3, .if_icmp .ne 10, [17], (0, 0, 0), 0, 0, none),
  (28, 1, .aload_n 0, [], (0, 0, 0), 0, 0, none),
  (29, 3, .getfield 90, [], (10, 6, 906), 0, 0, none),
  (32, 3, .goto 16, [24], (0, 0, 0), 0, 0, none),
  (35, 1, .iload_n 1, [], (0, 0, 0), 0, 0, none),
  (36, 1, .iconst 3, [], (0, 0, 0), 3, 0, none),
  (37, 3, .if_icmp .ne 10, [23], (0, 0, 0), 0, 0, none),
  (40, 1, .aload_n 0, [], (0, 0, 0), 0, 0, none),
  (41, 3, .getfield 93, [], (10, 16, 916), 0, 0, none),
  (44, 3, .goto 4, [24], (0, 0, 0), 0, 0, none),
  (47, 1, .iconst (-1), [], (0, 0, 0), (-1), 0, none),
  (48, 1, .ireturn, [], (0, 0, 0), 0, 0, none)]
set_option maxRecDepth 100000 in
theorem vX11_count : ab_chk mX11_count.1.cls mX11_count kX11_count = true := by decide +kernel
def mX11_topOf : ab_Md := (yX11_topOf, cX11_topOf, 3, some .int, { frames := 0, cells := 0, slots := 0, locals := 0 })
def kX11_topOf : List ab_En := [
  (0, 1, .iload_n 1, [], (0, 0, 0), 0, 0, none),
  (1, 1, .istore_n 2, [], (0, 0, 0), 0, 0, none),
  (2, 1, .aload_n 0, [], (0, 0, 0), 0, 0, none),
  (3, 3, .getfield 26, [], (10, 8, 908), 0, 0, none),
  (6, 1, .iload_n 2, [], (0, 0, 0), 0, 0, none),
  (7, 1, .iaload, [], (0, 0, 0), 0, 0, none),
  (8, 3, .ifCond .lt 13, [13], (0, 0, 0), 0, 0, none),
  (11, 1, .aload_n 0, [], (0, 0, 0), 0, 0, none),
  (12, 3, .getfield 26, [], (10, 8, 908), 0, 0, none),
  (15, 1, .iload_n 2, [], (0, 0, 0), 0, 0, none),
  (16, 1, .iaload, [], (0, 0, 0), 0, 0, none),
  (17, 1, .istore_n 2, [], (0, 0, 0), 0, 0, none),
  (18, 3, .goto (-16), [2], (0, 0, 0), 0, 0, none),
  (21, 1, .iload_n 2, [], (0, 0, 0), 0, 0, none),
  (22, 1, .ireturn, [], (0, 0, 0), 0, 0, none)]
set_option maxRecDepth 100000 in
theorem vX11_topOf : ab_chk mX11_topOf.1.cls mX11_topOf kX11_topOf = true := by decide +kernel
def mX11_isReady : ab_Md := (yX11_isReady, cX11_isReady, 4, some .boolean, { frames := 0, cells := 0, slots := 0, locals := 0 })
def kX11_isReady : List ab_En := [
  (0, 1, .aload_n 0, [], (0, 0, 0), 0, 0, none),
  (1, 3, .getfield 38, [], (10, 12, 912), 0, 0, none),
  (4, 1, .iload_n 1, [], (0, 0, 0), 0, 0, none),
  (5, 1, .iaload, [], (0, 0, 0), 0, 0, none),
  (6, 3, .ifCond .lt 17, [13], (0, 0, 0), 0, 0, none),
  (9, 1, .aload_n 0, [], (0, 0, 0), 0, 0, none),
  (10, 3, .getfield 68, [], (10, 24, 924), 0, 0, none),
  (13, 1, .aload_n 0, [], (0, 0, 0), 0, 0, none),
  (14, 3, .getfield 38, [], (10, 12, 912), 0, 0, none),
  (17, 1, .iload_n 1, [], (0, 0, 0), 0, 0, none),
  (18, 1, .iaload, [], (0, 0, 0), 0, 0, none),
  (19, 1, .baload, [], (0, 0, 0), 0, 0, none),
  (20, 3, .ifCond .eq 7, [15], (0, 0, 0), 0, 0, none),
  (23, 1, .iconst 1, [], (0, 0, 0), 1, 0, none),
  (24, 3, .goto 4, [16], (0, 0, 0), 0, 0, none),
  (27, 1, .iconst 0, [], (0, 0, 0), 0, 0, none),
  (28, 1, .istore_n 2, [], (0, 0, 0), 0, 0, none),
  (29, 1, .iconst 0, [], (0, 0, 0), 0, 0, none),
  (30, 1, .istore_n 3, [], (0, 0, 0), 0, 0, none),
  (31, 1, .iload_n 3, [], (0, 0, 0), 0, 0, none),
  (32, 1, .aload_n 0, [], (0, 0, 0), 0, 0, none),
  (33, 3, .getfield 44, [], (10, 14, 914), 0, 0, none),
  (36, 1, .iload_n 1, [], (0, 0, 0), 0, 0, none),
  (37, 1, .iaload, [], (0, 0, 0), 0, 0, none),
  (38, 3, .if_icmp .ge 37, [45], (0, 0, 0), 0, 0, none),
  (41, 1, .iload_n 2, [], (0, 0, 0), 0, 0, none),
  (42, 3, .ifCond .eq 25, [41], (0, 0, 0), 0, 0, none),
  (45, 1, .aload_n 0, [], (0, 0, 0), 0, 0, none),
  (46, 3, .getfield 68, [], (10, 24, 924), 0, 0, none),
  (49, 1, .aload_n 0, [], (0, 0, 0), 0, 0, none),
  (50, 3, .getfield 41, [], (10, 13, 913), 0, 0, none),
  (53, 1, .iconst 4, [], (0, 0, 0), 4, 0, none),
  (54, 1, .iload_n 1, [], (0, 0, 0), 0, 0, none),
  (55, 1, .imul, [], (0, 0, 0), 0, 0, none),
  (56, 1, .iload_n 3, [], (0, 0, 0), 0, 0, none),
  (57, 1, .iadd, [], (0, 0, 0), 0, 0, none),
  (58, 1, .iaload, [], (0, 0, 0), 0, 0, none),
  (59, 1, .baload, [], (0, 0, 0), 0, 0, none),
  (60, 3, .ifCond .eq 7, [41], (0, 0, 0), 0, 0, none),
  (63, 1, .iconst 1, [], (0, 0, 0), 1, 0, none),
  (64, 3, .goto 4, [42], (0, 0, 0), 0, 0, none),
  (67, 1, .iconst 0, [], (0, 0, 0), 0, 0, none),
  (68, 1, .istore_n 2, [], (0, 0, 0), 0, 0, none),
  (69, 3, .iinc 3 1, [], (0, 0, 0), 1, 0, none),
  (72, 3, .goto (-41), [19], (0, 0, 0), 0, 0, none),
  (75, 1, .iload_n 2, [], (0, 0, 0), 0, 0, none),
  (76, 1, .ireturn, [], (0, 0, 0), 0, 0, none)]
set_option maxRecDepth 100000 in
theorem vX11_isReady : ab_chk mX11_isReady.1.cls mX11_isReady kX11_isReady = true := by decide +kernel
def mX11_comesFromParent : ab_Md := (yX11_comesFromParent, cX11_comesFromParent, 4, some .boolean, { frames := 0, cells := 0, slots := 0, locals := 0 })
def kX11_comesFromParent : List ab_En := [
  (0, 1, .aload_n 0, [], (0, 0, 0), 0, 0, none),
  (1, 3, .getfield 38, [], (10, 12, 912), 0, 0, none),
  (4, 1, .iload_n 1, [], (0, 0, 0), 0, 0, none),
  (5, 1, .iaload, [], (0, 0, 0), 0, 0, none),
  (6, 1, .istore_n 3, [], (0, 0, 0), 0, 0, none),
  (7, 1, .iload_n 3, [], (0, 0, 0), 0, 0, none),
  (8, 3, .ifCond .lt 26, [21], (0, 0, 0), 0, 0, none),
  (11, 1, .aload_n 0, [], (0, 0, 0), 0, 0, none),
  (12, 3, .getfield 65, [], (10, 23, 923), 0, 0, none),
  (15, 2, .bipush 120, [], (0, 0, 0), 120, 0, none),
  (17, 1, .iload_n 3, [], (0, 0, 0), 0, 0, none),
  (18, 1, .imul, [], (0, 0, 0), 0, 0, none),
  (19, 1, .iload_n 2, [], (0, 0, 0), 0, 0, none),
  (20, 1, .iadd, [], (0, 0, 0), 0, 0, none),
  (21, 1, .baload, [], (0, 0, 0), 0, 0, none),
  (22, 3, .ifCond .eq 12, [21], (0, 0, 0), 0, 0, none),
  (25, 1, .aload_n 0, [], (0, 0, 0), 0, 0, none),
  (26, 3, .getfield 59, [], (10, 20, 920), 0, 0, none),
  (29, 1, .iload_n 2, [], (0, 0, 0), 0, 0, none),
  (30, 1, .iaload, [], (0, 0, 0), 0, 0, none),
  (31, 3, .ifCond .ne 5, [23], (0, 0, 0), 0, 0, none),
  (34, 1, .iconst 0, [], (0, 0, 0), 0, 0, none),
  (35, 1, .ireturn, [], (0, 0, 0), 0, 0, none),
  (36, 1, .aload_n 0, [], (0, 0, 0), 0, 0, none),
  (37, 3, .getfield 59, [], (10, 20, 920), 0, 0, none),
  (40, 1, .iload_n 2, [], (0, 0, 0), 0, 0, none),
  (41, 1, .iaload, [], (0, 0, 0), 0, 0, none),
  (42, 1, .iconst 1, [], (0, 0, 0), 1, 0, none),
  (43, 3, .if_icmp .ne 23, [41], (0, 0, 0), 0, 0, none),
  (46, 1, .aload_n 0, [], (0, 0, 0), 0, 0, none),
  (47, 3, .getfield 23, [], (10, 7, 907), 0, 0, none),
  (50, 1, .aload_n 0, [], (0, 0, 0), 0, 0, none),
  (51, 3, .getfield 50, [], (10, 17, 917), 0, 0, none),
  (54, 1, .iload_n 2, [], (0, 0, 0), 0, 0, none),
  (55, 1, .iaload, [], (0, 0, 0), 0, 0, none),
  (56, 1, .iaload, [], (0, 0, 0), 0, 0, none),
  (57, 1, .aload_n 0, [], (0, 0, 0), 0, 0, none),
  (58, 3, .getfield 23, [], (10, 7, 907), 0, 0, none),
  (61, 1, .iload_n 1, [], (0, 0, 0), 0, 0, none),
  (62, 1, .iaload, [], (0, 0, 0), 0, 0, none),
  (63, 3, .if_icmp .ne 7, [43], (0, 0, 0), 0, 0, none),
  (66, 1, .iconst 1, [], (0, 0, 0), 1, 0, none),
  (67, 3, .goto 4, [44], (0, 0, 0), 0, 0, none),
  (70, 1, .iconst 0, [], (0, 0, 0), 0, 0, none),
  (71, 1, .ireturn, [], (0, 0, 0), 0, 0, none)]
set_option maxRecDepth 100000 in
theorem vX11_comesFromParent : ab_chk mX11_comesFromParent.1.cls mX11_comesFromParent kX11_comesFromParent = true := by decide +kernel
def mX11_isOfFace : ab_Md := (yX11_isOfFace, cX11_isOfFace, 5, some .boolean, { frames := 0, cells := 0, slots := 0, locals := 0 })
def kX11_isOfFace : List ab_En := [
  (0, 1, .iconst 0, [], (0, 0, 0), 0, 0, none),
  (1, 1, .istore_n 3, [], (0, 0, 0), 0, 0, none),
  (2, 1, .iconst 0, [], (0, 0, 0), 0, 0, none),
  (3, 2, .istore 4, [], (0, 0, 0), 0, 0, none),
  (5, 2, .iload 4, [], (0, 0, 0), 0, 0, none),
  (7, 1, .aload_n 0, [], (0, 0, 0), 0, 0, none),
  (8, 3, .getfield 44, [], (10, 14, 914), 0, 0, none),
  (11, 1, .iload_n 1, [], (0, 0, 0), 0, 0, none),
  (12, 1, .iaload, [], (0, 0, 0), 0, 0, none),
  (13, 3, .if_icmp .ge 33, [30], (0, 0, 0), 0, 0, none),
  (16, 1, .iload_n 3, [], (0, 0, 0), 0, 0, none),
  (17, 1, .aload_n 0, [], (0, 0, 0), 0, 0, none),
  (18, 3, .getfield 65, [], (10, 23, 923), 0, 0, none),
  (21, 2, .bipush 120, [], (0, 0, 0), 120, 0, none),
  (23, 1, .aload_n 0, [], (0, 0, 0), 0, 0, none),
  (24, 3, .getfield 41, [], (10, 13, 913), 0, 0, none),
  (27, 1, .iconst 4, [], (0, 0, 0), 4, 0, none),
  (28, 1, .iload_n 1, [], (0, 0, 0), 0, 0, none),
  (29, 1, .imul, [], (0, 0, 0), 0, 0, none),
  (30, 2, .iload 4, [], (0, 0, 0), 0, 0, none),
  (32, 1, .iadd, [], (0, 0, 0), 0, 0, none),
  (33, 1, .iaload, [], (0, 0, 0), 0, 0, none),
  (34, 1, .imul, [], (0, 0, 0), 0, 0, none),
  (35, 1, .iload_n 2, [], (0, 0, 0), 0, 0, none),
  (36, 1, .iadd, [], (0, 0, 0), 0, 0, none),
  (37, 1, .baload, [], (0, 0, 0), 0, 0, none),
  (38, 1, .ior, [], (0, 0, 0), 0, 0, none),
  (39, 1, .istore_n 3, [], (0, 0, 0), 0, 0, none),
  (40, 3, .iinc 4 1, [], (0, 0, 0), 1, 0, none),
  (43, 3, .goto (-38), [4], (0, 0, 0), 0, 0, none),
  (46, 1, .iload_n 3, [], (0, 0, 0), 0, 0, none),
  (47, 1, .ireturn, [], (0, 0, 0), 0, 0, none)]
set_option maxRecDepth 100000 in
theorem vX11_isOfFace : ab_chk mX11_isOfFace.1.cls mX11_isOfFace kX11_isOfFace = true := by decide +kernel
def mX11_isPlain : ab_Md := (yX11_isPlain, cX11_isPlain, 2, some .boolean, { frames := 1, cells := 0, slots := 0, locals := 21 })
def kX11_isPlain : List ab_En := [
  (0, 1, .aload_n 0, [], (0, 0, 0), 0, 0, none),
  (1, 3, .getfield 59, [], (10, 20, 920), 0, 0, none),
  (4, 1, .iload_n 1, [], (0, 0, 0), 0, 0, none),
  (5, 1, .iaload, [], (0, 0, 0), 0, 0, none),
  (6, 3, .ifCond .eq 20, [14], (0, 0, 0), 0, 0, none),
  (9, 1, .aload_n 0, [], (0, 0, 0), 0, 0, none),
  (10, 3, .getfield 62, [], (10, 21, 921), 0, 0, none),
  (13, 1, .iload_n 1, [], (0, 0, 0), 0, 0, none),
  (14, 1, .iaload, [], (0, 0, 0), 0, 0, none),
  (15, 1, .iconst 1, [], (0, 0, 0), 1, 0, none),
  (16, 3, .invokestatic 103, [1031, 79, 1033, 1032], (0, 0, 0), 0, 0, some (mX11_has, 2)),
  (19, 3, .ifCond .ne 7, [14], (0, 0, 0), 0, 0, none),
  (22, 1, .iconst 1, [], (0, 0, 0), 1, 0, none),
  (23, 3, .goto 4, [15], (0, 0, 0), 0, 0, none),
  (26, 1, .iconst 0, [], (0, 0, 0), 0, 0, none),
  (27, 1, .ireturn, [], (0, 0, 0), 0, 0, none)]
set_option maxRecDepth 100000 in
theorem vX11_isPlain : ab_chk mX11_isPlain.1.cls mX11_isPlain kX11_isPlain = true := by decide +kernel
def mX11_isBehind : ab_Md := (yX11_isBehind, cX11_isBehind, 5, some .boolean, { frames := 2, cells := 0, slots := 0, locals := 42 })
def kX11_isBehind : List ab_En := [
  (0, 1, .iconst 0, [], (0, 0, 0), 0, 0, none),
  (1, 1, .istore_n 3, [], (0, 0, 0), 0, 0, none),
  (2, 1, .iload_n 3, [], (0, 0, 0), 0, 0, none),
  (3, 1, .aload_n 0, [], (0, 0, 0), 0, 0, none),
  (4, 3, .getfield 93, [], (10, 16, 916), 0, 0, none),
  (7, 3, .if_icmp .ge 153, [91], (0, 0, 0), 0, 0, none),
  (10, 1, .aload_n 0, [], (0, 0, 0), 0, 0, none),
  (11, 3, .getfield 53, [], (10, 18, 918), 0, 0, none),
  (14, 1, .iload_n 3, [], (0, 0, 0), 0, 0, none),
  (15, 1, .iaload, [], (0, 0, 0), 0, 0, none),
  (16, 1, .iconst 1, [], (0, 0, 0), 1, 0, none),
  (17, 3, .if_icmp .ne 137, [89], (0, 0, 0), 0, 0, none),
  (20, 1, .aload_n 0, [], (0, 0, 0), 0, 0, none),
  (21, 3, .getfield 56, [], (10, 19, 919), 0, 0, none),
  (24, 1, .iload_n 3, [], (0, 0, 0), 0, 0, none),
  (25, 1, .iaload, [], (0, 0, 0), 0, 0, none),
  (26, 1, .aload_n 0, [], (0, 0, 0), 0, 0, none),
  (27, 3, .getfield 56, [], (10, 19, 919), 0, 0, none),
  (30, 1, .iload_n 2, [], (0, 0, 0), 0, 0, none),
  (31, 1, .iaload, [], (0, 0, 0), 0, 0, none),
  (32, 3, .if_icmp .eq 6, [22], (0, 0, 0), 0, 0, none),
  (35, 3, .goto 119, [89], (0, 0, 0), 0, 0, none),
  (38, 1, .aload_n 0, [], (0, 0, 0), 0, 0, none),
  (39, 3, .getfield 29, [], (10, 9, 909), 0, 0, none),
  (42, 1, .aload_n 0, [], (0, 0, 0), 0, 0, none),
  (43, 3, .getfield 50, [], (10, 17, 917), 0, 0, none),
  (46, 1, .iload_n 3, [], (0, 0, 0), 0, 0, none),
  (47, 1, .iaload, [], (0, 0, 0), 0, 0, none),
  (48, 1, .iaload, [], (0, 0, 0), 0, 0, none),
  (49, 3, .ifCond .ne 27, [44], (0, 0, 0), 0, 0, none),
  (52, 1, .aload_n 0, [], (0, 0, 0), 0, 0, none),
  (53, 3, .getfield 62, [], (10, 21, 921), 0, 0, none),
  (56, 1, .iload_n 3, [], (0, 0, 0), 0, 0, none),
  (57, 1, .iaload, [], (0, 0, 0), 0, 0, none),
  (58, 1, .iconst 4, [], (0, 0, 0), 4, 0, none),
  (59, 3, .invokestatic 103, [1031, 79, 1033, 1032], (0, 0, 0), 0, 0, some (mX11_has, 2)),
  (62, 3, .ifCond .ne 14, [44], (0, 0, 0), 0, 0, none),
  (65, 1, .aload_n 0, [], (0, 0, 0), 0, 0, none),
  (66, 1, .iload_n 1, [], (0, 0, 0), 0, 0, none),
  (67, 1, .iload_n 3, [], (0, 0, 0), 0, 0, none),
  (68, 3, .invokevirtual 155, [1090, 79, 1093, 1092, 44], (10, 0, 0), 0, 0, some (mX11_comesFromParent, 2)),
  (71, 3, .ifCond .eq 5, [44], (0, 0, 0), 0, 0, none),
  (74, 1, .iconst 1, [], (0, 0, 0), 1, 0, none),
  (75, 1, .ireturn, [], (0, 0, 0), 0, 0, none),
  (76, 1, .aload_n 0, [], (0, 0, 0), 0, 0, none),
  (77, 3, .getfield 38, [], (10, 12, 912), 0, 0, none),
  (80, 1, .iload_n 1, [], (0, 0, 0), 0, 0, none),
  (81, 1, .iaload, [], (0, 0, 0), 0, 0, none),
  (82, 3, .ifCond .lt 22, [61], (0, 0, 0), 0, 0, none),
  (85, 1, .aload_n 0, [], (0, 0, 0), 0, 0, none),
  (86, 3, .getfield 65, [], (10, 23, 923), 0, 0, none),
  (89, 2, .bipush 120, [], (0, 0, 0), 120, 0, none),
  (91, 1, .aload_n 0, [], (0, 0, 0), 0, 0, none),
  (92, 3, .getfield 38, [], (10, 12, 912), 0, 0, none),
  (95, 1, .iload_n 1, [], (0, 0, 0), 0, 0, none),
  (96, 1, .iaload, [], (0, 0, 0), 0, 0, none),
  (97, 1, .imul, [], (0, 0, 0), 0, 0, none),
  (98, 1, .iload_n 3, [], (0, 0, 0), 0, 0, none),
  (99, 1, .iadd, [], (0, 0, 0), 0, 0, none),
  (100, 1, .baload, [], (0, 0, 0), 0, 0, none),
  (101, 3, .ifCond .ne 12, [66], (0, 0, 0), 0, 0, none),
  (104, 1, .aload_n 0, [], (0, 0, 0), 0, 0, none),
  (105, 1, .iload_n 1, [], (0, 0, 0), 0, 0, none),
  (106, 1, .iload_n 3, [], (0, 0, 0), 0, 0, none),
  (107, 3, .invokevirtual 158, [1094, 79, 1097, 1096, 45], (10, 0, 0), 0, 0, some (mX11_isOfFace, 2)),
  (110, 3, .ifCond .eq 7, [68], (0, 0, 0), 0, 0, none),
  (113, 1, .iconst 1, [], (0, 0, 0), 1, 0, none),
  (114, 3, .goto 4, [69], (0, 0, 0), 0, 0, none),
  (117, 1, .iconst 0, [], (0, 0, 0), 0, 0, none),
  (118, 2, .istore 4, [], (0, 0, 0), 0, 0, none),
  (120, 1, .aload_n 0, [], (0, 0, 0), 0, 0, none),
  (121, 1, .iload_n 3, [], (0, 0, 0), 0, 0, none),
  (122, 3, .invokevirtual 161, [1098, 79, 1101, 1100, 46], (10, 0, 0), 0, 0, some (mX11_isPlain, 1)),
  (125, 3, .ifCond .eq 29, [89], (0, 0, 0), 0, 0, none),
  (128, 1, .aload_n 0, [], (0, 0, 0), 0, 0, none),
  (129, 1, .aload_n 0, [], (0, 0, 0), 0, 0, none),
  (130, 3, .getfield 50, [], (10, 17, 917), 0, 0, none),
  (133, 1, .iload_n 3, [], (0, 0, 0), 0, 0, none),
  (134, 1, .iaload, [], (0, 0, 0), 0, 0, none),
  (135, 1, .aload_n 0, [], (0, 0, 0), 0, 0, none),
  (136, 3, .getfield 50, [], (10, 17, 917), 0, 0, none),
  (139, 1, .iload_n 2, [], (0, 0, 0), 0, 0, none),
  (140, 1, .iaload, [], (0, 0, 0), 0, 0, none),
  (141, 3, .invokevirtual 121, [1042, 79, 1045, 1044, 36], (10, 0, 0), 0, 0, some (mX11_isBelow, 2)),
  (144, 3, .ifCond .eq 10, [89], (0, 0, 0), 0, 0, none),
  (147, 2, .iload 4, [], (0, 0, 0), 0, 0, none),
  (149, 3, .ifCond .eq 5, [89], (0, 0, 0), 0, 0, none),
  (152, 1, .iconst 1, [], (0, 0, 0), 1, 0, none),
  (153, 1, .ireturn, [], (0, 0, 0), 0, 0, none),
  (154, 3, .iinc 3 1, [], (0, 0, 0), 1, 0, none),
  (157, 3, .goto (-155), [2], (0, 0, 0), 0, 0, none),
  (160, 1, .iconst 0, [], (0, 0, 0), 0, 0, none),
  (161, 1, .ireturn, [], (0, 0, 0), 0, 0, none)]
set_option maxRecDepth 100000 in
theorem vX11_isBehind : ab_chk mX11_isBehind.1.cls mX11_isBehind kX11_isBehind = true := by decide +kernel
def mX11_findMembers : ab_Md := (yX11_findMembers, cX11_findMembers, 3, none, { frames := 3, cells := 0, slots := 0, locals := 66 })
def kX11_findMembers : List ab_En := [
  (0, 1, .iconst 0, [], (0, 0, 0), 0, 0, none),
  (1, 1, .istore_n 2, [], (0, 0, 0), 0, 0, none),
  (2, 1, .iload_n 2, [], (0, 0, 0), 0, 0, none),
  (3, 1, .aload_n 0, [], (0, 0, 0), 0, 0, none),
  (4, 3, .getfield 93, [], (10, 16, 916), 0, 0, none),
  (7, 3, .if_icmp .ge 74, [48], (0, 0, 0), 0, 0, none),
  (10, 1, .aload_n 0, [], (0, 0, 0), 0, 0, none),
  (11, 3, .getfield 65, [], (10, 23, 923), 0, 0, none),
  (14, 2, .bipush 120, [], (0, 0, 0), 120, 0, none),
  (16, 1, .iload_n 1, [], (0, 0, 0), 0, 0, none),
  (17, 1, .imul, [], (0, 0, 0), 0, 0, none),
  (18, 1, .iload_n 2, [], (0, 0, 0), 0, 0, none),
  (19, 1, .iadd, [], (0, 0, 0), 0, 0, none),
  (20, 1, .aload_n 0, [], (0, 0, 0), 0, 0, none),
  (21, 3, .getfield 50, [], (10, 17, 917), 0, 0, none),
  (24, 1, .iload_n 2, [], (0, 0, 0), 0, 0, none),
  (25, 1, .iaload, [], (0, 0, 0), 0, 0, none),
  (26, 1, .iload_n 1, [], (0, 0, 0), 0, 0, none),
  (27, 3, .if_icmp .eq 42, [42], (0, 0, 0), 0, 0, none),
  (30, 1, .aload_n 0, [], (0, 0, 0), 0, 0, none),
  (31, 3, .getfield 53, [], (10, 18, 918), 0, 0, none),
  (34, 1, .iload_n 2, [], (0, 0, 0), 0, 0, none),
  (35, 1, .iaload, [], (0, 0, 0), 0, 0, none),
  (36, 1, .iconst 2, [], (0, 0, 0), 2, 0, none),
  (37, 3, .if_icmp .eq 36, [44], (0, 0, 0), 0, 0, none),
  (40, 1, .aload_n 0, [], (0, 0, 0), 0, 0, none),
  (41, 1, .iload_n 1, [], (0, 0, 0), 0, 0, none),
  (42, 1, .aload_n 0, [], (0, 0, 0), 0, 0, none),
  (43, 3, .getfield 53, [], (10, 18, 918), 0, 0, none),
  (46, 1, .iload_n 2, [], (0, 0, 0), 0, 0, none),
  (47, 1, .iaload, [], (0, 0, 0), 0, 0, none),
  (48, 1, .aload_n 0, [], (0, 0, 0), 0, 0, none),
  (49, 3, .getfield 56, [], (10, 19, 919), 0, 0, none),
  (52, 1, .iload_n 2, [], (0, 0, 0), 0, 0, none),
  (53, 1, .iaload, [], (0, 0, 0), 0, 0, none),
  (54, 3, .invokevirtual 131, [1062, 79, 1065, 1064, 39], (10, 0, 0), 0, 0, some (mX11_declared, 3)),
  (57, 3, .ifCond .ge 16, [44], (0, 0, 0), 0, 0, none),
  (60, 1, .aload_n 0, [], (0, 0, 0), 0, 0, none),
  (61, 1, .iload_n 1, [], (0, 0, 0), 0, 0, none),
  (62, 1, .iload_n 2, [], (0, 0, 0), 0, 0, none),
  (63, 3, .invokevirtual 155, [1090, 79, 1093, 1092, 44], (10, 0, 0), 0, 0, some (mX11_comesFromParent, 2)),
  (66, 3, .ifCond .eq 7, [44], (0, 0, 0), 0, 0, none),
  (69, 1, .iconst 1, [], (0, 0, 0), 1, 0, none),
  (70, 3, .goto 4, [45], (0, 0, 0), 0, 0, none),
  (73, 1, .iconst 0, [], (0, 0, 0), 0, 0, none),
  (74, 1, .bastore, [], (0, 0, 0), 0, 0, none),
  (75, 3, .iinc 2 1, [], (0, 0, 0), 1, 0, none),
  (78, 3, .goto (-76), [2], (0, 0, 0), 0, 0, none),
  (81, 1, .iconst 0, [], (0, 0, 0), 0, 0, none),
  (82, 1, .istore_n 2, [], (0, 0, 0), 0, 0, none),
  (83, 1, .iload_n 2, [], (0, 0, 0), 0, 0, none),
  (84, 1, .aload_n 0, [], (0, 0, 0), 0, 0, none),
  (85, 3, .getfield 93, [], (10, 16, 916), 0, 0, none),
  (88, 3, .if_icmp .ge 109, [115], (0, 0, 0), 0, 0, none),
  (91, 1, .aload_n 0, [], (0, 0, 0), 0, 0, none),
  (92, 3, .getfield 65, [], (10, 23, 923), 0, 0, none),
  (95, 2, .bipush 120, [], (0, 0, 0), 120, 0, none),
  (97, 1, .iload_n 1, [], (0, 0, 0), 0, 0, none),
  (98, 1, .imul, [], (0, 0, 0), 0, 0, none),
  (99, 1, .iload_n 2, [], (0, 0, 0), 0, 0, none),
  (100, 1, .iadd, [], (0, 0, 0), 0, 0, none),
  (101, 1, .baload, [], (0, 0, 0), 0, 0, none),
  (102, 3, .ifCond .ne 82, [108], (0, 0, 0), 0, 0, none),
  (105, 1, .aload_n 0, [], (0, 0, 0), 0, 0, none),
  (106, 3, .getfield 53, [], (10, 18, 918), 0, 0, none),
  (109, 1, .iload_n 2, [], (0, 0, 0), 0, 0, none),
  (110, 1, .iaload, [], (0, 0, 0), 0, 0, none),
  (111, 1, .iconst 2, [], (0, 0, 0), 2, 0, none),
  (112, 3, .if_icmp .eq 72, [108], (0, 0, 0), 0, 0, none),
  (115, 1, .aload_n 0, [], (0, 0, 0), 0, 0, none),
  (116, 1, .iload_n 1, [], (0, 0, 0), 0, 0, none),
  (117, 1, .aload_n 0, [], (0, 0, 0), 0, 0, none),
  (118, 3, .getfield 53, [], (10, 18, 918), 0, 0, none),
  (121, 1, .iload_n 2, [], (0, 0, 0), 0, 0, none),
  (122, 1, .iaload, [], (0, 0, 0), 0, 0, none),
  (123, 1, .aload_n 0, [], (0, 0, 0), 0, 0, none),
  (124, 3, .getfield 56, [], (10, 19, 919), 0, 0, none),
  (127, 1, .iload_n 2, [], (0, 0, 0), 0, 0, none),
  (128, 1, .iaload, [], (0, 0, 0), 0, 0, none),
  (129, 3, .invokevirtual 131, [1062, 79, 1065, 1064, 39], (10, 0, 0), 0, 0, some (mX11_declared, 3)),
  (132, 3, .ifCond .ge 52, [108], (0, 0, 0), 0, 0, none),
  (135, 1, .aload_n 0, [], (0, 0, 0), 0, 0, none),
  (136, 1, .iload_n 1, [], (0, 0, 0), 0, 0, none),
  (137, 1, .iload_n 2, [], (0, 0, 0), 0, 0, none),
  (138, 3, .invokevirtual 158, [1094, 79, 1097, 1096, 45], (10, 0, 0), 0, 0, some (mX11_isOfFace, 2)),
  (141, 3, .ifCond .eq 43, [108], (0, 0, 0), 0, 0, none),
  (144, 1, .aload_n 0, [], (0, 0, 0), 0, 0, none),
  (145, 3, .getfield 74, [], (10, 26, 926), 0, 0, none),
  (148, 1, .iload_n 2, [], (0, 0, 0), 0, 0, none),
  (149, 1, .aload_n 0, [], (0, 0, 0), 0, 0, none),
  (150, 3, .getfield 53, [], (10, 18, 918), 0, 0, none),
  (153, 1, .iload_n 2, [], (0, 0, 0), 0, 0, none),
  (154, 1, .iaload, [], (0, 0, 0), 0, 0, none),
  (155, 3, .ifCond .eq 20, [103], (0, 0, 0), 0, 0, none),
  (158, 1, .aload_n 0, [], (0, 0, 0), 0, 0, none),
  (159, 1, .iload_n 2, [], (0, 0, 0), 0, 0, none),
  (160, 3, .invokevirtual 161, [1098, 79, 1101, 1100, 46], (10, 0, 0), 0, 0, some (mX11_isPlain, 1)),
  (163, 3, .ifCond .eq 16, [105], (0, 0, 0), 0, 0, none),
  (166, 1, .aload_n 0, [], (0, 0, 0), 0, 0, none),
  (167, 1, .iload_n 1, [], (0, 0, 0), 0, 0, none),
  (168, 1, .iload_n 2, [], (0, 0, 0), 0, 0, none),
  (169, 3, .invokevirtual 164, [1102, 79, 1105, 1104, 47], (10, 0, 0), 0, 0, some (mX11_isBehind, 2)),
  (172, 3, .ifCond .ne 7, [105], (0, 0, 0), 0, 0, none),
  (175, 1, .iconst 1, [], (0, 0, 0), 1, 0, none),
  (176, 3, .goto 4, [106], (0, 0, 0), 0, 0, none),
  (179, 1, .iconst 0, [], (0, 0, 0), 0, 0, none),
  (180, 1, .bastore, [], (0, 0, 0), 0, 0, none),
  (181, 3, .goto 10, [113], (0, 0, 0), 0, 0, none),
  (184, 1, .aload_n 0, [], (0, 0, 0), 0, 0, none),
  (185, 3, .getfield 74, [], (10, 26, 926), 0, 0, none),
  (188, 1, .iload_n 2, [], (0, 0, 0), 0, 0, none),
  (189, 1, .iconst 0, [], (0, 0, 0), 0, 0, none),
  (190, 1, .bastore, [], (0, 0, 0), 0, 0, none),
  (191, 3, .iinc 2 1, [], (0, 0, 0), 1, 0, none),
  (194, 3, .goto (-111), [50], (0, 0, 0), 0, 0, none),
  (197, 1, .iconst 0, [], (0, 0, 0), 0, 0, none),
  (198, 1, .istore_n 2, [], (0, 0, 0), 0, 0, none),
  (199, 1, .iload_n 2, [], (0, 0, 0), 0, 0, none),
  (200, 1, .aload_n 0, [], (0, 0, 0), 0, 0, none),
  (201, 3, .getfield 93, [], (10, 16, 916), 0, 0, none),
  (204, 3, .if_icmp .ge 29, [138], (0, 0, 0), 0, 0, none),
  (207, 1, .aload_n 0, [], (0, 0, 0), 0, 0, none),
  (208, 3, .getfield 65, [], (10, 23, 923), 0, 0, none),
  (211, 2, .bipush 120, [], (0, 0, 0), 120, 0, none),
  (213, 1, .iload_n 1, [], (0, 0, 0), 0, 0, none),
  (214, 1, .imul, [], (0, 0, 0), 0, 0, none),
  (215, 1, .iload_n 2, [], (0, 0, 0), 0, 0, none),
  (216, 1, .iadd, [], (0, 0, 0), 0, 0, none),
  (217, 1, .dup2, [], (0, 0, 0), 0, 0, none),
  (218, 1, .baload, [], (0, 0, 0), 0, 0, none),
  (219, 1, .aload_n 0, [], (0, 0, 0), 0, 0, none),
  (220, 3, .getfield 74, [], (10, 26, 926), 0, 0, none),
  (223, 1, .iload_n 2, [], (0, 0, 0), 0, 0, none),
  (224, 1, .baload, [], (0, 0, 0), 0, 0, none),
  (225, 1, .ior, [], (0, 0, 0), 0, 0, none),
  (226, 1, .bastore, [], (0, 0, 0), 0, 0, none),
  (227, 3, .iinc 2 1, [], (0, 0, 0), 1, 0, none),
  (230, 3, .goto (-31), [117], (0, 0, 0), 0, 0, none),
  (233, 1, .return_, [], (0, 0, 0), 0, 0, none)]
set_option maxRecDepth 100000 in
theorem vX11_findMembers : ab_chk mX11_findMembers.1.cls mX11_findMembers kX11_findMembers = true := by decide +kernel
def mX11_canOver : ab_Md := (yX11_canOver, cX11_canOver, 3, some .boolean, { frames := 2, cells := 0, slots := 0, locals := 42 })
def kX11_canOver : List ab_En := [
  (0, 1, .aload_n 0, [], (0, 0, 0), 0, 0, none),
  (1, 3, .getfield 53, [], (10, 18, 918), 0, 0, none),
  (4, 1, .iload_n 1, [], (0, 0, 0), 0, 0, none),
  (5, 1, .iaload, [], (0, 0, 0), 0, 0, none),
  (6, 1, .iconst 1, [], (0, 0, 0), 1, 0, none),
  (7, 3, .if_icmp .ne 67, [42], (0, 0, 0), 0, 0, none),
  (10, 1, .aload_n 0, [], (0, 0, 0), 0, 0, none),
  (11, 3, .getfield 53, [], (10, 18, 918), 0, 0, none),
  (14, 1, .iload_n 2, [], (0, 0, 0), 0, 0, none),
  (15, 1, .iaload, [], (0, 0, 0), 0, 0, none),
  (16, 1, .iconst 1, [], (0, 0, 0), 1, 0, none),
  (17, 3, .if_icmp .ne 57, [42], (0, 0, 0), 0, 0, none),
  (20, 1, .aload_n 0, [], (0, 0, 0), 0, 0, none),
  (21, 3, .getfield 56, [], (10, 19, 919), 0, 0, none),
  (24, 1, .iload_n 1, [], (0, 0, 0), 0, 0, none),
  (25, 1, .iaload, [], (0, 0, 0), 0, 0, none),
  (26, 1, .aload_n 0, [], (0, 0, 0), 0, 0, none),
  (27, 3, .getfield 56, [], (10, 19, 919), 0, 0, none),
  (30, 1, .iload_n 2, [], (0, 0, 0), 0, 0, none),
  (31, 1, .iaload, [], (0, 0, 0), 0, 0, none),
  (32, 3, .if_icmp .ne 42, [42], (0, 0, 0), 0, 0, none),
  (35, 1, .aload_n 0, [], (0, 0, 0), 0, 0, none),
  (36, 1, .iload_n 1, [], (0, 0, 0), 0, 0, none),
  (37, 3, .invokevirtual 161, [1098, 79, 1101, 1100, 46], (10, 0, 0), 0, 0, some (mX11_isPlain, 1)),
  (40, 3, .ifCond .eq 34, [42], (0, 0, 0), 0, 0, none),
  (43, 1, .aload_n 0, [], (0, 0, 0), 0, 0, none),
  (44, 1, .iload_n 2, [], (0, 0, 0), 0, 0, none),
  (45, 3, .invokevirtual 161, [1098, 79, 1101, 1100, 46], (10, 0, 0), 0, 0, some (mX11_isPlain, 1)),
  (48, 3, .ifCond .eq 26, [42], (0, 0, 0), 0, 0, none),
  (51, 1, .aload_n 0, [], (0, 0, 0), 0, 0, none),
  (52, 1, .aload_n 0, [], (0, 0, 0), 0, 0, none),
  (53, 3, .getfield 50, [], (10, 17, 917), 0, 0, none),
  (56, 1, .iload_n 1, [], (0, 0, 0), 0, 0, none),
  (57, 1, .iaload, [], (0, 0, 0), 0, 0, none),
  (58, 1, .aload_n 0, [], (0, 0, 0), 0, 0, none),
  (59, 3, .getfield 50, [], (10, 17, 917), 0, 0, none),
  (62, 1, .iload_n 2, [], (0, 0, 0), 0, 0, none),
  (63, 1, .iaload, [], (0, 0, 0), 0, 0, none),
  (64, 3, .invokevirtual 121, [1042, 79, 1045, 1044, 36], (10, 0, 0), 0, 0, some (mX11_isBelow, 2)),
  (67, 3, .ifCond .eq 7, [42], (0, 0, 0), 0, 0, none),
  (70, 1, .iconst 1, [], (0, 0, 0), 1, 0, none),
  (71, 3, .goto 4, [43], (0, 0, 0), 0, 0, none),
  (74, 1, .iconst 0, [], (0, 0, 0), 0, 0, none),
  (75, 1, .ireturn, [], (0, 0, 0), 0, 0, none)]
set_option maxRecDepth 100000 in
theorem vX11_canOver : ab_chk mX11_canOver.1.cls mX11_canOver kX11_canOver = true := by decide +kernel
def mX11_isOverBy : ab_Md := (yX11_isOverBy, cX11_isOverBy, 5, some .boolean, { frames := 0, cells := 0, slots := 0, locals := 0 })
def kX11_isOverBy : List ab_En := [
  (0, 1, .iconst 0, [], (0, 0, 0), 0, 0, none),
  (1, 1, .istore_n 3, [], (0, 0, 0), 0, 0, none),
  (2, 1, .iconst 0, [], (0, 0, 0), 0, 0, none),
  (3, 2, .istore 4, [], (0, 0, 0), 0, 0, none),
  (5, 2, .iload 4, [], (0, 0, 0), 0, 0, none),
  (7, 1, .aload_n 0, [], (0, 0, 0), 0, 0, none),
  (8, 3, .getfield 93, [], (10, 16, 916), 0, 0, none),
  (11, 3, .if_icmp .ge 64, [42], (0, 0, 0), 0, 0, none),
  (14, 1, .iload_n 3, [], (0, 0, 0), 0, 0, none),
  (15, 3, .ifCond .ne 60, [42], (0, 0, 0), 0, 0, none),
  (18, 1, .aload_n 0, [], (0, 0, 0), 0, 0, none),
  (19, 3, .getfield 71, [], (10, 25, 925), 0, 0, none),
  (22, 2, .bipush 120, [], (0, 0, 0), 120, 0, none),
  (24, 1, .iload_n 1, [], (0, 0, 0), 0, 0, none),
  (25, 1, .imul, [], (0, 0, 0), 0, 0, none),
  (26, 2, .iload 4, [], (0, 0, 0), 0, 0, none),
  (28, 1, .iadd, [], (0, 0, 0), 0, 0, none),
  (29, 1, .baload, [], (0, 0, 0), 0, 0, none),
  (30, 3, .ifCond .eq 37, [38], (0, 0, 0), 0, 0, none),
  (33, 1, .aload_n 0, [], (0, 0, 0), 0, 0, none),
  (34, 3, .getfield 71, [], (10, 25, 925), 0, 0, none),
  (37, 2, .bipush 120, [], (0, 0, 0), 120, 0, none),
  (39, 2, .iload 4, [], (0, 0, 0), 0, 0, none),
  (41, 1, .imul, [], (0, 0, 0), 0, 0, none),
  (42, 1, .iload_n 2, [], (0, 0, 0), 0, 0, none),
  (43, 1, .iadd, [], (0, 0, 0), 0, 0, none),
  (44, 1, .baload, [], (0, 0, 0), 0, 0, none),
  (45, 3, .ifCond .eq 22, [38], (0, 0, 0), 0, 0, none),
  (48, 1, .aload_n 0, [], (0, 0, 0), 0, 0, none),
  (49, 3, .getfield 29, [], (10, 9, 909), 0, 0, none),
  (52, 1, .aload_n 0, [], (0, 0, 0), 0, 0, none),
  (53, 3, .getfield 50, [], (10, 17, 917), 0, 0, none),
  (56, 2, .iload 4, [], (0, 0, 0), 0, 0, none),
  (58, 1, .iaload, [], (0, 0, 0), 0, 0, none),
  (59, 1, .iaload, [], (0, 0, 0), 0, 0, none),
  (60, 3, .ifCond .ne 7, [38], (0, 0, 0), 0, 0, none),
  (63, 1, .iconst 1, [], (0, 0, 0), 1, 0, none),
  (64, 3, .goto 4, [39], (0, 0, 0), 0, 0, none),
  (67, 1, .iconst 0, [], (0, 0, 0), 0, 0, none),
  (68, 1, .istore_n 3, [], (0, 0, 0), 0, 0, none),
  (69, 3, .iinc 4 1, [], (0, 0, 0), 1, 0, none),
  (72, 3, .goto (-67), [4], (0, 0, 0), 0, 0, none),
  (75, 1, .iload_n 3, [], (0, 0, 0), 0, 0, none),
  (76, 1, .ireturn, [], (0, 0, 0), 0, 0, none)]
set_option maxRecDepth 100000 in
theorem vX11_isOverBy : ab_chk mX11_isOverBy.1.cls mX11_isOverBy kX11_isOverBy = true := by decide +kernel
def mX11_findOvers : ab_Md := (yX11_findOvers, cX11_findOvers, 4, none, { frames := 3, cells := 0, slots := 0, locals := 64 })
def kX11_findOvers : List ab_En := [
  (0, 1, .iconst 0, [], (0, 0, 0), 0, 0, none),
  (1, 1, .istore_n 1, [], (0, 0, 0), 0, 0, none),
  (2, 1, .iload_n 1, [], (0, 0, 0), 0, 0, none),
  (3, 1, .aload_n 0, [], (0, 0, 0), 0, 0, none),
  (4, 3, .getfield 93, [], (10, 16, 916), 0, 0, none),
  (7, 3, .if_icmp .ge 85, [53], (0, 0, 0), 0, 0, none),
  (10, 1, .iconst 0, [], (0, 0, 0), 0, 0, none),
  (11, 1, .istore_n 2, [], (0, 0, 0), 0, 0, none),
  (12, 1, .iload_n 2, [], (0, 0, 0), 0, 0, none),
  (13, 1, .aload_n 0, [], (0, 0, 0), 0, 0, none),
  (14, 3, .getfield 93, [], (10, 16, 916), 0, 0, none),
  (17, 3, .if_icmp .ge 69, [51], (0, 0, 0), 0, 0, none),
  (20, 1, .aload_n 0, [], (0, 0, 0), 0, 0, none),
  (21, 3, .getfield 71, [], (10, 25, 925), 0, 0, none),
  (24, 2, .bipush 120, [], (0, 0, 0), 120, 0, none),
  (26, 1, .iload_n 1, [], (0, 0, 0), 0, 0, none),
  (27, 1, .imul, [], (0, 0, 0), 0, 0, none),
  (28, 1, .iload_n 2, [], (0, 0, 0), 0, 0, none),
  (29, 1, .iadd, [], (0, 0, 0), 0, 0, none),
  (30, 1, .aload_n 0, [], (0, 0, 0), 0, 0, none),
  (31, 1, .iload_n 1, [], (0, 0, 0), 0, 0, none),
  (32, 1, .iload_n 2, [], (0, 0, 0), 0, 0, none),
  (33, 3, .invokevirtual 167, [1110, 79, 1113, 1112, 49], (10, 0, 0), 0, 0, some (mX11_canOver, 2)),
  (36, 3, .ifCond .eq 42, [47], (0, 0, 0), 0, 0, none),
  (39, 1, .aload_n 0, [], (0, 0, 0), 0, 0, none),
  (40, 3, .getfield 59, [], (10, 20, 920), 0, 0, none),
  (43, 1, .iload_n 2, [], (0, 0, 0), 0, 0, none),
  (44, 1, .iaload, [], (0, 0, 0), 0, 0, none),
  (45, 1, .iconst 1, [], (0, 0, 0), 1, 0, none),
  (46, 3, .if_icmp .ne 28, [45], (0, 0, 0), 0, 0, none),
  (49, 1, .aload_n 0, [], (0, 0, 0), 0, 0, none),
  (50, 3, .getfield 23, [], (10, 7, 907), 0, 0, none),
  (53, 1, .aload_n 0, [], (0, 0, 0), 0, 0, none),
  (54, 3, .getfield 50, [], (10, 17, 917), 0, 0, none),
  (57, 1, .iload_n 1, [], (0, 0, 0), 0, 0, none),
  (58, 1, .iaload, [], (0, 0, 0), 0, 0, none),
  (59, 1, .iaload, [], (0, 0, 0), 0, 0, none),
  (60, 1, .aload_n 0, [], (0, 0, 0), 0, 0, none),
  (61, 3, .getfield 23, [], (10, 7, 907), 0, 0, none),
  (64, 1, .aload_n 0, [], (0, 0, 0), 0, 0, none),
  (65, 3, .getfield 50, [], (10, 17, 917), 0, 0, none),
  (68, 1, .iload_n 2, [], (0, 0, 0), 0, 0, none),
  (69, 1, .iaload, [], (0, 0, 0), 0, 0, none),
  (70, 1, .iaload, [], (0, 0, 0), 0, 0, none),
  (71, 3, .if_icmp .ne 7, [47], (0, 0, 0), 0, 0, none),
  (74, 1, .iconst 1, [], (0, 0, 0), 1, 0, none),
  (75, 3, .goto 4, [48], (0, 0, 0), 0, 0, none),
  (78, 1, .iconst 0, [], (0, 0, 0), 0, 0, none),
  (79, 1, .bastore, [], (0, 0, 0), 0, 0, none),
  (80, 3, .iinc 2 1, [], (0, 0, 0), 1, 0, none),
  (83, 3, .goto (-71), [8], (0, 0, 0), 0, 0, none),
  (86, 3, .iinc 1 1, [], (0, 0, 0), 1, 0, none),
  (89, 3, .goto (-87), [2], (0, 0, 0), 0, 0, none),
  (92, 1, .iconst 1, [], (0, 0, 0), 1, 0, none),
  (93, 1, .istore_n 1, [], (0, 0, 0), 0, 0, none),
  (94, 1, .iload_n 1, [], (0, 0, 0), 0, 0, none),
  (95, 3, .ifCond .eq 86, [106], (0, 0, 0), 0, 0, none),
  (98, 1, .iconst 0, [], (0, 0, 0), 0, 0, none),
  (99, 1, .istore_n 1, [], (0, 0, 0), 0, 0, none),
  (100, 1, .iconst 0, [], (0, 0, 0), 0, 0, none),
  (101, 1, .istore_n 2, [], (0, 0, 0), 0, 0, none),
  (102, 1, .iload_n 2, [], (0, 0, 0), 0, 0, none),
  (103, 1, .aload_n 0, [], (0, 0, 0), 0, 0, none),
  (104, 3, .getfield 93, [], (10, 16, 916), 0, 0, none),
  (107, 3, .if_icmp .ge 71, [105], (0, 0, 0), 0, 0, none),
  (110, 1, .iconst 0, [], (0, 0, 0), 0, 0, none),
  (111, 1, .istore_n 3, [], (0, 0, 0), 0, 0, none),
  (112, 1, .iload_n 3, [], (0, 0, 0), 0, 0, none),
  (113, 1, .aload_n 0, [], (0, 0, 0), 0, 0, none),
  (114, 3, .getfield 93, [], (10, 16, 916), 0, 0, none),
  (117, 3, .if_icmp .ge 55, [103], (0, 0, 0), 0, 0, none),
  (120, 1, .aload_n 0, [], (0, 0, 0), 0, 0, none),
  (121, 3, .getfield 71, [], (10, 25, 925), 0, 0, none),
  (124, 2, .bipush 120, [], (0, 0, 0), 120, 0, none),
  (126, 1, .iload_n 2, [], (0, 0, 0), 0, 0, none),
  (127, 1, .imul, [], (0, 0, 0), 0, 0, none),
  (128, 1, .iload_n 3, [], (0, 0, 0), 0, 0, none),
  (129, 1, .iadd, [], (0, 0, 0), 0, 0, none),
  (130, 1, .baload, [], (0, 0, 0), 0, 0, none),
  (131, 3, .ifCond .ne 35, [101], (0, 0, 0), 0, 0, none),
  (134, 1, .aload_n 0, [], (0, 0, 0), 0, 0, none),
  (135, 1, .iload_n 2, [], (0, 0, 0), 0, 0, none),
  (136, 1, .iload_n 3, [], (0, 0, 0), 0, 0, none),
  (137, 3, .invokevirtual 167, [1110, 79, 1113, 1112, 49], (10, 0, 0), 0, 0, some (mX11_canOver, 2)),
  (140, 3, .ifCond .eq 26, [101], (0, 0, 0), 0, 0, none),
  (143, 1, .aload_n 0, [], (0, 0, 0), 0, 0, none),
  (144, 1, .iload_n 2, [], (0, 0, 0), 0, 0, none),
  (145, 1, .iload_n 3, [], (0, 0, 0), 0, 0, none),
  (146, 3, .invokevirtual 170, [1114, 79, 1117, 1116, 50], (10, 0, 0), 0, 0, some (mX11_isOverBy, 2)),
  (149, 3, .ifCond .eq 17, [101], (0, 0, 0), 0, 0, none),
  (152, 1, .aload_n 0, [], (0, 0, 0), 0, 0, none),
  (153, 3, .getfield 71, [], (10, 25, 925), 0, 0, none),
  (156, 2, .bipush 120, [], (0, 0, 0), 120, 0, none),
  (158, 1, .iload_n 2, [], (0, 0, 0), 0, 0, none),
  (159, 1, .imul, [], (0, 0, 0), 0, 0, none),
  (160, 1, .iload_n 3, [], (0, 0, 0), 0, 0, none),
  (161, 1, .iadd, [], (0, 0, 0), 0, 0, none),
  (162, 1, .iconst 1, [], (0, 0, 0), 1, 0, none),
  (163, 1, .bastore, [], (0, 0, 0), 0, 0, none),
  (164, 1, .iconst 1, [], (0, 0, 0), 1, 0, none),
  (165, 1, .istore_n 1, [], (0, 0, 0), 0, 0, none),
  (166, 3, .iinc 3 1, [], (0, 0, 0), 1, 0, none),
  (169, 3, .goto (-57), [67], (0, 0, 0), 0, 0, none),
  (172, 3, .iinc 2 1, [], (0, 0, 0), 1, 0, none),
  (175, 3, .goto (-73), [61], (0, 0, 0), 0, 0, none),
  (178, 3, .goto (-84), [55], (0, 0, 0), 0, 0, none),
  (181, 1, .return_, [], (0, 0, 0), 0, 0, none)]
set_option maxRecDepth 100000 in
theorem vX11_findOvers : ab_chk mX11_findOvers.1.cls mX11_findOvers kX11_findOvers = true := by decide +kernel
end
section
def mX11_find : ab_Md := (yX11_find, cX11_find, 3, none, { frames := 4, cells := 0, slots := 0, locals := 88 })
def kX11_find : List ab_En := [
  (0, 1, .aload_n 0, [], (0, 0, 0), 0, 0, none),
  (1, 3, .getfield 117, [], (10, 22, 922), 0, 0, none),
  (4, 3, .ifCond .eq 4, [4], (0, 0, 0), 0, 0, none),
  (7, 1, .return_, [], (0, 0, 0), 0, 0, none),
  (8, 1, .aload_n 0, [], (0, 0, 0), 0, 0, none),
  (9, 1, .iconst 1, [], (0, 0, 0), 1, 0, none),
  (10, 3, .putfield 117, [2], (10, 22, 922), 0, 0, none),
  (13, 1, .iconst 0, [], (0, 0, 0), 0, 0, none),
  (14, 1, .istore_n 1, [], (0, 0, 0), 0, 0, none),
  (15, 1, .iload_n 1, [], (0, 0, 0), 0, 0, none),
  (16, 1, .aload_n 0, [], (0, 0, 0), 0, 0, none),
  (17, 3, .getfield 90, [], (10, 6, 906), 0, 0, none),
  (20, 3, .if_icmp .ge 16, [20], (0, 0, 0), 0, 0, none),
  (23, 1, .aload_n 0, [], (0, 0, 0), 0, 0, none),
  (24, 3, .getfield 68, [], (10, 24, 924), 0, 0, none),
  (27, 1, .iload_n 1, [], (0, 0, 0), 0, 0, none),
  (28, 1, .iconst 0, [], (0, 0, 0), 0, 0, none),
  (29, 1, .bastore, [], (0, 0, 0), 0, 0, none),
  (30, 3, .iinc 1 1, [], (0, 0, 0), 1, 0, none),
  (33, 3, .goto (-18), [9], (0, 0, 0), 0, 0, none),
  (36, 1, .iconst 0, [], (0, 0, 0), 0, 0, none),
  (37, 1, .istore_n 1, [], (0, 0, 0), 0, 0, none),
  (38, 1, .iload_n 1, [], (0, 0, 0), 0, 0, none),
  (39, 1, .aload_n 0, [], (0, 0, 0), 0, 0, none),
  (40, 3, .getfield 90, [], (10, 6, 906), 0, 0, none),
  (43, 3, .if_icmp .ge 54, [53], (0, 0, 0), 0, 0, none),
  (46, 1, .iconst 0, [], (0, 0, 0), 0, 0, none),
  (47, 1, .istore_n 2, [], (0, 0, 0), 0, 0, none),
  (48, 1, .iload_n 2, [], (0, 0, 0), 0, 0, none),
  (49, 1, .aload_n 0, [], (0, 0, 0), 0, 0, none),
  (50, 3, .getfield 90, [], (10, 6, 906), 0, 0, none),
  (53, 3, .if_icmp .ge 41, [52], (0, 0, 0), 0, 0, none),
  (56, 1, .aload_n 0, [], (0, 0, 0), 0, 0, none),
  (57, 3, .getfield 68, [], (10, 24, 924), 0, 0, none),
  (60, 1, .iload_n 2, [], (0, 0, 0), 0, 0, none),
  (61, 1, .baload, [], (0, 0, 0), 0, 0, none),
  (62, 3, .ifCond .ne 26, [50], (0, 0, 0), 0, 0, none),
  (65, 1, .aload_n 0, [], (0, 0, 0), 0, 0, none),
  (66, 1, .iload_n 2, [], (0, 0, 0), 0, 0, none),
  (67, 3, .invokevirtual 145, [1082, 79, 1085, 1084, 42], (10, 0, 0), 0, 0, some (mX11_isReady, 1)),
  (70, 3, .ifCond .eq 18, [50], (0, 0, 0), 0, 0, none),
  (73, 1, .aload_n 0, [], (0, 0, 0), 0, 0, none),
  (74, 1, .iload_n 2, [], (0, 0, 0), 0, 0, none),
  (75, 3, .invokevirtual 148, [1086, 79, 1089, 1088, 43], (10, 0, 0), 0, 0, some (mX11_findMembers, 1)),
  (78, 1, .aload_n 0, [], (0, 0, 0), 0, 0, none),
  (79, 3, .getfield 68, [], (10, 24, 924), 0, 0, none),
  (82, 1, .iload_n 2, [], (0, 0, 0), 0, 0, none),
  (83, 1, .iconst 1, [], (0, 0, 0), 1, 0, none),
  (84, 1, .bastore, [], (0, 0, 0), 0, 0, none),
  (85, 3, .iinc 1 1, [], (0, 0, 0), 1, 0, none),
  (88, 3, .iinc 2 1, [], (0, 0, 0), 1, 0, none),
  (91, 3, .goto (-43), [28], (0, 0, 0), 0, 0, none),
  (94, 3, .goto (-56), [22], (0, 0, 0), 0, 0, none),
  (97, 1, .aload_n 0, [], (0, 0, 0), 0, 0, none),
  (98, 3, .invokevirtual 152, [1106, 79, 1109, 1108, 48], (10, 0, 0), 0, 0, some (mX11_findOvers, 0)),
  (101, 1, .return_, [], (0, 0, 0), 0, 0, none)]
set_option maxRecDepth 100000 in
theorem vX11_find : ab_chk mX11_find.1.cls mX11_find kX11_find = true := by decide +kernel
def mX11_about : ab_Md := (yX11_about, cX11_about, 5, some .int, { frames := 5, cells := 0, slots := 0, locals := 110 })
def kX11_about : List ab_En := [
  (0, 1, .aload_n 0, [], (0, 0, 0), 0, 0, none),
  (1, 1, .iload_n 1, [], (0, 0, 0), 0, 0, none),
  (2, 3, .invokevirtual 107, [1020, 79, 1023, 1022, 33], (10, 0, 0), 0, 0, some (mX11_noType, 1)),
  (5, 3, .ifCond .ne 13, [9], (0, 0, 0), 0, 0, none),
  (8, 1, .iload_n 2, [], (0, 0, 0), 0, 0, none),
  (9, 3, .ifCond .lt 9, [9], (0, 0, 0), 0, 0, none),
  (12, 1, .iload_n 2, [], (0, 0, 0), 0, 0, none),
  (13, 2, .bipush 6, [], (0, 0, 0), 6, 0, none),
  (15, 3, .if_icmp .le 5, [11], (0, 0, 0), 0, 0, none),
  (18, 1, .iconst (-1), [], (0, 0, 0), (-1), 0, none),
  (19, 1, .ireturn, [], (0, 0, 0), 0, 0, none),
  (20, 1, .iload_n 2, [], (0, 0, 0), 0, 0, none),
  (21, 1, .iconst 5, [], (0, 0, 0), 5, 0, none),
  (22, 3, .if_icmp .ge 64, [49], (0, 0, 0), 0, 0, none),
  (25, 1, .iload_n 2, [], (0, 0, 0), 0, 0, none),
  (26, 3, .ifCond .ne 12, [21], (0, 0, 0), 0, 0, none),
  (29, 1, .aload_n 0, [], (0, 0, 0), 0, 0, none),
  (30, 3, .getfield 23, [], (10, 7, 907), 0, 0, none),
  (33, 1, .iload_n 1, [], (0, 0, 0), 0, 0, none),
  (34, 1, .iaload, [], (0, 0, 0), 0, 0, none),
  (35, 3, .goto 50, [48], (0, 0, 0), 0, 0, none),
  (38, 1, .iload_n 2, [], (0, 0, 0), 0, 0, none),
  (39, 1, .iconst 1, [], (0, 0, 0), 1, 0, none),
  (40, 3, .if_icmp .ne 12, [29], (0, 0, 0), 0, 0, none),
  (43, 1, .aload_n 0, [], (0, 0, 0), 0, 0, none),
  (44, 3, .getfield 26, [], (10, 8, 908), 0, 0, none),
  (47, 1, .iload_n 1, [], (0, 0, 0), 0, 0, none),
  (48, 1, .iaload, [], (0, 0, 0), 0, 0, none),
  (49, 3, .goto 36, [48], (0, 0, 0), 0, 0, none),
  (52, 1, .iload_n 2, [], (0, 0, 0), 0, 0, none),
  (53, 1, .iconst 2, [], (0, 0, 0), 2, 0, none),
  (54, 3, .if_icmp .ne 11, [36], (0, 0, 0), 0, 0, none),
  (57, 1, .aload_n 0, [], (0, 0, 0), 0, 0, none),
  (58, 1, .iload_n 1, [], (0, 0, 0), 0, 0, none),
  (59, 3, .invokevirtual 138, [1074, 79, 1077, 1076, 40], (10, 0, 0), 0, 0, some (mX11_topOf, 1)),
  (62, 3, .goto 23, [48], (0, 0, 0), 0, 0, none),
  (65, 1, .iload_n 2, [], (0, 0, 0), 0, 0, none),
  (66, 1, .iconst 3, [], (0, 0, 0), 3, 0, none),
  (67, 3, .if_icmp .ne 12, [44], (0, 0, 0), 0, 0, none),
  (70, 1, .aload_n 0, [], (0, 0, 0), 0, 0, none),
  (71, 3, .getfield 38, [], (10, 12, 912), 0, 0, none),
  (74, 1, .iload_n 1, [], (0, 0, 0), 0, 0, none),
  (75, 1, .iaload, [], (0, 0, 0), 0, 0, none),
  (76, 3, .goto 9, [48], (0, 0, 0), 0, 0, none),
  (79, 1, .aload_n 0, [], (0, 0, 0), 0, 0, none),
  (80, 3, .getfield 44, [], (10, 14, 914), 0, 0, none),
  (83, 1, .iload_n 1, [], (0, 0, 0), 0, 0, none),
  (84, 1, .iaload, [], (0, 0, 0), 0, 0, none),
  (85, 1, .ireturn, [], (0, 0, 0), 0, 0, none),
  (86, 1, .aload_n 0, [], (0, 0, 0), 0, 0, none),
  (87, 3, .invokevirtual 142, [1078, 79, 1081, 1080, 41], (10, 0, 0), 0, 0, some (mX11_find, 0)),
  (90, 1, .iconst 0, [], (0, 0, 0), 0, 0, none),
  (91, 1, .istore_n 3, [], (0, 0, 0), 0, 0, none),
  (92, 1, .iconst 0, [], (0, 0, 0), 0, 0, none),
  (93, 2, .istore 4, [], (0, 0, 0), 0, 0, none),
  (95, 2, .iload 4, [], (0, 0, 0), 0, 0, none),
  (97, 1, .aload_n 0, [], (0, 0, 0), 0, 0, none),
  (98, 3, .getfield 93, [], (10, 16, 916), 0, 0, none),
  (101, 3, .if_icmp .ge 37, [79], (0, 0, 0), 0, 0, none),
  (104, 1, .iload_n 2, [], (0, 0, 0), 0, 0, none),
  (105, 1, .iconst 5, [], (0, 0, 0), 5, 0, none),
  (106, 3, .if_icmp .ne 32, [79], (0, 0, 0), 0, 0, none),
  (109, 1, .iload_n 3, [], (0, 0, 0), 0, 0, none),
  (110, 1, .aload_n 0, [], (0, 0, 0), 0, 0, none),
  (111, 3, .getfield 65, [], (10, 23, 923), 0, 0, none),
  (114, 2, .bipush 120, [], (0, 0, 0), 120, 0, none),
  (116, 1, .iload_n 1, [], (0, 0, 0), 0, 0, none),
  (117, 1, .imul, [], (0, 0, 0), 0, 0, none),
  (118, 2, .iload 4, [], (0, 0, 0), 0, 0, none),
  (120, 1, .iadd, [], (0, 0, 0), 0, 0, none),
  (121, 1, .baload, [], (0, 0, 0), 0, 0, none),
  (122, 3, .ifCond .eq 7, [74], (0, 0, 0), 0, 0, none),
  (125, 1, .iconst 1, [], (0, 0, 0), 1, 0, none),
  (126, 3, .goto 4, [75], (0, 0, 0), 0, 0, none),
  (129, 1, .iconst 0, [], (0, 0, 0), 0, 0, none),
  (130, 1, .iadd, [], (0, 0, 0), 0, 0, none),
  (131, 1, .istore_n 3, [], (0, 0, 0), 0, 0, none),
  (132, 3, .iinc 4 1, [], (0, 0, 0), 1, 0, none),
  (135, 3, .goto (-40), [55], (0, 0, 0), 0, 0, none),
  (138, 1, .iconst 0, [], (0, 0, 0), 0, 0, none),
  (139, 2, .istore 4, [], (0, 0, 0), 0, 0, none),
  (141, 2, .iload 4, [], (0, 0, 0), 0, 0, none),
  (143, 1, .aload_n 0, [], (0, 0, 0), 0, 0, none),
  (144, 3, .getfield 90, [], (10, 6, 906), 0, 0, none),
  (147, 3, .if_icmp .ge 33, [101], (0, 0, 0), 0, 0, none),
  (150, 1, .iload_n 2, [], (0, 0, 0), 0, 0, none),
  (151, 2, .bipush 6, [], (0, 0, 0), 6, 0, none),
  (153, 3, .if_icmp .ne 27, [101], (0, 0, 0), 0, 0, none),
  (156, 1, .iload_n 3, [], (0, 0, 0), 0, 0, none),
  (157, 1, .aload_n 0, [], (0, 0, 0), 0, 0, none),
  (158, 2, .iload 4, [], (0, 0, 0), 0, 0, none),
  (160, 1, .iload_n 1, [], (0, 0, 0), 0, 0, none),
  (161, 3, .invokevirtual 121, [1042, 79, 1045, 1044, 36], (10, 0, 0), 0, 0, some (mX11_isBelow, 2)),
  (164, 3, .ifCond .eq 7, [96], (0, 0, 0), 0, 0, none),
  (167, 1, .iconst 1, [], (0, 0, 0), 1, 0, none),
  (168, 3, .goto 4, [97], (0, 0, 0), 0, 0, none),
  (171, 1, .iconst 0, [], (0, 0, 0), 0, 0, none),
  (172, 1, .iadd, [], (0, 0, 0), 0, 0, none),
  (173, 1, .istore_n 3, [], (0, 0, 0), 0, 0, none),
  (174, 3, .iinc 4 1, [], (0, 0, 0), 1, 0, none),
  (177, 3, .goto (-36), [81], (0, 0, 0), 0, 0, none),
  (180, 1, .iload_n 3, [], (0, 0, 0), 0, 0, none),
  (181, 1, .ireturn, [], (0, 0, 0), 0, 0, none)]
set_option maxRecDepth 100000 in
theorem vX11_about : ab_chk mX11_about.1.cls mX11_about kX11_about = true := by decide +kernel
def mX11_below : ab_Md := (yX11_below, cX11_below, 3, some .int, { frames := 1, cells := 0, slots := 0, locals := 22 })
def kX11_below : List ab_En := [
  (0, 1, .aload_n 0, [], (0, 0, 0), 0, 0, none),
  (1, 1, .iload_n 1, [], (0, 0, 0), 0, 0, none),
  (2, 3, .invokevirtual 107, [1020, 79, 1023, 1022, 33], (10, 0, 0), 0, 0, some (mX11_noType, 1)),
  (5, 3, .ifCond .ne 11, [8], (0, 0, 0), 0, 0, none),
  (8, 1, .aload_n 0, [], (0, 0, 0), 0, 0, none),
  (9, 1, .iload_n 2, [], (0, 0, 0), 0, 0, none),
  (10, 3, .invokevirtual 107, [1020, 79, 1023, 1022, 33], (10, 0, 0), 0, 0, some (mX11_noType, 1)),
  (13, 3, .ifCond .eq 7, [10], (0, 0, 0), 0, 0, none),
  (16, 1, .iconst (-1), [], (0, 0, 0), (-1), 0, none),
  (17, 3, .goto 17, [18], (0, 0, 0), 0, 0, none),
  (20, 1, .aload_n 0, [], (0, 0, 0), 0, 0, none),
  (21, 1, .iload_n 1, [], (0, 0, 0), 0, 0, none),
  (22, 1, .iload_n 2, [], (0, 0, 0), 0, 0, none),
  (23, 3, .invokevirtual 121, [1042, 79, 1045, 1044, 36], (10, 0, 0), 0, 0, some (mX11_isBelow, 2)),
  (26, 3, .ifCond .eq 7, [17], (0, 0, 0), 0, 0, none),
  (29, 1, .iconst 1, [], (0, 0, 0), 1, 0, none),
  (30, 3, .goto 4, [18], (0, 0, 0), 0, 0, none),
  (33, 1, .iconst 0, [], (0, 0, 0), 0, 0, none),
  (34, 1, .ireturn, [], (0, 0, 0), 0, 0, none)]
set_option maxRecDepth 100000 in
theorem vX11_below : ab_chk mX11_below.1.cls mX11_below kX11_below = true := by decide +kernel
def mX11_isAround : ab_Md := (yX11_isAround, cX11_isAround, 4, some .boolean, { frames := 2, cells := 0, slots := 0, locals := 44 })
def kX11_isAround : List ab_En := [
  (0, 1, .iload_n 1, [], (0, 0, 0), 0, 0, none),
  (1, 1, .istore_n 3, [], (0, 0, 0), 0, 0, none),
  (2, 1, .iload_n 3, [], (0, 0, 0), 0, 0, none),
  (3, 3, .ifCond .lt 24, [17], (0, 0, 0), 0, 0, none),
  (6, 1, .aload_n 0, [], (0, 0, 0), 0, 0, none),
  (7, 1, .iload_n 3, [], (0, 0, 0), 0, 0, none),
  (8, 1, .iload_n 2, [], (0, 0, 0), 0, 0, none),
  (9, 3, .invokevirtual 124, [1038, 79, 1041, 1040, 35], (10, 0, 0), 0, 0, some (mX11_isAt, 2)),
  (12, 3, .ifCond .eq 5, [11], (0, 0, 0), 0, 0, none),
  (15, 1, .iconst 1, [], (0, 0, 0), 1, 0, none),
  (16, 1, .ireturn, [], (0, 0, 0), 0, 0, none),
  (17, 1, .aload_n 0, [], (0, 0, 0), 0, 0, none),
  (18, 3, .getfield 26, [], (10, 8, 908), 0, 0, none),
  (21, 1, .iload_n 3, [], (0, 0, 0), 0, 0, none),
  (22, 1, .iaload, [], (0, 0, 0), 0, 0, none),
  (23, 1, .istore_n 3, [], (0, 0, 0), 0, 0, none),
  (24, 3, .goto (-22), [2], (0, 0, 0), 0, 0, none),
  (27, 1, .iconst 0, [], (0, 0, 0), 0, 0, none),
  (28, 1, .ireturn, [], (0, 0, 0), 0, 0, none)]
set_option maxRecDepth 100000 in
theorem vX11_isAround : ab_chk mX11_isAround.1.cls mX11_isAround kX11_isAround = true := by decide +kernel
def mX11_isOpen : ab_Md := (yX11_isOpen, cX11_isOpen, 7, some .boolean, { frames := 3, cells := 0, slots := 0, locals := 67 })
def kX11_isOpen : List ab_En := [
  (0, 1, .iload_n 2, [], (0, 0, 0), 0, 0, none),
  (1, 1, .istore_n 3, [], (0, 0, 0), 0, 0, none),
  (2, 1, .aload_n 0, [], (0, 0, 0), 0, 0, none),
  (3, 3, .getfield 26, [], (10, 8, 908), 0, 0, none),
  (6, 1, .iload_n 3, [], (0, 0, 0), 0, 0, none),
  (7, 1, .iaload, [], (0, 0, 0), 0, 0, none),
  (8, 3, .ifCond .lt 119, [70], (0, 0, 0), 0, 0, none),
  (11, 1, .aload_n 0, [], (0, 0, 0), 0, 0, none),
  (12, 3, .getfield 23, [], (10, 7, 907), 0, 0, none),
  (15, 1, .iload_n 1, [], (0, 0, 0), 0, 0, none),
  (16, 1, .iaload, [], (0, 0, 0), 0, 0, none),
  (17, 1, .aload_n 0, [], (0, 0, 0), 0, 0, none),
  (18, 3, .getfield 23, [], (10, 7, 907), 0, 0, none),
  (21, 1, .iload_n 3, [], (0, 0, 0), 0, 0, none),
  (22, 1, .iaload, [], (0, 0, 0), 0, 0, none),
  (23, 3, .if_icmp .ne 7, [18], (0, 0, 0), 0, 0, none),
  (26, 1, .iconst 1, [], (0, 0, 0), 1, 0, none),
  (27, 3, .goto 4, [19], (0, 0, 0), 0, 0, none),
  (30, 1, .iconst 0, [], (0, 0, 0), 0, 0, none),
  (31, 2, .istore 4, [], (0, 0, 0), 0, 0, none),
  (33, 1, .aload_n 0, [], (0, 0, 0), 0, 0, none),
  (34, 3, .getfield 32, [], (10, 10, 910), 0, 0, none),
  (37, 1, .iload_n 3, [], (0, 0, 0), 0, 0, none),
  (38, 1, .iaload, [], (0, 0, 0), 0, 0, none),
  (39, 2, .istore 5, [], (0, 0, 0), 0, 0, none),
  (41, 2, .iload 5, [], (0, 0, 0), 0, 0, none),
  (43, 3, .ifCond .ne 24, [38], (0, 0, 0), 0, 0, none),
  (46, 1, .aload_n 0, [], (0, 0, 0), 0, 0, none),
  (47, 1, .iload_n 1, [], (0, 0, 0), 0, 0, none),
  (48, 3, .invokevirtual 138, [1074, 79, 1077, 1076, 40], (10, 0, 0), 0, 0, some (mX11_topOf, 1)),
  (51, 1, .aload_n 0, [], (0, 0, 0), 0, 0, none),
  (52, 1, .iload_n 3, [], (0, 0, 0), 0, 0, none),
  (53, 3, .invokevirtual 138, [1074, 79, 1077, 1076, 40], (10, 0, 0), 0, 0, some (mX11_topOf, 1)),
  (56, 3, .if_icmp .ne 7, [36], (0, 0, 0), 0, 0, none),
  (59, 1, .iconst 1, [], (0, 0, 0), 1, 0, none),
  (60, 3, .goto 48, [59], (0, 0, 0), 0, 0, none),
  (63, 1, .iconst 0, [], (0, 0, 0), 0, 0, none),
  (64, 3, .goto 44, [59], (0, 0, 0), 0, 0, none),
  (67, 2, .iload 5, [], (0, 0, 0), 0, 0, none),
  (69, 1, .iconst 1, [], (0, 0, 0), 1, 0, none),
  (70, 3, .if_icmp .ne 8, [43], (0, 0, 0), 0, 0, none),
  (73, 2, .iload 4, [], (0, 0, 0), 0, 0, none),
  (75, 3, .goto 33, [59], (0, 0, 0), 0, 0, none),
  (78, 2, .iload 5, [], (0, 0, 0), 0, 0, none),
  (80, 1, .iconst 3, [], (0, 0, 0), 3, 0, none),
  (81, 3, .if_icmp .eq 22, [56], (0, 0, 0), 0, 0, none),
  (84, 2, .iload 4, [], (0, 0, 0), 0, 0, none),
  (86, 3, .ifCond .ne 17, [56], (0, 0, 0), 0, 0, none),
  (89, 1, .aload_n 0, [], (0, 0, 0), 0, 0, none),
  (90, 1, .iload_n 1, [], (0, 0, 0), 0, 0, none),
  (91, 1, .aload_n 0, [], (0, 0, 0), 0, 0, none),
  (92, 3, .getfield 26, [], (10, 8, 908), 0, 0, none),
  (95, 1, .iload_n 3, [], (0, 0, 0), 0, 0, none),
  (96, 1, .iaload, [], (0, 0, 0), 0, 0, none),
  (97, 3, .invokevirtual 173, [1130, 79, 1133, 1132, 52], (10, 0, 0), 0, 0, some (mX11_isAround, 2)),
  (100, 3, .ifCond .eq 7, [58], (0, 0, 0), 0, 0, none),
  (103, 1, .iconst 1, [], (0, 0, 0), 1, 0, none),
  (104, 3, .goto 4, [59], (0, 0, 0), 0, 0, none),
  (107, 1, .iconst 0, [], (0, 0, 0), 0, 0, none),
  (108, 2, .istore 6, [], (0, 0, 0), 0, 0, none),
  (110, 2, .iload 6, [], (0, 0, 0), 0, 0, none),
  (112, 3, .ifCond .ne 5, [64], (0, 0, 0), 0, 0, none),
  (115, 1, .iconst 0, [], (0, 0, 0), 0, 0, none),
  (116, 1, .ireturn, [], (0, 0, 0), 0, 0, none),
  (117, 1, .aload_n 0, [], (0, 0, 0), 0, 0, none),
  (118, 3, .getfield 26, [], (10, 8, 908), 0, 0, none),
  (121, 1, .iload_n 3, [], (0, 0, 0), 0, 0, none),
  (122, 1, .iaload, [], (0, 0, 0), 0, 0, none),
  (123, 1, .istore_n 3, [], (0, 0, 0), 0, 0, none),
  (124, 3, .goto (-122), [2], (0, 0, 0), 0, 0, none),
  (127, 1, .aload_n 0, [], (0, 0, 0), 0, 0, none),
  (128, 3, .getfield 32, [], (10, 10, 910), 0, 0, none),
  (131, 1, .iload_n 3, [], (0, 0, 0), 0, 0, none),
  (132, 1, .iaload, [], (0, 0, 0), 0, 0, none),
  (133, 1, .iconst 1, [], (0, 0, 0), 1, 0, none),
  (134, 3, .if_icmp .ne 24, [89], (0, 0, 0), 0, 0, none),
  (137, 1, .aload_n 0, [], (0, 0, 0), 0, 0, none),
  (138, 3, .getfield 23, [], (10, 7, 907), 0, 0, none),
  (141, 1, .iload_n 1, [], (0, 0, 0), 0, 0, none),
  (142, 1, .iaload, [], (0, 0, 0), 0, 0, none),
  (143, 1, .aload_n 0, [], (0, 0, 0), 0, 0, none),
  (144, 3, .getfield 23, [], (10, 7, 907), 0, 0, none),
  (147, 1, .iload_n 3, [], (0, 0, 0), 0, 0, none),
  (148, 1, .iaload, [], (0, 0, 0), 0, 0, none),
  (149, 3, .if_icmp .ne 7, [87], (0, 0, 0), 0, 0, none),
  (152, 1, .iconst 1, [], (0, 0, 0), 1, 0, none),
  (153, 3, .goto 4, [88], (0, 0, 0), 0, 0, none),
  (156, 1, .iconst 0, [], (0, 0, 0), 0, 0, none),
  (157, 1, .ireturn, [], (0, 0, 0), 0, 0, none),
  (158, 1, .aload_n 0, [], (0, 0, 0), 0, 0, none),
  (159, 3, .getfield 13, [], (10, 3, 903), 0, 0, none),
  (162, 1, .aload_n 0, [], (0, 0, 0), 0, 0, none),
  (163, 3, .getfield 23, [], (10, 7, 907), 0, 0, none),
  (166, 1, .iload_n 1, [], (0, 0, 0), 0, 0, none),
  (167, 1, .iaload, [], (0, 0, 0), 0, 0, none),
  (168, 1, .iaload, [], (0, 0, 0), 0, 0, none),
  (169, 2, .istore 4, [], (0, 0, 0), 0, 0, none),
  (171, 1, .aload_n 0, [], (0, 0, 0), 0, 0, none),
  (172, 3, .getfield 13, [], (10, 3, 903), 0, 0, none),
  (175, 1, .aload_n 0, [], (0, 0, 0), 0, 0, none),
  (176, 3, .getfield 23, [], (10, 7, 907), 0, 0, none),
  (179, 1, .iload_n 3, [], (0, 0, 0), 0, 0, none),
  (180, 1, .iaload, [], (0, 0, 0), 0, 0, none),
  (181, 1, .iaload, [], (0, 0, 0), 0, 0, none),
  (182, 2, .istore 5, [], (0, 0, 0), 0, 0, none),
  (184, 2, .iload 4, [], (0, 0, 0), 0, 0, none),
  (186, 2, .iload 5, [], (0, 0, 0), 0, 0, none),
  (188, 3, .if_icmp .eq 53, [137], (0, 0, 0), 0, 0, none),
  (191, 1, .aload_n 0, [], (0, 0, 0), 0, 0, none),
  (192, 3, .getfield 7, [], (10, 1, 901), 0, 0, none),
  (195, 2, .bipush 6, [], (0, 0, 0), 6, 0, none),
  (197, 2, .iload 4, [], (0, 0, 0), 0, 0, none),
  (199, 1, .imul, [], (0, 0, 0), 0, 0, none),
  (200, 2, .iload 5, [], (0, 0, 0), 0, 0, none),
  (202, 1, .iadd, [], (0, 0, 0), 0, 0, none),
  (203, 1, .baload, [], (0, 0, 0), 0, 0, none),
  (204, 3, .ifCond .eq 41, [139], (0, 0, 0), 0, 0, none),
  (207, 1, .aload_n 0, [], (0, 0, 0), 0, 0, none),
  (208, 3, .getfield 20, [], (10, 5, 905), 0, 0, none),
  (211, 1, .aload_n 0, [], (0, 0, 0), 0, 0, none),
  (212, 3, .getfield 23, [], (10, 7, 907), 0, 0, none),
  (215, 1, .iload_n 3, [], (0, 0, 0), 0, 0, none),
  (216, 1, .iaload, [], (0, 0, 0), 0, 0, none),
  (217, 1, .baload, [], (0, 0, 0), 0, 0, none),
  (218, 3, .ifCond .ne 23, [137], (0, 0, 0), 0, 0, none),
  (221, 1, .aload_n 0, [], (0, 0, 0), 0, 0, none),
  (222, 3, .getfield 17, [], (10, 4, 904), 0, 0, none),
  (225, 2, .bipush 6, [], (0, 0, 0), 6, 0, none),
  (227, 1, .aload_n 0, [], (0, 0, 0), 0, 0, none),
  (228, 3, .getfield 23, [], (10, 7, 907), 0, 0, none),
  (231, 1, .iload_n 3, [], (0, 0, 0), 0, 0, none),
  (232, 1, .iaload, [], (0, 0, 0), 0, 0, none),
  (233, 1, .imul, [], (0, 0, 0), 0, 0, none),
  (234, 2, .iload 4, [], (0, 0, 0), 0, 0, none),
  (236, 1, .iadd, [], (0, 0, 0), 0, 0, none),
  (237, 1, .baload, [], (0, 0, 0), 0, 0, none),
  (238, 3, .ifCond .eq 7, [139], (0, 0, 0), 0, 0, none),
  (241, 1, .iconst 1, [], (0, 0, 0), 1, 0, none),
  (242, 3, .goto 4, [140], (0, 0, 0), 0, 0, none),
  (245, 1, .iconst 0, [], (0, 0, 0), 0, 0, none),
  (246, 1, .ireturn, [], (0, 0, 0), 0, 0, none)]
set_option maxRecDepth 100000 in
theorem vX11_isOpen : ab_chk mX11_isOpen.1.cls mX11_isOpen kX11_isOpen = true := by decide +kernel
def mX11_open : ab_Md := (yX11_open, cX11_open, 3, some .int, { frames := 4, cells := 0, slots := 0, locals := 93 })
def kX11_open : List ab_En := [
  (0, 1, .aload_n 0, [], (0, 0, 0), 0, 0, none),
  (1, 1, .iload_n 1, [], (0, 0, 0), 0, 0, none),
  (2, 3, .invokevirtual 107, [1020, 79, 1023, 1022, 33], (10, 0, 0), 0, 0, some (mX11_noType, 1)),
  (5, 3, .ifCond .ne 11, [8], (0, 0, 0), 0, 0, none),
  (8, 1, .aload_n 0, [], (0, 0, 0), 0, 0, none),
  (9, 1, .iload_n 2, [], (0, 0, 0), 0, 0, none),
  (10, 3, .invokevirtual 107, [1020, 79, 1023, 1022, 33], (10, 0, 0), 0, 0, some (mX11_noType, 1)),
  (13, 3, .ifCond .eq 7, [10], (0, 0, 0), 0, 0, none),
  (16, 1, .iconst (-1), [], (0, 0, 0), (-1), 0, none),
  (17, 3, .goto 17, [18], (0, 0, 0), 0, 0, none),
  (20, 1, .aload_n 0, [], (0, 0, 0), 0, 0, none),
  (21, 1, .iload_n 1, [], (0, 0, 0), 0, 0, none),
  (22, 1, .iload_n 2, [], (0, 0, 0), 0, 0, none),
  (23, 3, .invokevirtual 176, [1126, 79, 1129, 1128, 51], (10, 0, 0), 0, 0, some (mX11_isOpen, 2)),
  (26, 3, .ifCond .eq 7, [17], (0, 0, 0), 0, 0, none),
  (29, 1, .iconst 1, [], (0, 0, 0), 1, 0, none),
  (30, 3, .goto 4, [18], (0, 0, 0), 0, 0, none),
  (33, 1, .iconst 0, [], (0, 0, 0), 0, 0, none),
  (34, 1, .ireturn, [], (0, 0, 0), 0, 0, none)]
set_option maxRecDepth 100000 in
theorem vX11_open : ab_chk mX11_open.1.cls mX11_open kX11_open = true := by decide +kernel
def mX11_of : ab_Md := (yX11_of, cX11_of, 3, some .int, { frames := 5, cells := 0, slots := 0, locals := 110 })
def kX11_of : List ab_En := [
  (0, 1, .aload_n 0, [], (0, 0, 0), 0, 0, none),
  (1, 1, .iload_n 1, [], (0, 0, 0), 0, 0, none),
  (2, 3, .invokevirtual 107, [1020, 79, 1023, 1022, 33], (10, 0, 0), 0, 0, some (mX11_noType, 1)),
  (5, 3, .ifCond .ne 11, [8], (0, 0, 0), 0, 0, none),
  (8, 1, .aload_n 0, [], (0, 0, 0), 0, 0, none),
  (9, 1, .iload_n 2, [], (0, 0, 0), 0, 0, none),
  (10, 3, .invokevirtual 179, [1138, 79, 1141, 1140, 53], (10, 0, 0), 0, 0, some (mX11_noMember, 1)),
  (13, 3, .ifCond .eq 5, [10], (0, 0, 0), 0, 0, none),
  (16, 1, .iconst (-1), [], (0, 0, 0), (-1), 0, none),
  (17, 1, .ireturn, [], (0, 0, 0), 0, 0, none),
  (18, 1, .aload_n 0, [], (0, 0, 0), 0, 0, none),
  (19, 3, .invokevirtual 142, [1078, 79, 1081, 1080, 41], (10, 0, 0), 0, 0, some (mX11_find, 0)),
  (22, 1, .aload_n 0, [], (0, 0, 0), 0, 0, none),
  (23, 3, .getfield 65, [], (10, 23, 923), 0, 0, none),
  (26, 2, .bipush 120, [], (0, 0, 0), 120, 0, none),
  (28, 1, .iload_n 1, [], (0, 0, 0), 0, 0, none),
  (29, 1, .imul, [], (0, 0, 0), 0, 0, none),
  (30, 1, .iload_n 2, [], (0, 0, 0), 0, 0, none),
  (31, 1, .iadd, [], (0, 0, 0), 0, 0, none),
  (32, 1, .baload, [], (0, 0, 0), 0, 0, none),
  (33, 3, .ifCond .eq 7, [23], (0, 0, 0), 0, 0, none),
  (36, 1, .iconst 1, [], (0, 0, 0), 1, 0, none),
  (37, 3, .goto 4, [24], (0, 0, 0), 0, 0, none),
  (40, 1, .iconst 0, [], (0, 0, 0), 0, 0, none),
  (41, 1, .ireturn, [], (0, 0, 0), 0, 0, none)]
set_option maxRecDepth 100000 in
theorem vX11_of : ab_chk mX11_of.1.cls mX11_of kX11_of = true := by decide +kernel
def mX11_isOpenMember : ab_Md := (yX11_isOpenMember, cX11_isOpenMember, 7, some .boolean, { frames := 2, cells := 0, slots := 0, locals := 44 })
def kX11_isOpenMember : List ab_En := [
  (0, 1, .aload_n 0, [], (0, 0, 0), 0, 0, none),
  (1, 3, .getfield 59, [], (10, 20, 920), 0, 0, none),
  (4, 2, .iload 4, [], (0, 0, 0), 0, 0, none),
  (6, 1, .iaload, [], (0, 0, 0), 0, 0, none),
  (7, 2, .istore 5, [], (0, 0, 0), 0, 0, none),
  (9, 2, .iload 5, [], (0, 0, 0), 0, 0, none),
  (11, 1, .iconst 3, [], (0, 0, 0), 3, 0, none),
  (12, 3, .if_icmp .ne 5, [10], (0, 0, 0), 0, 0, none),
  (15, 1, .iconst 1, [], (0, 0, 0), 1, 0, none),
  (16, 1, .ireturn, [], (0, 0, 0), 0, 0, none),
  (17, 2, .iload 5, [], (0, 0, 0), 0, 0, none),
  (19, 3, .ifCond .ne 28, [26], (0, 0, 0), 0, 0, none),
  (22, 1, .aload_n 0, [], (0, 0, 0), 0, 0, none),
  (23, 1, .iload_n 1, [], (0, 0, 0), 0, 0, none),
  (24, 3, .invokevirtual 138, [1074, 79, 1077, 1076, 40], (10, 0, 0), 0, 0, some (mX11_topOf, 1)),
  (27, 1, .aload_n 0, [], (0, 0, 0), 0, 0, none),
  (28, 1, .aload_n 0, [], (0, 0, 0), 0, 0, none),
  (29, 3, .getfield 50, [], (10, 17, 917), 0, 0, none),
  (32, 2, .iload 4, [], (0, 0, 0), 0, 0, none),
  (34, 1, .iaload, [], (0, 0, 0), 0, 0, none),
  (35, 3, .invokevirtual 138, [1074, 79, 1077, 1076, 40], (10, 0, 0), 0, 0, some (mX11_topOf, 1)),
  (38, 3, .if_icmp .ne 7, [24], (0, 0, 0), 0, 0, none),
  (41, 1, .iconst 1, [], (0, 0, 0), 1, 0, none),
  (42, 3, .goto 4, [25], (0, 0, 0), 0, 0, none),
  (45, 1, .iconst 0, [], (0, 0, 0), 0, 0, none),
  (46, 1, .ireturn, [], (0, 0, 0), 0, 0, none),
  (47, 1, .aload_n 0, [], (0, 0, 0), 0, 0, none),
  (48, 3, .getfield 23, [], (10, 7, 907), 0, 0, none),
  (51, 1, .iload_n 1, [], (0, 0, 0), 0, 0, none),
  (52, 1, .iaload, [], (0, 0, 0), 0, 0, none),
  (53, 1, .aload_n 0, [], (0, 0, 0), 0, 0, none),
  (54, 3, .getfield 23, [], (10, 7, 907), 0, 0, none),
  (57, 1, .aload_n 0, [], (0, 0, 0), 0, 0, none),
  (58, 3, .getfield 50, [], (10, 17, 917), 0, 0, none),
  (61, 2, .iload 4, [], (0, 0, 0), 0, 0, none),
  (63, 1, .iaload, [], (0, 0, 0), 0, 0, none),
  (64, 1, .iaload, [], (0, 0, 0), 0, 0, none),
  (65, 3, .if_icmp .ne 5, [40], (0, 0, 0), 0, 0, none),
  (68, 1, .iconst 1, [], (0, 0, 0), 1, 0, none),
  (69, 1, .ireturn, [], (0, 0, 0), 0, 0, none),
  (70, 1, .iload_n 1, [], (0, 0, 0), 0, 0, none),
  (71, 2, .istore 6, [], (0, 0, 0), 0, 0, none),
  (73, 2, .iload 6, [], (0, 0, 0), 0, 0, none),
  (75, 3, .ifCond .lt 67, [77], (0, 0, 0), 0, 0, none),
  (78, 2, .iload 5, [], (0, 0, 0), 0, 0, none),
  (80, 1, .iconst 2, [], (0, 0, 0), 2, 0, none),
  (81, 3, .if_icmp .ne 61, [77], (0, 0, 0), 0, 0, none),
  (84, 1, .aload_n 0, [], (0, 0, 0), 0, 0, none),
  (85, 2, .iload 6, [], (0, 0, 0), 0, 0, none),
  (87, 1, .aload_n 0, [], (0, 0, 0), 0, 0, none),
  (88, 3, .getfield 50, [], (10, 17, 917), 0, 0, none),
  (91, 2, .iload 4, [], (0, 0, 0), 0, 0, none),
  (93, 1, .iaload, [], (0, 0, 0), 0, 0, none),
  (94, 3, .invokevirtual 124, [1038, 79, 1041, 1040, 35], (10, 0, 0), 0, 0, some (mX11_isAt, 2)),
  (97, 3, .ifCond .eq 33, [71], (0, 0, 0), 0, 0, none),
  (100, 1, .aload_n 0, [], (0, 0, 0), 0, 0, none),
  (101, 3, .getfield 62, [], (10, 21, 921), 0, 0, none),
  (104, 2, .iload 4, [], (0, 0, 0), 0, 0, none),
  (106, 1, .iaload, [], (0, 0, 0), 0, 0, none),
  (107, 1, .iconst 1, [], (0, 0, 0), 1, 0, none),
  (108, 3, .invokestatic 103, [1031, 79, 1033, 1032], (0, 0, 0), 0, 0, some (mX11_has, 2)),
  (111, 3, .ifCond .ne 17, [69], (0, 0, 0), 0, 0, none),
  (114, 1, .iload_n 2, [], (0, 0, 0), 0, 0, none),
  (115, 3, .ifCond .ne 13, [69], (0, 0, 0), 0, 0, none),
  (118, 1, .aload_n 0, [], (0, 0, 0), 0, 0, none),
  (119, 1, .iload_n 3, [], (0, 0, 0), 0, 0, none),
  (120, 2, .iload 6, [], (0, 0, 0), 0, 0, none),
  (122, 3, .invokevirtual 124, [1038, 79, 1041, 1040, 35], (10, 0, 0), 0, 0, some (mX11_isAt, 2)),
  (125, 3, .ifCond .eq 5, [71], (0, 0, 0), 0, 0, none),
  (128, 1, .iconst 1, [], (0, 0, 0), 1, 0, none),
  (129, 1, .ireturn, [], (0, 0, 0), 0, 0, none),
  (130, 1, .aload_n 0, [], (0, 0, 0), 0, 0, none),
  (131, 3, .getfield 26, [], (10, 8, 908), 0, 0, none),
  (134, 2, .iload 6, [], (0, 0, 0), 0, 0, none),
  (136, 1, .iaload, [], (0, 0, 0), 0, 0, none),
  (137, 2, .istore 6, [], (0, 0, 0), 0, 0, none),
  (139, 3, .goto (-66), [42], (0, 0, 0), 0, 0, none),
  (142, 1, .iconst 0, [], (0, 0, 0), 0, 0, none),
  (143, 1, .ireturn, [], (0, 0, 0), 0, 0, none)]
set_option maxRecDepth 100000 in
theorem vX11_isOpenMember : ab_chk mX11_isOpenMember.1.cls mX11_isOpenMember kX11_isOpenMember = true := by decide +kernel
def mX11_hasOne : ab_Md := (yX11_hasOne, cX11_hasOne, 6, some .boolean, { frames := 0, cells := 0, slots := 0, locals := 0 })
def kX11_hasOne : List ab_En := [
  (0, 1, .iconst 0, [], (0, 0, 0), 0, 0, none),
  (1, 2, .istore 4, [], (0, 0, 0), 0, 0, none),
  (3, 1, .iconst 0, [], (0, 0, 0), 0, 0, none),
  (4, 2, .istore 5, [], (0, 0, 0), 0, 0, none),
  (6, 2, .iload 5, [], (0, 0, 0), 0, 0, none),
  (8, 1, .aload_n 0, [], (0, 0, 0), 0, 0, none),
  (9, 3, .getfield 93, [], (10, 16, 916), 0, 0, none),
  (12, 3, .if_icmp .ge 56, [37], (0, 0, 0), 0, 0, none),
  (15, 2, .iload 4, [], (0, 0, 0), 0, 0, none),
  (17, 1, .aload_n 0, [], (0, 0, 0), 0, 0, none),
  (18, 3, .getfield 53, [], (10, 18, 918), 0, 0, none),
  (21, 2, .iload 5, [], (0, 0, 0), 0, 0, none),
  (23, 1, .iaload, [], (0, 0, 0), 0, 0, none),
  (24, 1, .iload_n 2, [], (0, 0, 0), 0, 0, none),
  (25, 3, .if_icmp .ne 33, [32], (0, 0, 0), 0, 0, none),
  (28, 1, .aload_n 0, [], (0, 0, 0), 0, 0, none),
  (29, 3, .getfield 56, [], (10, 19, 919), 0, 0, none),
  (32, 2, .iload 5, [], (0, 0, 0), 0, 0, none),
  (34, 1, .iaload, [], (0, 0, 0), 0, 0, none),
  (35, 1, .iload_n 3, [], (0, 0, 0), 0, 0, none),
  (36, 3, .if_icmp .ne 22, [32], (0, 0, 0), 0, 0, none),
  (39, 1, .aload_n 0, [], (0, 0, 0), 0, 0, none),
  (40, 3, .getfield 65, [], (10, 23, 923), 0, 0, none),
  (43, 2, .bipush 120, [], (0, 0, 0), 120, 0, none),
  (45, 1, .iload_n 1, [], (0, 0, 0), 0, 0, none),
  (46, 1, .imul, [], (0, 0, 0), 0, 0, none),
  (47, 2, .iload 5, [], (0, 0, 0), 0, 0, none),
  (49, 1, .iadd, [], (0, 0, 0), 0, 0, none),
  (50, 1, .baload, [], (0, 0, 0), 0, 0, none),
  (51, 3, .ifCond .eq 7, [32], (0, 0, 0), 0, 0, none),
  (54, 1, .iconst 1, [], (0, 0, 0), 1, 0, none),
  (55, 3, .goto 4, [33], (0, 0, 0), 0, 0, none),
  (58, 1, .iconst 0, [], (0, 0, 0), 0, 0, none),
  (59, 1, .ior, [], (0, 0, 0), 0, 0, none),
  (60, 2, .istore 4, [], (0, 0, 0), 0, 0, none),
  (62, 3, .iinc 5 1, [], (0, 0, 0), 1, 0, none),
  (65, 3, .goto (-59), [4], (0, 0, 0), 0, 0, none),
  (68, 2, .iload 4, [], (0, 0, 0), 0, 0, none),
  (70, 1, .ireturn, [], (0, 0, 0), 0, 0, none)]
set_option maxRecDepth 100000 in
theorem vX11_hasOne : ab_chk mX11_hasOne.1.cls mX11_hasOne kX11_hasOne = true := by decide +kernel
def mX11_looked : ab_Md := (yX11_looked, cX11_looked, 7, some .int, { frames := 4, cells := 0, slots := 0, locals := 93 })
def kX11_looked : List ab_En := [
  (0, 1, .iload_n 2, [], (0, 0, 0), 0, 0, none),
  (1, 1, .iconst 2, [], (0, 0, 0), 2, 0, none),
  (2, 3, .if_icmp .ge 19, [12], (0, 0, 0), 0, 0, none),
  (5, 1, .aload_n 0, [], (0, 0, 0), 0, 0, none),
  (6, 1, .iload_n 1, [], (0, 0, 0), 0, 0, none),
  (7, 1, .iload_n 3, [], (0, 0, 0), 0, 0, none),
  (8, 3, .invokevirtual 176, [1126, 79, 1129, 1128, 51], (10, 0, 0), 0, 0, some (mX11_isOpen, 2)),
  (11, 3, .ifCond .eq 7, [10], (0, 0, 0), 0, 0, none),
  (14, 1, .iload_n 3, [], (0, 0, 0), 0, 0, none),
  (15, 3, .goto 5, [11], (0, 0, 0), 0, 0, none),
  (18, 2, .bipush (-2), [], (0, 0, 0), (-2), 0, none),
  (20, 1, .ireturn, [], (0, 0, 0), 0, 0, none),
  (21, 1, .iload_n 2, [], (0, 0, 0), 0, 0, none),
  (22, 1, .iconst 3, [], (0, 0, 0), 3, 0, none),
  (23, 3, .if_icmp .ne 10, [20], (0, 0, 0), 0, 0, none),
  (26, 1, .aload_n 0, [], (0, 0, 0), 0, 0, none),
  (27, 3, .getfield 38, [], (10, 12, 912), 0, 0, none),
  (30, 1, .iload_n 1, [], (0, 0, 0), 0, 0, none),
  (31, 1, .iaload, [], (0, 0, 0), 0, 0, none),
  (32, 1, .ireturn, [], (0, 0, 0), 0, 0, none),
  (33, 1, .iload_n 1, [], (0, 0, 0), 0, 0, none),
  (34, 2, .istore 6, [], (0, 0, 0), 0, 0, none),
  (36, 2, .iload 6, [], (0, 0, 0), 0, 0, none),
  (38, 3, .ifCond .lt 31, [38], (0, 0, 0), 0, 0, none),
  (41, 1, .aload_n 0, [], (0, 0, 0), 0, 0, none),
  (42, 2, .iload 6, [], (0, 0, 0), 0, 0, none),
  (44, 2, .iload 4, [], (0, 0, 0), 0, 0, none),
  (46, 2, .iload 5, [], (0, 0, 0), 0, 0, none),
  (48, 3, .invokevirtual 182, [1150, 79, 1153, 1152, 55], (10, 0, 0), 0, 0, some (mX11_hasOne, 3)),
  (51, 3, .ifCond .eq 6, [32], (0, 0, 0), 0, 0, none),
  (54, 2, .iload 6, [], (0, 0, 0), 0, 0, none),
  (56, 1, .ireturn, [], (0, 0, 0), 0, 0, none),
  (57, 1, .aload_n 0, [], (0, 0, 0), 0, 0, none),
  (58, 3, .getfield 26, [], (10, 8, 908), 0, 0, none),
  (61, 2, .iload 6, [], (0, 0, 0), 0, 0, none),
  (63, 1, .iaload, [], (0, 0, 0), 0, 0, none),
  (64, 2, .istore 6, [], (0, 0, 0), 0, 0, none),
  (66, 3, .goto (-30), [22], (0, 0, 0), 0, 0, none),
  (69, 1, .iload_n 1, [], (0, 0, 0), 0, 0, none),
  (70, 1, .ireturn, [], (0, 0, 0), 0, 0, none)]
set_option maxRecDepth 100000 in
theorem vX11_looked : ab_chk mX11_looked.1.cls mX11_looked kX11_looked = true := by decide +kernel
def mX11_isCut : ab_Md := (yX11_isCut, cX11_isCut, 5, some .boolean, { frames := 1, cells := 0, slots := 0, locals := 21 })
def kX11_isCut : List ab_En := [
  (0, 1, .iconst 0, [], (0, 0, 0), 0, 0, none),
  (1, 1, .istore_n 3, [], (0, 0, 0), 0, 0, none),
  (2, 1, .iload_n 1, [], (0, 0, 0), 0, 0, none),
  (3, 2, .istore 4, [], (0, 0, 0), 0, 0, none),
  (5, 2, .iload 4, [], (0, 0, 0), 0, 0, none),
  (7, 1, .iload_n 2, [], (0, 0, 0), 0, 0, none),
  (8, 3, .if_icmp .eq 29, [22], (0, 0, 0), 0, 0, none),
  (11, 1, .iload_n 3, [], (0, 0, 0), 0, 0, none),
  (12, 1, .aload_n 0, [], (0, 0, 0), 0, 0, none),
  (13, 3, .getfield 35, [], (10, 11, 911), 0, 0, none),
  (16, 2, .iload 4, [], (0, 0, 0), 0, 0, none),
  (18, 1, .iaload, [], (0, 0, 0), 0, 0, none),
  (19, 1, .iconst 1, [], (0, 0, 0), 1, 0, none),
  (20, 3, .invokestatic 103, [1031, 79, 1033, 1032], (0, 0, 0), 0, 0, some (mX11_has, 2)),
  (23, 1, .ior, [], (0, 0, 0), 0, 0, none),
  (24, 1, .istore_n 3, [], (0, 0, 0), 0, 0, none),
  (25, 1, .aload_n 0, [], (0, 0, 0), 0, 0, none),
  (26, 3, .getfield 26, [], (10, 8, 908), 0, 0, none),
  (29, 2, .iload 4, [], (0, 0, 0), 0, 0, none),
  (31, 1, .iaload, [], (0, 0, 0), 0, 0, none),
  (32, 2, .istore 4, [], (0, 0, 0), 0, 0, none),
  (34, 3, .goto (-29), [4], (0, 0, 0), 0, 0, none),
  (37, 1, .iload_n 3, [], (0, 0, 0), 0, 0, none),
  (38, 1, .ireturn, [], (0, 0, 0), 0, 0, none)]
set_option maxRecDepth 100000 in
theorem vX11_isCut : ab_chk mX11_isCut.1.cls mX11_isCut kX11_isCut = true := by decide +kernel
def mX11_use : ab_Md := (yX11_use, cX11_use, 10, some .int, { frames := 5, cells := 0, slots := 0, locals := 119 })
def kX11_use : List ab_En := [
  (0, 1, .aload_n 0, [], (0, 0, 0), 0, 0, none),
  (1, 1, .iload_n 1, [], (0, 0, 0), 0, 0, none),
  (2, 3, .invokevirtual 107, [1020, 79, 1023, 1022, 33], (10, 0, 0), 0, 0, some (mX11_noType, 1)),
  (5, 3, .ifCond .ne 48, [26], (0, 0, 0), 0, 0, none),
  (8, 1, .iload_n 2, [], (0, 0, 0), 0, 0, none),
  (9, 3, .ifCond .lt 44, [26], (0, 0, 0), 0, 0, none),
  (12, 1, .iload_n 2, [], (0, 0, 0), 0, 0, none),
  (13, 1, .iconst 3, [], (0, 0, 0), 3, 0, none),
  (14, 3, .if_icmp .gt 39, [26], (0, 0, 0), 0, 0, none),
  (17, 1, .iload_n 2, [], (0, 0, 0), 0, 0, none),
  (18, 1, .iconst 2, [], (0, 0, 0), 2, 0, none),
  (19, 3, .if_icmp .ge 11, [16], (0, 0, 0), 0, 0, none),
  (22, 1, .aload_n 0, [], (0, 0, 0), 0, 0, none),
  (23, 1, .iload_n 3, [], (0, 0, 0), 0, 0, none),
  (24, 3, .invokevirtual 107, [1020, 79, 1023, 1022, 33], (10, 0, 0), 0, 0, some (mX11_noType, 1)),
  (27, 3, .ifCond .ne 26, [26], (0, 0, 0), 0, 0, none),
  (30, 2, .iload 4, [], (0, 0, 0), 0, 0, none),
  (32, 3, .ifCond .lt 21, [26], (0, 0, 0), 0, 0, none),
  (35, 2, .iload 4, [], (0, 0, 0), 0, 0, none),
  (37, 1, .iconst 1, [], (0, 0, 0), 1, 0, none),
  (38, 3, .if_icmp .gt 15, [26], (0, 0, 0), 0, 0, none),
  (41, 2, .iload 5, [], (0, 0, 0), 0, 0, none),
  (43, 3, .ifCond .lt 10, [26], (0, 0, 0), 0, 0, none),
  (46, 2, .iload 5, [], (0, 0, 0), 0, 0, none),
  (48, 2, .bipush 9, [], (0, 0, 0), 9, 0, none),
  (50, 3, .if_icmp .le 5, [28], (0, 0, 0), 0, 0, none),
  (53, 1, .iconst (-1), [], (0, 0, 0), (-1), 0, none),
  (54, 1, .ireturn, [], (0, 0, 0), 0, 0, none),
  (55, 1, .aload_n 0, [], (0, 0, 0), 0, 0, none),
  (56, 3, .invokevirtual 142, [1078, 79, 1081, 1080, 41], (10, 0, 0), 0, 0, some (mX11_find, 0)),
  (59, 1, .aload_n 0, [], (0, 0, 0), 0, 0, none),
  (60, 1, .iload_n 1, [], (0, 0, 0), 0, 0, none),
  (61, 1, .iload_n 2, [], (0, 0, 0), 0, 0, none),
  (62, 1, .iload_n 3, [], (0, 0, 0), 0, 0, none),
  (63, 2, .iload 4, [], (0, 0, 0), 0, 0, none),
  (65, 2, .iload 5, [], (0, 0, 0), 0, 0, none),
  (67, 3, .invokevirtual 186, [1146, 79, 1149, 1148, 54], (10, 0, 0), 0, 0, some (mX11_looked, 5)),
  (70, 2, .istore 6, [], (0, 0, 0), 0, 0, none),
  (72, 2, .iload 6, [], (0, 0, 0), 0, 0, none),
  (74, 3, .ifCond .ge 6, [42], (0, 0, 0), 0, 0, none),
  (77, 2, .bipush (-11), [], (0, 0, 0), (-11), 0, none),
  (79, 1, .ireturn, [], (0, 0, 0), 0, 0, none),
  (80, 1, .aload_n 0, [], (0, 0, 0), 0, 0, none),
  (81, 2, .iload 6, [], (0, 0, 0), 0, 0, none),
  (83, 2, .iload 4, [], (0, 0, 0), 0, 0, none),
  (85, 2, .iload 5, [], (0, 0, 0), 0, 0, none),
  (87, 3, .invokevirtual 182, [1150, 79, 1153, 1152, 55], (10, 0, 0), 0, 0, some (mX11_hasOne, 3)),
  (90, 3, .ifCond .ne 6, [50], (0, 0, 0), 0, 0, none),
  (93, 2, .bipush (-12), [], (0, 0, 0), (-12), 0, none),
  (95, 1, .ireturn, [], (0, 0, 0), 0, 0, none),
  (96, 2, .bipush (-2), [], (0, 0, 0), (-2), 0, none),
  (98, 2, .istore 7, [], (0, 0, 0), 0, 0, none),
  (100, 1, .iconst 0, [], (0, 0, 0), 0, 0, none),
  (101, 2, .istore 8, [], (0, 0, 0), 0, 0, none),
  (103, 1, .iconst 0, [], (0, 0, 0), 0, 0, none),
  (104, 2, .istore 9, [], (0, 0, 0), 0, 0, none),
  (106, 2, .iload 9, [], (0, 0, 0), 0, 0, none),
  (108, 1, .aload_n 0, [], (0, 0, 0), 0, 0, none),
  (109, 3, .getfield 93, [], (10, 16, 916), 0, 0, none),
  (112, 3, .if_icmp .ge 108, [113], (0, 0, 0), 0, 0, none),
  (115, 1, .aload_n 0, [], (0, 0, 0), 0, 0, none),
  (116, 3, .getfield 53, [], (10, 18, 918), 0, 0, none),
  (119, 2, .iload 9, [], (0, 0, 0), 0, 0, none),
  (121, 1, .iaload, [], (0, 0, 0), 0, 0, none),
  (122, 2, .iload 4, [], (0, 0, 0), 0, 0, none),
  (124, 3, .if_icmp .ne 90, [111], (0, 0, 0), 0, 0, none),
  (127, 1, .aload_n 0, [], (0, 0, 0), 0, 0, none),
  (128, 3, .getfield 56, [], (10, 19, 919), 0, 0, none),
  (131, 2, .iload 9, [], (0, 0, 0), 0, 0, none),
  (133, 1, .iaload, [], (0, 0, 0), 0, 0, none),
  (134, 2, .iload 5, [], (0, 0, 0), 0, 0, none),
  (136, 3, .if_icmp .ne 78, [111], (0, 0, 0), 0, 0, none),
  (139, 1, .aload_n 0, [], (0, 0, 0), 0, 0, none),
  (140, 3, .getfield 65, [], (10, 23, 923), 0, 0, none),
  (143, 2, .bipush 120, [], (0, 0, 0), 120, 0, none),
  (145, 2, .iload 6, [], (0, 0, 0), 0, 0, none),
  (147, 1, .imul, [], (0, 0, 0), 0, 0, none),
  (148, 2, .iload 9, [], (0, 0, 0), 0, 0, none),
  (150, 1, .iadd, [], (0, 0, 0), 0, 0, none),
  (151, 1, .baload, [], (0, 0, 0), 0, 0, none),
  (152, 3, .ifCond .eq 62, [111], (0, 0, 0), 0, 0, none),
  (155, 1, .aload_n 0, [], (0, 0, 0), 0, 0, none),
  (156, 1, .iload_n 1, [], (0, 0, 0), 0, 0, none),
  (157, 1, .iload_n 2, [], (0, 0, 0), 0, 0, none),
  (158, 2, .iload 6, [], (0, 0, 0), 0, 0, none),
  (160, 2, .iload 9, [], (0, 0, 0), 0, 0, none),
  (162, 3, .invokevirtual 189, [1154, 79, 1157, 1156, 56], (10, 0, 0), 0, 0, some (mX11_isOpenMember, 4)),
  (165, 3, .ifCond .ne 6, [89], (0, 0, 0), 0, 0, none),
  (168, 3, .goto 46, [111], (0, 0, 0), 0, 0, none),
  (171, 3, .iinc 8 1, [], (0, 0, 0), 1, 0, none),
  (174, 2, .iload 7, [], (0, 0, 0), 0, 0, none),
  (176, 3, .ifCond .lt 34, [109], (0, 0, 0), 0, 0, none),
  (179, 1, .aload_n 0, [], (0, 0, 0), 0, 0, none),
  (180, 3, .getfield 29, [], (10, 9, 909), 0, 0, none),
  (183, 1, .aload_n 0, [], (0, 0, 0), 0, 0, none),
  (184, 3, .getfield 50, [], (10, 17, 917), 0, 0, none),
  (187, 2, .iload 7, [], (0, 0, 0), 0, 0, none),
  (189, 1, .iaload, [], (0, 0, 0), 0, 0, none),
  (190, 1, .iaload, [], (0, 0, 0), 0, 0, none),
  (191, 1, .iconst 1, [], (0, 0, 0), 1, 0, none),
  (192, 3, .if_icmp .ne 22, [111], (0, 0, 0), 0, 0, none),
  (195, 1, .aload_n 0, [], (0, 0, 0), 0, 0, none),
  (196, 3, .getfield 29, [], (10, 9, 909), 0, 0, none),
  (199, 1, .aload_n 0, [], (0, 0, 0), 0, 0, none),
  (200, 3, .getfield 50, [], (10, 17, 917), 0, 0, none),
  (203, 2, .iload 9, [], (0, 0, 0), 0, 0, none),
  (205, 1, .iaload, [], (0, 0, 0), 0, 0, none),
  (206, 1, .iaload, [], (0, 0, 0), 0, 0, none),
  (207, 3, .ifCond .ne 7, [111], (0, 0, 0), 0, 0, none),
  (210, 2, .iload 9, [], (0, 0, 0), 0, 0, none),
  (212, 2, .istore 7, [], (0, 0, 0), 0, 0, none),
  (214, 3, .iinc 9 1, [], (0, 0, 0), 1, 0, none),
  (217, 3, .goto (-111), [56], (0, 0, 0), 0, 0, none),
  (220, 2, .iload 8, [], (0, 0, 0), 0, 0, none),
  (222, 3, .ifCond .ne 6, [117], (0, 0, 0), 0, 0, none),
  (225, 2, .bipush (-13), [], (0, 0, 0), (-13), 0, none),
  (227, 1, .ireturn, [], (0, 0, 0), 0, 0, none),
  (228, 2, .iload 8, [], (0, 0, 0), 0, 0, none),
  (230, 1, .iconst 1, [], (0, 0, 0), 1, 0, none),
  (231, 3, .if_icmp .le 11, [124], (0, 0, 0), 0, 0, none),
  (234, 2, .iload 4, [], (0, 0, 0), 0, 0, none),
  (236, 3, .ifCond .ne 6, [124], (0, 0, 0), 0, 0, none),
  (239, 2, .bipush (-14), [], (0, 0, 0), (-14), 0, none),
  (241, 1, .ireturn, [], (0, 0, 0), 0, 0, none),
  (242, 1, .aload_n 0, [], (0, 0, 0), 0, 0, none),
  (243, 3, .getfield 62, [], (10, 21, 921), 0, 0, none),
  (246, 2, .iload 7, [], (0, 0, 0), 0, 0, none),
  (248, 1, .iaload, [], (0, 0, 0), 0, 0, none),
  (249, 1, .iconst 1, [], (0, 0, 0), 1, 0, none),
  (250, 3, .invokestatic 103, [1031, 79, 1033, 1032], (0, 0, 0), 0, 0, some (mX11_has, 2)),
  (253, 3, .ifCond .ne 26, [144], (0, 0, 0), 0, 0, none),
  (256, 1, .iload_n 2, [], (0, 0, 0), 0, 0, none),
  (257, 1, .iconst 1, [], (0, 0, 0), 1, 0, none),
  (258, 3, .if_icmp .eq 18, [142], (0, 0, 0), 0, 0, none),
  (261, 1, .iload_n 2, [], (0, 0, 0), 0, 0, none),
  (262, 1, .iconst 2, [], (0, 0, 0), 2, 0, none),
  (263, 3, .if_icmp .ne 16, [144], (0, 0, 0), 0, 0, none),
  (266, 1, .aload_n 0, [], (0, 0, 0), 0, 0, none),
  (267, 1, .iload_n 1, [], (0, 0, 0), 0, 0, none),
  (268, 2, .iload 6, [], (0, 0, 0), 0, 0, none),
  (270, 3, .invokevirtual 193, [1158, 79, 1161, 1160, 57], (10, 0, 0), 0, 0, some (mX11_isCut, 2)),
  (273, 3, .ifCond .eq 6, [144], (0, 0, 0), 0, 0, none),
  (276, 2, .bipush (-15), [], (0, 0, 0), (-15), 0, none),
  (278, 1, .ireturn, [], (0, 0, 0), 0, 0, none),
  (279, 1, .iload_n 2, [], (0, 0, 0), 0, 0, none),
  (280, 1, .iconst 3, [], (0, 0, 0), 3, 0, none),
  (281, 3, .if_icmp .ne 22, [156], (0, 0, 0), 0, 0, none),
  (284, 1, .aload_n 0, [], (0, 0, 0), 0, 0, none),
  (285, 3, .getfield 62, [], (10, 21, 921), 0, 0, none),
  (288, 2, .iload 7, [], (0, 0, 0), 0, 0, none),
  (290, 1, .iaload, [], (0, 0, 0), 0, 0, none),
  (291, 1, .iconst 4, [], (0, 0, 0), 4, 0, none),
  (292, 3, .invokestatic 103, [1031, 79, 1033, 1032], (0, 0, 0), 0, 0, some (mX11_has, 2)),
  (295, 3, .ifCond .eq 8, [156], (0, 0, 0), 0, 0, none),
  (298, 2, .bipush (-16), [], (0, 0, 0), (-16), 0, none),
  (300, 3, .goto 5, [157], (0, 0, 0), 0, 0, none),
  (303, 2, .iload 7, [], (0, 0, 0), 0, 0, none),
  (305, 1, .ireturn, [], (0, 0, 0), 0, 0, none)]
set_option maxRecDepth 100000 in
theorem vX11_use : ab_chk mX11_use.1.cls mX11_use kX11_use = true := by decide +kernel
def mX11_make : ab_Md := (yX11_make, cX11_make, 9, some .int, { frames := 4, cells := 0, slots := 0, locals := 93 })
def kX11_make : List ab_En := [
  (0, 1, .aload_n 0, [], (0, 0, 0), 0, 0, none),
  (1, 1, .iload_n 1, [], (0, 0, 0), 0, 0, none),
  (2, 3, .invokevirtual 107, [1020, 79, 1023, 1022, 33], (10, 0, 0), 0, 0, some (mX11_noType, 1)),
  (5, 3, .ifCond .ne 37, [21], (0, 0, 0), 0, 0, none),
  (8, 1, .iload_n 2, [], (0, 0, 0), 0, 0, none),
  (9, 3, .ifCond .lt 33, [21], (0, 0, 0), 0, 0, none),
  (12, 1, .iload_n 2, [], (0, 0, 0), 0, 0, none),
  (13, 1, .iconst 2, [], (0, 0, 0), 2, 0, none),
  (14, 3, .if_icmp .gt 28, [21], (0, 0, 0), 0, 0, none),
  (17, 1, .iload_n 2, [], (0, 0, 0), 0, 0, none),
  (18, 1, .iconst 2, [], (0, 0, 0), 2, 0, none),
  (19, 3, .if_icmp .ge 11, [16], (0, 0, 0), 0, 0, none),
  (22, 1, .aload_n 0, [], (0, 0, 0), 0, 0, none),
  (23, 1, .iload_n 3, [], (0, 0, 0), 0, 0, none),
  (24, 3, .invokevirtual 107, [1020, 79, 1023, 1022, 33], (10, 0, 0), 0, 0, some (mX11_noType, 1)),
  (27, 3, .ifCond .ne 15, [21], (0, 0, 0), 0, 0, none),
  (30, 2, .iload 4, [], (0, 0, 0), 0, 0, none),
  (32, 3, .ifCond .lt 10, [21], (0, 0, 0), 0, 0, none),
  (35, 2, .iload 4, [], (0, 0, 0), 0, 0, none),
  (37, 2, .bipush 9, [], (0, 0, 0), 9, 0, none),
  (39, 3, .if_icmp .le 5, [23], (0, 0, 0), 0, 0, none),
  (42, 1, .iconst (-1), [], (0, 0, 0), (-1), 0, none),
  (43, 1, .ireturn, [], (0, 0, 0), 0, 0, none),
  (44, 1, .iload_n 2, [], (0, 0, 0), 0, 0, none),
  (45, 1, .iconst 2, [], (0, 0, 0), 2, 0, none),
  (46, 3, .if_icmp .ne 12, [31], (0, 0, 0), 0, 0, none),
  (49, 1, .aload_n 0, [], (0, 0, 0), 0, 0, none),
  (50, 3, .getfield 38, [], (10, 12, 912), 0, 0, none),
  (53, 1, .iload_n 1, [], (0, 0, 0), 0, 0, none),
  (54, 1, .iaload, [], (0, 0, 0), 0, 0, none),
  (55, 3, .goto 18, [39], (0, 0, 0), 0, 0, none),
  (58, 1, .aload_n 0, [], (0, 0, 0), 0, 0, none),
  (59, 1, .iload_n 1, [], (0, 0, 0), 0, 0, none),
  (60, 1, .iload_n 3, [], (0, 0, 0), 0, 0, none),
  (61, 3, .invokevirtual 176, [1126, 79, 1129, 1128, 51], (10, 0, 0), 0, 0, some (mX11_isOpen, 2)),
  (64, 3, .ifCond .eq 7, [38], (0, 0, 0), 0, 0, none),
  (67, 1, .iload_n 3, [], (0, 0, 0), 0, 0, none),
  (68, 3, .goto 5, [39], (0, 0, 0), 0, 0, none),
  (71, 2, .bipush (-2), [], (0, 0, 0), (-2), 0, none),
  (73, 2, .istore 5, [], (0, 0, 0), 0, 0, none),
  (75, 2, .iload 5, [], (0, 0, 0), 0, 0, none),
  (77, 3, .ifCond .ge 6, [44], (0, 0, 0), 0, 0, none),
  (80, 2, .bipush (-11), [], (0, 0, 0), (-11), 0, none),
  (82, 1, .ireturn, [], (0, 0, 0), 0, 0, none),
  (83, 1, .aload_n 0, [], (0, 0, 0), 0, 0, none),
  (84, 2, .iload 5, [], (0, 0, 0), 0, 0, none),
  (86, 1, .iconst 2, [], (0, 0, 0), 2, 0, none),
  (87, 2, .iload 4, [], (0, 0, 0), 0, 0, none),
  (89, 3, .invokevirtual 131, [1062, 79, 1065, 1064, 39], (10, 0, 0), 0, 0, some (mX11_declared, 3)),
  (92, 2, .istore 6, [], (0, 0, 0), 0, 0, none),
  (94, 2, .iload 6, [], (0, 0, 0), 0, 0, none),
  (96, 3, .ifCond .ge 6, [54], (0, 0, 0), 0, 0, none),
  (99, 2, .bipush (-12), [], (0, 0, 0), (-12), 0, none),
  (101, 1, .ireturn, [], (0, 0, 0), 0, 0, none),
  (102, 1, .aload_n 0, [], (0, 0, 0), 0, 0, none),
  (103, 3, .getfield 23, [], (10, 7, 907), 0, 0, none),
  (106, 1, .iload_n 1, [], (0, 0, 0), 0, 0, none),
  (107, 1, .iaload, [], (0, 0, 0), 0, 0, none),
  (108, 1, .aload_n 0, [], (0, 0, 0), 0, 0, none),
  (109, 3, .getfield 23, [], (10, 7, 907), 0, 0, none),
  (112, 2, .iload 5, [], (0, 0, 0), 0, 0, none),
  (114, 1, .iaload, [], (0, 0, 0), 0, 0, none),
  (115, 3, .if_icmp .ne 7, [65], (0, 0, 0), 0, 0, none),
  (118, 1, .iconst 1, [], (0, 0, 0), 1, 0, none),
  (119, 3, .goto 4, [66], (0, 0, 0), 0, 0, none),
  (122, 1, .iconst 0, [], (0, 0, 0), 0, 0, none),
  (123, 2, .istore 7, [], (0, 0, 0), 0, 0, none),
  (125, 1, .aload_n 0, [], (0, 0, 0), 0, 0, none),
  (126, 3, .getfield 59, [], (10, 20, 920), 0, 0, none),
  (129, 2, .iload 6, [], (0, 0, 0), 0, 0, none),
  (131, 1, .iaload, [], (0, 0, 0), 0, 0, none),
  (132, 2, .istore 8, [], (0, 0, 0), 0, 0, none),
  (134, 2, .iload 8, [], (0, 0, 0), 0, 0, none),
  (136, 3, .ifCond .ne 17, [81], (0, 0, 0), 0, 0, none),
  (139, 1, .aload_n 0, [], (0, 0, 0), 0, 0, none),
  (140, 1, .iload_n 1, [], (0, 0, 0), 0, 0, none),
  (141, 3, .invokevirtual 138, [1074, 79, 1077, 1076, 40], (10, 0, 0), 0, 0, some (mX11_topOf, 1)),
  (144, 1, .aload_n 0, [], (0, 0, 0), 0, 0, none),
  (145, 2, .iload 5, [], (0, 0, 0), 0, 0, none),
  (147, 3, .invokevirtual 138, [1074, 79, 1077, 1076, 40], (10, 0, 0), 0, 0, some (mX11_topOf, 1)),
  (150, 3, .if_icmp .ne 29, [93], (0, 0, 0), 0, 0, none),
  (153, 2, .iload 8, [], (0, 0, 0), 0, 0, none),
  (155, 1, .iconst 1, [], (0, 0, 0), 1, 0, none),
  (156, 3, .if_icmp .ne 8, [86], (0, 0, 0), 0, 0, none),
  (159, 2, .iload 7, [], (0, 0, 0), 0, 0, none),
  (161, 3, .ifCond .eq 18, [93], (0, 0, 0), 0, 0, none),
  (164, 2, .iload 8, [], (0, 0, 0), 0, 0, none),
  (166, 1, .iconst 2, [], (0, 0, 0), 2, 0, none),
  (167, 3, .if_icmp .ne 15, [95], (0, 0, 0), 0, 0, none),
  (170, 2, .iload 7, [], (0, 0, 0), 0, 0, none),
  (172, 3, .ifCond .ne 10, [95], (0, 0, 0), 0, 0, none),
  (175, 1, .iload_n 2, [], (0, 0, 0), 0, 0, none),
  (176, 3, .ifCond .ne 6, [95], (0, 0, 0), 0, 0, none),
  (179, 2, .bipush (-13), [], (0, 0, 0), (-13), 0, none),
  (181, 1, .ireturn, [], (0, 0, 0), 0, 0, none),
  (182, 1, .iload_n 2, [], (0, 0, 0), 0, 0, none),
  (183, 3, .ifCond .ne 20, [106], (0, 0, 0), 0, 0, none),
  (186, 1, .aload_n 0, [], (0, 0, 0), 0, 0, none),
  (187, 3, .getfield 35, [], (10, 11, 911), 0, 0, none),
  (190, 2, .iload 5, [], (0, 0, 0), 0, 0, none),
  (192, 1, .iaload, [], (0, 0, 0), 0, 0, none),
  (193, 1, .iconst 4, [], (0, 0, 0), 4, 0, none),
  (194, 3, .invokestatic 103, [1031, 79, 1033, 1032], (0, 0, 0), 0, 0, some (mX11_has, 2)),
  (197, 3, .ifCond .eq 6, [106], (0, 0, 0), 0, 0, none),
  (200, 2, .bipush (-15), [], (0, 0, 0), (-15), 0, none),
  (202, 1, .ireturn, [], (0, 0, 0), 0, 0, none),
  (203, 1, .iload_n 2, [], (0, 0, 0), 0, 0, none),
  (204, 1, .iconst 1, [], (0, 0, 0), 1, 0, none),
  (205, 3, .if_icmp .ne 22, [118], (0, 0, 0), 0, 0, none),
  (208, 1, .aload_n 0, [], (0, 0, 0), 0, 0, none),
  (209, 3, .getfield 35, [], (10, 11, 911), 0, 0, none),
  (212, 2, .iload 5, [], (0, 0, 0), 0, 0, none),
  (214, 1, .iaload, [], (0, 0, 0), 0, 0, none),
  (215, 1, .iconst 2, [], (0, 0, 0), 2, 0, none),
  (216, 3, .invokestatic 103, [1031, 79, 1033, 1032], (0, 0, 0), 0, 0, some (mX11_has, 2)),
  (219, 3, .ifCond .eq 8, [118], (0, 0, 0), 0, 0, none),
  (222, 2, .bipush (-16), [], (0, 0, 0), (-16), 0, none),
  (224, 3, .goto 5, [119], (0, 0, 0), 0, 0, none),
  (227, 2, .iload 6, [], (0, 0, 0), 0, 0, none),
  (229, 1, .ireturn, [], (0, 0, 0), 0, 0, none)]
set_option maxRecDepth 100000 in
theorem vX11_make : ab_chk mX11_make.1.cls mX11_make kX11_make = true := by decide +kernel
def mX11_noMethod : ab_Md := (yX11_noMethod, cX11_noMethod, 2, some .boolean, { frames := 1, cells := 0, slots := 0, locals := 21 })
def kX11_noMethod : List ab_En := [
  (0, 1, .aload_n 0, [], (0, 0, 0), 0, 0, none),
  (1, 1, .iload_n 1, [], (0, 0, 0), 0, 0, none),
  (2, 3, .invokevirtual 179, [1138, 79, 1141, 1140, 53], (10, 0, 0), 0, 0, some (mX11_noMember, 1)),
  (5, 3, .ifCond .ne 13, [10], (0, 0, 0), 0, 0, none),
  (8, 1, .aload_n 0, [], (0, 0, 0), 0, 0, none),
  (9, 3, .getfield 53, [], (10, 18, 918), 0, 0, none),
  (12, 1, .iload_n 1, [], (0, 0, 0), 0, 0, none),
  (13, 1, .iaload, [], (0, 0, 0), 0, 0, none),
  (14, 1, .iconst 1, [], (0, 0, 0), 1, 0, none),
  (15, 3, .if_icmp .eq 7, [12], (0, 0, 0), 0, 0, none),
  (18, 1, .iconst 1, [], (0, 0, 0), 1, 0, none),
  (19, 3, .goto 4, [13], (0, 0, 0), 0, 0, none),
  (22, 1, .iconst 0, [], (0, 0, 0), 0, 0, none),
  (23, 1, .ireturn, [], (0, 0, 0), 0, 0, none)]
set_option maxRecDepth 100000 in
theorem vX11_noMethod : ab_chk mX11_noMethod.1.cls mX11_noMethod kX11_noMethod = true := by decide +kernel
def mX11_overrides : ab_Md := (yX11_overrides, cX11_overrides, 3, some .int, { frames := 5, cells := 0, slots := 0, locals := 110 })
def kX11_overrides : List ab_En := [
  (0, 1, .aload_n 0, [], (0, 0, 0), 0, 0, none),
  (1, 1, .iload_n 1, [], (0, 0, 0), 0, 0, none),
  (2, 3, .invokevirtual 196, [1170, 79, 1173, 1172, 58], (10, 0, 0), 0, 0, some (mX11_noMethod, 1)),
  (5, 3, .ifCond .ne 11, [8], (0, 0, 0), 0, 0, none),
  (8, 1, .aload_n 0, [], (0, 0, 0), 0, 0, none),
  (9, 1, .iload_n 2, [], (0, 0, 0), 0, 0, none),
  (10, 3, .invokevirtual 196, [1170, 79, 1173, 1172, 58], (10, 0, 0), 0, 0, some (mX11_noMethod, 1)),
  (13, 3, .ifCond .eq 5, [10], (0, 0, 0), 0, 0, none),
  (16, 1, .iconst (-1), [], (0, 0, 0), (-1), 0, none),
  (17, 1, .ireturn, [], (0, 0, 0), 0, 0, none),
  (18, 1, .aload_n 0, [], (0, 0, 0), 0, 0, none),
  (19, 3, .invokevirtual 142, [1078, 79, 1081, 1080, 41], (10, 0, 0), 0, 0, some (mX11_find, 0)),
  (22, 1, .aload_n 0, [], (0, 0, 0), 0, 0, none),
  (23, 3, .getfield 71, [], (10, 25, 925), 0, 0, none),
  (26, 2, .bipush 120, [], (0, 0, 0), 120, 0, none),
  (28, 1, .iload_n 1, [], (0, 0, 0), 0, 0, none),
  (29, 1, .imul, [], (0, 0, 0), 0, 0, none),
  (30, 1, .iload_n 2, [], (0, 0, 0), 0, 0, none),
  (31, 1, .iadd, [], (0, 0, 0), 0, 0, none),
  (32, 1, .baload, [], (0, 0, 0), 0, 0, none),
  (33, 3, .ifCond .eq 7, [23], (0, 0, 0), 0, 0, none),
  (36, 1, .iconst 1, [], (0, 0, 0), 1, 0, none),
  (37, 3, .goto 4, [24], (0, 0, 0), 0, 0, none),
  (40, 1, .iconst 0, [], (0, 0, 0), 0, 0, none),
  (41, 1, .ireturn, [], (0, 0, 0), 0, 0, none)]
set_option maxRecDepth 100000 in
theorem vX11_overrides : ab_chk mX11_overrides.1.cls mX11_overrides kX11_overrides = true := by decide +kernel
def mX11_isFaced : ab_Md := (yX11_isFaced, cX11_isFaced, 4, some .boolean, { frames := 2, cells := 0, slots := 0, locals := 42 })
def kX11_isFaced : List ab_En := [
  (0, 1, .aload_n 0, [], (0, 0, 0), 0, 0, none),
  (1, 3, .getfield 53, [], (10, 18, 918), 0, 0, none),
  (4, 1, .iload_n 1, [], (0, 0, 0), 0, 0, none),
  (5, 1, .iaload, [], (0, 0, 0), 0, 0, none),
  (6, 1, .iconst 1, [], (0, 0, 0), 1, 0, none),
  (7, 3, .if_icmp .ne 54, [35], (0, 0, 0), 0, 0, none),
  (10, 1, .aload_n 0, [], (0, 0, 0), 0, 0, none),
  (11, 3, .getfield 56, [], (10, 19, 919), 0, 0, none),
  (14, 1, .iload_n 1, [], (0, 0, 0), 0, 0, none),
  (15, 1, .iaload, [], (0, 0, 0), 0, 0, none),
  (16, 1, .iload_n 2, [], (0, 0, 0), 0, 0, none),
  (17, 3, .if_icmp .ne 44, [35], (0, 0, 0), 0, 0, none),
  (20, 1, .aload_n 0, [], (0, 0, 0), 0, 0, none),
  (21, 1, .iload_n 1, [], (0, 0, 0), 0, 0, none),
  (22, 3, .invokevirtual 161, [1098, 79, 1101, 1100, 46], (10, 0, 0), 0, 0, some (mX11_isPlain, 1)),
  (25, 3, .ifCond .eq 36, [35], (0, 0, 0), 0, 0, none),
  (28, 1, .aload_n 0, [], (0, 0, 0), 0, 0, none),
  (29, 3, .getfield 29, [], (10, 9, 909), 0, 0, none),
  (32, 1, .aload_n 0, [], (0, 0, 0), 0, 0, none),
  (33, 3, .getfield 50, [], (10, 17, 917), 0, 0, none),
  (36, 1, .iload_n 1, [], (0, 0, 0), 0, 0, none),
  (37, 1, .iaload, [], (0, 0, 0), 0, 0, none),
  (38, 1, .iaload, [], (0, 0, 0), 0, 0, none),
  (39, 1, .iconst 1, [], (0, 0, 0), 1, 0, none),
  (40, 3, .if_icmp .ne 21, [35], (0, 0, 0), 0, 0, none),
  (43, 1, .aload_n 0, [], (0, 0, 0), 0, 0, none),
  (44, 1, .iload_n 3, [], (0, 0, 0), 0, 0, none),
  (45, 1, .aload_n 0, [], (0, 0, 0), 0, 0, none),
  (46, 3, .getfield 50, [], (10, 17, 917), 0, 0, none),
  (49, 1, .iload_n 1, [], (0, 0, 0), 0, 0, none),
  (50, 1, .iaload, [], (0, 0, 0), 0, 0, none),
  (51, 3, .invokevirtual 121, [1042, 79, 1045, 1044, 36], (10, 0, 0), 0, 0, some (mX11_isBelow, 2)),
  (54, 3, .ifCond .eq 7, [35], (0, 0, 0), 0, 0, none),
  (57, 1, .iconst 1, [], (0, 0, 0), 1, 0, none),
  (58, 3, .goto 4, [36], (0, 0, 0), 0, 0, none),
  (61, 1, .iconst 0, [], (0, 0, 0), 0, 0, none),
  (62, 1, .ireturn, [], (0, 0, 0), 0, 0, none)]
set_option maxRecDepth 100000 in
theorem vX11_isFaced : ab_chk mX11_isFaced.1.cls mX11_isFaced kX11_isFaced = true := by decide +kernel
end
section
def mX11_isUnder : ab_Md := (yX11_isUnder, cX11_isUnder, 5, some .boolean, { frames := 3, cells := 0, slots := 0, locals := 65 })
def kX11_isUnder : List ab_En := [
  (0, 1, .iconst 0, [], (0, 0, 0), 0, 0, none),
  (1, 1, .istore_n 3, [], (0, 0, 0), 0, 0, none),
  (2, 1, .iconst 0, [], (0, 0, 0), 0, 0, none),
  (3, 2, .istore 4, [], (0, 0, 0), 0, 0, none),
  (5, 2, .iload 4, [], (0, 0, 0), 0, 0, none),
  (7, 1, .aload_n 0, [], (0, 0, 0), 0, 0, none),
  (8, 3, .getfield 93, [], (10, 16, 916), 0, 0, none),
  (11, 3, .if_icmp .ge 53, [36], (0, 0, 0), 0, 0, none),
  (14, 1, .iload_n 3, [], (0, 0, 0), 0, 0, none),
  (15, 1, .aload_n 0, [], (0, 0, 0), 0, 0, none),
  (16, 2, .iload 4, [], (0, 0, 0), 0, 0, none),
  (18, 1, .aload_n 0, [], (0, 0, 0), 0, 0, none),
  (19, 3, .getfield 56, [], (10, 19, 919), 0, 0, none),
  (22, 1, .iload_n 1, [], (0, 0, 0), 0, 0, none),
  (23, 1, .iaload, [], (0, 0, 0), 0, 0, none),
  (24, 1, .iload_n 2, [], (0, 0, 0), 0, 0, none),
  (25, 3, .invokevirtual 199, [1178, 79, 1181, 1180, 59], (10, 0, 0), 0, 0, some (mX11_isFaced, 3)),
  (28, 3, .ifCond .eq 27, [31], (0, 0, 0), 0, 0, none),
  (31, 1, .aload_n 0, [], (0, 0, 0), 0, 0, none),
  (32, 1, .aload_n 0, [], (0, 0, 0), 0, 0, none),
  (33, 3, .getfield 50, [], (10, 17, 917), 0, 0, none),
  (36, 2, .iload 4, [], (0, 0, 0), 0, 0, none),
  (38, 1, .iaload, [], (0, 0, 0), 0, 0, none),
  (39, 1, .aload_n 0, [], (0, 0, 0), 0, 0, none),
  (40, 3, .getfield 50, [], (10, 17, 917), 0, 0, none),
  (43, 1, .iload_n 1, [], (0, 0, 0), 0, 0, none),
  (44, 1, .iaload, [], (0, 0, 0), 0, 0, none),
  (45, 3, .invokevirtual 121, [1042, 79, 1045, 1044, 36], (10, 0, 0), 0, 0, some (mX11_isBelow, 2)),
  (48, 3, .ifCond .eq 7, [31], (0, 0, 0), 0, 0, none),
  (51, 1, .iconst 1, [], (0, 0, 0), 1, 0, none),
  (52, 3, .goto 4, [32], (0, 0, 0), 0, 0, none),
  (55, 1, .iconst 0, [], (0, 0, 0), 0, 0, none),
  (56, 1, .ior, [], (0, 0, 0), 0, 0, none),
  (57, 1, .istore_n 3, [], (0, 0, 0), 0, 0, none),
  (58, 3, .iinc 4 1, [], (0, 0, 0), 1, 0, none),
  (61, 3, .goto (-56), [4], (0, 0, 0), 0, 0, none),
  (64, 1, .iload_n 3, [], (0, 0, 0), 0, 0, none),
  (65, 1, .ireturn, [], (0, 0, 0), 0, 0, none)]
set_option maxRecDepth 100000 in
theorem vX11_isUnder : ab_chk mX11_isUnder.1.cls mX11_isUnder kX11_isUnder = true := by decide +kernel
def mX11_choose : ab_Md := (yX11_choose, cX11_choose, 5, some .int, { frames := 5, cells := 0, slots := 0, locals := 110 })
def kX11_choose : List ab_En := [
  (0, 1, .aload_n 0, [], (0, 0, 0), 0, 0, none),
  (1, 1, .iload_n 1, [], (0, 0, 0), 0, 0, none),
  (2, 3, .invokevirtual 196, [1170, 79, 1173, 1172, 58], (10, 0, 0), 0, 0, some (mX11_noMethod, 1)),
  (5, 3, .ifCond .ne 48, [29], (0, 0, 0), 0, 0, none),
  (8, 1, .aload_n 0, [], (0, 0, 0), 0, 0, none),
  (9, 1, .iload_n 2, [], (0, 0, 0), 0, 0, none),
  (10, 3, .invokevirtual 107, [1020, 79, 1023, 1022, 33], (10, 0, 0), 0, 0, some (mX11_noType, 1)),
  (13, 3, .ifCond .ne 40, [29], (0, 0, 0), 0, 0, none),
  (16, 1, .aload_n 0, [], (0, 0, 0), 0, 0, none),
  (17, 3, .getfield 29, [], (10, 9, 909), 0, 0, none),
  (20, 1, .iload_n 2, [], (0, 0, 0), 0, 0, none),
  (21, 1, .iaload, [], (0, 0, 0), 0, 0, none),
  (22, 1, .iconst 1, [], (0, 0, 0), 1, 0, none),
  (23, 3, .if_icmp .eq 30, [29], (0, 0, 0), 0, 0, none),
  (26, 1, .aload_n 0, [], (0, 0, 0), 0, 0, none),
  (27, 3, .getfield 35, [], (10, 11, 911), 0, 0, none),
  (30, 1, .iload_n 2, [], (0, 0, 0), 0, 0, none),
  (31, 1, .iaload, [], (0, 0, 0), 0, 0, none),
  (32, 1, .iconst 4, [], (0, 0, 0), 4, 0, none),
  (33, 3, .invokestatic 103, [1031, 79, 1033, 1032], (0, 0, 0), 0, 0, some (mX11_has, 2)),
  (36, 3, .ifCond .ne 17, [29], (0, 0, 0), 0, 0, none),
  (39, 1, .aload_n 0, [], (0, 0, 0), 0, 0, none),
  (40, 1, .iload_n 2, [], (0, 0, 0), 0, 0, none),
  (41, 1, .aload_n 0, [], (0, 0, 0), 0, 0, none),
  (42, 3, .getfield 50, [], (10, 17, 917), 0, 0, none),
  (45, 1, .iload_n 1, [], (0, 0, 0), 0, 0, none),
  (46, 1, .iaload, [], (0, 0, 0), 0, 0, none),
  (47, 3, .invokevirtual 124, [1038, 79, 1041, 1040, 35], (10, 0, 0), 0, 0, some (mX11_isAt, 2)),
  (50, 3, .ifCond .ne 5, [31], (0, 0, 0), 0, 0, none),
  (53, 1, .iconst (-1), [], (0, 0, 0), (-1), 0, none),
  (54, 1, .ireturn, [], (0, 0, 0), 0, 0, none),
  (55, 1, .aload_n 0, [], (0, 0, 0), 0, 0, none),
  (56, 1, .iload_n 1, [], (0, 0, 0), 0, 0, none),
  (57, 3, .invokevirtual 161, [1098, 79, 1101, 1100, 46], (10, 0, 0), 0, 0, some (mX11_isPlain, 1)),
  (60, 3, .ifCond .ne 5, [37], (0, 0, 0), 0, 0, none),
  (63, 1, .iload_n 1, [], (0, 0, 0), 0, 0, none),
  (64, 1, .ireturn, [], (0, 0, 0), 0, 0, none),
  (65, 1, .aload_n 0, [], (0, 0, 0), 0, 0, none),
  (66, 3, .invokevirtual 142, [1078, 79, 1081, 1080, 41], (10, 0, 0), 0, 0, some (mX11_find, 0)),
  (69, 1, .iload_n 2, [], (0, 0, 0), 0, 0, none),
  (70, 1, .istore_n 3, [], (0, 0, 0), 0, 0, none),
  (71, 1, .iload_n 3, [], (0, 0, 0), 0, 0, none),
  (72, 3, .ifCond .lt 80, [87], (0, 0, 0), 0, 0, none),
  (75, 1, .aload_n 0, [], (0, 0, 0), 0, 0, none),
  (76, 1, .iload_n 3, [], (0, 0, 0), 0, 0, none),
  (77, 1, .iconst 1, [], (0, 0, 0), 1, 0, none),
  (78, 1, .aload_n 0, [], (0, 0, 0), 0, 0, none),
  (79, 3, .getfield 56, [], (10, 19, 919), 0, 0, none),
  (82, 1, .iload_n 1, [], (0, 0, 0), 0, 0, none),
  (83, 1, .iaload, [], (0, 0, 0), 0, 0, none),
  (84, 3, .invokevirtual 131, [1062, 79, 1065, 1064, 39], (10, 0, 0), 0, 0, some (mX11_declared, 3)),
  (87, 2, .istore 4, [], (0, 0, 0), 0, 0, none),
  (89, 2, .iload 4, [], (0, 0, 0), 0, 0, none),
  (91, 3, .ifCond .lt 51, [81], (0, 0, 0), 0, 0, none),
  (94, 2, .iload 4, [], (0, 0, 0), 0, 0, none),
  (96, 1, .iload_n 1, [], (0, 0, 0), 0, 0, none),
  (97, 3, .if_icmp .eq 42, [79], (0, 0, 0), 0, 0, none),
  (100, 1, .aload_n 0, [], (0, 0, 0), 0, 0, none),
  (101, 3, .getfield 71, [], (10, 25, 925), 0, 0, none),
  (104, 2, .bipush 120, [], (0, 0, 0), 120, 0, none),
  (106, 2, .iload 4, [], (0, 0, 0), 0, 0, none),
  (108, 1, .imul, [], (0, 0, 0), 0, 0, none),
  (109, 1, .iload_n 1, [], (0, 0, 0), 0, 0, none),
  (110, 1, .iadd, [], (0, 0, 0), 0, 0, none),
  (111, 1, .baload, [], (0, 0, 0), 0, 0, none),
  (112, 3, .ifCond .ne 27, [79], (0, 0, 0), 0, 0, none),
  (115, 1, .aload_n 0, [], (0, 0, 0), 0, 0, none),
  (116, 3, .getfield 29, [], (10, 9, 909), 0, 0, none),
  (119, 1, .aload_n 0, [], (0, 0, 0), 0, 0, none),
  (120, 3, .getfield 50, [], (10, 17, 917), 0, 0, none),
  (123, 1, .iload_n 1, [], (0, 0, 0), 0, 0, none),
  (124, 1, .iaload, [], (0, 0, 0), 0, 0, none),
  (125, 1, .iaload, [], (0, 0, 0), 0, 0, none),
  (126, 1, .iconst 1, [], (0, 0, 0), 1, 0, none),
  (127, 3, .if_icmp .ne 15, [81], (0, 0, 0), 0, 0, none),
  (130, 1, .aload_n 0, [], (0, 0, 0), 0, 0, none),
  (131, 2, .iload 4, [], (0, 0, 0), 0, 0, none),
  (133, 3, .invokevirtual 161, [1098, 79, 1101, 1100, 46], (10, 0, 0), 0, 0, some (mX11_isPlain, 1)),
  (136, 3, .ifCond .eq 6, [81], (0, 0, 0), 0, 0, none),
  (139, 2, .iload 4, [], (0, 0, 0), 0, 0, none),
  (141, 1, .ireturn, [], (0, 0, 0), 0, 0, none),
  (142, 1, .aload_n 0, [], (0, 0, 0), 0, 0, none),
  (143, 3, .getfield 38, [], (10, 12, 912), 0, 0, none),
  (146, 1, .iload_n 3, [], (0, 0, 0), 0, 0, none),
  (147, 1, .iaload, [], (0, 0, 0), 0, 0, none),
  (148, 1, .istore_n 3, [], (0, 0, 0), 0, 0, none),
  (149, 3, .goto (-78), [41], (0, 0, 0), 0, 0, none),
  (152, 2, .bipush (-2), [], (0, 0, 0), (-2), 0, none),
  (154, 1, .istore_n 3, [], (0, 0, 0), 0, 0, none),
  (155, 1, .iconst 0, [], (0, 0, 0), 0, 0, none),
  (156, 2, .istore 4, [], (0, 0, 0), 0, 0, none),
  (158, 2, .iload 4, [], (0, 0, 0), 0, 0, none),
  (160, 1, .aload_n 0, [], (0, 0, 0), 0, 0, none),
  (161, 3, .getfield 93, [], (10, 16, 916), 0, 0, none),
  (164, 3, .if_icmp .ge 59, [124], (0, 0, 0), 0, 0, none),
  (167, 1, .aload_n 0, [], (0, 0, 0), 0, 0, none),
  (168, 2, .iload 4, [], (0, 0, 0), 0, 0, none),
  (170, 1, .aload_n 0, [], (0, 0, 0), 0, 0, none),
  (171, 3, .getfield 56, [], (10, 19, 919), 0, 0, none),
  (174, 1, .iload_n 1, [], (0, 0, 0), 0, 0, none),
  (175, 1, .iaload, [], (0, 0, 0), 0, 0, none),
  (176, 1, .iload_n 2, [], (0, 0, 0), 0, 0, none),
  (177, 3, .invokevirtual 199, [1178, 79, 1181, 1180, 59], (10, 0, 0), 0, 0, some (mX11_isFaced, 3)),
  (180, 3, .ifCond .eq 37, [122], (0, 0, 0), 0, 0, none),
  (183, 1, .aload_n 0, [], (0, 0, 0), 0, 0, none),
  (184, 3, .getfield 62, [], (10, 21, 921), 0, 0, none),
  (187, 2, .iload 4, [], (0, 0, 0), 0, 0, none),
  (189, 1, .iaload, [], (0, 0, 0), 0, 0, none),
  (190, 1, .iconst 4, [], (0, 0, 0), 4, 0, none),
  (191, 3, .invokestatic 103, [1031, 79, 1033, 1032], (0, 0, 0), 0, 0, some (mX11_has, 2)),
  (194, 3, .ifCond .ne 23, [122], (0, 0, 0), 0, 0, none),
  (197, 1, .aload_n 0, [], (0, 0, 0), 0, 0, none),
  (198, 2, .iload 4, [], (0, 0, 0), 0, 0, none),
  (200, 1, .iload_n 2, [], (0, 0, 0), 0, 0, none),
  (201, 3, .invokevirtual 202, [1182, 79, 1185, 1184, 60], (10, 0, 0), 0, 0, some (mX11_isUnder, 2)),
  (204, 3, .ifCond .ne 13, [122], (0, 0, 0), 0, 0, none),
  (207, 1, .iload_n 3, [], (0, 0, 0), 0, 0, none),
  (208, 3, .ifCond .lt 6, [120], (0, 0, 0), 0, 0, none),
  (211, 2, .bipush (-3), [], (0, 0, 0), (-3), 0, none),
  (213, 1, .ireturn, [], (0, 0, 0), 0, 0, none),
  (214, 2, .iload 4, [], (0, 0, 0), 0, 0, none),
  (216, 1, .istore_n 3, [], (0, 0, 0), 0, 0, none),
  (217, 3, .iinc 4 1, [], (0, 0, 0), 1, 0, none),
  (220, 3, .goto (-62), [91], (0, 0, 0), 0, 0, none),
  (223, 1, .iload_n 3, [], (0, 0, 0), 0, 0, none),
  (224, 1, .ireturn, [], (0, 0, 0), 0, 0, none)]
set_option maxRecDepth 100000 in
theorem vX11_choose : ab_chk mX11_choose.1.cls mX11_choose kX11_choose = true := by decide +kernel
def mX11_tell : ab_Md := (yX11_tell, cX11_tell, 3, none, { frames := 0, cells := 0, slots := 0, locals := 0 })
def kX11_tell : List ab_En := [
  (0, 1, .aload_n 0, [], (0, 0, 0), 0, 0, none),
  (1, 3, .getfield 77, [], (10, 27, 927), 0, 0, none),
  (4, 1, .aload_n 0, [], (0, 0, 0), 0, 0, none),
  (5, 3, .getfield 205, [], (10, 29, 929), 0, 0, none),
  (8, 1, .iload_n 1, [], (0, 0, 0), 0, 0, none),
  (9, 1, .iastore, [], (0, 0, 0), 0, 0, none),
  (10, 1, .aload_n 0, [], (0, 0, 0), 0, 0, none),
  (11, 3, .getfield 80, [], (10, 28, 928), 0, 0, none),
  (14, 1, .aload_n 0, [], (0, 0, 0), 0, 0, none),
  (15, 3, .getfield 205, [], (10, 29, 929), 0, 0, none),
  (18, 1, .iload_n 2, [], (0, 0, 0), 0, 0, none),
  (19, 1, .iastore, [], (0, 0, 0), 0, 0, none),
  (20, 1, .aload_n 0, [], (0, 0, 0), 0, 0, none),
  (21, 1, .dup, [], (0, 0, 0), 0, 0, none),
  (22, 3, .getfield 205, [], (10, 29, 929), 0, 0, none),
  (25, 1, .iconst 1, [], (0, 0, 0), 1, 0, none),
  (26, 1, .iadd, [], (0, 0, 0), 0, 0, none),
  (27, 3, .putfield 205, [0], (10, 29, 929), 0, 0, none),
  (30, 1, .return_, [], (0, 0, 0), 0, 0, none)]
set_option maxRecDepth 100000 in
theorem vX11_tell : ab_chk mX11_tell.1.cls mX11_tell kX11_tell = true := by decide +kernel
def mX11_isMet : ab_Md := (yX11_isMet, cX11_isMet, 4, some .boolean, { frames := 1, cells := 0, slots := 0, locals := 22 })
def kX11_isMet : List ab_En := [
  (0, 1, .aload_n 0, [], (0, 0, 0), 0, 0, none),
  (1, 3, .getfield 53, [], (10, 18, 918), 0, 0, none),
  (4, 1, .iload_n 2, [], (0, 0, 0), 0, 0, none),
  (5, 1, .iaload, [], (0, 0, 0), 0, 0, none),
  (6, 1, .iconst 1, [], (0, 0, 0), 1, 0, none),
  (7, 3, .if_icmp .ne 41, [28], (0, 0, 0), 0, 0, none),
  (10, 1, .aload_n 0, [], (0, 0, 0), 0, 0, none),
  (11, 3, .getfield 56, [], (10, 19, 919), 0, 0, none),
  (14, 1, .iload_n 2, [], (0, 0, 0), 0, 0, none),
  (15, 1, .iaload, [], (0, 0, 0), 0, 0, none),
  (16, 1, .aload_n 0, [], (0, 0, 0), 0, 0, none),
  (17, 3, .getfield 56, [], (10, 19, 919), 0, 0, none),
  (20, 1, .iload_n 1, [], (0, 0, 0), 0, 0, none),
  (21, 1, .iaload, [], (0, 0, 0), 0, 0, none),
  (22, 3, .if_icmp .ne 26, [28], (0, 0, 0), 0, 0, none),
  (25, 1, .aload_n 0, [], (0, 0, 0), 0, 0, none),
  (26, 3, .getfield 59, [], (10, 20, 920), 0, 0, none),
  (29, 1, .iload_n 2, [], (0, 0, 0), 0, 0, none),
  (30, 1, .iaload, [], (0, 0, 0), 0, 0, none),
  (31, 3, .ifCond .eq 17, [28], (0, 0, 0), 0, 0, none),
  (34, 1, .aload_n 0, [], (0, 0, 0), 0, 0, none),
  (35, 1, .iload_n 3, [], (0, 0, 0), 0, 0, none),
  (36, 1, .aload_n 0, [], (0, 0, 0), 0, 0, none),
  (37, 3, .getfield 50, [], (10, 17, 917), 0, 0, none),
  (40, 1, .iload_n 2, [], (0, 0, 0), 0, 0, none),
  (41, 1, .iaload, [], (0, 0, 0), 0, 0, none),
  (42, 3, .invokevirtual 121, [1042, 79, 1045, 1044, 36], (10, 0, 0), 0, 0, some (mX11_isBelow, 2)),
  (45, 3, .ifCond .ne 5, [30], (0, 0, 0), 0, 0, none),
  (48, 1, .iconst 0, [], (0, 0, 0), 0, 0, none),
  (49, 1, .ireturn, [], (0, 0, 0), 0, 0, none),
  (50, 1, .aload_n 0, [], (0, 0, 0), 0, 0, none),
  (51, 3, .getfield 29, [], (10, 9, 909), 0, 0, none),
  (54, 1, .aload_n 0, [], (0, 0, 0), 0, 0, none),
  (55, 3, .getfield 50, [], (10, 17, 917), 0, 0, none),
  (58, 1, .iload_n 2, [], (0, 0, 0), 0, 0, none),
  (59, 1, .iaload, [], (0, 0, 0), 0, 0, none),
  (60, 1, .iaload, [], (0, 0, 0), 0, 0, none),
  (61, 1, .iconst 1, [], (0, 0, 0), 1, 0, none),
  (62, 3, .if_icmp .ne 18, [48], (0, 0, 0), 0, 0, none),
  (65, 1, .aload_n 0, [], (0, 0, 0), 0, 0, none),
  (66, 3, .getfield 62, [], (10, 21, 921), 0, 0, none),
  (69, 1, .iload_n 2, [], (0, 0, 0), 0, 0, none),
  (70, 1, .iaload, [], (0, 0, 0), 0, 0, none),
  (71, 1, .iconst 1, [], (0, 0, 0), 1, 0, none),
  (72, 3, .invokestatic 103, [1031, 79, 1033, 1032], (0, 0, 0), 0, 0, some (mX11_has, 2)),
  (75, 3, .ifCond .eq 5, [48], (0, 0, 0), 0, 0, none),
  (78, 1, .iconst 0, [], (0, 0, 0), 0, 0, none),
  (79, 1, .ireturn, [], (0, 0, 0), 0, 0, none),
  (80, 1, .aload_n 0, [], (0, 0, 0), 0, 0, none),
  (81, 3, .getfield 59, [], (10, 20, 920), 0, 0, none),
  (84, 1, .iload_n 2, [], (0, 0, 0), 0, 0, none),
  (85, 1, .iaload, [], (0, 0, 0), 0, 0, none),
  (86, 1, .iconst 1, [], (0, 0, 0), 1, 0, none),
  (87, 3, .if_icmp .ne 37, [75], (0, 0, 0), 0, 0, none),
  (90, 1, .aload_n 0, [], (0, 0, 0), 0, 0, none),
  (91, 3, .getfield 23, [], (10, 7, 907), 0, 0, none),
  (94, 1, .aload_n 0, [], (0, 0, 0), 0, 0, none),
  (95, 3, .getfield 50, [], (10, 17, 917), 0, 0, none),
  (98, 1, .iload_n 2, [], (0, 0, 0), 0, 0, none),
  (99, 1, .iaload, [], (0, 0, 0), 0, 0, none),
  (100, 1, .iaload, [], (0, 0, 0), 0, 0, none),
  (101, 1, .aload_n 0, [], (0, 0, 0), 0, 0, none),
  (102, 3, .getfield 23, [], (10, 7, 907), 0, 0, none),
  (105, 1, .iload_n 3, [], (0, 0, 0), 0, 0, none),
  (106, 1, .iaload, [], (0, 0, 0), 0, 0, none),
  (107, 3, .if_icmp .eq 17, [75], (0, 0, 0), 0, 0, none),
  (110, 1, .aload_n 0, [], (0, 0, 0), 0, 0, none),
  (111, 3, .getfield 71, [], (10, 25, 925), 0, 0, none),
  (114, 2, .bipush 120, [], (0, 0, 0), 120, 0, none),
  (116, 1, .iload_n 1, [], (0, 0, 0), 0, 0, none),
  (117, 1, .imul, [], (0, 0, 0), 0, 0, none),
  (118, 1, .iload_n 2, [], (0, 0, 0), 0, 0, none),
  (119, 1, .iadd, [], (0, 0, 0), 0, 0, none),
  (120, 1, .baload, [], (0, 0, 0), 0, 0, none),
  (121, 3, .ifCond .eq 7, [77], (0, 0, 0), 0, 0, none),
  (124, 1, .iconst 1, [], (0, 0, 0), 1, 0, none),
  (125, 3, .goto 4, [78], (0, 0, 0), 0, 0, none),
  (128, 1, .iconst 0, [], (0, 0, 0), 0, 0, none),
  (129, 1, .ireturn, [], (0, 0, 0), 0, 0, none)]
set_option maxRecDepth 100000 in
theorem vX11_isMet : ab_chk mX11_isMet.1.cls mX11_isMet kX11_isMet = true := by decide +kernel
def mX11_isWrong : ab_Md := (yX11_isWrong, cX11_isWrong, 4, some .boolean, { frames := 1, cells := 0, slots := 0, locals := 21 })
def kX11_isWrong : List ab_En := [
  (0, 1, .iload_n 1, [], (0, 0, 0), 0, 0, none),
  (1, 1, .iconst 4, [], (0, 0, 0), 4, 0, none),
  (2, 3, .if_icmp .ne 26, [16], (0, 0, 0), 0, 0, none),
  (5, 1, .aload_n 0, [], (0, 0, 0), 0, 0, none),
  (6, 3, .getfield 59, [], (10, 20, 920), 0, 0, none),
  (9, 1, .iload_n 3, [], (0, 0, 0), 0, 0, none),
  (10, 1, .iaload, [], (0, 0, 0), 0, 0, none),
  (11, 1, .aload_n 0, [], (0, 0, 0), 0, 0, none),
  (12, 3, .getfield 59, [], (10, 20, 920), 0, 0, none),
  (15, 1, .iload_n 2, [], (0, 0, 0), 0, 0, none),
  (16, 1, .iaload, [], (0, 0, 0), 0, 0, none),
  (17, 3, .if_icmp .le 7, [14], (0, 0, 0), 0, 0, none),
  (20, 1, .iconst 1, [], (0, 0, 0), 1, 0, none),
  (21, 3, .goto 53, [42], (0, 0, 0), 0, 0, none),
  (24, 1, .iconst 0, [], (0, 0, 0), 0, 0, none),
  (25, 3, .goto 49, [42], (0, 0, 0), 0, 0, none),
  (28, 1, .iload_n 1, [], (0, 0, 0), 0, 0, none),
  (29, 1, .iconst 5, [], (0, 0, 0), 5, 0, none),
  (30, 3, .if_icmp .ne 16, [26], (0, 0, 0), 0, 0, none),
  (33, 1, .aload_n 0, [], (0, 0, 0), 0, 0, none),
  (34, 3, .getfield 62, [], (10, 21, 921), 0, 0, none),
  (37, 1, .iload_n 3, [], (0, 0, 0), 0, 0, none),
  (38, 1, .iaload, [], (0, 0, 0), 0, 0, none),
  (39, 1, .iconst 2, [], (0, 0, 0), 2, 0, none),
  (40, 3, .invokestatic 103, [1031, 79, 1033, 1032], (0, 0, 0), 0, 0, some (mX11_has, 2)),
  (43, 3, .goto 31, [42], (0, 0, 0), 0, 0, none),
  (46, 1, .aload_n 0, [], (0, 0, 0), 0, 0, none),
  (47, 3, .getfield 62, [], (10, 21, 921), 0, 0, none),
  (50, 1, .iload_n 3, [], (0, 0, 0), 0, 0, none),
  (51, 1, .iaload, [], (0, 0, 0), 0, 0, none),
  (52, 1, .iconst 1, [], (0, 0, 0), 1, 0, none),
  (53, 3, .invokestatic 103, [1031, 79, 1033, 1032], (0, 0, 0), 0, 0, some (mX11_has, 2)),
  (56, 1, .aload_n 0, [], (0, 0, 0), 0, 0, none),
  (57, 3, .getfield 62, [], (10, 21, 921), 0, 0, none),
  (60, 1, .iload_n 2, [], (0, 0, 0), 0, 0, none),
  (61, 1, .iaload, [], (0, 0, 0), 0, 0, none),
  (62, 1, .iconst 1, [], (0, 0, 0), 1, 0, none),
  (63, 3, .invokestatic 103, [1031, 79, 1033, 1032], (0, 0, 0), 0, 0, some (mX11_has, 2)),
  (66, 3, .if_icmp .eq 7, [41], (0, 0, 0), 0, 0, none),
  (69, 1, .iconst 1, [], (0, 0, 0), 1, 0, none),
  (70, 3, .goto 4, [42], (0, 0, 0), 0, 0, none),
  (73, 1, .iconst 0, [], (0, 0, 0), 0, 0, none),
  (74, 1, .ireturn, [], (0, 0, 0), 0, 0, none)]
set_option maxRecDepth 100000 in
theorem vX11_isWrong : ab_chk mX11_isWrong.1.cls mX11_isWrong kX11_isWrong = true := by decide +kernel
def mX11_hasOther : ab_Md := (yX11_hasOther, cX11_hasOther, 5, some .boolean, { frames := 2, cells := 0, slots := 0, locals := 42 })
def kX11_hasOther : List ab_En := [
  (0, 1, .iconst 0, [], (0, 0, 0), 0, 0, none),
  (1, 1, .istore_n 3, [], (0, 0, 0), 0, 0, none),
  (2, 1, .iconst 0, [], (0, 0, 0), 0, 0, none),
  (3, 2, .istore 4, [], (0, 0, 0), 0, 0, none),
  (5, 2, .iload 4, [], (0, 0, 0), 0, 0, none),
  (7, 1, .aload_n 0, [], (0, 0, 0), 0, 0, none),
  (8, 3, .getfield 93, [], (10, 16, 916), 0, 0, none),
  (11, 3, .if_icmp .ge 74, [47], (0, 0, 0), 0, 0, none),
  (14, 1, .iload_n 3, [], (0, 0, 0), 0, 0, none),
  (15, 2, .iload 4, [], (0, 0, 0), 0, 0, none),
  (17, 1, .iload_n 2, [], (0, 0, 0), 0, 0, none),
  (18, 3, .if_icmp .eq 58, [42], (0, 0, 0), 0, 0, none),
  (21, 1, .aload_n 0, [], (0, 0, 0), 0, 0, none),
  (22, 3, .getfield 53, [], (10, 18, 918), 0, 0, none),
  (25, 2, .iload 4, [], (0, 0, 0), 0, 0, none),
  (27, 1, .iaload, [], (0, 0, 0), 0, 0, none),
  (28, 1, .iconst 1, [], (0, 0, 0), 1, 0, none),
  (29, 3, .if_icmp .ne 47, [42], (0, 0, 0), 0, 0, none),
  (32, 1, .aload_n 0, [], (0, 0, 0), 0, 0, none),
  (33, 3, .getfield 56, [], (10, 19, 919), 0, 0, none),
  (36, 2, .iload 4, [], (0, 0, 0), 0, 0, none),
  (38, 1, .iaload, [], (0, 0, 0), 0, 0, none),
  (39, 1, .aload_n 0, [], (0, 0, 0), 0, 0, none),
  (40, 3, .getfield 56, [], (10, 19, 919), 0, 0, none),
  (43, 1, .iload_n 2, [], (0, 0, 0), 0, 0, none),
  (44, 1, .iaload, [], (0, 0, 0), 0, 0, none),
  (45, 3, .if_icmp .ne 31, [42], (0, 0, 0), 0, 0, none),
  (48, 1, .aload_n 0, [], (0, 0, 0), 0, 0, none),
  (49, 2, .iload 4, [], (0, 0, 0), 0, 0, none),
  (51, 3, .invokevirtual 161, [1098, 79, 1101, 1100, 46], (10, 0, 0), 0, 0, some (mX11_isPlain, 1)),
  (54, 3, .ifCond .eq 22, [42], (0, 0, 0), 0, 0, none),
  (57, 1, .aload_n 0, [], (0, 0, 0), 0, 0, none),
  (58, 3, .getfield 65, [], (10, 23, 923), 0, 0, none),
  (61, 2, .bipush 120, [], (0, 0, 0), 120, 0, none),
  (63, 1, .iload_n 1, [], (0, 0, 0), 0, 0, none),
  (64, 1, .imul, [], (0, 0, 0), 0, 0, none),
  (65, 2, .iload 4, [], (0, 0, 0), 0, 0, none),
  (67, 1, .iadd, [], (0, 0, 0), 0, 0, none),
  (68, 1, .baload, [], (0, 0, 0), 0, 0, none),
  (69, 3, .ifCond .eq 7, [42], (0, 0, 0), 0, 0, none),
  (72, 1, .iconst 1, [], (0, 0, 0), 1, 0, none),
  (73, 3, .goto 4, [43], (0, 0, 0), 0, 0, none),
  (76, 1, .iconst 0, [], (0, 0, 0), 0, 0, none),
  (77, 1, .ior, [], (0, 0, 0), 0, 0, none),
  (78, 1, .istore_n 3, [], (0, 0, 0), 0, 0, none),
  (79, 3, .iinc 4 1, [], (0, 0, 0), 1, 0, none),
  (82, 3, .goto (-77), [4], (0, 0, 0), 0, 0, none),
  (85, 1, .iload_n 3, [], (0, 0, 0), 0, 0, none),
  (86, 1, .ireturn, [], (0, 0, 0), 0, 0, none)]
set_option maxRecDepth 100000 in
theorem vX11_hasOther : ab_chk mX11_hasOther.1.cls mX11_hasOther kX11_hasOther = true := by decide +kernel
def mX11_look : ab_Md := (yX11_look, cX11_look, 7, none, { frames := 5, cells := 0, slots := 0, locals := 110 })
def kX11_look : List ab_En := [
  (0, 1, .aload_n 0, [], (0, 0, 0), 0, 0, none),
  (1, 3, .invokevirtual 142, [1078, 79, 1081, 1080, 41], (10, 0, 0), 0, 0, some (mX11_find, 0)),
  (4, 1, .aload_n 0, [], (0, 0, 0), 0, 0, none),
  (5, 1, .iconst 0, [], (0, 0, 0), 0, 0, none),
  (6, 3, .putfield 205, [0], (10, 29, 929), 0, 0, none),
  (9, 1, .aload_n 0, [], (0, 0, 0), 0, 0, none),
  (10, 3, .getfield 38, [], (10, 12, 912), 0, 0, none),
  (13, 1, .iload_n 1, [], (0, 0, 0), 0, 0, none),
  (14, 1, .iaload, [], (0, 0, 0), 0, 0, none),
  (15, 1, .istore_n 2, [], (0, 0, 0), 0, 0, none),
  (16, 1, .iload_n 2, [], (0, 0, 0), 0, 0, none),
  (17, 3, .ifCond .lt 18, [21], (0, 0, 0), 0, 0, none),
  (20, 1, .aload_n 0, [], (0, 0, 0), 0, 0, none),
  (21, 1, .iload_n 1, [], (0, 0, 0), 0, 0, none),
  (22, 1, .iload_n 2, [], (0, 0, 0), 0, 0, none),
  (23, 3, .invokevirtual 176, [1126, 79, 1129, 1128, 51], (10, 0, 0), 0, 0, some (mX11_isOpen, 2)),
  (26, 3, .ifCond .ne 9, [21], (0, 0, 0), 0, 0, none),
  (29, 1, .aload_n 0, [], (0, 0, 0), 0, 0, none),
  (30, 1, .iconst 1, [], (0, 0, 0), 1, 0, none),
  (31, 1, .iload_n 2, [], (0, 0, 0), 0, 0, none),
  (32, 3, .invokevirtual 208, [1194, 79, 1197, 1196, 62], (10, 0, 0), 0, 0, some (mX11_tell, 2)),
  (35, 1, .iconst 0, [], (0, 0, 0), 0, 0, none),
  (36, 1, .istore_n 3, [], (0, 0, 0), 0, 0, none),
  (37, 1, .iload_n 3, [], (0, 0, 0), 0, 0, none),
  (38, 1, .aload_n 0, [], (0, 0, 0), 0, 0, none),
  (39, 3, .getfield 90, [], (10, 6, 906), 0, 0, none),
  (42, 3, .if_icmp .ge 59, [58], (0, 0, 0), 0, 0, none),
  (45, 1, .iconst 0, [], (0, 0, 0), 0, 0, none),
  (46, 2, .istore 4, [], (0, 0, 0), 0, 0, none),
  (48, 2, .iload 4, [], (0, 0, 0), 0, 0, none),
  (50, 1, .aload_n 0, [], (0, 0, 0), 0, 0, none),
  (51, 3, .getfield 44, [], (10, 14, 914), 0, 0, none),
  (54, 1, .iload_n 1, [], (0, 0, 0), 0, 0, none),
  (55, 1, .iaload, [], (0, 0, 0), 0, 0, none),
  (56, 3, .if_icmp .ge 39, [56], (0, 0, 0), 0, 0, none),
  (59, 1, .aload_n 0, [], (0, 0, 0), 0, 0, none),
  (60, 3, .getfield 41, [], (10, 13, 913), 0, 0, none),
  (63, 1, .iconst 4, [], (0, 0, 0), 4, 0, none),
  (64, 1, .iload_n 1, [], (0, 0, 0), 0, 0, none),
  (65, 1, .imul, [], (0, 0, 0), 0, 0, none),
  (66, 2, .iload 4, [], (0, 0, 0), 0, 0, none),
  (68, 1, .iadd, [], (0, 0, 0), 0, 0, none),
  (69, 1, .iaload, [], (0, 0, 0), 0, 0, none),
  (70, 1, .iload_n 3, [], (0, 0, 0), 0, 0, none),
  (71, 3, .if_icmp .ne 18, [54], (0, 0, 0), 0, 0, none),
  (74, 1, .aload_n 0, [], (0, 0, 0), 0, 0, none),
  (75, 1, .iload_n 1, [], (0, 0, 0), 0, 0, none),
  (76, 1, .iload_n 3, [], (0, 0, 0), 0, 0, none),
  (77, 3, .invokevirtual 176, [1126, 79, 1129, 1128, 51], (10, 0, 0), 0, 0, some (mX11_isOpen, 2)),
  (80, 3, .ifCond .ne 9, [54], (0, 0, 0), 0, 0, none),
  (83, 1, .aload_n 0, [], (0, 0, 0), 0, 0, none),
  (84, 1, .iconst 2, [], (0, 0, 0), 2, 0, none),
  (85, 1, .iload_n 3, [], (0, 0, 0), 0, 0, none),
  (86, 3, .invokevirtual 208, [1194, 79, 1197, 1196, 62], (10, 0, 0), 0, 0, some (mX11_tell, 2)),
  (89, 3, .iinc 4 1, [], (0, 0, 0), 1, 0, none),
  (92, 3, .goto (-44), [29], (0, 0, 0), 0, 0, none),
  (95, 3, .iinc 3 1, [], (0, 0, 0), 1, 0, none),
  (98, 3, .goto (-61), [23], (0, 0, 0), 0, 0, none),
  (101, 1, .iload_n 2, [], (0, 0, 0), 0, 0, none),
  (102, 3, .ifCond .lt 22, [71], (0, 0, 0), 0, 0, none),
  (105, 1, .aload_n 0, [], (0, 0, 0), 0, 0, none),
  (106, 3, .getfield 35, [], (10, 11, 911), 0, 0, none),
  (109, 1, .iload_n 2, [], (0, 0, 0), 0, 0, none),
  (110, 1, .iaload, [], (0, 0, 0), 0, 0, none),
  (111, 1, .iconst 2, [], (0, 0, 0), 2, 0, none),
  (112, 3, .invokestatic 103, [1031, 79, 1033, 1032], (0, 0, 0), 0, 0, some (mX11_has, 2)),
  (115, 3, .ifCond .eq 9, [71], (0, 0, 0), 0, 0, none),
  (118, 1, .aload_n 0, [], (0, 0, 0), 0, 0, none),
  (119, 1, .iconst 3, [], (0, 0, 0), 3, 0, none),
  (120, 1, .iload_n 2, [], (0, 0, 0), 0, 0, none),
  (121, 3, .invokevirtual 208, [1194, 79, 1197, 1196, 62], (10, 0, 0), 0, 0, some (mX11_tell, 2)),
  (124, 1, .iconst 4, [], (0, 0, 0), 4, 0, none),
  (125, 1, .istore_n 3, [], (0, 0, 0), 0, 0, none),
  (126, 1, .iload_n 3, [], (0, 0, 0), 0, 0, none),
  (127, 2, .bipush 7, [], (0, 0, 0), 7, 0, none),
  (129, 3, .if_icmp .ge 118, [132], (0, 0, 0), 0, 0, none),
  (132, 1, .iconst 0, [], (0, 0, 0), 0, 0, none),
  (133, 2, .istore 4, [], (0, 0, 0), 0, 0, none),
  (135, 2, .iload 4, [], (0, 0, 0), 0, 0, none),
  (137, 1, .aload_n 0, [], (0, 0, 0), 0, 0, none),
  (138, 3, .getfield 93, [], (10, 16, 916), 0, 0, none),
  (141, 3, .if_icmp .ge 100, [130], (0, 0, 0), 0, 0, none),
  (144, 1, .iconst 0, [], (0, 0, 0), 0, 0, none),
  (145, 2, .istore 5, [], (0, 0, 0), 0, 0, none),
  (147, 1, .iconst 0, [], (0, 0, 0), 0, 0, none),
  (148, 2, .istore 6, [], (0, 0, 0), 0, 0, none),
  (150, 2, .iload 6, [], (0, 0, 0), 0, 0, none),
  (152, 1, .aload_n 0, [], (0, 0, 0), 0, 0, none),
  (153, 3, .getfield 93, [], (10, 16, 916), 0, 0, none),
  (156, 3, .if_icmp .ge 67, [122], (0, 0, 0), 0, 0, none),
  (159, 1, .aload_n 0, [], (0, 0, 0), 0, 0, none),
  (160, 3, .getfield 50, [], (10, 17, 917), 0, 0, none),
  (163, 2, .iload 4, [], (0, 0, 0), 0, 0, none),
  (165, 1, .iaload, [], (0, 0, 0), 0, 0, none),
  (166, 1, .iload_n 1, [], (0, 0, 0), 0, 0, none),
  (167, 3, .if_icmp .ne 56, [122], (0, 0, 0), 0, 0, none),
  (170, 1, .aload_n 0, [], (0, 0, 0), 0, 0, none),
  (171, 3, .getfield 53, [], (10, 18, 918), 0, 0, none),
  (174, 2, .iload 4, [], (0, 0, 0), 0, 0, none),
  (176, 1, .iaload, [], (0, 0, 0), 0, 0, none),
  (177, 1, .iconst 1, [], (0, 0, 0), 1, 0, none),
  (178, 3, .if_icmp .ne 45, [122], (0, 0, 0), 0, 0, none),
  (181, 2, .iload 5, [], (0, 0, 0), 0, 0, none),
  (183, 3, .ifCond .ne 27, [116], (0, 0, 0), 0, 0, none),
  (186, 1, .aload_n 0, [], (0, 0, 0), 0, 0, none),
  (187, 2, .iload 4, [], (0, 0, 0), 0, 0, none),
  (189, 2, .iload 6, [], (0, 0, 0), 0, 0, none),
  (191, 1, .iload_n 1, [], (0, 0, 0), 0, 0, none),
  (192, 3, .invokevirtual 211, [1198, 79, 1201, 1200, 63], (10, 0, 0), 0, 0, some (mX11_isMet, 3)),
  (195, 3, .ifCond .eq 19, [118], (0, 0, 0), 0, 0, none),
  (198, 1, .aload_n 0, [], (0, 0, 0), 0, 0, none),
  (199, 1, .iload_n 3, [], (0, 0, 0), 0, 0, none),
  (200, 2, .iload 4, [], (0, 0, 0), 0, 0, none),
  (202, 2, .iload 6, [], (0, 0, 0), 0, 0, none),
  (204, 3, .invokevirtual 214, [1202, 79, 1205, 1204, 64], (10, 0, 0), 0, 0, some (mX11_isWrong, 3)),
  (207, 3, .ifCond .eq 7, [118], (0, 0, 0), 0, 0, none),
  (210, 1, .iconst 1, [], (0, 0, 0), 1, 0, none),
  (211, 3, .goto 4, [119], (0, 0, 0), 0, 0, none),
  (214, 1, .iconst 0, [], (0, 0, 0), 0, 0, none),
  (215, 2, .istore 5, [], (0, 0, 0), 0, 0, none),
  (217, 3, .iinc 6 1, [], (0, 0, 0), 1, 0, none),
  (220, 3, .goto (-70), [86], (0, 0, 0), 0, 0, none),
  (223, 2, .iload 5, [], (0, 0, 0), 0, 0, none),
  (225, 3, .ifCond .eq 10, [128], (0, 0, 0), 0, 0, none),
  (228, 1, .aload_n 0, [], (0, 0, 0), 0, 0, none),
  (229, 1, .iload_n 3, [], (0, 0, 0), 0, 0, none),
  (230, 2, .iload 4, [], (0, 0, 0), 0, 0, none),
  (232, 3, .invokevirtual 208, [1194, 79, 1197, 1196, 62], (10, 0, 0), 0, 0, some (mX11_tell, 2)),
  (235, 3, .iinc 4 1, [], (0, 0, 0), 1, 0, none),
  (238, 3, .goto (-103), [78], (0, 0, 0), 0, 0, none),
  (241, 3, .iinc 3 1, [], (0, 0, 0), 1, 0, none),
  (244, 3, .goto (-118), [73], (0, 0, 0), 0, 0, none),
  (247, 1, .iconst 0, [], (0, 0, 0), 0, 0, none),
  (248, 1, .istore_n 3, [], (0, 0, 0), 0, 0, none),
  (249, 1, .iload_n 3, [], (0, 0, 0), 0, 0, none),
  (250, 1, .aload_n 0, [], (0, 0, 0), 0, 0, none),
  (251, 3, .getfield 93, [], (10, 16, 916), 0, 0, none),
  (254, 3, .if_icmp .ge 75, [178], (0, 0, 0), 0, 0, none),
  (257, 1, .aload_n 0, [], (0, 0, 0), 0, 0, none),
  (258, 3, .getfield 29, [], (10, 9, 909), 0, 0, none),
  (261, 1, .iload_n 1, [], (0, 0, 0), 0, 0, none),
  (262, 1, .iaload, [], (0, 0, 0), 0, 0, none),
  (263, 3, .ifCond .ne 60, [176], (0, 0, 0), 0, 0, none),
  (266, 1, .aload_n 0, [], (0, 0, 0), 0, 0, none),
  (267, 3, .getfield 35, [], (10, 11, 911), 0, 0, none),
  (270, 1, .iload_n 1, [], (0, 0, 0), 0, 0, none),
  (271, 1, .iaload, [], (0, 0, 0), 0, 0, none),
  (272, 1, .iconst 4, [], (0, 0, 0), 4, 0, none),
  (273, 3, .invokestatic 103, [1031, 79, 1033, 1032], (0, 0, 0), 0, 0, some (mX11_has, 2)),
  (276, 3, .ifCond .ne 47, [176], (0, 0, 0), 0, 0, none),
  (279, 1, .aload_n 0, [], (0, 0, 0), 0, 0, none),
  (280, 3, .getfield 53, [], (10, 18, 918), 0, 0, none),
  (283, 1, .iload_n 3, [], (0, 0, 0), 0, 0, none),
  (284, 1, .iaload, [], (0, 0, 0), 0, 0, none),
  (285, 1, .iconst 1, [], (0, 0, 0), 1, 0, none),
  (286, 3, .if_icmp .ne 37, [176], (0, 0, 0), 0, 0, none),
  (289, 1, .aload_n 0, [], (0, 0, 0), 0, 0, none),
  (290, 3, .getfield 65, [], (10, 23, 923), 0, 0, none),
  (293, 2, .bipush 120, [], (0, 0, 0), 120, 0, none),
  (295, 1, .iload_n 1, [], (0, 0, 0), 0, 0, none),
  (296, 1, .imul, [], (0, 0, 0), 0, 0, none),
  (297, 1, .iload_n 3, [], (0, 0, 0), 0, 0, none),
  (298, 1, .iadd, [], (0, 0, 0), 0, 0, none),
  (299, 1, .baload, [], (0, 0, 0), 0, 0, none),
  (300, 3, .ifCond .eq 23, [176], (0, 0, 0), 0, 0, none),
  (303, 1, .aload_n 0, [], (0, 0, 0), 0, 0, none),
  (304, 3, .getfield 62, [], (10, 21, 921), 0, 0, none),
  (307, 1, .iload_n 3, [], (0, 0, 0), 0, 0, none),
  (308, 1, .iaload, [], (0, 0, 0), 0, 0, none),
  (309, 1, .iconst 4, [], (0, 0, 0), 4, 0, none),
  (310, 3, .invokestatic 103, [1031, 79, 1033, 1032], (0, 0, 0), 0, 0, some (mX11_has, 2)),
  (313, 3, .ifCond .eq 10, [176], (0, 0, 0), 0, 0, none),
  (316, 1, .aload_n 0, [], (0, 0, 0), 0, 0, none),
  (317, 2, .bipush 7, [], (0, 0, 0), 7, 0, none),
  (319, 1, .iload_n 3, [], (0, 0, 0), 0, 0, none),
  (320, 3, .invokevirtual 208, [1194, 79, 1197, 1196, 62], (10, 0, 0), 0, 0, some (mX11_tell, 2)),
  (323, 3, .iinc 3 1, [], (0, 0, 0), 1, 0, none),
  (326, 3, .goto (-77), [134], (0, 0, 0), 0, 0, none),
  (329, 1, .iconst 0, [], (0, 0, 0), 0, 0, none),
  (330, 1, .istore_n 3, [], (0, 0, 0), 0, 0, none),
  (331, 1, .iload_n 3, [], (0, 0, 0), 0, 0, none),
  (332, 1, .aload_n 0, [], (0, 0, 0), 0, 0, none),
  (333, 3, .getfield 93, [], (10, 16, 916), 0, 0, none),
  (336, 3, .if_icmp .ge 85, [230], (0, 0, 0), 0, 0, none),
  (339, 1, .aload_n 0, [], (0, 0, 0), 0, 0, none),
  (340, 3, .getfield 53, [], (10, 18, 918), 0, 0, none),
  (343, 1, .iload_n 3, [], (0, 0, 0), 0, 0, none),
  (344, 1, .iaload, [], (0, 0, 0), 0, 0, none),
  (345, 1, .iconst 1, [], (0, 0, 0), 1, 0, none),
  (346, 3, .if_icmp .ne 69, [228], (0, 0, 0), 0, 0, none),
  (349, 1, .aload_n 0, [], (0, 0, 0), 0, 0, none),
  (350, 3, .getfield 65, [], (10, 23, 923), 0, 0, none),
  (353, 2, .bipush 120, [], (0, 0, 0), 120, 0, none),
  (355, 1, .iload_n 1, [], (0, 0, 0), 0, 0, none),
  (356, 1, .imul, [], (0, 0, 0), 0, 0, none),
  (357, 1, .iload_n 3, [], (0, 0, 0), 0, 0, none),
  (358, 1, .iadd, [], (0, 0, 0), 0, 0, none),
  (359, 1, .baload, [], (0, 0, 0), 0, 0, none),
  (360, 3, .ifCond .eq 55, [228], (0, 0, 0), 0, 0, none),
  (363, 1, .aload_n 0, [], (0, 0, 0), 0, 0, none),
  (364, 3, .getfield 29, [], (10, 9, 909), 0, 0, none),
  (367, 1, .aload_n 0, [], (0, 0, 0), 0, 0, none),
  (368, 3, .getfield 50, [], (10, 17, 917), 0, 0, none),
  (371, 1, .iload_n 3, [], (0, 0, 0), 0, 0, none),
  (372, 1, .iaload, [], (0, 0, 0), 0, 0, none),
  (373, 1, .iaload, [], (0, 0, 0), 0, 0, none),
  (374, 1, .iconst 1, [], (0, 0, 0), 1, 0, none),
  (375, 3, .if_icmp .ne 40, [228], (0, 0, 0), 0, 0, none),
  (378, 1, .aload_n 0, [], (0, 0, 0), 0, 0, none),
  (379, 1, .iload_n 3, [], (0, 0, 0), 0, 0, none),
  (380, 3, .invokevirtual 161, [1098, 79, 1101, 1100, 46], (10, 0, 0), 0, 0, some (mX11_isPlain, 1)),
  (383, 3, .ifCond .eq 32, [228], (0, 0, 0), 0, 0, none),
  (386, 1, .aload_n 0, [], (0, 0, 0), 0, 0, none),
  (387, 3, .getfield 62, [], (10, 21, 921), 0, 0, none),
  (390, 1, .iload_n 3, [], (0, 0, 0), 0, 0, none),
  (391, 1, .iaload, [], (0, 0, 0), 0, 0, none),
  (392, 1, .iconst 4, [], (0, 0, 0), 4, 0, none),
  (393, 3, .invokestatic 103, [1031, 79, 1033, 1032], (0, 0, 0), 0, 0, some (mX11_has, 2)),
  (396, 3, .ifCond .ne 19, [228], (0, 0, 0), 0, 0, none),
  (399, 1, .aload_n 0, [], (0, 0, 0), 0, 0, none),
  (400, 1, .iload_n 1, [], (0, 0, 0), 0, 0, none),
  (401, 1, .iload_n 3, [], (0, 0, 0), 0, 0, none),
  (402, 3, .invokevirtual 217, [1206, 79, 1209, 1208, 65], (10, 0, 0), 0, 0, some (mX11_hasOther, 2)),
  (405, 3, .ifCond .eq 10, [228], (0, 0, 0), 0, 0, none),
  (408, 1, .aload_n 0, [], (0, 0, 0), 0, 0, none),
  (409, 2, .bipush 8, [], (0, 0, 0), 8, 0, none),
  (411, 1, .iload_n 3, [], (0, 0, 0), 0, 0, none),
  (412, 3, .invokevirtual 208, [1194, 79, 1197, 1196, 62], (10, 0, 0), 0, 0, some (mX11_tell, 2)),
  (415, 3, .iinc 3 1, [], (0, 0, 0), 1, 0, none),
  (418, 3, .goto (-87), [180], (0, 0, 0), 0, 0, none),
  (421, 1, .return_, [], (0, 0, 0), 0, 0, none)]
set_option maxRecDepth 100000 in
theorem vX11_look : ab_chk mX11_look.1.cls mX11_look kX11_look = true := by decide +kernel
def mX11_check : ab_Md := (yX11_check, cX11_check, 2, some .int, { frames := 6, cells := 0, slots := 0, locals := 136 })
def kX11_check : List ab_En := [
  (0, 1, .aload_n 0, [], (0, 0, 0), 0, 0, none),
  (1, 1, .iload_n 1, [], (0, 0, 0), 0, 0, none),
  (2, 3, .invokevirtual 107, [1020, 79, 1023, 1022, 33], (10, 0, 0), 0, 0, some (mX11_noType, 1)),
  (5, 3, .ifCond .eq 5, [6], (0, 0, 0), 0, 0, none),
  (8, 1, .iconst (-1), [], (0, 0, 0), (-1), 0, none),
  (9, 1, .ireturn, [], (0, 0, 0), 0, 0, none),
  (10, 1, .aload_n 0, [], (0, 0, 0), 0, 0, none),
  (11, 1, .iload_n 1, [], (0, 0, 0), 0, 0, none),
  (12, 3, .invokevirtual 220, [1190, 79, 1193, 1192, 61], (10, 0, 0), 0, 0, some (mX11_look, 1)),
  (15, 1, .aload_n 0, [], (0, 0, 0), 0, 0, none),
  (16, 3, .getfield 205, [], (10, 29, 929), 0, 0, none),
  (19, 1, .ireturn, [], (0, 0, 0), 0, 0, none)]
set_option maxRecDepth 100000 in
theorem vX11_check : ab_chk mX11_check.1.cls mX11_check kX11_check = true := by decide +kernel
def mX11_fault : ab_Md := (yX11_fault, cX11_fault, 4, some .int, { frames := 6, cells := 0, slots := 0, locals := 136 })
def kX11_fault : List ab_En := [
  (0, 1, .aload_n 0, [], (0, 0, 0), 0, 0, none),
  (1, 1, .iload_n 1, [], (0, 0, 0), 0, 0, none),
  (2, 3, .invokevirtual 107, [1020, 79, 1023, 1022, 33], (10, 0, 0), 0, 0, some (mX11_noType, 1)),
  (5, 3, .ifCond .ne 12, [9], (0, 0, 0), 0, 0, none),
  (8, 1, .iload_n 3, [], (0, 0, 0), 0, 0, none),
  (9, 3, .ifCond .lt 8, [9], (0, 0, 0), 0, 0, none),
  (12, 1, .iload_n 3, [], (0, 0, 0), 0, 0, none),
  (13, 1, .iconst 1, [], (0, 0, 0), 1, 0, none),
  (14, 3, .if_icmp .le 5, [11], (0, 0, 0), 0, 0, none),
  (17, 1, .iconst (-1), [], (0, 0, 0), (-1), 0, none),
  (18, 1, .ireturn, [], (0, 0, 0), 0, 0, none),
  (19, 1, .aload_n 0, [], (0, 0, 0), 0, 0, none),
  (20, 1, .iload_n 1, [], (0, 0, 0), 0, 0, none),
  (21, 3, .invokevirtual 220, [1190, 79, 1193, 1192, 61], (10, 0, 0), 0, 0, some (mX11_look, 1)),
  (24, 1, .iload_n 2, [], (0, 0, 0), 0, 0, none),
  (25, 3, .ifCond .lt 11, [20], (0, 0, 0), 0, 0, none),
  (28, 1, .iload_n 2, [], (0, 0, 0), 0, 0, none),
  (29, 1, .aload_n 0, [], (0, 0, 0), 0, 0, none),
  (30, 3, .getfield 205, [], (10, 29, 929), 0, 0, none),
  (33, 3, .if_icmp .lt 7, [22], (0, 0, 0), 0, 0, none),
  (36, 1, .iconst (-1), [], (0, 0, 0), (-1), 0, none),
  (37, 3, .goto 22, [33], (0, 0, 0), 0, 0, none),
  (40, 1, .iload_n 3, [], (0, 0, 0), 0, 0, none),
  (41, 3, .ifCond .ne 12, [29], (0, 0, 0), 0, 0, none),
  (44, 1, .aload_n 0, [], (0, 0, 0), 0, 0, none),
  (45, 3, .getfield 77, [], (10, 27, 927), 0, 0, none),
  (48, 1, .iload_n 2, [], (0, 0, 0), 0, 0, none),
  (49, 1, .iaload, [], (0, 0, 0), 0, 0, none),
  (50, 3, .goto 9, [33], (0, 0, 0), 0, 0, none),
  (53, 1, .aload_n 0, [], (0, 0, 0), 0, 0, none),
  (54, 3, .getfield 80, [], (10, 28, 928), 0, 0, none),
  (57, 1, .iload_n 2, [], (0, 0, 0), 0, 0, none),
  (58, 1, .iaload, [], (0, 0, 0), 0, 0, none),
  (59, 1, .ireturn, [], (0, 0, 0), 0, 0, none)]
set_option maxRecDepth 100000 in
theorem vX11_fault : ab_chk mX11_fault.1.cls mX11_fault kX11_fault = true := by decide +kernel
end
section
/-! ===== Int32 by its bits: bt x i ===== -/
def bt (x : Int32) (i : Nat) : Bool := x.toBitVec.getLsbD i
theorem b_ext {x y : Int32} (h : ∀ i, i < 32 → bt x i = bt y i) : x = y := Int32.toBitVec_inj.mp (BitVec.eq_of_getLsbD_eq (fun i hi => h i hi))
theorem b_or (x y : Int32) (i : Nat) : bt (x ||| y) i = (bt x i || bt y i) := by unfold bt; rw [Int32.toBitVec_or, BitVec.getLsbD_or]
theorem b_and (x y : Int32) (i : Nat) : bt (x &&& y) i = (bt x i && bt y i) := by unfold bt; rw [Int32.toBitVec_and, BitVec.getLsbD_and]
theorem b_xor (x y : Int32) (i : Nat) : bt (x ^^^ y) i = (bt x i ^^ bt y i) := by unfold bt; rw [Int32.toBitVec_xor, BitVec.getLsbD_xor]
theorem b_big {x : Int32} {i : Nat} (h : 32 ≤ i) : bt x i = false := BitVec.getLsbD_of_ge _ _ h
theorem b_255 (i : Nat) : bt 255 i = decide (i < 8) := by
  rcases Nat.lt_or_ge i 32 with h | h
  · exact (by decide +kernel : ∀ i, i < 32 → bt 255 i = decide (i < 8)) i h
  · rw [b_big h, decide_eq_false (by omega)]
theorem b_65535 (i : Nat) : bt 65535 i = decide (i < 16) := by
  rcases Nat.lt_or_ge i 32 with h | h
  · exact (by decide +kernel : ∀ i, i < 32 → bt 65535 i = decide (i < 16)) i h
  · rw [b_big h, decide_eq_false (by omega)]
theorem b_m1 : ∀ i, i < 32 → bt (-1) i = true := by decide +kernel
theorem b_0 (i : Nat) : bt 0 i = false := BitVec.getLsbD_zero
theorem s_l : ∀ n, n < 32 → ((nI n &&& 31).toBitVec.smod 32).toNat = n := by decide +kernel
theorem s_u : ∀ n, n < 32 → (((nI n).toUInt32 &&& Int32.toUInt32 31).toBitVec % 32).toNat = n := by decide +kernel
theorem b_shl (n : Nat) (hn : n < 32) (x : Int32) {i : Nat} (hi : i < 32) : bt (x <<< (nI n &&& 31)) i = (decide (n ≤ i) && bt x (i - n)) := by
  unfold bt
  rw [Int32.toBitVec_shiftLeft]
  show (x.toBitVec <<< ((nI n &&& 31).toBitVec.smod 32).toNat).getLsbD i = _
  rw [s_l n hn, BitVec.getLsbD_shiftLeft]
  rcases Nat.lt_or_ge i n with h | h
  · simp [h, Nat.not_le.mpr h]
  · simp [hi, h, Nat.not_lt.mpr h]
theorem b_ushr (n : Nat) (hn : n < 32) (x : Int32) (i : Nat) : bt ((x.toUInt32 >>> ((nI n).toUInt32 &&& Int32.toUInt32 31)).toInt32) i = bt x (n + i) := by
  show (x.toUInt32 >>> ((nI n).toUInt32 &&& Int32.toUInt32 31)).toBitVec.getLsbD i = x.toUInt32.toBitVec.getLsbD (n + i)
  rw [UInt32.toBitVec_shiftRight]
  show (x.toUInt32.toBitVec >>> (((nI n).toUInt32 &&& Int32.toUInt32 31).toBitVec % 32).toNat).getLsbD i = _
  rw [s_u n hn, BitVec.getLsbD_ushiftRight]
theorem b_sshr (n : Nat) (hn : n < 32) (x : Int32) {i : Nat} (hi : i < 32) : bt (x >>> (nI n &&& 31)) i = if n + i < 32 then bt x (n + i) else bt x 31 := by
  unfold bt
  rw [Int32.toBitVec_shiftRight]
  show (x.toBitVec.sshiftRight ((nI n &&& 31).toBitVec.smod 32).toNat).getLsbD i = _
  rw [s_l n hn, BitVec.getLsbD_sshiftRight, BitVec.msb_eq_getLsbD_last]
  simp [hi]
/-! ===== Int64 by its bits ===== -/
def ab_bt (x : Int64) (i : Nat) : Bool := x.toBitVec.getLsbD i
theorem ab_bt_ext {x y : Int64} (h : ∀ i, i < 64 → ab_bt x i = ab_bt y i) : x = y := Int64.toBitVec_inj.mp (BitVec.eq_of_getLsbD_eq (fun i hi => h i hi))
theorem ab_bt_or (x y : Int64) (i : Nat) : ab_bt (x ||| y) i = (ab_bt x i || ab_bt y i) := by unfold ab_bt; rw [Int64.toBitVec_or, BitVec.getLsbD_or]
theorem ab_bt_and (x y : Int64) (i : Nat) : ab_bt (x &&& y) i = (ab_bt x i && ab_bt y i) := by unfold ab_bt; rw [Int64.toBitVec_and, BitVec.getLsbD_and]
theorem ab_bt_xor (x y : Int64) (i : Nat) : ab_bt (x ^^^ y) i = (ab_bt x i ^^ ab_bt y i) := by unfold ab_bt; rw [Int64.toBitVec_xor, BitVec.getLsbD_xor]
theorem ab_bt_big {x : Int64} {i : Nat} (h : 64 ≤ i) : ab_bt x i = false := BitVec.getLsbD_of_ge _ _ h
theorem ab_bt_0 (i : Nat) : ab_bt 0 i = false := BitVec.getLsbD_zero
theorem ab_bt_m1 : ∀ i, i < 64 → ab_bt (-1) i = true := by decide +kernel
theorem ab_bt_not {x : Int64} {i : Nat} (h : i < 64) : ab_bt (x ^^^ (-1)) i = !ab_bt x i := by
  rw [ab_bt_xor, ab_bt_m1 i h]; simp
theorem ab_bt_zero {x : Int64} : x = 0 ↔ ∀ i, i < 64 → ab_bt x i = false := by
  constructor
  · rintro rfl i _; exact ab_bt_0 i
  · intro h; exact ab_bt_ext (fun i hi => by rw [h i hi, ab_bt_0])
theorem ab_bt_nz {x : Int64} : ¬ x = 0 ↔ ∃ i, i < 64 ∧ ab_bt x i = true := by
  constructor
  · intro h
    apply Classical.byContradiction
    intro h2
    refine h (ab_bt_zero.mpr (fun i hi => ?_))
    cases hb : ab_bt x i with
    | false => rfl
    | true => exact absurd ⟨i, hi, hb⟩ h2
  · rintro ⟨i, hi, hb⟩ rfl
    rw [ab_bt_0] at hb
    cases hb
theorem ab_sh64 : ∀ k, k < 64 → ((nI k).toInt64.toUInt64 &&& Int64.toUInt64 63) = UInt64.ofNat k := by decide +kernel
theorem ab_sl64 : ∀ k, k < 64 → (((nI k).toInt64 &&& 63).toBitVec.smod 64).toNat = k := by decide +kernel
theorem ab_bt_ushr {x : Int64} {k : Nat} (hk : k < 64) (i : Nat) : ab_bt ((x.toUInt64 >>> ((nI k).toInt64.toUInt64 &&& Int64.toUInt64 63)).toInt64) i = ab_bt x (k + i) := by
  rw [ab_sh64 k hk]
  show (x.toUInt64 >>> UInt64.ofNat k).toBitVec.getLsbD i = x.toUInt64.toBitVec.getLsbD (k + i)
  rw [UInt64.toBitVec_shiftRight]
  show (x.toUInt64.toBitVec >>> ((UInt64.ofNat k).toBitVec % 64).toNat).getLsbD i = _
  have e : ((UInt64.ofNat k).toBitVec % 64).toNat = k := (by decide +kernel : ∀ k, k < 64 → ((UInt64.ofNat k).toBitVec % 64).toNat = k) k hk
  rw [e, BitVec.getLsbD_ushiftRight]
theorem ab_bt_shl {x : Int64} {k : Nat} (hk : k < 64) {i : Nat} (hi : i < 64) : ab_bt (x <<< ((nI k).toInt64 &&& 63)) i = (decide (k ≤ i) && ab_bt x (i - k)) := by
  unfold ab_bt
  rw [Int64.toBitVec_shiftLeft]
  show (x.toBitVec <<< (((nI k).toInt64 &&& 63).toBitVec.smod 64).toNat).getLsbD i = _
  rw [ab_sl64 k hk, BitVec.getLsbD_shiftLeft]
  rcases Nat.lt_or_ge i k with h | h
  · simp [h, Nat.not_le.mpr h]
  · simp [hi, h, Nat.not_lt.mpr h]
theorem ab_bt_1 : ∀ i, i < 64 → ab_bt 1 i = decide (i = 0) := by decide +kernel
/-- 1L << k -/
def ab_one (k : Nat) : Int64 := (1 : Int64) <<< ((nI k).toInt64 &&& 63)
theorem ab_bt_one {k : Nat} (hk : k < 64) (i : Nat) : ab_bt (ab_one k) i = decide (i = k) := by
  rcases Nat.lt_or_ge i 64 with hi | hi
  · unfold ab_one
    rw [ab_bt_shl hk hi, ab_bt_1 _ (by omega)]
    rcases Nat.lt_or_ge i k with h | h
    · rw [decide_eq_false (by omega), decide_eq_false (by omega : ¬ i = k)]; rfl
    · rw [decide_eq_true h]
      by_cases e : i = k
      · subst e; simp
      · rw [decide_eq_false (by omega), decide_eq_false e]; rfl
  · rw [ab_bt_big hi, decide_eq_false (by omega)]
/-- (set >>> t & 1) -/
theorem ab_bt_has {x : Int64} {k : Nat} (hk : k < 64) : (((x.toUInt64 >>> ((nI k).toInt64.toUInt64 &&& Int64.toUInt64 63)).toInt64 &&& 1) = 0) ↔ ab_bt x k = false := by
  rw [ab_bt_zero]
  constructor
  · intro h
    have := h 0 (by omega)
    rw [ab_bt_and, ab_bt_ushr hk, ab_bt_1 0 (by omega)] at this
    simpa using this
  · intro h i hi
    rw [ab_bt_and, ab_bt_ushr hk, ab_bt_1 i hi]
    by_cases e : i = 0
    · subst e; simp [h]
    · simp [e]
/-- (x >> n & 1) of an int -/
theorem ab_b_has {x : Int32} {n : Nat} (hn : n < 32) : ((x >>> (nI n &&& 31)) &&& 1) = 0 ↔ bt x n = false := by
  have e1 : ∀ i, i < 32 → bt 1 i = decide (i = 0) := by decide +kernel
  constructor
  · intro h
    have : bt ((x >>> (nI n &&& 31)) &&& 1) 0 = false := by rw [h]; exact b_0 0
    rw [b_and, b_sshr n hn x (by omega), e1 0 (by omega)] at this
    simpa [hn] using this
  · intro h
    refine b_ext (fun i hi => ?_)
    rw [b_and, b_sshr n hn x hi, e1 i hi, b_0]
    by_cases e : i = 0
    · subst e; simp [h, hn]
    · simp [e]
theorem ab_b_one : ∀ n, n < 32 → ∀ i, i < 32 → bt ((1 : Int32) <<< (nI n &&& 31)) i = decide (i = n) := by
  intro n hn i hi
  have e1 : ∀ i, i < 32 → bt 1 i = decide (i = 0) := by decide +kernel
  rw [b_shl n hn 1 hi, e1 _ (by omega)]
  rcases Nat.lt_or_ge i n with h | h
  · rw [decide_eq_false (by omega), decide_eq_false (by omega : ¬ i = n)]; rfl
  · rw [decide_eq_true h]
    by_cases e : i = n
    · subst e; simp
    · rw [decide_eq_false (by omega), decide_eq_false e]; rfl
/-! ===== counting ===== -/
def ab_cnt (f : Nat → Bool) : Nat → Nat
  | 0 => 0
  | n + 1 => ab_cnt f n + (if f n then 1 else 0)
theorem ab_cnt_le (f : Nat → Bool) : ∀ n, ab_cnt f n ≤ n
  | 0 => Nat.le_refl 0
  | n + 1 => by
    have := ab_cnt_le f n
    simp only [ab_cnt]
    split <;> omega
theorem ab_cnt_congr {f g : Nat → Bool} : ∀ {n : Nat}, (∀ i, i < n → f i = g i) → ab_cnt f n = ab_cnt g n
  | 0, _ => rfl
  | n + 1, h => by
    simp only [ab_cnt]
    rw [ab_cnt_congr (fun i hi => h i (by omega)), h n (by omega)]
def ab_ex (f : Nat → Bool) : Nat → Bool
  | 0 => false
  | n + 1 => ab_ex f n || f n
theorem ab_ex_iff {f : Nat → Bool} : ∀ {n : Nat}, ab_ex f n = true ↔ ∃ i, i < n ∧ f i = true
  | 0 => by simp [ab_ex]
  | n + 1 => by
    simp only [ab_ex, Bool.or_eq_true, ab_ex_iff]
    constructor
    · rintro (⟨i, h1, h2⟩ | h)
      · exact ⟨i, by omega, h2⟩
      · exact ⟨n, by omega, h⟩
    · rintro ⟨i, h1, h2⟩
      by_cases e : i = n
      · subst e; exact Or.inr h2
      · exact Or.inl ⟨i, by omega, h2⟩
theorem ab_ex_congr {f g : Nat → Bool} {n : Nat} (h : ∀ i, i < n → f i = g i) : ab_ex f n = ab_ex g n := by
  induction n with
  | zero => rfl
  | succ n ih => simp only [ab_ex]; rw [ih (fun i hi => h i (by omega)), h n (by omega)]
/-! ===== popcount: Long.bitCount ===== -/
def ab_pc (x : Int64) : Nat := ab_cnt (ab_bt x) 64
end
section
theorem ab_cnt_add (f : Nat → Bool) (a : Nat) : ∀ b, ab_cnt f (a + b) = ab_cnt f a + ab_cnt (fun i => f (a + i)) b
  | 0 => rfl
  | b + 1 => by
    show ab_cnt f (a + b) + (if f (a + b) = true then 1 else 0) = _
    rw [ab_cnt_add f a b]
    simp only [ab_cnt]
    omega
def ab_rep (c : Nat) : Nat → Nat
  | 0 => 0
  | m + 1 => 256 * ab_rep c m + c
theorem ab_and256 (a b c d : Nat) (hb : b < 256) (hd : d < 256) : (256 * a + b) &&& (256 * c + d) = 256 * (a &&& c) + (b &&& d) := by
  have h1 : ((256 * a + b) &&& (256 * c + d)) / 2 ^ 8 = a &&& c := by
    rw [← Nat.shiftRight_eq_div_pow, Nat.shiftRight_and_distrib, Nat.shiftRight_eq_div_pow, Nat.shiftRight_eq_div_pow]
    have e1 : (256 * a + b) / 2 ^ 8 = a := by omega
    have e2 : (256 * c + d) / 2 ^ 8 = c := by omega
    rw [e1, e2]
  have h2 : ((256 * a + b) &&& (256 * c + d)) % 2 ^ 8 = b &&& d := by
    rw [Nat.and_mod_two_pow]
    have e1 : (256 * a + b) % 2 ^ 8 = b := by omega
    have e2 : (256 * c + d) % 2 ^ 8 = d := by omega
    rw [e1, e2]
  omega
def ab_f1 (m n : Nat) : Nat := n - ((n / 2) &&& ab_rep 0x55 m)
def ab_f2 (m n : Nat) : Nat := (n &&& ab_rep 0x33 m) + ((n / 4) &&& ab_rep 0x33 m)
def ab_f3 (m n : Nat) : Nat := (n + n / 16) &&& ab_rep 0x0f m
theorem ab_d55 : ∀ r, r < 2 → ∀ w, w < 128 → (128 * r + w) &&& 0x55 = w &&& 0x55 := by decide +kernel
theorem ab_d33 : ∀ r, r < 4 → ∀ w, w < 64 → (64 * r + w) &&& 0x33 = w &&& 0x33 := by decide +kernel
theorem ab_d0f : ∀ v, v < 256 → v &&& 0x0f = v % 16 := by decide +kernel
theorem ab_dg : ∀ v, v < 256 → ab_f3 1 (ab_f2 1 (ab_f1 1 v)) = ab_cnt (fun i => v.testBit i) 8 ∧ ab_f2 1 (ab_f1 1 v) % 16 ≤ 4 ∧ ab_f2 1 (ab_f1 1 v) / 16 ≤ 4 ∧ ab_f1 1 v < 256 := by decide +kernel
theorem ab_f1s (m q v : Nat) (hv : v < 256) : ab_f1 (m + 1) (256 * q + v) = 256 * ab_f1 m q + ab_f1 1 v := by
  unfold ab_f1
  have e : (256 * q + v) / 2 = 256 * (q / 2) + (128 * (q % 2) + v / 2) := by omega
  have e1 : ab_rep 0x55 1 = 0x55 := rfl
  rw [e1, e]
  show _ - (_ &&& (256 * ab_rep 0x55 m + 0x55)) = _
  rw [ab_and256 _ _ _ _ (by omega) (by omega), ab_d55 (q % 2) (by omega) (v / 2) (by omega)]
  have h1 : q / 2 &&& ab_rep 0x55 m ≤ q / 2 := Nat.and_le_left
  have h2 : v / 2 &&& 0x55 ≤ v / 2 := Nat.and_le_left
  omega
theorem ab_f2s (m q v : Nat) (hv : v < 256) : ab_f2 (m + 1) (256 * q + v) = 256 * ab_f2 m q + ab_f2 1 v := by
  unfold ab_f2
  have e : (256 * q + v) / 4 = 256 * (q / 4) + (64 * (q % 4) + v / 4) := by omega
  have e1 : ab_rep 0x33 1 = 0x33 := rfl
  rw [e1, e]
  show (_ &&& (256 * ab_rep 0x33 m + 0x33)) + (_ &&& (256 * ab_rep 0x33 m + 0x33)) = _
  rw [ab_and256 _ _ _ _ (by omega) (by omega), ab_and256 _ _ _ _ (by omega) (by omega), ab_d33 (q % 4) (by omega) (v / 4) (by omega)]
  omega
theorem ab_f3s (m q v : Nat) (hv : v % 16 ≤ 4) (hv2 : v / 16 ≤ 4) (hq : q % 16 ≤ 4) : ab_f3 (m + 1) (256 * q + v) = 256 * ab_f3 m q + ab_f3 1 v := by
  unfold ab_f3
  have e : (256 * q + v) + (256 * q + v) / 16 = 256 * (q + q / 16) + (16 * (q % 16) + v + v / 16) := by omega
  have e1 : ab_rep 0x0f 1 = 0x0f := rfl
  rw [e1, e]
  show (_ &&& (256 * ab_rep 0x0f m + 0x0f)) = _
  rw [ab_and256 _ _ _ _ (by omega) (by omega), ab_d0f _ (by omega), ab_d0f _ (by omega)]
  omega
def ab_ds : Nat → Nat → Nat
  | 0, _ => 0
  | m + 1, n => 256 * ab_ds m (n / 256) + ab_cnt (fun i => (n % 256).testBit i) 8
theorem ab_gs : ∀ (m n : Nat), n < 256 ^ m → ab_f3 m (ab_f2 m (ab_f1 m n)) = ab_ds m n ∧ ab_f2 m (ab_f1 m n) % 16 ≤ 4
  | 0, n, h => by
    have : n = 0 := by omega
    subst this
    decide +kernel
  | m + 1, n, h => by
    have hq : n / 256 < 256 ^ m := by
      rw [Nat.pow_succ] at h
      omega
    obtain ⟨i1, i2⟩ := ab_gs m (n / 256) hq
    obtain ⟨d1, d2, d3, d4⟩ := ab_dg (n % 256) (by omega)
    have e : n = 256 * (n / 256) + n % 256 := by omega
    have e1 : ab_f1 (m + 1) n = 256 * ab_f1 m (n / 256) + ab_f1 1 (n % 256) := by
      conv => lhs; rw [e]
      exact ab_f1s m _ _ (by omega)
    rw [e1, ab_f2s m _ _ d4, ab_f3s m _ _ d2 d3 i2, i1, d1]
    refine ⟨rfl, ?_⟩
    omega
theorem ab_cnt8 : ∀ v : Nat, ab_cnt (fun i => v.testBit i) 8 ≤ 8 := fun v => ab_cnt_le _ 8
theorem ab_cnt_split (n : Nat) (k : Nat) : ab_cnt (fun i => n.testBit i) (8 + k) = ab_cnt (fun i => (n % 256).testBit i) 8 + ab_cnt (fun i => (n / 256).testBit i) k := by
  rw [ab_cnt_add]
  have e1 : ab_cnt (fun i => n.testBit i) 8 = ab_cnt (fun i => (n % 256).testBit i) 8 := by
    apply ab_cnt_congr
    intro i hi
    show n.testBit i = (n % 2 ^ 8).testBit i
    rw [Nat.testBit_mod_two_pow]
    simp [hi]
  have e2 : ab_cnt (fun i => n.testBit (8 + i)) k = ab_cnt (fun i => (n / 256).testBit i) k := by
    apply ab_cnt_congr
    intro i hi
    show n.testBit (8 + i) = (n / 2 ^ 8).testBit i
    rw [Nat.testBit_div_two_pow, Nat.add_comm]
  rw [e1, e2]
theorem ab_ds8 (n : Nat) : ∃ c0 c1 c2 c3 c4 c5 c6 c7 : Nat, c0 ≤ 8 ∧ c1 ≤ 8 ∧ c2 ≤ 8 ∧ c3 ≤ 8 ∧ c4 ≤ 8 ∧ c5 ≤ 8 ∧ c6 ≤ 8 ∧ c7 ≤ 8 ∧ ab_cnt (fun i => n.testBit i) 64 = c0 + (c1 + (c2 + (c3 + (c4 + (c5 + (c6 + (c7 + 0))))))) ∧ ab_ds 8 n = 256 * (256 * (256 * (256 * (256 * (256 * (256 * (256 * 0 + c7) + c6) + c5) + c4) + c3) + c2) + c1) + c0 := by
  refine ⟨ab_cnt (fun i => (n % 256).testBit i) 8,
    ab_cnt (fun i => ((n / 256) % 256).testBit i) 8,
    ab_cnt (fun i => ((n / 256 / 256) % 256).testBit i) 8,
    ab_cnt (fun i => ((n / 256 / 256 / 256) % 256).testBit i) 8,
    ab_cnt (fun i => ((n / 256 / 256 / 256 / 256) % 256).testBit i) 8,
    ab_cnt (fun i => ((n / 256 / 256 / 256 / 256 / 256) % 256).testBit i) 8,
    ab_cnt (fun i => ((n / 256 / 256 / 256 / 256 / 256 / 256) % 256).testBit i) 8,
    ab_cnt (fun i => ((n / 256 / 256 / 256 / 256 / 256 / 256 / 256) % 256).testBit i) 8, ab_cnt8 _, ab_cnt8 _, ab_cnt8 _, ab_cnt8 _, ab_cnt8 _, ab_cnt8 _, ab_cnt8 _, ab_cnt8 _, ?_, rfl⟩
  show ab_cnt (fun i => n.testBit i) (8 + (8 + (8 + (8 + (8 + (8 + (8 + (8 + 0)))))))) = _
  rw [ab_cnt_split, ab_cnt_split, ab_cnt_split, ab_cnt_split, ab_cnt_split, ab_cnt_split, ab_cnt_split, ab_cnt_split]
  rfl
/-- what bitCount's last four lines make of the bytes' counts -/
theorem ab_sum8 (n i a b c : Nat) (hi : i = ab_ds 8 n) (ha : a = i + i / 256) (hb : b = a + a / 65536) (hc : c = b + b / 4294967296) : a < 2 ^ 63 ∧ b < 2 ^ 63 ∧ c < 2 ^ 63 ∧ c % 128 = ab_cnt (fun i => n.testBit i) 64 := by
  obtain ⟨c0, c1, c2, c3, c4, c5, c6, c7, g0, g1, g2, g3, g4, g5, g6, g7, e1, e2⟩ := ab_ds8 n
  rw [e2] at hi
  rw [e1]
  have h1 : i / 256 = 256 * (256 * (256 * (256 * (256 * (256 * c7 + c6) + c5) + c4) + c3) + c2) + c1 := by omega
  have h2 : a / 65536 = 256 * (256 * (256 * (256 * (256 * c7 + (c6 + c7)) + (c5 + c6)) + (c4 + c5)) + (c3 + c4)) + (c2 + c3) := by omega
  refine ⟨by omega, by omega, by omega, ?_⟩
  have h3 : b / 4294967296 = 256 * (256 * (256 * c7 + (c6 + c7)) + (c5 + c6 + c7)) + (c4 + c5 + c6 + c7) := by omega
  omega
/-! Int64 as an unsigned number -/
def ab_un (x : Int64) : Nat := x.toBitVec.toNat
theorem ab_un_lt (x : Int64) : ab_un x < 2 ^ 64 := x.toBitVec.isLt
theorem ab_un_bt (x : Int64) (i : Nat) : (ab_un x).testBit i = ab_bt x i := rfl
theorem ab_un_sub (x y : Int64) (h : ab_un y ≤ ab_un x) : ab_un (x - y) = ab_un x - ab_un y := by
  have h1 := ab_un_lt x
  have h2 := ab_un_lt y
  unfold ab_un at *
  rw [Int64.toBitVec_sub, BitVec.toNat_sub]
  omega
theorem ab_un_add (x y : Int64) (h : ab_un x + ab_un y < 2 ^ 64) : ab_un (x + y) = ab_un x + ab_un y := by
  unfold ab_un at *
  rw [Int64.toBitVec_add, BitVec.toNat_add]
  omega
theorem ab_un_and (x y : Int64) : ab_un (x &&& y) = ab_un x &&& ab_un y := by
  unfold ab_un
  rw [Int64.toBitVec_and, BitVec.toNat_and]
theorem ab_un_shr (x : Int64) (k : Nat) (hk : k < 64) : ab_un ((x.toUInt64 >>> ((nI k).toInt64.toUInt64 &&& Int64.toUInt64 63)).toInt64) = ab_un x / 2 ^ k := by
  apply Nat.eq_of_testBit_eq
  intro i
  rw [ab_un_bt, ab_bt_ushr hk, Nat.testBit_div_two_pow, ab_un_bt, Nat.add_comm]
theorem ab_un_i32 (x : Int64) (h : ab_un x % 128 ≤ 64) : x.toInt32 &&& 127 = nI (ab_un x % 128) := by
  refine b_ext (fun i hi => ?_)
  have e127 : ∀ i, i < 32 → bt 127 i = decide (i < 7) := by decide +kernel
  rw [b_and, e127 i hi]
  have e1 : bt x.toInt32 i = (ab_un x).testBit i := by
    rw [ab_un_bt]
    show (x.toBitVec.signExtend 32).getLsbD i = x.toBitVec.getLsbD i
    rw [BitVec.getLsbD_signExtend]
    simp [hi, show i < 64 by omega]
  have e2 : bt (nI (ab_un x % 128)) i = (ab_un x % 2 ^ 7).testBit i := by
    show (BitVec.ofNat 32 (ab_un x % 128)).getLsbD i = _
    rw [BitVec.getLsbD_ofNat]
    simp [hi]
  rw [e1, e2, Nat.testBit_mod_two_pow, Bool.and_comm]
set_option maxRecDepth 10000 in
/-- Long.bitCount -/
theorem ab_bitCount (x a b c d e f : Int64) (ha : a = x - ((x.toUInt64 >>> ((1 : Int32).toInt64.toUInt64 &&& Int64.toUInt64 63)).toInt64 &&& 6148914691236517205))
    (hb : b = (a &&& 3689348814741910323) + ((a.toUInt64 >>> ((2 : Int32).toInt64.toUInt64 &&& Int64.toUInt64 63)).toInt64 &&& 3689348814741910323))
    (hc : c = (b + (b.toUInt64 >>> ((4 : Int32).toInt64.toUInt64 &&& Int64.toUInt64 63)).toInt64) &&& 1085102592571150095)
    (hd : d = c + (c.toUInt64 >>> ((8 : Int32).toInt64.toUInt64 &&& Int64.toUInt64 63)).toInt64)
    (he : e = d + (d.toUInt64 >>> ((16 : Int32).toInt64.toUInt64 &&& Int64.toUInt64 63)).toInt64)
    (hf : f = e + (e.toUInt64 >>> ((32 : Int32).toInt64.toUInt64 &&& Int64.toUInt64 63)).toInt64) : f.toInt32 &&& 127 = nI (ab_pc x) := by
  have m1 : ab_un (6148914691236517205 : Int64) = ab_rep 0x55 8 := by decide +kernel
  have m2 : ab_un (3689348814741910323 : Int64) = ab_rep 0x33 8 := by decide +kernel
  have m3 : ab_un (1085102592571150095 : Int64) = ab_rep 0x0f 8 := by decide +kernel
  have b2 : ab_rep 0x33 8 = 3689348814741910323 := by decide +kernel
  have hx := ab_un_lt x
  obtain ⟨g1, -⟩ := ab_gs 8 (ab_un x) (by omega)
  have s1 : ∀ y : Int64, ab_un ((y.toUInt64 >>> ((1 : Int32).toInt64.toUInt64 &&& Int64.toUInt64 63)).toInt64) = ab_un y / 2 := fun y => ab_un_shr y 1 (by omega)
  have s2 : ∀ y : Int64, ab_un ((y.toUInt64 >>> ((2 : Int32).toInt64.toUInt64 &&& Int64.toUInt64 63)).toInt64) = ab_un y / 4 := fun y => ab_un_shr y 2 (by omega)
  have s4 : ∀ y : Int64, ab_un ((y.toUInt64 >>> ((4 : Int32).toInt64.toUInt64 &&& Int64.toUInt64 63)).toInt64) = ab_un y / 16 := fun y => ab_un_shr y 4 (by omega)
  have s8 : ∀ y : Int64, ab_un ((y.toUInt64 >>> ((8 : Int32).toInt64.toUInt64 &&& Int64.toUInt64 63)).toInt64) = ab_un y / 256 := fun y => ab_un_shr y 8 (by omega)
  have s16 : ∀ y : Int64, ab_un ((y.toUInt64 >>> ((16 : Int32).toInt64.toUInt64 &&& Int64.toUInt64 63)).toInt64) = ab_un y / 65536 := fun y => ab_un_shr y 16 (by omega)
  have s32 : ∀ y : Int64, ab_un ((y.toUInt64 >>> ((32 : Int32).toInt64.toUInt64 &&& Int64.toUInt64 63)).toInt64) = ab_un y / 4294967296 := fun y => ab_un_shr y 32 (by omega)
  have ua : ab_un a = ab_f1 8 (ab_un x) := by
    rw [ha, ab_un_sub _ _ (by rw [ab_un_and, s1]; exact Nat.le_trans Nat.and_le_left (Nat.div_le_self _ _)), ab_un_and, s1, m1]
    rfl
  have ub : ab_un b = ab_f2 8 (ab_un a) := by
    have h1 : ab_un a &&& ab_rep 0x33 8 ≤ ab_rep 0x33 8 := Nat.and_le_right
    have h2 : ab_un a / 4 &&& ab_rep 0x33 8 ≤ ab_rep 0x33 8 := Nat.and_le_right
    rw [hb, ab_un_add _ _ (by rw [ab_un_and, ab_un_and, s2, m2]; omega), ab_un_and, ab_un_and, s2, m2]
    rfl
  have ublt : ab_un b ≤ 2 * 3689348814741910323 := by
    have h1 : ab_un a &&& ab_rep 0x33 8 ≤ ab_rep 0x33 8 := Nat.and_le_right
    have h2 : ab_un a / 4 &&& ab_rep 0x33 8 ≤ ab_rep 0x33 8 := Nat.and_le_right
    rw [ub]
    unfold ab_f2
    omega
  have uc : ab_un c = ab_f3 8 (ab_un b) := by
    rw [hc, ab_un_and, ab_un_add _ _ (by rw [s4]; omega), s4, m3]
    rfl
  have uc2 : ab_un c = ab_ds 8 (ab_un x) := by rw [uc, ub, ua, g1]
  obtain ⟨k1, k2, k3, k4⟩ := ab_sum8 (ab_un x) (ab_un c) _ _ _ uc2 rfl rfl rfl
  have ud : ab_un d = ab_un c + ab_un c / 256 := by rw [hd, ab_un_add _ _ (by rw [s8]; omega), s8]
  have ue : ab_un e = ab_un d + ab_un d / 65536 := by rw [he, ab_un_add _ _ (by rw [s16, ud]; omega), s16]
  have uf : ab_un f = ab_un e + ab_un e / 4294967296 := by rw [hf, ab_un_add _ _ (by rw [s32, ue, ud]; omega), s32]
  have k5 : ab_un f % 128 = ab_pc x := by rw [uf, ue, ud]; exact k4
  have k6 := ab_cnt_le (ab_bt x) 64
  rw [ab_un_i32 f (by rw [k5]; exact k6), k5]
end
section
/-! rows for walks: side conditions, branches -/
theorem ab_sd {i : Int32} {n : Nat} {K : Prop} (a : vp_in i n) (b : K) : vp_in i n ∧ K := ⟨a, b⟩
theorem ab_sz {x : Int32} {K : Prop} (a : x = 0 ∨ x = 1) (b : K) : (x = 0 ∨ x = 1) ∧ K := ⟨a, b⟩
theorem br_n {c A B : Prop} (a : ¬ c → A) (b : c → B) : (¬ c → A) ∧ (c → B) := ⟨a, b⟩
/-- a boolean as the machine has it -/
def ab_z (b : Bool) : Int32 := if b then 1 else 0
theorem ab_z01 (b : Bool) : ab_z b = 0 ∨ ab_z b = 1 := by cases b <;> simp [ab_z]
theorem ab_z0 (b : Bool) : ab_z b = 0 ↔ b = false := by cases b <;> simp [ab_z]
theorem ab_z1 (b : Bool) : ab_z b = 1 ↔ b = true := by cases b <;> simp [ab_z]
theorem ab_zt : ab_z true = 1 := rfl
theorem ab_zf : ab_z false = 0 := rfl
theorem ab_zor (a b : Bool) : ab_z a ||| ab_z b = ab_z (a || b) := by cases a <;> cases b <;> decide
theorem ab_zand (a b : Bool) : ab_z a &&& ab_z b = ab_z (a && b) := by cases a <;> cases b <;> decide
/-- a number of a kind of which there are n -/
def ab_ok (n : Nat) (x : Int32) : Bool := decide (0 ≤ x) && decide (x < nI n)
theorem ab_ok_t {n : Nat} {x : Int32} (hn : n < 2 ^ 31) (h : ab_ok n x = true) : ∃ k, k < n ∧ x = nI k := by
  simp only [ab_ok, Bool.and_eq_true, decide_eq_true_eq] at h
  rcases pk_ix x hn with h1 | h1 | h1
  · exact absurd h.1 (by simpa using h1)
  · exact absurd h.2 (by simpa using h1)
  · exact h1
theorem ab_ok_nI {n k : Nat} (hn : n < 2 ^ 31) (hk : k < n) : ab_ok n (nI k) = true := by
  simp only [ab_ok, Bool.and_eq_true, decide_eq_true_eq]
  exact ⟨nI_pos' (by omega), nI_lt hk hn⟩
end
section
/-! THE MATHEMATICAL STATE: numbers, truths, places or none, by the reference's own cells (43 scalars 0 modules, 2 packs, 6 types, 16 members; 44 doesRead, 45 moduleOf, 46 isOut, 47 isOutToAll, 48 packOf, 49 outerOf, 50 sortOf, 51 accessOf, 52 flagsOf, 53 parentOf, 54 faces, 55 faceCount, 56 isAbove, 57 mType, 58 mKind, 59 mName, 60 mAccess, 61 mFlags) -/
abbrev sT : Type := (Nat → Nat → Nat) × (Nat → Nat → Bool) × (Nat → Nat → Option Nat)
def ab_o : Option Nat → Int32
  | none => -2
  | some n => nI n
def s_ik (k j : Nat) : Bool := k == 45 || k == 48 || k == 50 || k == 51 || k == 52 || k == 54 || k == 55 || k == 57 || k == 58 || k == 59 || k == 60 || k == 61 || (k == 43 && (j == 0 || j == 2 || j == 6 || j == 16))
def s_bk (k : Nat) : Bool := k == 44 || k == 46 || k == 47 || k == 56
abbrev s_nM (S : sT) : Nat := S.1 43 0
abbrev s_nP (S : sT) : Nat := S.1 43 2
abbrev s_nT (S : sT) : Nat := S.1 43 6
abbrev s_nX (S : sT) : Nat := S.1 43 16
abbrev s_ou (S : sT) (t : Nat) : Option Nat := S.2.2 49 t
abbrev s_pa (S : sT) (t : Nat) : Option Nat := S.2.2 53 t
abbrev s_ab (S : sT) (t u : Nat) : Bool := S.2.1 56 (40 * t + u)
/-- the reference's cells hold S -/
def RepR (S : sT) (μ : ab_M) : Prop := (∀ k j, s_ik k j = true → μ.1 k j = nI (S.1 k j)) ∧ (∀ k j, s_bk k = true → μ.1 k j = ab_z (S.2.1 k j)) ∧ (∀ k j, (k = 49 ∨ k = 53) → j < s_nT S → μ.1 k j = ab_o (S.2.2 k j))
/-- ranges -/
def Wf (S : sT) : Prop := (1 ≤ s_nM S ∧ s_nM S ≤ 6) ∧ (1 ≤ s_nP S ∧ s_nP S ≤ 10) ∧ (1 ≤ s_nT S ∧ s_nT S ≤ 40) ∧ s_nX S ≤ 120 ∧ (∀ p, p < s_nP S → S.1 45 p < s_nM S) ∧
  (∀ t, t < s_nT S → S.1 48 t < s_nP S ∧ S.1 50 t < 2 ∧ S.1 51 t < 4 ∧ S.1 52 t < 8 ∧ S.1 55 t ≤ 4 ∧ (∀ k, k < S.1 55 t → S.1 54 (4 * t + k) < s_nT S) ∧ (∀ o, s_ou S t = some o → o < t) ∧ (∀ p, s_pa S t = some p → p < s_nT S)) ∧
  (∀ m, m < s_nX S → S.1 57 m < s_nT S ∧ S.1 58 m < 3 ∧ S.1 59 m < 10 ∧ S.1 60 m < 4 ∧ S.1 61 m < 8)
theorem ix_40 (t u : Nat) : (40 : Int32) * nI t + nI u = nI (40 * t + u) := by rw [show (40 : Int32) = nI 40 from rfl, pk_mul, nI_add]
theorem ix_120 (t u : Nat) : (120 : Int32) * nI t + nI u = nI (120 * t + u) := by rw [show (120 : Int32) = nI 120 from rfl, pk_mul, nI_add]
theorem ix_6 (t u : Nat) : (6 : Int32) * nI t + nI u = nI (6 * t + u) := by rw [show (6 : Int32) = nI 6 from rfl, pk_mul, nI_add]
theorem ix_4 (t u : Nat) : (4 : Int32) * nI t + nI u = nI (4 * t + u) := by rw [show (4 : Int32) = nI 4 from rfl, pk_mul, nI_add]
theorem ix_lt {a b : Nat} (ha : a < 2 ^ 31) (hb : b < 2 ^ 31) : (nI a < nI b) ↔ a < b := nI_ltI ha hb
theorem ix_le {a b : Nat} (ha : a < 2 ^ 31) (hb : b < 2 ^ 31) : (nI a ≤ nI b) ↔ a ≤ b := nI_leI ha hb
theorem ix_eq {a b : Nat} (ha : a < 2 ^ 31) (hb : b < 2 ^ 31) : (nI a = nI b) ↔ a = b := nI_eq ha hb
def s_has (a b : Nat) : Bool := (a &&& b) != 0
theorem ab_nand (a b : Nat) : nI a &&& nI b = nI (a &&& b) := by
  apply Int32.toBitVec_inj.1
  show BitVec.ofNat 32 a &&& BitVec.ofNat 32 b = BitVec.ofNat 32 (a &&& b)
  apply BitVec.eq_of_getLsbD_eq
  intro i hi
  simp [hi]
theorem ab_o_some (n : Nat) : ab_o (some n) = nI n := rfl
theorem ab_o_none : ab_o none = -2 := rfl
theorem ab_o_neg {o : Option Nat} (h : ∀ n, o = some n → n < 2 ^ 31) : ab_o o < 0 ↔ o = none := by
  cases o with
  | none => exact ⟨fun _ => rfl, fun _ => by decide⟩
  | some n => exact ⟨fun q => absurd q (nI_pos (h n rfl)), fun q => by cases q⟩
theorem ab_o_nn {o : Option Nat} (h : ∀ n, o = some n → n < 2 ^ 31) : 0 ≤ ab_o o ↔ ∃ n, o = some n := by
  cases o with
  | none => exact ⟨fun q => absurd q (by decide), fun ⟨n, q⟩ => by cases q⟩
  | some n => exact ⟨fun q => ⟨n, rfl⟩, fun q => nI_pos' (h n rfl)⟩
/-- the TYPE and the OUTERS around it, outwards -/
def s_chF (S : sT) : Nat → Nat → List Nat
  | 0, t => [t]
  | n + 1, t => t :: (match s_ou S t with
    | none => []
    | some o => s_chF S n o)
def s_ch (S : sT) (t : Nat) : List Nat := s_chF S t t
theorem s_chF_st {S : sT} (hW : Wf S) : ∀ (n m t : Nat), t < s_nT S → t ≤ n → t ≤ m → s_chF S n t = s_chF S m t
  | n, m, t, ht, hn, hm => by
    have ho := (hW.2.2.2.2.2.1 t ht).2.2.2.2.2.2.1
    cases e : s_ou S t with
    | none => cases n <;> cases m <;> simp [s_chF, e]
    | some o =>
      have h1 := ho o e
      obtain ⟨n', rfl⟩ : ∃ n', n = n' + 1 := ⟨n - 1, by omega⟩
      obtain ⟨m', rfl⟩ : ∃ m', m = m' + 1 := ⟨m - 1, by omega⟩
      simp only [s_chF, e]
      rw [s_chF_st hW n' m' o (by omega) (by omega) (by omega)]
termination_by n => n
theorem s_ch_none {S : sT} {t : Nat} (e : s_ou S t = none) : s_ch S t = [t] := by
  unfold s_ch
  cases t <;> simp [s_chF, e]
theorem s_ch_some {S : sT} (hW : Wf S) {t o : Nat} (ht : t < s_nT S) (e : s_ou S t = some o) : s_ch S t = t :: s_ch S o := by
  have h1 := (hW.2.2.2.2.2.1 t ht).2.2.2.2.2.2.1 o e
  unfold s_ch
  obtain ⟨n', rfl⟩ : ∃ n', t = n' + 1 := ⟨t - 1, by omega⟩
  simp only [s_chF, e]
  rw [s_chF_st hW n' o o (by omega) (by omega) (by omega)]
/-- its TOP -/
def s_top (S : sT) (t : Nat) : Nat := (s_ch S t).getLastD t
theorem vp_of {x : Int32} {k n : Nat} (e : x = nI k) (h : k < n) (hn : n < 2 ^ 31) : vp_in x n := by rw [e]; exact vp_in_nI h hn
theorem ab_ok4 (x : Int32) : ab_ok 4 x = (decide (0 ≤ x) && decide (x ≤ nI 3)) := by
  unfold ab_ok
  congr 1
  rw [decide_eq_decide, Int32.lt_iff_toInt_lt, Int32.le_iff_toInt_le]
  show _ < (4 : Int) ↔ _ ≤ (3 : Int)
  omega
theorem ab_ok8 (x : Int32) : ab_ok 8 x = (decide (0 ≤ x) && decide (x ≤ nI 7)) := by
  unfold ab_ok
  congr 1
  rw [decide_eq_decide, Int32.lt_iff_toInt_lt, Int32.le_iff_toInt_le]
  show _ < (8 : Int) ↔ _ ≤ (7 : Int)
  omega
def s_pl (S : sT) (m : Nat) : Bool := !(S.1 60 m == 0) && !s_has (S.1 61 m) 1
theorem s_and_lt {a b : Nat} (h : a < 8) : a &&& b < 2 ^ 31 := by
  have : a &&& b ≤ a := Nat.and_le_left
  omega
/-- the MEMBER of a kind and NAME that a TYPE DECLARES, among the first n -/
def s_decF (S : sT) (t k x : Nat) : Nat → Option Nat
  | 0 => none
  | n + 1 => match s_decF S t k x n with
    | some m => some m
    | none => if S.1 57 n = t ∧ S.1 58 n = k ∧ S.1 59 n = x then some n else none
def s_dec (S : sT) (t k x : Nat) : Option Nat := s_decF S t k x (s_nX S)
theorem s_decF_some {S : sT} {t k x m : Nat} : ∀ {n : Nat}, s_decF S t k x n = some m → m < n ∧ S.1 57 m = t ∧ S.1 58 m = k ∧ S.1 59 m = x
  | 0, h => by cases h
  | n + 1, h => by
    simp only [s_decF] at h
    split at h
    · rename_i m' e
      cases h
      obtain ⟨h1, h2⟩ := s_decF_some e
      exact ⟨by omega, h2⟩
    · split at h
      · rename_i h3
        cases h
        exact ⟨by omega, h3⟩
      · cases h
theorem s_decF_none {S : sT} {t k x : Nat} : ∀ {n : Nat}, s_decF S t k x n = none → ∀ m, m < n → ¬ (S.1 57 m = t ∧ S.1 58 m = k ∧ S.1 59 m = x)
  | 0, _ => fun m hm => by omega
  | n + 1, h => by
    simp only [s_decF] at h
    split at h
    · cases h
    · rename_i e
      split at h
      · cases h
      · rename_i h3
        intro m hm
        by_cases hmn : m = n
        · subst hmn; exact h3
        · exact s_decF_none e m (by omega)
theorem s_decF_step {S : sT} {t k x n N : Nat} (hn : n < N) (e : s_decF S t k x n = none) (h : S.1 57 n = t ∧ S.1 58 n = k ∧ S.1 59 n = x) : s_decF S t k x N = some n := by
  induction N with
  | zero => omega
  | succ N ih =>
    simp only [s_decF]
    by_cases hN : n = N
    · subst hN
      rw [e]
      simp [h]
    · rw [ih (by omega)]
theorem RepR_fs {S : sT} {μ : ab_M} (R : RepR S μ) : μ.1 44 = (fun j => ab_z (S.2.1 44 j)) ∧ μ.1 45 = (fun j => nI (S.1 45 j)) ∧ μ.1 46 = (fun j => ab_z (S.2.1 46 j)) ∧ μ.1 47 = (fun j => ab_z (S.2.1 47 j)) ∧ μ.1 48 = (fun j => nI (S.1 48 j)) ∧ (∀ j, j < s_nT S → μ.1 49 j = ab_o (s_ou S j)) ∧ μ.1 50 = (fun j => nI (S.1 50 j)) ∧ μ.1 51 = (fun j => nI (S.1 51 j)) ∧ μ.1 52 = (fun j => nI (S.1 52 j)) ∧ (∀ j, j < s_nT S → μ.1 53 j = ab_o (s_pa S j)) ∧ μ.1 54 = (fun j => nI (S.1 54 j)) ∧ μ.1 55 = (fun j => nI (S.1 55 j)) ∧ μ.1 56 = (fun j => ab_z (S.2.1 56 j)) ∧ μ.1 57 = (fun j => nI (S.1 57 j)) ∧ μ.1 58 = (fun j => nI (S.1 58 j)) ∧ μ.1 59 = (fun j => nI (S.1 59 j)) ∧ μ.1 60 = (fun j => nI (S.1 60 j)) ∧ μ.1 61 = (fun j => nI (S.1 61 j)) ∧ μ.1 43 0 = nI (s_nM S) ∧ μ.1 43 2 = nI (s_nP S) ∧ μ.1 43 6 = nI (s_nT S) ∧ μ.1 43 16 = nI (s_nX S) :=
  ⟨funext fun j => R.2.1 44 j rfl, funext fun j => R.1 45 j rfl, funext fun j => R.2.1 46 j rfl, funext fun j => R.2.1 47 j rfl, funext fun j => R.1 48 j rfl, fun j h => R.2.2 49 j (Or.inl rfl) h, funext fun j => R.1 50 j rfl, funext fun j => R.1 51 j rfl, funext fun j => R.1 52 j rfl, fun j h => R.2.2 53 j (Or.inr rfl) h, funext fun j => R.1 54 j rfl, funext fun j => R.1 55 j rfl, funext fun j => R.2.1 56 j rfl, funext fun j => R.1 57 j rfl, funext fun j => R.1 58 j rfl, funext fun j => R.1 59 j rfl, funext fun j => R.1 60 j rfl, funext fun j => R.1 61 j rfl, R.1 43 0 rfl, R.1 43 2 rfl, R.1 43 6 rfl, R.1 43 16 rfl⟩
theorem ix_l0 {a : Nat} (h : a < 2 ^ 31) : (nI a = 0) ↔ a = 0 := ix_eq (b := 0) h (by omega)
theorem ix_l1 {a : Nat} (h : a < 2 ^ 31) : (nI a = 1) ↔ a = 1 := ix_eq (b := 1) h (by omega)
theorem ix_l2 {a : Nat} (h : a < 2 ^ 31) : (nI a = 2) ↔ a = 2 := ix_eq (b := 2) h (by omega)
theorem ix_l3 {a : Nat} (h : a < 2 ^ 31) : (nI a = 3) ↔ a = 3 := ix_eq (b := 3) h (by omega)
theorem ix_l4 {a : Nat} (h : a < 2 ^ 31) : (nI a = 4) ↔ a = 4 := ix_eq (b := 4) h (by omega)
theorem ix_l5 {a : Nat} (h : a < 2 ^ 31) : (nI a = 5) ↔ a = 5 := ix_eq (b := 5) h (by omega)
theorem ix_l6 {a : Nat} (h : a < 2 ^ 31) : (nI a = 6) ↔ a = 6 := ix_eq (b := 6) h (by omega)
theorem ix_l10 {a : Nat} (h : a < 2 ^ 31) : (nI a = 10) ↔ a = 10 := ix_eq (b := 10) h (by omega)
theorem ix_l40 {a : Nat} (h : a < 2 ^ 31) : (nI a = 40) ↔ a = 40 := ix_eq (b := 40) h (by omega)
theorem ix_l120 {a : Nat} (h : a < 2 ^ 31) : (nI a = 120) ↔ a = 120 := ix_eq (b := 120) h (by omega)
theorem ix_n0 {a : Nat} (h : a < 2 ^ 31) : (nI a < 0) ↔ False := ⟨fun q => nI_pos h q, False.elim⟩
theorem ix_p0 {a : Nat} (h : a < 2 ^ 31) : (0 ≤ nI a) ↔ True := ⟨fun _ => trivial, fun _ => nI_pos' h⟩
theorem ab_ozn : ((ab_o none) < 0) ↔ True := ⟨fun _ => trivial, fun _ => by decide⟩
theorem ab_ozp : (0 ≤ (ab_o none)) ↔ False := ⟨fun q => absurd q (by decide), False.elim⟩
theorem li_2 : (2 : Int32) = nI 2 := rfl
theorem li_3 : (3 : Int32) = nI 3 := rfl
theorem li_4 : (4 : Int32) = nI 4 := rfl
theorem li_5 : (5 : Int32) = nI 5 := rfl
theorem li_6 : (6 : Int32) = nI 6 := rfl
theorem li_7 : (7 : Int32) = nI 7 := rfl
theorem li_8 : (8 : Int32) = nI 8 := rfl
theorem li_9 : (9 : Int32) = nI 9 := rfl
theorem li_10 : (10 : Int32) = nI 10 := rfl
theorem li_40 : (40 : Int32) = nI 40 := rfl
theorem li_120 : (120 : Int32) = nI 120 := rfl
theorem ix_1lt {a : Nat} (h : a < 2 ^ 31) : ((1 : Int32) < nI a) ↔ 1 < a := ix_lt (a := 1) (by omega) h
theorem ix_lt1 {a : Nat} (h : a < 2 ^ 31) : (nI a < 1) ↔ a < 1 := ix_lt (b := 1) h (by omega)
theorem ix_1le {a : Nat} (h : a < 2 ^ 31) : ((1 : Int32) ≤ nI a) ↔ 1 ≤ a := ix_le (a := 1) (by omega) h
theorem ix_le1 {a : Nat} (h : a < 2 ^ 31) : (nI a ≤ 1) ↔ a ≤ 1 := ix_le (b := 1) h (by omega)
theorem ix_le0 {a : Nat} (h : a < 2 ^ 31) : (nI a ≤ 0) ↔ a = 0 := by
  have := ix_le (a := a) (b := 0) h (by omega)
  exact this.trans (by omega)
theorem ix_0lt {a : Nat} (h : a < 2 ^ 31) : (0 < nI a) ↔ 0 < a := ix_lt (a := 0) (by omega) h
def ab_o1 : Option Nat → Int32
  | none => -1
  | some n => nI n
theorem ab_o1_some (n : Nat) : ab_o1 (some n) = nI n := rfl
theorem ab_o_neg2 {o : Option Nat} (h : ∀ n, o = some n → n < 2 ^ 31) : ab_o o < 0 ↔ o.isSome = false := by
  rw [ab_o_neg h]; cases o <;> simp
theorem ab_o_pos2 {o : Option Nat} (h : ∀ n, o = some n → n < 2 ^ 31) : 0 ≤ ab_o o ↔ o.isSome = true := by
  rw [ab_o_nn h]; cases o <;> simp
theorem s_dec_lt {S : sT} (hW : Wf S) {t k x m : Nat} (h : s_dec S t k x = some m) : m < s_nX S ∧ m < 120 := by
  have := (s_decF_some h).1
  have := hW.2.2.2.1
  omega
theorem q_n {Q : Int32 → ab_M → Prop} {n : Nat} {r : Int32} {μ : ab_M} (h : Q (nI n) μ) (k : Nat) (hk : r = nI k) (e : k = n) : Q r μ := by rw [hk, e]; exact h
end
section
section R1
variable {l : Launch} {ω : ab_W} {S : sT} {μ : ab_M} {Q : Int32 → ab_M → Prop}
theorem q_of {Q : Int32 → ab_M → Prop} {a b : Int32} {μ : ab_M} (h : Q a μ) (e : b = a) : Q b μ := by rw [e]; exact h
theorem r_noModule (hω : ω.2.2.2 = ab_SH) (R : RepR S μ) {x : Int32} (hQ : Q (ab_z (!ab_ok (s_nM S) x)) μ) : ab_CI l ω mX11_noModule [.ref 43, .int x] μ Q := by
  refine ab_intro (sh := ab_SH) (cd := kX11_noModule) hω vX11_noModule (by decide +kernel) rfl (Nat.le_of_ble_eq_true rfl) (fun j hj hw => ?_)
  have e := R.1 43 0 rfl
  repeat' (first | refine hj _ _ _ _ ?_ | (refine br_c (fun h => ?_) (fun h => ?_) <;> (try simp (disch := omega) only [nI_clamp, li_2, li_3, li_4, li_5, li_6, li_7, li_8, li_9, li_10, li_40, li_120, pk_mul, nI_add, nI_1, ix_eq, ix_lt, ix_le, ix_l0, ix_l1, ix_n0, ix_p0, ix_1lt, ix_lt1, ix_1le, ix_le1, ix_le0, ix_0lt, ab_z0, ab_z1, ab_zt, ab_zf, ab_ozn, ab_ozp, ab_o_some, not_true_eq_false, not_false_eq_true, Bool.not_eq_false, Bool.not_eq_true] at h)) | (refine br_n (fun h => ?_) (fun h => ?_) <;> (try simp (disch := omega) only [nI_clamp, li_2, li_3, li_4, li_5, li_6, li_7, li_8, li_9, li_10, li_40, li_120, pk_mul, nI_add, nI_1, ix_eq, ix_lt, ix_le, ix_l0, ix_l1, ix_n0, ix_p0, ix_1lt, ix_lt1, ix_1le, ix_le1, ix_le0, ix_0lt, ab_z0, ab_z1, ab_zt, ab_zf, ab_ozn, ab_ozp, ab_o_some, not_true_eq_false, not_false_eq_true, Bool.not_eq_false, Bool.not_eq_true] at h)) | refine ab_sd (by first | (with_reducible refine vp_in_nI ?_ ?_ <;> omega) | (simp (disch := omega) only [nI_clamp, li_2, li_3, li_4, li_5, li_6, li_7, li_8, li_9, li_10, li_40, li_120, pk_mul, nI_add, nI_1, ix_eq, ix_lt, ix_le, ix_l0, ix_l1, ix_n0, ix_p0, ix_1lt, ix_lt1, ix_1le, ix_le1, ix_le0, ix_0lt, ab_z0, ab_z1, ab_zt, ab_zf, ab_ozn, ab_ozp, ab_o_some, not_true_eq_false, not_false_eq_true, Bool.not_eq_false, Bool.not_eq_true]; with_reducible refine vp_in_nI ?_ ?_ <;> omega)) ?_ | refine ab_sd ?_ ?_ | refine ab_sz (Or.inl rfl) ?_ | refine ab_sz (Or.inr rfl) ?_ | refine ab_sz ?_ ?_)
  all_goals (refine q_of hQ ?_; unfold ab_z ab_ok; grind)
theorem r_noPack (hω : ω.2.2.2 = ab_SH) (R : RepR S μ) {x : Int32} (hQ : Q (ab_z (!ab_ok (s_nP S) x)) μ) : ab_CI l ω mX11_noPack [.ref 43, .int x] μ Q := by
  refine ab_intro (sh := ab_SH) (cd := kX11_noPack) hω vX11_noPack (by decide +kernel) rfl (Nat.le_of_ble_eq_true rfl) (fun j hj hw => ?_)
  have e := R.1 43 2 rfl
  repeat' (first | refine hj _ _ _ _ ?_ | (refine br_c (fun h => ?_) (fun h => ?_) <;> (try simp (disch := omega) only [nI_clamp, li_2, li_3, li_4, li_5, li_6, li_7, li_8, li_9, li_10, li_40, li_120, pk_mul, nI_add, nI_1, ix_eq, ix_lt, ix_le, ix_l0, ix_l1, ix_n0, ix_p0, ix_1lt, ix_lt1, ix_1le, ix_le1, ix_le0, ix_0lt, ab_z0, ab_z1, ab_zt, ab_zf, ab_ozn, ab_ozp, ab_o_some, not_true_eq_false, not_false_eq_true, Bool.not_eq_false, Bool.not_eq_true] at h)) | (refine br_n (fun h => ?_) (fun h => ?_) <;> (try simp (disch := omega) only [nI_clamp, li_2, li_3, li_4, li_5, li_6, li_7, li_8, li_9, li_10, li_40, li_120, pk_mul, nI_add, nI_1, ix_eq, ix_lt, ix_le, ix_l0, ix_l1, ix_n0, ix_p0, ix_1lt, ix_lt1, ix_1le, ix_le1, ix_le0, ix_0lt, ab_z0, ab_z1, ab_zt, ab_zf, ab_ozn, ab_ozp, ab_o_some, not_true_eq_false, not_false_eq_true, Bool.not_eq_false, Bool.not_eq_true] at h)) | refine ab_sd (by first | (with_reducible refine vp_in_nI ?_ ?_ <;> omega) | (simp (disch := omega) only [nI_clamp, li_2, li_3, li_4, li_5, li_6, li_7, li_8, li_9, li_10, li_40, li_120, pk_mul, nI_add, nI_1, ix_eq, ix_lt, ix_le, ix_l0, ix_l1, ix_n0, ix_p0, ix_1lt, ix_lt1, ix_1le, ix_le1, ix_le0, ix_0lt, ab_z0, ab_z1, ab_zt, ab_zf, ab_ozn, ab_ozp, ab_o_some, not_true_eq_false, not_false_eq_true, Bool.not_eq_false, Bool.not_eq_true]; with_reducible refine vp_in_nI ?_ ?_ <;> omega)) ?_ | refine ab_sd ?_ ?_ | refine ab_sz (Or.inl rfl) ?_ | refine ab_sz (Or.inr rfl) ?_ | refine ab_sz ?_ ?_)
  all_goals (refine q_of hQ ?_; unfold ab_z ab_ok; grind)
theorem r_noType (hω : ω.2.2.2 = ab_SH) (R : RepR S μ) {x : Int32} (hQ : Q (ab_z (!ab_ok (s_nT S) x)) μ) : ab_CI l ω mX11_noType [.ref 43, .int x] μ Q := by
  refine ab_intro (sh := ab_SH) (cd := kX11_noType) hω vX11_noType (by decide +kernel) rfl (Nat.le_of_ble_eq_true rfl) (fun j hj hw => ?_)
  have e := R.1 43 6 rfl
  repeat' (first | refine hj _ _ _ _ ?_ | (refine br_c (fun h => ?_) (fun h => ?_) <;> (try simp (disch := omega) only [nI_clamp, li_2, li_3, li_4, li_5, li_6, li_7, li_8, li_9, li_10, li_40, li_120, pk_mul, nI_add, nI_1, ix_eq, ix_lt, ix_le, ix_l0, ix_l1, ix_n0, ix_p0, ix_1lt, ix_lt1, ix_1le, ix_le1, ix_le0, ix_0lt, ab_z0, ab_z1, ab_zt, ab_zf, ab_ozn, ab_ozp, ab_o_some, not_true_eq_false, not_false_eq_true, Bool.not_eq_false, Bool.not_eq_true] at h)) | (refine br_n (fun h => ?_) (fun h => ?_) <;> (try simp (disch := omega) only [nI_clamp, li_2, li_3, li_4, li_5, li_6, li_7, li_8, li_9, li_10, li_40, li_120, pk_mul, nI_add, nI_1, ix_eq, ix_lt, ix_le, ix_l0, ix_l1, ix_n0, ix_p0, ix_1lt, ix_lt1, ix_1le, ix_le1, ix_le0, ix_0lt, ab_z0, ab_z1, ab_zt, ab_zf, ab_ozn, ab_ozp, ab_o_some, not_true_eq_false, not_false_eq_true, Bool.not_eq_false, Bool.not_eq_true] at h)) | refine ab_sd (by first | (with_reducible refine vp_in_nI ?_ ?_ <;> omega) | (simp (disch := omega) only [nI_clamp, li_2, li_3, li_4, li_5, li_6, li_7, li_8, li_9, li_10, li_40, li_120, pk_mul, nI_add, nI_1, ix_eq, ix_lt, ix_le, ix_l0, ix_l1, ix_n0, ix_p0, ix_1lt, ix_lt1, ix_1le, ix_le1, ix_le0, ix_0lt, ab_z0, ab_z1, ab_zt, ab_zf, ab_ozn, ab_ozp, ab_o_some, not_true_eq_false, not_false_eq_true, Bool.not_eq_false, Bool.not_eq_true]; with_reducible refine vp_in_nI ?_ ?_ <;> omega)) ?_ | refine ab_sd ?_ ?_ | refine ab_sz (Or.inl rfl) ?_ | refine ab_sz (Or.inr rfl) ?_ | refine ab_sz ?_ ?_)
  all_goals (refine q_of hQ ?_; unfold ab_z ab_ok; grind)
theorem r_noMember (hω : ω.2.2.2 = ab_SH) (R : RepR S μ) {x : Int32} (hQ : Q (ab_z (!ab_ok (s_nX S) x)) μ) : ab_CI l ω mX11_noMember [.ref 43, .int x] μ Q := by
  refine ab_intro (sh := ab_SH) (cd := kX11_noMember) hω vX11_noMember (by decide +kernel) rfl (Nat.le_of_ble_eq_true rfl) (fun j hj hw => ?_)
  have e := R.1 43 16 rfl
  repeat' (first | refine hj _ _ _ _ ?_ | (refine br_c (fun h => ?_) (fun h => ?_) <;> (try simp (disch := omega) only [nI_clamp, li_2, li_3, li_4, li_5, li_6, li_7, li_8, li_9, li_10, li_40, li_120, pk_mul, nI_add, nI_1, ix_eq, ix_lt, ix_le, ix_l0, ix_l1, ix_n0, ix_p0, ix_1lt, ix_lt1, ix_1le, ix_le1, ix_le0, ix_0lt, ab_z0, ab_z1, ab_zt, ab_zf, ab_ozn, ab_ozp, ab_o_some, not_true_eq_false, not_false_eq_true, Bool.not_eq_false, Bool.not_eq_true] at h)) | (refine br_n (fun h => ?_) (fun h => ?_) <;> (try simp (disch := omega) only [nI_clamp, li_2, li_3, li_4, li_5, li_6, li_7, li_8, li_9, li_10, li_40, li_120, pk_mul, nI_add, nI_1, ix_eq, ix_lt, ix_le, ix_l0, ix_l1, ix_n0, ix_p0, ix_1lt, ix_lt1, ix_1le, ix_le1, ix_le0, ix_0lt, ab_z0, ab_z1, ab_zt, ab_zf, ab_ozn, ab_ozp, ab_o_some, not_true_eq_false, not_false_eq_true, Bool.not_eq_false, Bool.not_eq_true] at h)) | refine ab_sd (by first | (with_reducible refine vp_in_nI ?_ ?_ <;> omega) | (simp (disch := omega) only [nI_clamp, li_2, li_3, li_4, li_5, li_6, li_7, li_8, li_9, li_10, li_40, li_120, pk_mul, nI_add, nI_1, ix_eq, ix_lt, ix_le, ix_l0, ix_l1, ix_n0, ix_p0, ix_1lt, ix_lt1, ix_1le, ix_le1, ix_le0, ix_0lt, ab_z0, ab_z1, ab_zt, ab_zf, ab_ozn, ab_ozp, ab_o_some, not_true_eq_false, not_false_eq_true, Bool.not_eq_false, Bool.not_eq_true]; with_reducible refine vp_in_nI ?_ ?_ <;> omega)) ?_ | refine ab_sd ?_ ?_ | refine ab_sz (Or.inl rfl) ?_ | refine ab_sz (Or.inr rfl) ?_ | refine ab_sz ?_ ?_)
  all_goals (refine q_of hQ ?_; unfold ab_z ab_ok; grind)
theorem r_has (hω : ω.2.2.2 = ab_SH) {x y : Int32} {a b : Nat} (ex : x = nI a) (ey : y = nI b) (h : a &&& b < 2 ^ 31) (hQ : Q (ab_z (s_has a b)) μ) : ab_CI l ω mX11_has [.int x, .int y] μ Q := by
  subst ex ey
  refine ab_intro (sh := ab_SH) (cd := kX11_has) hω vX11_has (by decide +kernel) rfl (Nat.le_of_ble_eq_true rfl) (fun j hj hw => ?_)
  have e : (nI a &&& nI b = 0) ↔ (a &&& b = 0) := by rw [ab_nand]; exact ix_eq (a := a &&& b) (b := 0) h (by omega)
  repeat' (first | refine hj _ _ _ _ ?_ | (refine br_c (fun h => ?_) (fun h => ?_) <;> (try simp (disch := omega) only [nI_clamp, li_2, li_3, li_4, li_5, li_6, li_7, li_8, li_9, li_10, li_40, li_120, pk_mul, nI_add, nI_1, ix_eq, ix_lt, ix_le, ix_l0, ix_l1, ix_n0, ix_p0, ix_1lt, ix_lt1, ix_1le, ix_le1, ix_le0, ix_0lt, ab_z0, ab_z1, ab_zt, ab_zf, ab_ozn, ab_ozp, ab_o_some, not_true_eq_false, not_false_eq_true, Bool.not_eq_false, Bool.not_eq_true] at h)) | (refine br_n (fun h => ?_) (fun h => ?_) <;> (try simp (disch := omega) only [nI_clamp, li_2, li_3, li_4, li_5, li_6, li_7, li_8, li_9, li_10, li_40, li_120, pk_mul, nI_add, nI_1, ix_eq, ix_lt, ix_le, ix_l0, ix_l1, ix_n0, ix_p0, ix_1lt, ix_lt1, ix_1le, ix_le1, ix_le0, ix_0lt, ab_z0, ab_z1, ab_zt, ab_zf, ab_ozn, ab_ozp, ab_o_some, not_true_eq_false, not_false_eq_true, Bool.not_eq_false, Bool.not_eq_true] at h)) | refine ab_sd (by first | (with_reducible refine vp_in_nI ?_ ?_ <;> omega) | (simp (disch := omega) only [nI_clamp, li_2, li_3, li_4, li_5, li_6, li_7, li_8, li_9, li_10, li_40, li_120, pk_mul, nI_add, nI_1, ix_eq, ix_lt, ix_le, ix_l0, ix_l1, ix_n0, ix_p0, ix_1lt, ix_lt1, ix_1le, ix_le1, ix_le0, ix_0lt, ab_z0, ab_z1, ab_zt, ab_zf, ab_ozn, ab_ozp, ab_o_some, not_true_eq_false, not_false_eq_true, Bool.not_eq_false, Bool.not_eq_true]; with_reducible refine vp_in_nI ?_ ?_ <;> omega)) ?_ | refine ab_sd ?_ ?_ | refine ab_sz (Or.inl rfl) ?_ | refine ab_sz (Or.inr rfl) ?_ | refine ab_sz ?_ ?_)
  all_goals (refine q_of hQ ?_; unfold ab_z s_has; grind)
theorem r_noForm (hω : ω.2.2.2 = ab_SH) {a f : Int32} (hQ : Q (ab_z (!(ab_ok 4 a && ab_ok 8 f))) μ) : ab_CI l ω mX11_noForm [.int a, .int f] μ Q := by
  refine ab_intro (sh := ab_SH) (cd := kX11_noForm) hω vX11_noForm (by decide +kernel) rfl (Nat.le_of_ble_eq_true rfl) (fun j hj hw => ?_)
  repeat' (first | refine hj _ _ _ _ ?_ | (refine br_c (fun h => ?_) (fun h => ?_) <;> (try simp (disch := omega) only [nI_clamp, li_2, li_3, li_4, li_5, li_6, li_7, li_8, li_9, li_10, li_40, li_120, pk_mul, nI_add, nI_1, ix_eq, ix_lt, ix_le, ix_l0, ix_l1, ix_n0, ix_p0, ix_1lt, ix_lt1, ix_1le, ix_le1, ix_le0, ix_0lt, ab_z0, ab_z1, ab_zt, ab_zf, ab_ozn, ab_ozp, ab_o_some, not_true_eq_false, not_false_eq_true, Bool.not_eq_false, Bool.not_eq_true] at h)) | (refine br_n (fun h => ?_) (fun h => ?_) <;> (try simp (disch := omega) only [nI_clamp, li_2, li_3, li_4, li_5, li_6, li_7, li_8, li_9, li_10, li_40, li_120, pk_mul, nI_add, nI_1, ix_eq, ix_lt, ix_le, ix_l0, ix_l1, ix_n0, ix_p0, ix_1lt, ix_lt1, ix_1le, ix_le1, ix_le0, ix_0lt, ab_z0, ab_z1, ab_zt, ab_zf, ab_ozn, ab_ozp, ab_o_some, not_true_eq_false, not_false_eq_true, Bool.not_eq_false, Bool.not_eq_true] at h)) | refine ab_sd (by first | (with_reducible refine vp_in_nI ?_ ?_ <;> omega) | (simp (disch := omega) only [nI_clamp, li_2, li_3, li_4, li_5, li_6, li_7, li_8, li_9, li_10, li_40, li_120, pk_mul, nI_add, nI_1, ix_eq, ix_lt, ix_le, ix_l0, ix_l1, ix_n0, ix_p0, ix_1lt, ix_lt1, ix_1le, ix_le1, ix_le0, ix_0lt, ab_z0, ab_z1, ab_zt, ab_zf, ab_ozn, ab_ozp, ab_o_some, not_true_eq_false, not_false_eq_true, Bool.not_eq_false, Bool.not_eq_true]; with_reducible refine vp_in_nI ?_ ?_ <;> omega)) ?_ | refine ab_sd ?_ ?_ | refine ab_sz (Or.inl rfl) ?_ | refine ab_sz (Or.inr rfl) ?_ | refine ab_sz ?_ ?_)
  all_goals (refine q_of hQ ?_; rw [ab_ok4, ab_ok8]; unfold ab_z; grind)
theorem r_isBelow (hω : ω.2.2.2 = ab_SH) (R : RepR S μ) {x y : Int32} {t u : Nat} (ex : x = nI t) (ey : y = nI u) (ht : t < 40) (hu : u < 40) (hQ : Q (ab_z (s_ab S t u)) μ) : ab_CI l ω mX11_isBelow [.ref 43, .int x, .int y] μ Q := by
  subst ex ey
  refine ab_intro (sh := ab_SH) (cd := kX11_isBelow) hω vX11_isBelow (by decide +kernel) rfl (Nat.le_of_ble_eq_true rfl) (fun j hj hw => ?_)
  repeat' (first | refine hj _ _ _ _ ?_ | (refine br_c (fun h => ?_) (fun h => ?_) <;> (try simp (disch := omega) only [nI_clamp, li_2, li_3, li_4, li_5, li_6, li_7, li_8, li_9, li_10, li_40, li_120, pk_mul, nI_add, nI_1, ix_eq, ix_lt, ix_le, ix_l0, ix_l1, ix_n0, ix_p0, ix_1lt, ix_lt1, ix_1le, ix_le1, ix_le0, ix_0lt, ab_z0, ab_z1, ab_zt, ab_zf, ab_ozn, ab_ozp, ab_o_some, not_true_eq_false, not_false_eq_true, Bool.not_eq_false, Bool.not_eq_true] at h)) | (refine br_n (fun h => ?_) (fun h => ?_) <;> (try simp (disch := omega) only [nI_clamp, li_2, li_3, li_4, li_5, li_6, li_7, li_8, li_9, li_10, li_40, li_120, pk_mul, nI_add, nI_1, ix_eq, ix_lt, ix_le, ix_l0, ix_l1, ix_n0, ix_p0, ix_1lt, ix_lt1, ix_1le, ix_le1, ix_le0, ix_0lt, ab_z0, ab_z1, ab_zt, ab_zf, ab_ozn, ab_ozp, ab_o_some, not_true_eq_false, not_false_eq_true, Bool.not_eq_false, Bool.not_eq_true] at h)) | refine ab_sd (by first | (with_reducible refine vp_in_nI ?_ ?_ <;> omega) | (simp (disch := omega) only [nI_clamp, li_2, li_3, li_4, li_5, li_6, li_7, li_8, li_9, li_10, li_40, li_120, pk_mul, nI_add, nI_1, ix_eq, ix_lt, ix_le, ix_l0, ix_l1, ix_n0, ix_p0, ix_1lt, ix_lt1, ix_1le, ix_le1, ix_le0, ix_0lt, ab_z0, ab_z1, ab_zt, ab_zf, ab_ozn, ab_ozp, ab_o_some, not_true_eq_false, not_false_eq_true, Bool.not_eq_false, Bool.not_eq_true]; with_reducible refine vp_in_nI ?_ ?_ <;> omega)) ?_ | refine ab_sd ?_ ?_ | refine ab_sz (Or.inl rfl) ?_ | refine ab_sz (Or.inr rfl) ?_ | refine ab_sz ?_ ?_)
  all_goals rw [ix_40, nI_clamp (by omega), R.2.1 56 _ rfl]
  · exact ab_z01 _
  · exact hQ
theorem r_isAt (hω : ω.2.2.2 = ab_SH) (R : RepR S μ) {x y : Int32} {t u : Nat} (ex : x = nI t) (ey : y = nI u) (ht : t < 40) (hu : u < 40) (hQ : Q (ab_z (t == u || s_ab S t u)) μ) : ab_CI l ω mX11_isAt [.ref 43, .int x, .int y] μ Q := by
  subst ex ey
  refine ab_intro (sh := ab_SH) (cd := kX11_isAt) hω vX11_isAt (by decide +kernel) rfl (Nat.le_of_ble_eq_true rfl) (fun j hj hw => ?_)
  have e := ix_eq (a := t) (b := u) (by omega) (by omega)
  repeat' (first | refine hj _ _ _ _ ?_ | (refine br_c (fun h => ?_) (fun h => ?_) <;> (try simp (disch := omega) only [nI_clamp, li_2, li_3, li_4, li_5, li_6, li_7, li_8, li_9, li_10, li_40, li_120, pk_mul, nI_add, nI_1, ix_eq, ix_lt, ix_le, ix_l0, ix_l1, ix_n0, ix_p0, ix_1lt, ix_lt1, ix_1le, ix_le1, ix_le0, ix_0lt, ab_z0, ab_z1, ab_zt, ab_zf, ab_ozn, ab_ozp, ab_o_some, not_true_eq_false, not_false_eq_true, Bool.not_eq_false, Bool.not_eq_true] at h)) | (refine br_n (fun h => ?_) (fun h => ?_) <;> (try simp (disch := omega) only [nI_clamp, li_2, li_3, li_4, li_5, li_6, li_7, li_8, li_9, li_10, li_40, li_120, pk_mul, nI_add, nI_1, ix_eq, ix_lt, ix_le, ix_l0, ix_l1, ix_n0, ix_p0, ix_1lt, ix_lt1, ix_1le, ix_le1, ix_le0, ix_0lt, ab_z0, ab_z1, ab_zt, ab_zf, ab_ozn, ab_ozp, ab_o_some, not_true_eq_false, not_false_eq_true, Bool.not_eq_false, Bool.not_eq_true] at h)) | refine ab_sd (by first | (with_reducible refine vp_in_nI ?_ ?_ <;> omega) | (simp (disch := omega) only [nI_clamp, li_2, li_3, li_4, li_5, li_6, li_7, li_8, li_9, li_10, li_40, li_120, pk_mul, nI_add, nI_1, ix_eq, ix_lt, ix_le, ix_l0, ix_l1, ix_n0, ix_p0, ix_1lt, ix_lt1, ix_1le, ix_le1, ix_le0, ix_0lt, ab_z0, ab_z1, ab_zt, ab_zf, ab_ozn, ab_ozp, ab_o_some, not_true_eq_false, not_false_eq_true, Bool.not_eq_false, Bool.not_eq_true]; with_reducible refine vp_in_nI ?_ ?_ <;> omega)) ?_ | refine r_isBelow hω R rfl rfl ht hu ?_ | refine ab_sd ?_ ?_ | refine ab_sz (Or.inl rfl) ?_ | refine ab_sz (Or.inr rfl) ?_ | refine ab_sz ?_ ?_)
  all_goals (refine q_of hQ ?_; unfold ab_z at *; grind)
theorem r_isPlain (hω : ω.2.2.2 = ab_SH) (R : RepR S μ) (hW : Wf S) {x : Int32} {m : Nat} (ex : x = nI m) (hm : m < s_nX S) (hQ : Q (ab_z (s_pl S m)) μ) : ab_CI l ω mX11_isPlain [.ref 43, .int x] μ Q := by
  subst ex
  refine ab_intro (sh := ab_SH) (cd := kX11_isPlain) hω vX11_isPlain (by decide +kernel) rfl (Nat.le_of_ble_eq_true rfl) (fun j hj hw => ?_)
  have hX := hW.2.2.2.1
  obtain ⟨-, -, -, h4, h5⟩ := hW.2.2.2.2.2.2 m hm
  have e0 : (nI m).toNatClampNeg = m := nI_clamp (by omega)
  have e1 := R.1 60 m rfl
  have e2 := R.1 61 m rfl
  have e3 : nI (S.1 60 m) = 0 ↔ S.1 60 m = 0 := ix_eq (b := 0) (by omega) (by omega)
  repeat' (first | refine hj _ _ _ _ ?_ | (refine br_c (fun h => ?_) (fun h => ?_) <;> (try simp (disch := omega) only [nI_clamp, li_2, li_3, li_4, li_5, li_6, li_7, li_8, li_9, li_10, li_40, li_120, pk_mul, nI_add, nI_1, ix_eq, ix_lt, ix_le, ix_l0, ix_l1, ix_n0, ix_p0, ix_1lt, ix_lt1, ix_1le, ix_le1, ix_le0, ix_0lt, ab_z0, ab_z1, ab_zt, ab_zf, ab_ozn, ab_ozp, ab_o_some, not_true_eq_false, not_false_eq_true, Bool.not_eq_false, Bool.not_eq_true] at h)) | (refine br_n (fun h => ?_) (fun h => ?_) <;> (try simp (disch := omega) only [nI_clamp, li_2, li_3, li_4, li_5, li_6, li_7, li_8, li_9, li_10, li_40, li_120, pk_mul, nI_add, nI_1, ix_eq, ix_lt, ix_le, ix_l0, ix_l1, ix_n0, ix_p0, ix_1lt, ix_lt1, ix_1le, ix_le1, ix_le0, ix_0lt, ab_z0, ab_z1, ab_zt, ab_zf, ab_ozn, ab_ozp, ab_o_some, not_true_eq_false, not_false_eq_true, Bool.not_eq_false, Bool.not_eq_true] at h)) | refine ab_sd (by first | (with_reducible refine vp_in_nI ?_ ?_ <;> omega) | (simp (disch := omega) only [nI_clamp, li_2, li_3, li_4, li_5, li_6, li_7, li_8, li_9, li_10, li_40, li_120, pk_mul, nI_add, nI_1, ix_eq, ix_lt, ix_le, ix_l0, ix_l1, ix_n0, ix_p0, ix_1lt, ix_lt1, ix_1le, ix_le1, ix_le0, ix_0lt, ab_z0, ab_z1, ab_zt, ab_zf, ab_ozn, ab_ozp, ab_o_some, not_true_eq_false, not_false_eq_true, Bool.not_eq_false, Bool.not_eq_true]; with_reducible refine vp_in_nI ?_ ?_ <;> omega)) ?_ | refine r_has hω (a := S.1 61 m) (b := 1) (by rw [e0, e2]) rfl (s_and_lt h5) ?_ | refine ab_sd ?_ ?_ | refine ab_sz (Or.inl rfl) ?_ | refine ab_sz (Or.inr rfl) ?_ | refine ab_sz ?_ ?_)
  all_goals (refine q_of hQ ?_; unfold s_pl; unfold ab_z at *; grind)
theorem r_declared (hω : ω.2.2.2 = ab_SH) (R : RepR S μ) (hW : Wf S) {x y z : Int32} {t k n : Nat} (ex : x = nI t) (ey : y = nI k) (ez : z = nI n) (ht : t < 2 ^ 31) (hk : k < 2 ^ 31) (hn : n < 2 ^ 31) (hQ : Q (ab_o (s_dec S t k n)) μ) : ab_CI l ω mX11_declared [.ref 43, .int x, .int y, .int z] μ Q := by
  subst ex ey ez
  refine ab_intro (sh := ab_SH) (cd := kX11_declared) hω vX11_declared (by decide +kernel) rfl (Nat.le_of_ble_eq_true rfl) (fun j hj hw => ?_)
  have hjx : ∀ i ll st μ, i ∉ ([2] : List Nat) → _ → j i ll st μ := fun i ll st μ _ h => hj i ll st μ h
  have hX := hW.2.2.2.1
  have g16 := R.1 43 16 rfl
  have loop : ∀ n' m, s_nX S + 1 ≤ m + n' → m ≤ s_nX S → s_decF S t k n m = none → j 2 [some (.ref 43), some (.int (nI t)), some (.int (nI k)), some (.int (nI n)), some (.int (nI m))] [] μ := by
    intro n'
    induction n' with
    | zero => intro m h1 h2; omega
    | succ n' ih =>
      intro m h1 h2 h3
      have e0 : (nI m).toNatClampNeg = m := nI_clamp (by omega)
      have r57 := R.1 57 m rfl
      have r58 := R.1 58 m rfl
      have r59 := R.1 59 m rfl
      have c0 := ix_le (a := s_nX S) (b := m) (by omega) (by omega)
      refine hj _ _ _ _ ?_
      by_cases hm : m < s_nX S
      · obtain ⟨q1, q2, q3, -, -⟩ := hW.2.2.2.2.2.2 m hm
        have hT := hW.2.2.1.2
        have c1 := ix_eq (a := S.1 57 m) (b := t) (by omega) (by omega)
        have c2 := ix_eq (a := S.1 58 m) (b := k) (by omega) (by omega)
        have c3 := ix_eq (a := S.1 59 m) (b := n) (by omega) (by omega)
        have hs : s_decF S t k n (m + 1) = if S.1 57 m = t ∧ S.1 58 m = k ∧ S.1 59 m = n then some m else none := by simp only [s_decF, h3]
        repeat' (first | refine hjx _ _ _ _ (by decide) ?_ | (refine br_c (fun h => ?_) (fun h => ?_) <;> (try simp (disch := omega) only [nI_clamp, li_2, li_3, li_4, li_5, li_6, li_7, li_8, li_9, li_10, li_40, li_120, pk_mul, nI_add, nI_1, ix_eq, ix_lt, ix_le, ix_l0, ix_l1, ix_n0, ix_p0, ix_1lt, ix_lt1, ix_1le, ix_le1, ix_le0, ix_0lt, ab_z0, ab_z1, ab_zt, ab_zf, ab_ozn, ab_ozp, ab_o_some, not_true_eq_false, not_false_eq_true, Bool.not_eq_false, Bool.not_eq_true] at h)) | (refine br_n (fun h => ?_) (fun h => ?_) <;> (try simp (disch := omega) only [nI_clamp, li_2, li_3, li_4, li_5, li_6, li_7, li_8, li_9, li_10, li_40, li_120, pk_mul, nI_add, nI_1, ix_eq, ix_lt, ix_le, ix_l0, ix_l1, ix_n0, ix_p0, ix_1lt, ix_lt1, ix_1le, ix_le1, ix_le0, ix_0lt, ab_z0, ab_z1, ab_zt, ab_zf, ab_ozn, ab_ozp, ab_o_some, not_true_eq_false, not_false_eq_true, Bool.not_eq_false, Bool.not_eq_true] at h)) | refine ab_sd (by first | (with_reducible refine vp_in_nI ?_ ?_ <;> omega) | (simp (disch := omega) only [nI_clamp, li_2, li_3, li_4, li_5, li_6, li_7, li_8, li_9, li_10, li_40, li_120, pk_mul, nI_add, nI_1, ix_eq, ix_lt, ix_le, ix_l0, ix_l1, ix_n0, ix_p0, ix_1lt, ix_lt1, ix_1le, ix_le1, ix_le0, ix_0lt, ab_z0, ab_z1, ab_zt, ab_zf, ab_ozn, ab_ozp, ab_o_some, not_true_eq_false, not_false_eq_true, Bool.not_eq_false, Bool.not_eq_true]; with_reducible refine vp_in_nI ?_ ?_ <;> omega)) ?_ | refine ab_sd ?_ ?_ | refine ab_sz (Or.inl rfl) ?_ | refine ab_sz (Or.inr rfl) ?_ | refine ab_sz ?_ ?_)
        · grind
        all_goals first | (rw [nI_1]; exact ih (m + 1) (by omega) (by omega) (by grind)) | (refine q_of hQ ?_; unfold s_dec; rw [s_decF_step hm h3 (by grind)]; rfl)
      · have hm2 : m = s_nX S := by omega
        repeat' (first | refine hjx _ _ _ _ (by decide) ?_ | (refine br_c (fun h => ?_) (fun h => ?_) <;> (try simp (disch := omega) only [nI_clamp, li_2, li_3, li_4, li_5, li_6, li_7, li_8, li_9, li_10, li_40, li_120, pk_mul, nI_add, nI_1, ix_eq, ix_lt, ix_le, ix_l0, ix_l1, ix_n0, ix_p0, ix_1lt, ix_lt1, ix_1le, ix_le1, ix_le0, ix_0lt, ab_z0, ab_z1, ab_zt, ab_zf, ab_ozn, ab_ozp, ab_o_some, not_true_eq_false, not_false_eq_true, Bool.not_eq_false, Bool.not_eq_true] at h)) | (refine br_n (fun h => ?_) (fun h => ?_) <;> (try simp (disch := omega) only [nI_clamp, li_2, li_3, li_4, li_5, li_6, li_7, li_8, li_9, li_10, li_40, li_120, pk_mul, nI_add, nI_1, ix_eq, ix_lt, ix_le, ix_l0, ix_l1, ix_n0, ix_p0, ix_1lt, ix_lt1, ix_1le, ix_le1, ix_le0, ix_0lt, ab_z0, ab_z1, ab_zt, ab_zf, ab_ozn, ab_ozp, ab_o_some, not_true_eq_false, not_false_eq_true, Bool.not_eq_false, Bool.not_eq_true] at h)) | refine ab_sd (by first | (with_reducible refine vp_in_nI ?_ ?_ <;> omega) | (simp (disch := omega) only [nI_clamp, li_2, li_3, li_4, li_5, li_6, li_7, li_8, li_9, li_10, li_40, li_120, pk_mul, nI_add, nI_1, ix_eq, ix_lt, ix_le, ix_l0, ix_l1, ix_n0, ix_p0, ix_1lt, ix_lt1, ix_1le, ix_le1, ix_le0, ix_0lt, ab_z0, ab_z1, ab_zt, ab_zf, ab_ozn, ab_ozp, ab_o_some, not_true_eq_false, not_false_eq_true, Bool.not_eq_false, Bool.not_eq_true]; with_reducible refine vp_in_nI ?_ ?_ <;> omega)) ?_ | refine ab_sd ?_ ?_ | refine ab_sz (Or.inl rfl) ?_ | refine ab_sz (Or.inr rfl) ?_ | refine ab_sz ?_ ?_)
        · exact q_of hQ (by unfold s_dec; rw [← hm2, h3]; rfl)
        all_goals grind
  repeat' (first | refine hjx _ _ _ _ (by decide) ?_ | (refine br_c (fun h => ?_) (fun h => ?_) <;> (try simp (disch := omega) only [nI_clamp, li_2, li_3, li_4, li_5, li_6, li_7, li_8, li_9, li_10, li_40, li_120, pk_mul, nI_add, nI_1, ix_eq, ix_lt, ix_le, ix_l0, ix_l1, ix_n0, ix_p0, ix_1lt, ix_lt1, ix_1le, ix_le1, ix_le0, ix_0lt, ab_z0, ab_z1, ab_zt, ab_zf, ab_ozn, ab_ozp, ab_o_some, not_true_eq_false, not_false_eq_true, Bool.not_eq_false, Bool.not_eq_true] at h)) | (refine br_n (fun h => ?_) (fun h => ?_) <;> (try simp (disch := omega) only [nI_clamp, li_2, li_3, li_4, li_5, li_6, li_7, li_8, li_9, li_10, li_40, li_120, pk_mul, nI_add, nI_1, ix_eq, ix_lt, ix_le, ix_l0, ix_l1, ix_n0, ix_p0, ix_1lt, ix_lt1, ix_1le, ix_le1, ix_le0, ix_0lt, ab_z0, ab_z1, ab_zt, ab_zf, ab_ozn, ab_ozp, ab_o_some, not_true_eq_false, not_false_eq_true, Bool.not_eq_false, Bool.not_eq_true] at h)) | refine ab_sd (by first | (with_reducible refine vp_in_nI ?_ ?_ <;> omega) | (simp (disch := omega) only [nI_clamp, li_2, li_3, li_4, li_5, li_6, li_7, li_8, li_9, li_10, li_40, li_120, pk_mul, nI_add, nI_1, ix_eq, ix_lt, ix_le, ix_l0, ix_l1, ix_n0, ix_p0, ix_1lt, ix_lt1, ix_1le, ix_le1, ix_le0, ix_0lt, ab_z0, ab_z1, ab_zt, ab_zf, ab_ozn, ab_ozp, ab_o_some, not_true_eq_false, not_false_eq_true, Bool.not_eq_false, Bool.not_eq_true]; with_reducible refine vp_in_nI ?_ ?_ <;> omega)) ?_ | refine ab_sd ?_ ?_ | refine ab_sz (Or.inl rfl) ?_ | refine ab_sz (Or.inr rfl) ?_ | refine ab_sz ?_ ?_)
  exact loop (s_nX S + 1) 0 (by omega) (by omega) rfl
theorem r_topOf (hω : ω.2.2.2 = ab_SH) (R : RepR S μ) (hW : Wf S) {x : Int32} {t : Nat} (ex : x = nI t) (ht : t < s_nT S) (hQ : Q (nI (s_top S t)) μ) : ab_CI l ω mX11_topOf [.ref 43, .int x] μ Q := by
  subst ex
  refine ab_intro (sh := ab_SH) (cd := kX11_topOf) hω vX11_topOf (by decide +kernel) rfl (Nat.le_of_ble_eq_true rfl) (fun j hj hw => ?_)
  have hjx : ∀ i ll st μ, i ∉ ([2] : List Nat) → _ → j i ll st μ := fun i ll st μ _ h => hj i ll st μ h
  have hT := hW.2.2.1.2
  have loop : ∀ n' a, a < n' → a < s_nT S → Q (nI (s_top S a)) μ → j 2 [some (.ref 43), some (.int (nI t)), some (.int (nI a))] [] μ := by
    intro n'
    induction n' with
    | zero => intro a h1; omega
    | succ n' ih =>
      intro a h1 h2 hQ
      have e0 : (nI a).toNatClampNeg = a := nI_clamp (by omega)
      have r49 := R.2.2 49 a (Or.inl rfl) h2
      have ho := (hW.2.2.2.2.2.1 a h2).2.2.2.2.2.2.1
      cases e : s_ou S a with
      | none =>
        have c1 : ab_o (s_ou S a) = -2 := by rw [e]; rfl
        have ht : s_top S a = a := by unfold s_top; rw [s_ch_none e]; rfl
        refine hj _ _ _ _ ?_
        repeat' (first | refine hjx _ _ _ _ (by decide) ?_ | (refine br_c (fun h => ?_) (fun h => ?_) <;> (try simp (disch := omega) only [nI_clamp, li_2, li_3, li_4, li_5, li_6, li_7, li_8, li_9, li_10, li_40, li_120, pk_mul, nI_add, nI_1, ix_eq, ix_lt, ix_le, ix_l0, ix_l1, ix_n0, ix_p0, ix_1lt, ix_lt1, ix_1le, ix_le1, ix_le0, ix_0lt, ab_z0, ab_z1, ab_zt, ab_zf, ab_ozn, ab_ozp, ab_o_some, not_true_eq_false, not_false_eq_true, Bool.not_eq_false, Bool.not_eq_true] at h)) | (refine br_n (fun h => ?_) (fun h => ?_) <;> (try simp (disch := omega) only [nI_clamp, li_2, li_3, li_4, li_5, li_6, li_7, li_8, li_9, li_10, li_40, li_120, pk_mul, nI_add, nI_1, ix_eq, ix_lt, ix_le, ix_l0, ix_l1, ix_n0, ix_p0, ix_1lt, ix_lt1, ix_1le, ix_le1, ix_le0, ix_0lt, ab_z0, ab_z1, ab_zt, ab_zf, ab_ozn, ab_ozp, ab_o_some, not_true_eq_false, not_false_eq_true, Bool.not_eq_false, Bool.not_eq_true] at h)) | refine ab_sd (by first | (with_reducible refine vp_in_nI ?_ ?_ <;> omega) | (simp (disch := omega) only [nI_clamp, li_2, li_3, li_4, li_5, li_6, li_7, li_8, li_9, li_10, li_40, li_120, pk_mul, nI_add, nI_1, ix_eq, ix_lt, ix_le, ix_l0, ix_l1, ix_n0, ix_p0, ix_1lt, ix_lt1, ix_1le, ix_le1, ix_le0, ix_0lt, ab_z0, ab_z1, ab_zt, ab_zf, ab_ozn, ab_ozp, ab_o_some, not_true_eq_false, not_false_eq_true, Bool.not_eq_false, Bool.not_eq_true]; with_reducible refine vp_in_nI ?_ ?_ <;> omega)) ?_ | refine ab_sd ?_ ?_ | refine ab_sz (Or.inl rfl) ?_ | refine ab_sz (Or.inr rfl) ?_ | refine ab_sz ?_ ?_)
        · exact q_of hQ (by rw [ht])
        · grind
      | some o =>
        have h3 := ho o e
        have c1 : ab_o (s_ou S a) = nI o := by rw [e]; rfl
        have c2 := nI_pos (n := o) (by omega)
        have ht : s_top S a = s_top S o := by
          unfold s_top
          rw [s_ch_some hW h2 e]
          cases hc : s_ch S o with
          | nil => unfold s_ch at hc; cases o <;> simp [s_chF] at hc
          | cons b r => simp [List.getLast?_cons]
        refine hj _ _ _ _ ?_
        repeat' (first | refine hjx _ _ _ _ (by decide) ?_ | (refine br_c (fun h => ?_) (fun h => ?_) <;> (try simp (disch := omega) only [nI_clamp, li_2, li_3, li_4, li_5, li_6, li_7, li_8, li_9, li_10, li_40, li_120, pk_mul, nI_add, nI_1, ix_eq, ix_lt, ix_le, ix_l0, ix_l1, ix_n0, ix_p0, ix_1lt, ix_lt1, ix_1le, ix_le1, ix_le0, ix_0lt, ab_z0, ab_z1, ab_zt, ab_zf, ab_ozn, ab_ozp, ab_o_some, not_true_eq_false, not_false_eq_true, Bool.not_eq_false, Bool.not_eq_true] at h)) | (refine br_n (fun h => ?_) (fun h => ?_) <;> (try simp (disch := omega) only [nI_clamp, li_2, li_3, li_4, li_5, li_6, li_7, li_8, li_9, li_10, li_40, li_120, pk_mul, nI_add, nI_1, ix_eq, ix_lt, ix_le, ix_l0, ix_l1, ix_n0, ix_p0, ix_1lt, ix_lt1, ix_1le, ix_le1, ix_le0, ix_0lt, ab_z0, ab_z1, ab_zt, ab_zf, ab_ozn, ab_ozp, ab_o_some, not_true_eq_false, not_false_eq_true, Bool.not_eq_false, Bool.not_eq_true] at h)) | refine ab_sd (by first | (with_reducible refine vp_in_nI ?_ ?_ <;> omega) | (simp (disch := omega) only [nI_clamp, li_2, li_3, li_4, li_5, li_6, li_7, li_8, li_9, li_10, li_40, li_120, pk_mul, nI_add, nI_1, ix_eq, ix_lt, ix_le, ix_l0, ix_l1, ix_n0, ix_p0, ix_1lt, ix_lt1, ix_1le, ix_le1, ix_le0, ix_0lt, ab_z0, ab_z1, ab_zt, ab_zf, ab_ozn, ab_ozp, ab_o_some, not_true_eq_false, not_false_eq_true, Bool.not_eq_false, Bool.not_eq_true]; with_reducible refine vp_in_nI ?_ ?_ <;> omega)) ?_ | refine ab_sd ?_ ?_ | refine ab_sz (Or.inl rfl) ?_ | refine ab_sz (Or.inr rfl) ?_ | refine ab_sz ?_ ?_)
        · grind
        · rw [e0, r49, c1]
          exact ih o (by omega) (by omega) (by rw [← ht]; exact hQ)
  repeat' (first | refine hjx _ _ _ _ (by decide) ?_ | (refine br_c (fun h => ?_) (fun h => ?_) <;> (try simp (disch := omega) only [nI_clamp, li_2, li_3, li_4, li_5, li_6, li_7, li_8, li_9, li_10, li_40, li_120, pk_mul, nI_add, nI_1, ix_eq, ix_lt, ix_le, ix_l0, ix_l1, ix_n0, ix_p0, ix_1lt, ix_lt1, ix_1le, ix_le1, ix_le0, ix_0lt, ab_z0, ab_z1, ab_zt, ab_zf, ab_ozn, ab_ozp, ab_o_some, not_true_eq_false, not_false_eq_true, Bool.not_eq_false, Bool.not_eq_true] at h)) | (refine br_n (fun h => ?_) (fun h => ?_) <;> (try simp (disch := omega) only [nI_clamp, li_2, li_3, li_4, li_5, li_6, li_7, li_8, li_9, li_10, li_40, li_120, pk_mul, nI_add, nI_1, ix_eq, ix_lt, ix_le, ix_l0, ix_l1, ix_n0, ix_p0, ix_1lt, ix_lt1, ix_1le, ix_le1, ix_le0, ix_0lt, ab_z0, ab_z1, ab_zt, ab_zf, ab_ozn, ab_ozp, ab_o_some, not_true_eq_false, not_false_eq_true, Bool.not_eq_false, Bool.not_eq_true] at h)) | refine ab_sd (by first | (with_reducible refine vp_in_nI ?_ ?_ <;> omega) | (simp (disch := omega) only [nI_clamp, li_2, li_3, li_4, li_5, li_6, li_7, li_8, li_9, li_10, li_40, li_120, pk_mul, nI_add, nI_1, ix_eq, ix_lt, ix_le, ix_l0, ix_l1, ix_n0, ix_p0, ix_1lt, ix_lt1, ix_1le, ix_le1, ix_le0, ix_0lt, ab_z0, ab_z1, ab_zt, ab_zf, ab_ozn, ab_ozp, ab_o_some, not_true_eq_false, not_false_eq_true, Bool.not_eq_false, Bool.not_eq_true]; with_reducible refine vp_in_nI ?_ ?_ <;> omega)) ?_ | refine ab_sd ?_ ?_ | refine ab_sz (Or.inl rfl) ?_ | refine ab_sz (Or.inr rfl) ?_ | refine ab_sz ?_ ?_)
  exact loop (t + 1) t (by omega) ht hQ
end R1
end
section
/-! OPEN -/
def s_at (S : sT) (t u : Nat) : Bool := t == u || s_ab S t u
def s_arnd (S : sT) (f t : Nat) : Bool := (s_ch S f).any (fun x => s_at S x t)
def s_op1 (S : sT) (f x o : Nat) : Bool := if S.1 51 x = 0 then s_top S f == s_top S x else if S.1 51 x = 1 then S.1 48 f == S.1 48 x else S.1 51 x == 3 || S.1 48 f == S.1 48 x || s_arnd S f o
def s_opT (S : sT) (f x : Nat) : Bool := if S.1 51 x = 1 then S.1 48 f == S.1 48 x else S.1 45 (S.1 48 f) == S.1 45 (S.1 48 x) || (S.2.1 44 (6 * S.1 45 (S.1 48 f) + S.1 45 (S.1 48 x)) && (S.2.1 47 (S.1 48 x) || S.2.1 46 (6 * S.1 48 x + S.1 45 (S.1 48 f))))
def s_opx (S : sT) (f x : Nat) : Bool := match s_ou S x with
  | some o => s_op1 S f x o
  | none => s_opT S f x
def s_open (S : sT) (f t : Nat) : Bool := (s_ch S t).all (fun x => s_opx S f x)
def s_opM (S : sT) (f : Nat) (how : Int32) (q m : Nat) : Bool := if S.1 60 m = 3 then true else if S.1 60 m = 0 then s_top S f == s_top S (S.1 57 m) else if S.1 48 f = S.1 48 (S.1 57 m) then true else S.1 60 m == 2 && (s_ch S f).any (fun s => s_at S s (S.1 57 m) && (s_has (S.1 61 m) 1 || !(how == 0) || s_at S q s))
theorem s_top_lt {S : sT} (hW : Wf S) : ∀ (n t : Nat), t < n → t < s_nT S → s_top S t < s_nT S
  | 0, t, h, _ => by omega
  | n + 1, t, h, ht => by
    cases e : s_ou S t with
    | none => unfold s_top; rw [s_ch_none e]; exact ht
    | some o =>
      have h3 := (hW.2.2.2.2.2.1 t ht).2.2.2.2.2.2.1 o e
      have h4 := s_top_lt hW n o (by omega) (by omega)
      have : s_top S t = s_top S o := by
        unfold s_top
        rw [s_ch_some hW ht e]
        cases hc : s_ch S o with
        | nil => unfold s_ch at hc; cases o <;> simp [s_chF] at hc
        | cons b r => simp [List.getLast?_cons]
      omega
section R2
variable {l : Launch} {ω : ab_W} {S : sT} {μ : ab_M} {Q : Int32 → ab_M → Prop}
theorem r_isAround (hω : ω.2.2.2 = ab_SH) (R : RepR S μ) (hW : Wf S) {x y : Int32} {f t : Nat} (ex : x = nI f) (ey : y = nI t) (hf : f < s_nT S) (ht : t < s_nT S) (hQ : Q (ab_z (s_arnd S f t)) μ) : ab_CI l ω mX11_isAround [.ref 43, .int x, .int y] μ Q := by
  subst ex ey
  refine ab_intro (sh := ab_SH) (cd := kX11_isAround) hω vX11_isAround (by decide +kernel) rfl (Nat.le_of_ble_eq_true rfl) (fun j hj hw => ?_)
  have hjx : ∀ i ll st μ, i ∉ ([2] : List Nat) → _ → j i ll st μ := fun i ll st μ _ h => hj i ll st μ h
  obtain ⟨r44, r45, r46, r47, r48, r49, r50, r51, r52, r53, r54, r55, r56, r57, r58, r59, r60, r61, g0, g2, g6, g16⟩ := RepR_fs R
  have hT := hW.2.2.1.2
  have fin : ∀ x : Int32, x < 0 → Q 0 μ → j 2 [some (.ref 43), some (.int (nI f)), some (.int (nI t)), some (.int x)] [] μ := by
    intro x hx hQ
    refine hj _ _ _ _ ?_
    repeat' (first | refine hjx _ _ _ _ (by decide) ?_ | (refine br_c (fun h => ?_) (fun h => ?_) <;> (try simp (disch := omega) only [nI_clamp, li_2, li_3, li_4, li_5, li_6, li_7, li_8, li_9, li_10, li_40, li_120, pk_mul, nI_add, nI_1, ix_eq, ix_lt, ix_le, ix_l0, ix_l1, ix_n0, ix_p0, ix_1lt, ix_lt1, ix_1le, ix_le1, ix_le0, ix_0lt, ab_z0, ab_z1, ab_zt, ab_zf, ab_ozn, ab_ozp, ab_o_some, not_true_eq_false, not_false_eq_true, Bool.not_eq_false, Bool.not_eq_true, r44, r45, r46, r47, r48, r49, r50, r51, r52, r53, r54, r55, r56, r57, r58, r59, r60, r61, g0, g2, g6, g16] at h)) | (refine br_n (fun h => ?_) (fun h => ?_) <;> (try simp (disch := omega) only [nI_clamp, li_2, li_3, li_4, li_5, li_6, li_7, li_8, li_9, li_10, li_40, li_120, pk_mul, nI_add, nI_1, ix_eq, ix_lt, ix_le, ix_l0, ix_l1, ix_n0, ix_p0, ix_1lt, ix_lt1, ix_1le, ix_le1, ix_le0, ix_0lt, ab_z0, ab_z1, ab_zt, ab_zf, ab_ozn, ab_ozp, ab_o_some, not_true_eq_false, not_false_eq_true, Bool.not_eq_false, Bool.not_eq_true, r44, r45, r46, r47, r48, r49, r50, r51, r52, r53, r54, r55, r56, r57, r58, r59, r60, r61, g0, g2, g6, g16] at h)) | refine ab_sd (by first | (with_reducible refine vp_in_nI ?_ ?_ <;> omega) | (simp (disch := omega) only [nI_clamp, li_2, li_3, li_4, li_5, li_6, li_7, li_8, li_9, li_10, li_40, li_120, pk_mul, nI_add, nI_1, ix_eq, ix_lt, ix_le, ix_l0, ix_l1, ix_n0, ix_p0, ix_1lt, ix_lt1, ix_1le, ix_le1, ix_le0, ix_0lt, ab_z0, ab_z1, ab_zt, ab_zf, ab_ozn, ab_ozp, ab_o_some, not_true_eq_false, not_false_eq_true, Bool.not_eq_false, Bool.not_eq_true, r44, r45, r46, r47, r48, r49, r50, r51, r52, r53, r54, r55, r56, r57, r58, r59, r60, r61, g0, g2, g6, g16]; with_reducible refine vp_in_nI ?_ ?_ <;> omega)) ?_ | refine ab_sd ?_ ?_ | refine ab_sz (Or.inl rfl) ?_ | refine ab_sz (Or.inr rfl) ?_ | refine ab_sz ?_ ?_)
    · exact hQ
    all_goals grind
  have loop : ∀ n' a, a < n' → a < s_nT S → Q (ab_z (s_arnd S a t)) μ → j 2 [some (.ref 43), some (.int (nI f)), some (.int (nI t)), some (.int (nI a))] [] μ := by
    intro n'
    induction n' with
    | zero => intro a h1; omega
    | succ n' ih =>
      intro a h1 h2 hQ
      have ho := (hW.2.2.2.2.2.1 a h2).2.2.2.2.2.2.1
      refine hj _ _ _ _ ?_
      repeat' (first | refine hjx _ _ _ _ (by decide) ?_ | (refine br_c (fun h => ?_) (fun h => ?_) <;> (try simp (disch := omega) only [nI_clamp, li_2, li_3, li_4, li_5, li_6, li_7, li_8, li_9, li_10, li_40, li_120, pk_mul, nI_add, nI_1, ix_eq, ix_lt, ix_le, ix_l0, ix_l1, ix_n0, ix_p0, ix_1lt, ix_lt1, ix_1le, ix_le1, ix_le0, ix_0lt, ab_z0, ab_z1, ab_zt, ab_zf, ab_ozn, ab_ozp, ab_o_some, not_true_eq_false, not_false_eq_true, Bool.not_eq_false, Bool.not_eq_true, r44, r45, r46, r47, r48, r49, r50, r51, r52, r53, r54, r55, r56, r57, r58, r59, r60, r61, g0, g2, g6, g16] at h)) | (refine br_n (fun h => ?_) (fun h => ?_) <;> (try simp (disch := omega) only [nI_clamp, li_2, li_3, li_4, li_5, li_6, li_7, li_8, li_9, li_10, li_40, li_120, pk_mul, nI_add, nI_1, ix_eq, ix_lt, ix_le, ix_l0, ix_l1, ix_n0, ix_p0, ix_1lt, ix_lt1, ix_1le, ix_le1, ix_le0, ix_0lt, ab_z0, ab_z1, ab_zt, ab_zf, ab_ozn, ab_ozp, ab_o_some, not_true_eq_false, not_false_eq_true, Bool.not_eq_false, Bool.not_eq_true, r44, r45, r46, r47, r48, r49, r50, r51, r52, r53, r54, r55, r56, r57, r58, r59, r60, r61, g0, g2, g6, g16] at h)) | refine ab_sd (by first | (with_reducible refine vp_in_nI ?_ ?_ <;> omega) | (simp (disch := omega) only [nI_clamp, li_2, li_3, li_4, li_5, li_6, li_7, li_8, li_9, li_10, li_40, li_120, pk_mul, nI_add, nI_1, ix_eq, ix_lt, ix_le, ix_l0, ix_l1, ix_n0, ix_p0, ix_1lt, ix_lt1, ix_1le, ix_le1, ix_le0, ix_0lt, ab_z0, ab_z1, ab_zt, ab_zf, ab_ozn, ab_ozp, ab_o_some, not_true_eq_false, not_false_eq_true, Bool.not_eq_false, Bool.not_eq_true, r44, r45, r46, r47, r48, r49, r50, r51, r52, r53, r54, r55, r56, r57, r58, r59, r60, r61, g0, g2, g6, g16]; with_reducible refine vp_in_nI ?_ ?_ <;> omega)) ?_ | refine r_isAt hω R rfl rfl (by omega) (by omega) ?_ | refine ab_sd ?_ ?_ | refine ab_sz (Or.inl rfl) ?_ | refine ab_sz (Or.inr rfl) ?_ | refine ab_sz ?_ ?_)
      · simp (disch := omega) only [nI_clamp, li_2, li_3, li_4, li_5, li_6, li_7, li_8, li_9, li_10, li_40, li_120, pk_mul, nI_add, nI_1, ix_eq, ix_lt, ix_le, ix_l0, ix_l1, ix_n0, ix_p0, ix_1lt, ix_lt1, ix_1le, ix_le1, ix_le0, ix_0lt, ab_z0, ab_z1, ab_zt, ab_zf, ab_ozn, ab_ozp, ab_o_some, not_true_eq_false, not_false_eq_true, Bool.not_eq_false, Bool.not_eq_true, r44, r45, r46, r47, r48, r49, r50, r51, r52, r53, r54, r55, r56, r57, r58, r59, r60, r61, g0, g2, g6, g16]
        cases e : s_ou S a with
        | none =>
          refine fin _ (by decide) (q_of hQ ?_)
          unfold s_arnd s_at
          rw [s_ch_none e]
          simp [h, ab_z]
        | some o =>
          have h3 := ho o e
          refine ih o (by omega) (by omega) (q_of hQ ?_)
          unfold s_arnd s_at
          rw [s_ch_some hW h2 e, List.any_cons, h, Bool.false_or]
      · refine q_of hQ ?_
        cases e : s_ou S a with
        | none => unfold s_arnd s_at; rw [s_ch_none e]; simp only [List.any_cons, h]; rfl
        | some o => unfold s_arnd s_at; rw [s_ch_some hW h2 e]; simp only [List.any_cons, h]; rfl
  repeat' (first | refine hjx _ _ _ _ (by decide) ?_ | (refine br_c (fun h => ?_) (fun h => ?_) <;> (try simp (disch := omega) only [nI_clamp, li_2, li_3, li_4, li_5, li_6, li_7, li_8, li_9, li_10, li_40, li_120, pk_mul, nI_add, nI_1, ix_eq, ix_lt, ix_le, ix_l0, ix_l1, ix_n0, ix_p0, ix_1lt, ix_lt1, ix_1le, ix_le1, ix_le0, ix_0lt, ab_z0, ab_z1, ab_zt, ab_zf, ab_ozn, ab_ozp, ab_o_some, not_true_eq_false, not_false_eq_true, Bool.not_eq_false, Bool.not_eq_true, r44, r45, r46, r47, r48, r49, r50, r51, r52, r53, r54, r55, r56, r57, r58, r59, r60, r61, g0, g2, g6, g16] at h)) | (refine br_n (fun h => ?_) (fun h => ?_) <;> (try simp (disch := omega) only [nI_clamp, li_2, li_3, li_4, li_5, li_6, li_7, li_8, li_9, li_10, li_40, li_120, pk_mul, nI_add, nI_1, ix_eq, ix_lt, ix_le, ix_l0, ix_l1, ix_n0, ix_p0, ix_1lt, ix_lt1, ix_1le, ix_le1, ix_le0, ix_0lt, ab_z0, ab_z1, ab_zt, ab_zf, ab_ozn, ab_ozp, ab_o_some, not_true_eq_false, not_false_eq_true, Bool.not_eq_false, Bool.not_eq_true, r44, r45, r46, r47, r48, r49, r50, r51, r52, r53, r54, r55, r56, r57, r58, r59, r60, r61, g0, g2, g6, g16] at h)) | refine ab_sd (by first | (with_reducible refine vp_in_nI ?_ ?_ <;> omega) | (simp (disch := omega) only [nI_clamp, li_2, li_3, li_4, li_5, li_6, li_7, li_8, li_9, li_10, li_40, li_120, pk_mul, nI_add, nI_1, ix_eq, ix_lt, ix_le, ix_l0, ix_l1, ix_n0, ix_p0, ix_1lt, ix_lt1, ix_1le, ix_le1, ix_le0, ix_0lt, ab_z0, ab_z1, ab_zt, ab_zf, ab_ozn, ab_ozp, ab_o_some, not_true_eq_false, not_false_eq_true, Bool.not_eq_false, Bool.not_eq_true, r44, r45, r46, r47, r48, r49, r50, r51, r52, r53, r54, r55, r56, r57, r58, r59, r60, r61, g0, g2, g6, g16]; with_reducible refine vp_in_nI ?_ ?_ <;> omega)) ?_ | refine ab_sd ?_ ?_ | refine ab_sz (Or.inl rfl) ?_ | refine ab_sz (Or.inr rfl) ?_ | refine ab_sz ?_ ?_)
  exact loop (f + 1) f (by omega) hf hQ
theorem r_isOpen (hω : ω.2.2.2 = ab_SH) (R : RepR S μ) (hW : Wf S) {x y : Int32} {f t : Nat} (ex : x = nI f) (ey : y = nI t) (hf : f < s_nT S) (ht : t < s_nT S) (hQ : Q (ab_z (s_open S f t)) μ) : ab_CI l ω mX11_isOpen [.ref 43, .int x, .int y] μ Q := by
  subst ex ey
  refine ab_intro (sh := ab_SH) (cd := kX11_isOpen) hω vX11_isOpen (by decide +kernel) rfl (Nat.le_of_ble_eq_true rfl) (fun j hj hw => ?_)
  have hjx : ∀ i ll st μ, i ∉ ([2] : List Nat) → _ → j i ll st μ := fun i ll st μ _ h => hj i ll st μ h
  obtain ⟨r44, r45, r46, r47, r48, r49, r50, r51, r52, r53, r54, r55, r56, r57, r58, r59, r60, r61, g0, g2, g6, g16⟩ := RepR_fs R
  have hT := hW.2.2.1.2
  have hM := hW.1.2
  have hP := hW.2.1.2
  have ft := s_top_lt hW _ f (Nat.lt_succ_self _) hf
  obtain ⟨f1, f2, f3, f4, -⟩ := hW.2.2.2.2.2.1 f hf
  have f5 := hW.2.2.2.2.1 _ f1
  have loop : ∀ n' a, a < n' → a < s_nT S → Q (ab_z (s_open S f a)) μ → ∀ v4 v5 v6, j 2 [some (.ref 43), some (.int (nI f)), some (.int (nI t)), some (.int (nI a)), v4, v5, v6] [] μ := by
    intro n'
    induction n' with
    | zero => intro a h1; omega
    | succ n' ih =>
      intro a h1 h2 hQ v4 v5 v6
      refine hw _ _ [some (.ref 43), some (.int (nI f)), some (.int (nI t)), some (.int (nI a)), none, none, none] _ _ ⟨rfl, rfl, rfl, rfl, trivial⟩ ?_
      obtain ⟨a1, a2, a3, a4, -, -, ho, -⟩ := hW.2.2.2.2.2.1 a h2
      have a5 := hW.2.2.2.2.1 _ a1
      have at' := s_top_lt hW _ a (Nat.lt_succ_self _) h2
      cases e : s_ou S a with
      | none =>
        have hs : s_open S f a = s_opT S f a := by unfold s_open; rw [s_ch_none e]; simp [s_opx, e]
        rw [hs] at hQ
        clear ih
        refine hj _ _ _ _ ?_
        repeat' (first | refine hjx _ _ _ _ (by decide) ?_ | (refine br_c (fun h => ?_) (fun h => ?_) <;> (try simp (disch := omega) only [nI_clamp, li_2, li_3, li_4, li_5, li_6, li_7, li_8, li_9, li_10, li_40, li_120, pk_mul, nI_add, nI_1, ix_eq, ix_lt, ix_le, ix_l0, ix_l1, ix_n0, ix_p0, ix_1lt, ix_lt1, ix_1le, ix_le1, ix_le0, ix_0lt, ab_z0, ab_z1, ab_zt, ab_zf, ab_ozn, ab_ozp, ab_o_some, not_true_eq_false, not_false_eq_true, Bool.not_eq_false, Bool.not_eq_true, r44, r45, r46, r47, r48, r49, r50, r51, r52, r53, r54, r55, r56, r57, r58, r59, r60, r61, g0, g2, g6, g16, e] at h)) | (refine br_n (fun h => ?_) (fun h => ?_) <;> (try simp (disch := omega) only [nI_clamp, li_2, li_3, li_4, li_5, li_6, li_7, li_8, li_9, li_10, li_40, li_120, pk_mul, nI_add, nI_1, ix_eq, ix_lt, ix_le, ix_l0, ix_l1, ix_n0, ix_p0, ix_1lt, ix_lt1, ix_1le, ix_le1, ix_le0, ix_0lt, ab_z0, ab_z1, ab_zt, ab_zf, ab_ozn, ab_ozp, ab_o_some, not_true_eq_false, not_false_eq_true, Bool.not_eq_false, Bool.not_eq_true, r44, r45, r46, r47, r48, r49, r50, r51, r52, r53, r54, r55, r56, r57, r58, r59, r60, r61, g0, g2, g6, g16, e] at h)) | refine ab_sd (by first | (with_reducible refine vp_in_nI ?_ ?_ <;> omega) | (simp (disch := omega) only [nI_clamp, li_2, li_3, li_4, li_5, li_6, li_7, li_8, li_9, li_10, li_40, li_120, pk_mul, nI_add, nI_1, ix_eq, ix_lt, ix_le, ix_l0, ix_l1, ix_n0, ix_p0, ix_1lt, ix_lt1, ix_1le, ix_le1, ix_le0, ix_0lt, ab_z0, ab_z1, ab_zt, ab_zf, ab_ozn, ab_ozp, ab_o_some, not_true_eq_false, not_false_eq_true, Bool.not_eq_false, Bool.not_eq_true, r44, r45, r46, r47, r48, r49, r50, r51, r52, r53, r54, r55, r56, r57, r58, r59, r60, r61, g0, g2, g6, g16, e]; with_reducible refine vp_in_nI ?_ ?_ <;> omega)) ?_ | refine ab_sd ?_ ?_ | refine ab_sz (Or.inl rfl) ?_ | refine ab_sz (Or.inr rfl) ?_ | refine ab_sz ?_ ?_)
        all_goals (refine q_of hQ ?_; unfold s_opT ab_z; simp [*])
      | some o =>
        have h3 := ho o e
        have hs : s_open S f a = (s_op1 S f a o && s_open S f o) := by unfold s_open; rw [s_ch_some hW h2 e, List.all_cons]; simp [s_opx, e]
        rw [hs] at hQ
        have ih := ih o (by omega) (by omega)
        refine hj _ _ _ _ ?_
        repeat' (first | refine hjx _ _ _ _ (by decide) ?_ | (refine br_c (fun h => ?_) (fun h => ?_) <;> (try simp (disch := omega) only [nI_clamp, li_2, li_3, li_4, li_5, li_6, li_7, li_8, li_9, li_10, li_40, li_120, pk_mul, nI_add, nI_1, ix_eq, ix_lt, ix_le, ix_l0, ix_l1, ix_n0, ix_p0, ix_1lt, ix_lt1, ix_1le, ix_le1, ix_le0, ix_0lt, ab_z0, ab_z1, ab_zt, ab_zf, ab_ozn, ab_ozp, ab_o_some, not_true_eq_false, not_false_eq_true, Bool.not_eq_false, Bool.not_eq_true, r44, r45, r46, r47, r48, r49, r50, r51, r52, r53, r54, r55, r56, r57, r58, r59, r60, r61, g0, g2, g6, g16, e] at h)) | (refine br_n (fun h => ?_) (fun h => ?_) <;> (try simp (disch := omega) only [nI_clamp, li_2, li_3, li_4, li_5, li_6, li_7, li_8, li_9, li_10, li_40, li_120, pk_mul, nI_add, nI_1, ix_eq, ix_lt, ix_le, ix_l0, ix_l1, ix_n0, ix_p0, ix_1lt, ix_lt1, ix_1le, ix_le1, ix_le0, ix_0lt, ab_z0, ab_z1, ab_zt, ab_zf, ab_ozn, ab_ozp, ab_o_some, not_true_eq_false, not_false_eq_true, Bool.not_eq_false, Bool.not_eq_true, r44, r45, r46, r47, r48, r49, r50, r51, r52, r53, r54, r55, r56, r57, r58, r59, r60, r61, g0, g2, g6, g16, e] at h)) | refine ab_sd (by first | (with_reducible refine vp_in_nI ?_ ?_ <;> omega) | (simp (disch := omega) only [nI_clamp, li_2, li_3, li_4, li_5, li_6, li_7, li_8, li_9, li_10, li_40, li_120, pk_mul, nI_add, nI_1, ix_eq, ix_lt, ix_le, ix_l0, ix_l1, ix_n0, ix_p0, ix_1lt, ix_lt1, ix_1le, ix_le1, ix_le0, ix_0lt, ab_z0, ab_z1, ab_zt, ab_zf, ab_ozn, ab_ozp, ab_o_some, not_true_eq_false, not_false_eq_true, Bool.not_eq_false, Bool.not_eq_true, r44, r45, r46, r47, r48, r49, r50, r51, r52, r53, r54, r55, r56, r57, r58, r59, r60, r61, g0, g2, g6, g16, e]; with_reducible refine vp_in_nI ?_ ?_ <;> omega)) ?_ | refine r_topOf hω R hW (t := f) rfl hf ?_ | refine r_topOf hω R hW (t := a) rfl h2 ?_ | refine r_isAround hω R hW (f := f) (t := o) rfl (by simp (disch := omega) only [nI_clamp, li_2, li_3, li_4, li_5, li_6, li_7, li_8, li_9, li_10, li_40, li_120, pk_mul, nI_add, nI_1, ix_eq, ix_lt, ix_le, ix_l0, ix_l1, ix_n0, ix_p0, ix_1lt, ix_lt1, ix_1le, ix_le1, ix_le0, ix_0lt, ab_z0, ab_z1, ab_zt, ab_zf, ab_ozn, ab_ozp, ab_o_some, not_true_eq_false, not_false_eq_true, Bool.not_eq_false, Bool.not_eq_true, r44, r45, r46, r47, r48, r49, r50, r51, r52, r53, r54, r55, r56, r57, r58, r59, r60, r61, g0, g2, g6, g16, e]) hf (by omega) ?_ | refine ab_sd ?_ ?_ | refine ab_sz (Or.inl rfl) ?_ | refine ab_sz (Or.inr rfl) ?_ | refine ab_sz ?_ ?_)
        all_goals first | (refine q_of hQ ?_; unfold s_op1 ab_z; simp [*]; done) | (simp (disch := omega) only [nI_clamp, li_2, li_3, li_4, li_5, li_6, li_7, li_8, li_9, li_10, li_40, li_120, pk_mul, nI_add, nI_1, ix_eq, ix_lt, ix_le, ix_l0, ix_l1, ix_n0, ix_p0, ix_1lt, ix_lt1, ix_1le, ix_le1, ix_le0, ix_0lt, ab_z0, ab_z1, ab_zt, ab_zf, ab_ozn, ab_ozp, ab_o_some, not_true_eq_false, not_false_eq_true, Bool.not_eq_false, Bool.not_eq_true, r44, r45, r46, r47, r48, r49, r50, r51, r52, r53, r54, r55, r56, r57, r58, r59, r60, r61, g0, g2, g6, g16, e]; refine ih (q_of hQ ?_) _ _ _; unfold s_op1; simp [*]; done)
  repeat' (first | refine hjx _ _ _ _ (by decide) ?_ | (refine br_c (fun h => ?_) (fun h => ?_) <;> (try simp (disch := omega) only [nI_clamp, li_2, li_3, li_4, li_5, li_6, li_7, li_8, li_9, li_10, li_40, li_120, pk_mul, nI_add, nI_1, ix_eq, ix_lt, ix_le, ix_l0, ix_l1, ix_n0, ix_p0, ix_1lt, ix_lt1, ix_1le, ix_le1, ix_le0, ix_0lt, ab_z0, ab_z1, ab_zt, ab_zf, ab_ozn, ab_ozp, ab_o_some, not_true_eq_false, not_false_eq_true, Bool.not_eq_false, Bool.not_eq_true, r44, r45, r46, r47, r48, r49, r50, r51, r52, r53, r54, r55, r56, r57, r58, r59, r60, r61, g0, g2, g6, g16] at h)) | (refine br_n (fun h => ?_) (fun h => ?_) <;> (try simp (disch := omega) only [nI_clamp, li_2, li_3, li_4, li_5, li_6, li_7, li_8, li_9, li_10, li_40, li_120, pk_mul, nI_add, nI_1, ix_eq, ix_lt, ix_le, ix_l0, ix_l1, ix_n0, ix_p0, ix_1lt, ix_lt1, ix_1le, ix_le1, ix_le0, ix_0lt, ab_z0, ab_z1, ab_zt, ab_zf, ab_ozn, ab_ozp, ab_o_some, not_true_eq_false, not_false_eq_true, Bool.not_eq_false, Bool.not_eq_true, r44, r45, r46, r47, r48, r49, r50, r51, r52, r53, r54, r55, r56, r57, r58, r59, r60, r61, g0, g2, g6, g16] at h)) | refine ab_sd (by first | (with_reducible refine vp_in_nI ?_ ?_ <;> omega) | (simp (disch := omega) only [nI_clamp, li_2, li_3, li_4, li_5, li_6, li_7, li_8, li_9, li_10, li_40, li_120, pk_mul, nI_add, nI_1, ix_eq, ix_lt, ix_le, ix_l0, ix_l1, ix_n0, ix_p0, ix_1lt, ix_lt1, ix_1le, ix_le1, ix_le0, ix_0lt, ab_z0, ab_z1, ab_zt, ab_zf, ab_ozn, ab_ozp, ab_o_some, not_true_eq_false, not_false_eq_true, Bool.not_eq_false, Bool.not_eq_true, r44, r45, r46, r47, r48, r49, r50, r51, r52, r53, r54, r55, r56, r57, r58, r59, r60, r61, g0, g2, g6, g16]; with_reducible refine vp_in_nI ?_ ?_ <;> omega)) ?_ | refine ab_sd ?_ ?_ | refine ab_sz (Or.inl rfl) ?_ | refine ab_sz (Or.inr rfl) ?_ | refine ab_sz ?_ ?_)
  exact loop (t + 1) t (by omega) ht hQ _ _ _
end R2
end
section
/-! RULES, makers -/
def s_r4 (so fl : Nat) : Nat := if (so = 1 ∧ s_has fl 2) ∨ (s_has fl 2 ∧ s_has fl 4) then 4 else 0
def s_rT (S : sT) (pk : Nat) (ou : Option Nat) (so ac fl : Nat) : Nat := match ou with
  | none => if (ac ≠ 1 ∧ ac ≠ 3) ∨ s_has fl 1 then 1 else s_r4 so fl
  | some o => if S.1 48 o ≠ pk then 2 else if (S.1 50 o = 1 ∧ (ac ≠ 3 ∨ ¬ s_has fl 1)) ∨ (so = 1 ∧ ¬ s_has fl 1) then 3 else s_r4 so fl
def s_rM (S : sT) (t k n ac fl : Nat) : Nat := if S.1 50 t = 1 ∧ ¬ (k = 0 ∧ ac = 3 ∧ s_has fl 1) ∧ ¬ (k = 1 ∧ (ac = 3 ∨ ac = 0) ∧ ¬ s_has fl 2) then 5
  else if (k = 2 ∧ fl ≠ 0) ∨ (k = 0 ∧ s_has fl 4) then 6
  else if k = 1 ∧ s_has fl 4 ∧ (ac = 0 ∨ s_has fl 3 ∨ (S.1 50 t = 0 ∧ ¬ s_has (S.1 52 t) 4)) then 7
  else if (s_dec S t k n).isSome then 8 else 0
section R3
variable {l : Launch} {ω : ab_W} {S : sT} {μ : ab_M} {Q : Int32 → ab_M → Prop}
theorem r_ruleOfType (hω : ω.2.2.2 = ab_SH) (R : RepR S μ) (hW : Wf S) {x y z v w : Int32} {pk so ac fl : Nat} {ou : Option Nat} (ex : x = nI pk) (ey : y = ab_o1 ou) (ez : z = nI so) (ev : v = nI ac) (ew : w = nI fl) (hp : pk < 10) (ho : ∀ o, ou = some o → o < s_nT S) (hs : so < 2) (ha : ac < 4) (hf : fl < 8)
    (hQ : Q (nI (s_rT S pk ou so ac fl)) μ) : ab_CI l ω mX11_ruleOfType [.ref 43, .int x, .int y, .int z, .int v, .int w] μ Q := by
  subst ex ey ez ev ew
  refine ab_intro (sh := ab_SH) (cd := kX11_ruleOfType) hω vX11_ruleOfType (by decide +kernel) rfl (Nat.le_of_ble_eq_true rfl) (fun j hj hw => ?_)
  obtain ⟨r44, r45, r46, r47, r48, r49, r50, r51, r52, r53, r54, r55, r56, r57, r58, r59, r60, r61, g0, g2, g6, g16⟩ := RepR_fs R
  have hT := hW.2.2.1.2
  have q1 := s_and_lt (b := 1) hf
  have q2 := s_and_lt (b := 2) hf
  have q4 := s_and_lt (b := 4) hf
  have hP := hW.2.1.2
  cases ou with
  | none =>
    have c0 : (0 ≤ ab_o1 none) ↔ False := ⟨fun q => absurd q (by decide), False.elim⟩
    repeat' (first | refine hj _ _ _ _ ?_ | (refine br_c (fun h => ?_) (fun h => ?_) <;> (try simp (disch := omega) only [nI_clamp, li_2, li_3, li_4, li_5, li_6, li_7, li_8, li_9, li_10, li_40, li_120, pk_mul, nI_add, nI_1, ix_eq, ix_lt, ix_le, ix_l0, ix_l1, ix_n0, ix_p0, ix_1lt, ix_lt1, ix_1le, ix_le1, ix_le0, ix_0lt, ab_z0, ab_z1, ab_zt, ab_zf, ab_ozn, ab_ozp, ab_o_some, not_true_eq_false, not_false_eq_true, Bool.not_eq_false, Bool.not_eq_true, r44, r45, r46, r47, r48, r49, r50, r51, r52, r53, r54, r55, r56, r57, r58, r59, r60, r61, g0, g2, g6, g16, c0] at h)) | (refine br_n (fun h => ?_) (fun h => ?_) <;> (try simp (disch := omega) only [nI_clamp, li_2, li_3, li_4, li_5, li_6, li_7, li_8, li_9, li_10, li_40, li_120, pk_mul, nI_add, nI_1, ix_eq, ix_lt, ix_le, ix_l0, ix_l1, ix_n0, ix_p0, ix_1lt, ix_lt1, ix_1le, ix_le1, ix_le0, ix_0lt, ab_z0, ab_z1, ab_zt, ab_zf, ab_ozn, ab_ozp, ab_o_some, not_true_eq_false, not_false_eq_true, Bool.not_eq_false, Bool.not_eq_true, r44, r45, r46, r47, r48, r49, r50, r51, r52, r53, r54, r55, r56, r57, r58, r59, r60, r61, g0, g2, g6, g16, c0] at h)) | refine ab_sd (by first | (with_reducible refine vp_in_nI ?_ ?_ <;> omega) | (simp (disch := omega) only [nI_clamp, li_2, li_3, li_4, li_5, li_6, li_7, li_8, li_9, li_10, li_40, li_120, pk_mul, nI_add, nI_1, ix_eq, ix_lt, ix_le, ix_l0, ix_l1, ix_n0, ix_p0, ix_1lt, ix_lt1, ix_1le, ix_le1, ix_le0, ix_0lt, ab_z0, ab_z1, ab_zt, ab_zf, ab_ozn, ab_ozp, ab_o_some, not_true_eq_false, not_false_eq_true, Bool.not_eq_false, Bool.not_eq_true, r44, r45, r46, r47, r48, r49, r50, r51, r52, r53, r54, r55, r56, r57, r58, r59, r60, r61, g0, g2, g6, g16, c0]; with_reducible refine vp_in_nI ?_ ?_ <;> omega)) ?_ | refine r_has hω (a := fl) (b := 1) rfl rfl q1 ?_ | refine r_has hω (a := fl) (b := 2) rfl rfl q2 ?_ | refine r_has hω (a := fl) (b := 4) rfl rfl q4 ?_ | refine ab_sd ?_ ?_ | refine ab_sz (Or.inl rfl) ?_ | refine ab_sz (Or.inr rfl) ?_ | refine ab_sz ?_ ?_)
    all_goals first | (refine q_of hQ ?_; unfold s_rT s_r4; simp [*]; rfl) | (exfalso; clear hj hw hQ; first | omega | (simp_all; done))
  | some o =>
    have ho := ho o rfl
    obtain ⟨a1, a2, a3, a4, -⟩ := hW.2.2.2.2.2.1 o ho
    repeat' (first | refine hj _ _ _ _ ?_ | (refine br_c (fun h => ?_) (fun h => ?_) <;> (try simp (disch := omega) only [nI_clamp, li_2, li_3, li_4, li_5, li_6, li_7, li_8, li_9, li_10, li_40, li_120, pk_mul, nI_add, nI_1, ix_eq, ix_lt, ix_le, ix_l0, ix_l1, ix_n0, ix_p0, ix_1lt, ix_lt1, ix_1le, ix_le1, ix_le0, ix_0lt, ab_z0, ab_z1, ab_zt, ab_zf, ab_ozn, ab_ozp, ab_o_some, not_true_eq_false, not_false_eq_true, Bool.not_eq_false, Bool.not_eq_true, r44, r45, r46, r47, r48, r49, r50, r51, r52, r53, r54, r55, r56, r57, r58, r59, r60, r61, g0, g2, g6, g16, ab_o1_some] at h)) | (refine br_n (fun h => ?_) (fun h => ?_) <;> (try simp (disch := omega) only [nI_clamp, li_2, li_3, li_4, li_5, li_6, li_7, li_8, li_9, li_10, li_40, li_120, pk_mul, nI_add, nI_1, ix_eq, ix_lt, ix_le, ix_l0, ix_l1, ix_n0, ix_p0, ix_1lt, ix_lt1, ix_1le, ix_le1, ix_le0, ix_0lt, ab_z0, ab_z1, ab_zt, ab_zf, ab_ozn, ab_ozp, ab_o_some, not_true_eq_false, not_false_eq_true, Bool.not_eq_false, Bool.not_eq_true, r44, r45, r46, r47, r48, r49, r50, r51, r52, r53, r54, r55, r56, r57, r58, r59, r60, r61, g0, g2, g6, g16, ab_o1_some] at h)) | refine ab_sd (by first | (with_reducible refine vp_in_nI ?_ ?_ <;> omega) | (simp (disch := omega) only [nI_clamp, li_2, li_3, li_4, li_5, li_6, li_7, li_8, li_9, li_10, li_40, li_120, pk_mul, nI_add, nI_1, ix_eq, ix_lt, ix_le, ix_l0, ix_l1, ix_n0, ix_p0, ix_1lt, ix_lt1, ix_1le, ix_le1, ix_le0, ix_0lt, ab_z0, ab_z1, ab_zt, ab_zf, ab_ozn, ab_ozp, ab_o_some, not_true_eq_false, not_false_eq_true, Bool.not_eq_false, Bool.not_eq_true, r44, r45, r46, r47, r48, r49, r50, r51, r52, r53, r54, r55, r56, r57, r58, r59, r60, r61, g0, g2, g6, g16, ab_o1_some]; with_reducible refine vp_in_nI ?_ ?_ <;> omega)) ?_ | refine r_has hω (a := fl) (b := 1) rfl rfl q1 ?_ | refine r_has hω (a := fl) (b := 2) rfl rfl q2 ?_ | refine r_has hω (a := fl) (b := 4) rfl rfl q4 ?_ | refine ab_sd ?_ ?_ | refine ab_sz (Or.inl rfl) ?_ | refine ab_sz (Or.inr rfl) ?_ | refine ab_sz ?_ ?_)
    all_goals first | (refine q_of hQ ?_; unfold s_rT s_r4; simp [*]; rfl) | (exfalso; clear hj hw hQ; first | omega | (simp_all; done))
theorem r_ruleOfMember (hω : ω.2.2.2 = ab_SH) (R : RepR S μ) (hW : Wf S) {x y z v w : Int32} {t k n ac fl : Nat} (ex : x = nI t) (ey : y = nI k) (ez : z = nI n) (ev : v = nI ac) (ew : w = nI fl) (ht : t < s_nT S) (hk : k < 3) (hn : n < 10) (ha : ac < 4) (hf : fl < 8)
    (hQ : Q (nI (s_rM S t k n ac fl)) μ) : ab_CI l ω mX11_ruleOfMember [.ref 43, .int x, .int y, .int z, .int v, .int w] μ Q := by
  subst ex ey ez ev ew
  refine ab_intro (sh := ab_SH) (cd := kX11_ruleOfMember) hω vX11_ruleOfMember (by decide +kernel) rfl (Nat.le_of_ble_eq_true rfl) (fun j hj hw => ?_)
  obtain ⟨r44, r45, r46, r47, r48, r49, r50, r51, r52, r53, r54, r55, r56, r57, r58, r59, r60, r61, g0, g2, g6, g16⟩ := RepR_fs R
  have hT := hW.2.2.1.2
  have q1 := s_and_lt (b := 1) hf
  have q2 := s_and_lt (b := 2) hf
  have q3 := s_and_lt (b := 3) hf
  have q4 := s_and_lt (b := 4) hf
  obtain ⟨a1, a2, a3, a4, -⟩ := hW.2.2.2.2.2.1 t ht
  have q5 := s_and_lt (b := 4) a4
  have d1 := ab_o_neg2 (o := s_dec S t k n) (fun m hm => by have := s_dec_lt hW hm; omega)
  have hjx : ∀ i ll st μ, i ∉ ([41, 54] : List Nat) → _ → j i ll st μ := fun i ll st μ _ h => hj i ll st μ h
  have t54 : Q (nI (if k = 1 ∧ s_has fl 4 ∧ (ac = 0 ∨ s_has fl 3 ∨ (S.1 50 t = 0 ∧ ¬ s_has (S.1 52 t) 4)) then 7 else if (s_dec S t k n).isSome then 8 else 0)) μ → ∀ v6 v7, j 54 [some (.ref 43), some (.int (nI t)), some (.int (nI k)), some (.int (nI n)), some (.int (nI ac)), some (.int (nI fl)), v6, v7] [] μ := by
    intro hQ v6 v7
    refine hj _ _ _ _ ?_
    repeat' (first | refine hjx _ _ _ _ (by decide) ?_ | (refine br_c (fun h => ?_) (fun h => ?_) <;> (try simp (disch := omega) only [nI_clamp, li_2, li_3, li_4, li_5, li_6, li_7, li_8, li_9, li_10, li_40, li_120, pk_mul, nI_add, nI_1, ix_eq, ix_lt, ix_le, ix_l0, ix_l1, ix_n0, ix_p0, ix_1lt, ix_lt1, ix_1le, ix_le1, ix_le0, ix_0lt, ab_z0, ab_z1, ab_zt, ab_zf, ab_ozn, ab_ozp, ab_o_some, not_true_eq_false, not_false_eq_true, Bool.not_eq_false, Bool.not_eq_true, r44, r45, r46, r47, r48, r49, r50, r51, r52, r53, r54, r55, r56, r57, r58, r59, r60, r61, g0, g2, g6, g16, d1] at h)) | (refine br_n (fun h => ?_) (fun h => ?_) <;> (try simp (disch := omega) only [nI_clamp, li_2, li_3, li_4, li_5, li_6, li_7, li_8, li_9, li_10, li_40, li_120, pk_mul, nI_add, nI_1, ix_eq, ix_lt, ix_le, ix_l0, ix_l1, ix_n0, ix_p0, ix_1lt, ix_lt1, ix_1le, ix_le1, ix_le0, ix_0lt, ab_z0, ab_z1, ab_zt, ab_zf, ab_ozn, ab_ozp, ab_o_some, not_true_eq_false, not_false_eq_true, Bool.not_eq_false, Bool.not_eq_true, r44, r45, r46, r47, r48, r49, r50, r51, r52, r53, r54, r55, r56, r57, r58, r59, r60, r61, g0, g2, g6, g16, d1] at h)) | refine ab_sd (by first | (with_reducible refine vp_in_nI ?_ ?_ <;> omega) | (simp (disch := omega) only [nI_clamp, li_2, li_3, li_4, li_5, li_6, li_7, li_8, li_9, li_10, li_40, li_120, pk_mul, nI_add, nI_1, ix_eq, ix_lt, ix_le, ix_l0, ix_l1, ix_n0, ix_p0, ix_1lt, ix_lt1, ix_1le, ix_le1, ix_le0, ix_0lt, ab_z0, ab_z1, ab_zt, ab_zf, ab_ozn, ab_ozp, ab_o_some, not_true_eq_false, not_false_eq_true, Bool.not_eq_false, Bool.not_eq_true, r44, r45, r46, r47, r48, r49, r50, r51, r52, r53, r54, r55, r56, r57, r58, r59, r60, r61, g0, g2, g6, g16, d1]; with_reducible refine vp_in_nI ?_ ?_ <;> omega)) ?_ | refine r_has hω (a := fl) (b := 4) rfl rfl q4 ?_ | refine r_has hω (a := fl) (b := 3) rfl rfl q3 ?_ | refine r_has hω (a := S.1 52 t) (b := 4) (by simp (disch := omega) only [nI_clamp, li_2, li_3, li_4, li_5, li_6, li_7, li_8, li_9, li_10, li_40, li_120, pk_mul, nI_add, nI_1, ix_eq, ix_lt, ix_le, ix_l0, ix_l1, ix_n0, ix_p0, ix_1lt, ix_lt1, ix_1le, ix_le1, ix_le0, ix_0lt, ab_z0, ab_z1, ab_zt, ab_zf, ab_ozn, ab_ozp, ab_o_some, not_true_eq_false, not_false_eq_true, Bool.not_eq_false, Bool.not_eq_true, r44, r45, r46, r47, r48, r49, r50, r51, r52, r53, r54, r55, r56, r57, r58, r59, r60, r61, g0, g2, g6, g16]) rfl q5 ?_ | refine r_declared hω R hW rfl rfl rfl (by omega) (by omega) (by omega) ?_ | refine ab_sd ?_ ?_ | refine ab_sz (Or.inl rfl) ?_ | refine ab_sz (Or.inr rfl) ?_ | refine ab_sz ?_ ?_)
    all_goals ((first | refine q_n hQ 7 rfl ?_ | refine q_n hQ 8 rfl ?_ | refine q_n hQ 0 rfl ?_); clear hj hw hjx hQ; grind)
  have t41 : Q (nI (if (k = 2 ∧ fl ≠ 0) ∨ (k = 0 ∧ s_has fl 4) then 6 else if k = 1 ∧ s_has fl 4 ∧ (ac = 0 ∨ s_has fl 3 ∨ (S.1 50 t = 0 ∧ ¬ s_has (S.1 52 t) 4)) then 7 else if (s_dec S t k n).isSome then 8 else 0)) μ → ∀ v6 v7, j 41 [some (.ref 43), some (.int (nI t)), some (.int (nI k)), some (.int (nI n)), some (.int (nI ac)), some (.int (nI fl)), v6, v7] [] μ := by
    intro hQ v6 v7
    refine hj _ _ _ _ ?_
    repeat' (first | refine hjx _ _ _ _ (by decide) ?_ | (refine br_c (fun h => ?_) (fun h => ?_) <;> (try simp (disch := omega) only [nI_clamp, li_2, li_3, li_4, li_5, li_6, li_7, li_8, li_9, li_10, li_40, li_120, pk_mul, nI_add, nI_1, ix_eq, ix_lt, ix_le, ix_l0, ix_l1, ix_n0, ix_p0, ix_1lt, ix_lt1, ix_1le, ix_le1, ix_le0, ix_0lt, ab_z0, ab_z1, ab_zt, ab_zf, ab_ozn, ab_ozp, ab_o_some, not_true_eq_false, not_false_eq_true, Bool.not_eq_false, Bool.not_eq_true, r44, r45, r46, r47, r48, r49, r50, r51, r52, r53, r54, r55, r56, r57, r58, r59, r60, r61, g0, g2, g6, g16, d1] at h)) | (refine br_n (fun h => ?_) (fun h => ?_) <;> (try simp (disch := omega) only [nI_clamp, li_2, li_3, li_4, li_5, li_6, li_7, li_8, li_9, li_10, li_40, li_120, pk_mul, nI_add, nI_1, ix_eq, ix_lt, ix_le, ix_l0, ix_l1, ix_n0, ix_p0, ix_1lt, ix_lt1, ix_1le, ix_le1, ix_le0, ix_0lt, ab_z0, ab_z1, ab_zt, ab_zf, ab_ozn, ab_ozp, ab_o_some, not_true_eq_false, not_false_eq_true, Bool.not_eq_false, Bool.not_eq_true, r44, r45, r46, r47, r48, r49, r50, r51, r52, r53, r54, r55, r56, r57, r58, r59, r60, r61, g0, g2, g6, g16, d1] at h)) | refine ab_sd (by first | (with_reducible refine vp_in_nI ?_ ?_ <;> omega) | (simp (disch := omega) only [nI_clamp, li_2, li_3, li_4, li_5, li_6, li_7, li_8, li_9, li_10, li_40, li_120, pk_mul, nI_add, nI_1, ix_eq, ix_lt, ix_le, ix_l0, ix_l1, ix_n0, ix_p0, ix_1lt, ix_lt1, ix_1le, ix_le1, ix_le0, ix_0lt, ab_z0, ab_z1, ab_zt, ab_zf, ab_ozn, ab_ozp, ab_o_some, not_true_eq_false, not_false_eq_true, Bool.not_eq_false, Bool.not_eq_true, r44, r45, r46, r47, r48, r49, r50, r51, r52, r53, r54, r55, r56, r57, r58, r59, r60, r61, g0, g2, g6, g16, d1]; with_reducible refine vp_in_nI ?_ ?_ <;> omega)) ?_ | refine r_has hω (a := fl) (b := 4) rfl rfl q4 ?_ | refine ab_sd ?_ ?_ | refine ab_sz (Or.inl rfl) ?_ | refine ab_sz (Or.inr rfl) ?_ | refine ab_sz ?_ ?_)
    all_goals first | (refine q_n hQ 6 rfl ?_; clear hj hw hjx hQ t54; grind) | (refine t54 (q_n hQ _ rfl ?_) _ _; clear hj hw hjx hQ t54; grind)
  repeat' (first | refine hjx _ _ _ _ (by decide) ?_ | (refine br_c (fun h => ?_) (fun h => ?_) <;> (try simp (disch := omega) only [nI_clamp, li_2, li_3, li_4, li_5, li_6, li_7, li_8, li_9, li_10, li_40, li_120, pk_mul, nI_add, nI_1, ix_eq, ix_lt, ix_le, ix_l0, ix_l1, ix_n0, ix_p0, ix_1lt, ix_lt1, ix_1le, ix_le1, ix_le0, ix_0lt, ab_z0, ab_z1, ab_zt, ab_zf, ab_ozn, ab_ozp, ab_o_some, not_true_eq_false, not_false_eq_true, Bool.not_eq_false, Bool.not_eq_true, r44, r45, r46, r47, r48, r49, r50, r51, r52, r53, r54, r55, r56, r57, r58, r59, r60, r61, g0, g2, g6, g16, d1] at h)) | (refine br_n (fun h => ?_) (fun h => ?_) <;> (try simp (disch := omega) only [nI_clamp, li_2, li_3, li_4, li_5, li_6, li_7, li_8, li_9, li_10, li_40, li_120, pk_mul, nI_add, nI_1, ix_eq, ix_lt, ix_le, ix_l0, ix_l1, ix_n0, ix_p0, ix_1lt, ix_lt1, ix_1le, ix_le1, ix_le0, ix_0lt, ab_z0, ab_z1, ab_zt, ab_zf, ab_ozn, ab_ozp, ab_o_some, not_true_eq_false, not_false_eq_true, Bool.not_eq_false, Bool.not_eq_true, r44, r45, r46, r47, r48, r49, r50, r51, r52, r53, r54, r55, r56, r57, r58, r59, r60, r61, g0, g2, g6, g16, d1] at h)) | refine ab_sd (by first | (with_reducible refine vp_in_nI ?_ ?_ <;> omega) | (simp (disch := omega) only [nI_clamp, li_2, li_3, li_4, li_5, li_6, li_7, li_8, li_9, li_10, li_40, li_120, pk_mul, nI_add, nI_1, ix_eq, ix_lt, ix_le, ix_l0, ix_l1, ix_n0, ix_p0, ix_1lt, ix_lt1, ix_1le, ix_le1, ix_le0, ix_0lt, ab_z0, ab_z1, ab_zt, ab_zf, ab_ozn, ab_ozp, ab_o_some, not_true_eq_false, not_false_eq_true, Bool.not_eq_false, Bool.not_eq_true, r44, r45, r46, r47, r48, r49, r50, r51, r52, r53, r54, r55, r56, r57, r58, r59, r60, r61, g0, g2, g6, g16, d1]; with_reducible refine vp_in_nI ?_ ?_ <;> omega)) ?_ | refine r_has hω (a := fl) (b := 1) rfl rfl q1 ?_ | refine r_has hω (a := fl) (b := 2) rfl rfl q2 ?_ | refine ab_sd ?_ ?_ | refine ab_sz (Or.inl rfl) ?_ | refine ab_sz (Or.inr rfl) ?_ | refine ab_sz ?_ ?_)
  all_goals unfold s_rM at hQ
  all_goals first | (refine q_n hQ 5 rfl ?_; clear hj hw hjx hQ t41 t54; grind) | (refine t41 (q_n hQ _ rfl ?_) _ _; clear hj hw hjx hQ t41 t54; grind)
theorem r_isOpenMember (hω : ω.2.2.2 = ab_SH) (R : RepR S μ) (hW : Wf S) {x y z v : Int32} {f q m : Nat} (ex : x = nI f) (ez : z = nI q) (ev : v = nI m) (hf : f < s_nT S) (hq : q < s_nT S) (hm : m < s_nX S)
    (hQ : Q (ab_z (s_opM S f y q m)) μ) : ab_CI l ω mX11_isOpenMember [.ref 43, .int x, .int y, .int z, .int v] μ Q := by
  subst ex ez ev
  refine ab_intro (sh := ab_SH) (cd := kX11_isOpenMember) hω vX11_isOpenMember (by decide +kernel) rfl (Nat.le_of_ble_eq_true rfl) (fun j hj hw => ?_)
  have hjx : ∀ i ll st μ, i ∉ ([42] : List Nat) → _ → j i ll st μ := fun i ll st μ _ h => hj i ll st μ h
  obtain ⟨r44, r45, r46, r47, r48, r49, r50, r51, r52, r53, r54, r55, r56, r57, r58, r59, r60, r61, g0, g2, g6, g16⟩ := RepR_fs R
  have hT := hW.2.2.1.2
  have hX := hW.2.2.2.1
  have hP := hW.2.1.2
  obtain ⟨f1, f2, f3, f4, -⟩ := hW.2.2.2.2.2.1 f hf
  obtain ⟨m1, m2, m3, m4, m5⟩ := hW.2.2.2.2.2.2 m hm
  obtain ⟨d1, d2, d3, d4, -⟩ := hW.2.2.2.2.2.1 _ m1
  have ft := s_top_lt hW _ f (Nat.lt_succ_self _) hf
  have dt := s_top_lt hW _ _ (Nat.lt_succ_self _) m1
  have q1 := s_and_lt (b := 1) m5
  have fin : ∀ x : Int32, x < 0 → Q 0 μ → j 42 [some (.ref 43), some (.int (nI f)), some (.int y), some (.int (nI q)), some (.int (nI m)), some (.int (nI (S.1 60 m))), some (.int x)] [] μ := by
    intro x hx hQ
    refine hj _ _ _ _ ?_
    repeat' (first | refine hjx _ _ _ _ (by decide) ?_ | (refine br_c (fun h => ?_) (fun h => ?_) <;> (try simp (disch := omega) only [nI_clamp, li_2, li_3, li_4, li_5, li_6, li_7, li_8, li_9, li_10, li_40, li_120, pk_mul, nI_add, nI_1, ix_eq, ix_lt, ix_le, ix_l0, ix_l1, ix_n0, ix_p0, ix_1lt, ix_lt1, ix_1le, ix_le1, ix_le0, ix_0lt, ab_z0, ab_z1, ab_zt, ab_zf, ab_ozn, ab_ozp, ab_o_some, not_true_eq_false, not_false_eq_true, Bool.not_eq_false, Bool.not_eq_true, r44, r45, r46, r47, r48, r49, r50, r51, r52, r53, r54, r55, r56, r57, r58, r59, r60, r61, g0, g2, g6, g16] at h)) | (refine br_n (fun h => ?_) (fun h => ?_) <;> (try simp (disch := omega) only [nI_clamp, li_2, li_3, li_4, li_5, li_6, li_7, li_8, li_9, li_10, li_40, li_120, pk_mul, nI_add, nI_1, ix_eq, ix_lt, ix_le, ix_l0, ix_l1, ix_n0, ix_p0, ix_1lt, ix_lt1, ix_1le, ix_le1, ix_le0, ix_0lt, ab_z0, ab_z1, ab_zt, ab_zf, ab_ozn, ab_ozp, ab_o_some, not_true_eq_false, not_false_eq_true, Bool.not_eq_false, Bool.not_eq_true, r44, r45, r46, r47, r48, r49, r50, r51, r52, r53, r54, r55, r56, r57, r58, r59, r60, r61, g0, g2, g6, g16] at h)) | refine ab_sd (by first | (with_reducible refine vp_in_nI ?_ ?_ <;> omega) | (simp (disch := omega) only [nI_clamp, li_2, li_3, li_4, li_5, li_6, li_7, li_8, li_9, li_10, li_40, li_120, pk_mul, nI_add, nI_1, ix_eq, ix_lt, ix_le, ix_l0, ix_l1, ix_n0, ix_p0, ix_1lt, ix_lt1, ix_1le, ix_le1, ix_le0, ix_0lt, ab_z0, ab_z1, ab_zt, ab_zf, ab_ozn, ab_ozp, ab_o_some, not_true_eq_false, not_false_eq_true, Bool.not_eq_false, Bool.not_eq_true, r44, r45, r46, r47, r48, r49, r50, r51, r52, r53, r54, r55, r56, r57, r58, r59, r60, r61, g0, g2, g6, g16]; with_reducible refine vp_in_nI ?_ ?_ <;> omega)) ?_ | refine ab_sd ?_ ?_ | refine ab_sz (Or.inl rfl) ?_ | refine ab_sz (Or.inr rfl) ?_ | refine ab_sz ?_ ?_)
    · exact hQ
    all_goals grind
  have loop : ∀ n' a, a < n' → a < s_nT S → Q (ab_z (S.1 60 m == 2 && (s_ch S a).any (fun s => s_at S s (S.1 57 m) && (s_has (S.1 61 m) 1 || !(y == 0) || s_at S q s)))) μ → j 42 [some (.ref 43), some (.int (nI f)), some (.int y), some (.int (nI q)), some (.int (nI m)), some (.int (nI (S.1 60 m))), some (.int (nI a))] [] μ := by
    intro n'
    induction n' with
    | zero => intro a h1; omega
    | succ n' ih =>
      intro a h1 h2 hQ
      have ho := (hW.2.2.2.2.2.1 a h2).2.2.2.2.2.2.1
      refine hj _ _ _ _ ?_
      repeat' (first | refine hjx _ _ _ _ (by decide) ?_ | (refine br_c (fun h => ?_) (fun h => ?_) <;> (try simp (disch := omega) only [nI_clamp, li_2, li_3, li_4, li_5, li_6, li_7, li_8, li_9, li_10, li_40, li_120, pk_mul, nI_add, nI_1, ix_eq, ix_lt, ix_le, ix_l0, ix_l1, ix_n0, ix_p0, ix_1lt, ix_lt1, ix_1le, ix_le1, ix_le0, ix_0lt, ab_z0, ab_z1, ab_zt, ab_zf, ab_ozn, ab_ozp, ab_o_some, not_true_eq_false, not_false_eq_true, Bool.not_eq_false, Bool.not_eq_true, r44, r45, r46, r47, r48, r49, r50, r51, r52, r53, r54, r55, r56, r57, r58, r59, r60, r61, g0, g2, g6, g16] at h)) | (refine br_n (fun h => ?_) (fun h => ?_) <;> (try simp (disch := omega) only [nI_clamp, li_2, li_3, li_4, li_5, li_6, li_7, li_8, li_9, li_10, li_40, li_120, pk_mul, nI_add, nI_1, ix_eq, ix_lt, ix_le, ix_l0, ix_l1, ix_n0, ix_p0, ix_1lt, ix_lt1, ix_1le, ix_le1, ix_le0, ix_0lt, ab_z0, ab_z1, ab_zt, ab_zf, ab_ozn, ab_ozp, ab_o_some, not_true_eq_false, not_false_eq_true, Bool.not_eq_false, Bool.not_eq_true, r44, r45, r46, r47, r48, r49, r50, r51, r52, r53, r54, r55, r56, r57, r58, r59, r60, r61, g0, g2, g6, g16] at h)) | refine ab_sd (by first | (with_reducible refine vp_in_nI ?_ ?_ <;> omega) | (simp (disch := omega) only [nI_clamp, li_2, li_3, li_4, li_5, li_6, li_7, li_8, li_9, li_10, li_40, li_120, pk_mul, nI_add, nI_1, ix_eq, ix_lt, ix_le, ix_l0, ix_l1, ix_n0, ix_p0, ix_1lt, ix_lt1, ix_1le, ix_le1, ix_le0, ix_0lt, ab_z0, ab_z1, ab_zt, ab_zf, ab_ozn, ab_ozp, ab_o_some, not_true_eq_false, not_false_eq_true, Bool.not_eq_false, Bool.not_eq_true, r44, r45, r46, r47, r48, r49, r50, r51, r52, r53, r54, r55, r56, r57, r58, r59, r60, r61, g0, g2, g6, g16]; with_reducible refine vp_in_nI ?_ ?_ <;> omega)) ?_ | refine r_isAt hω R (t := a) (u := S.1 57 m) rfl (by simp (disch := omega) only [nI_clamp, li_2, li_3, li_4, li_5, li_6, li_7, li_8, li_9, li_10, li_40, li_120, pk_mul, nI_add, nI_1, ix_eq, ix_lt, ix_le, ix_l0, ix_l1, ix_n0, ix_p0, ix_1lt, ix_lt1, ix_1le, ix_le1, ix_le0, ix_0lt, ab_z0, ab_z1, ab_zt, ab_zf, ab_ozn, ab_ozp, ab_o_some, not_true_eq_false, not_false_eq_true, Bool.not_eq_false, Bool.not_eq_true, r44, r45, r46, r47, r48, r49, r50, r51, r52, r53, r54, r55, r56, r57, r58, r59, r60, r61, g0, g2, g6, g16]) (by omega) (by omega) ?_ | refine r_has hω (a := S.1 61 m) (b := 1) (by simp (disch := omega) only [nI_clamp, li_2, li_3, li_4, li_5, li_6, li_7, li_8, li_9, li_10, li_40, li_120, pk_mul, nI_add, nI_1, ix_eq, ix_lt, ix_le, ix_l0, ix_l1, ix_n0, ix_p0, ix_1lt, ix_lt1, ix_1le, ix_le1, ix_le0, ix_0lt, ab_z0, ab_z1, ab_zt, ab_zf, ab_ozn, ab_ozp, ab_o_some, not_true_eq_false, not_false_eq_true, Bool.not_eq_false, Bool.not_eq_true, r44, r45, r46, r47, r48, r49, r50, r51, r52, r53, r54, r55, r56, r57, r58, r59, r60, r61, g0, g2, g6, g16]) rfl q1 ?_ | refine r_isAt hω R (t := q) (u := a) rfl rfl (by omega) (by omega) ?_ | refine ab_sd ?_ ?_ | refine ab_sz (Or.inl rfl) ?_ | refine ab_sz (Or.inr rfl) ?_ | refine ab_sz ?_ ?_)
      all_goals cases e : s_ou S a with
      | none =>
        rw [s_ch_none e] at hQ
        clear ih
        first
        | (refine q_of hQ ?_; unfold s_at; simp [*]; done)
        | (refine q_of hQ ?_; unfold s_at ab_z; simp [*]; done)
        | (simp (disch := omega) only [nI_clamp, li_2, li_3, li_4, li_5, li_6, li_7, li_8, li_9, li_10, li_40, li_120, pk_mul, nI_add, nI_1, ix_eq, ix_lt, ix_le, ix_l0, ix_l1, ix_n0, ix_p0, ix_1lt, ix_lt1, ix_1le, ix_le1, ix_le0, ix_0lt, ab_z0, ab_z1, ab_zt, ab_zf, ab_ozn, ab_ozp, ab_o_some, not_true_eq_false, not_false_eq_true, Bool.not_eq_false, Bool.not_eq_true, r44, r45, r46, r47, r48, r49, r50, r51, r52, r53, r54, r55, r56, r57, r58, r59, r60, r61, g0, g2, g6, g16, e]; refine fin _ (by decide) (q_of hQ ?_); unfold s_at ab_z; simp [*]; done)
      | some o =>
        have h3 := ho o e
        rw [s_ch_some hW h2 e] at hQ
        simp only [List.any_cons] at hQ
        first
        | (refine q_of hQ ?_; unfold s_at; simp [*]; done)
        | (refine q_of hQ ?_; unfold s_at ab_z; simp [*]; done)
        | (simp (disch := omega) only [nI_clamp, li_2, li_3, li_4, li_5, li_6, li_7, li_8, li_9, li_10, li_40, li_120, pk_mul, nI_add, nI_1, ix_eq, ix_lt, ix_le, ix_l0, ix_l1, ix_n0, ix_p0, ix_1lt, ix_lt1, ix_1le, ix_le1, ix_le0, ix_0lt, ab_z0, ab_z1, ab_zt, ab_zf, ab_ozn, ab_ozp, ab_o_some, not_true_eq_false, not_false_eq_true, Bool.not_eq_false, Bool.not_eq_true, r44, r45, r46, r47, r48, r49, r50, r51, r52, r53, r54, r55, r56, r57, r58, r59, r60, r61, g0, g2, g6, g16, e]; refine ih o (by omega) (by omega) (q_of hQ ?_); unfold s_at; simp [*]; done)
  repeat' (first | refine hjx _ _ _ _ (by decide) ?_ | (refine br_c (fun h => ?_) (fun h => ?_) <;> (try simp (disch := omega) only [nI_clamp, li_2, li_3, li_4, li_5, li_6, li_7, li_8, li_9, li_10, li_40, li_120, pk_mul, nI_add, nI_1, ix_eq, ix_lt, ix_le, ix_l0, ix_l1, ix_n0, ix_p0, ix_1lt, ix_lt1, ix_1le, ix_le1, ix_le0, ix_0lt, ab_z0, ab_z1, ab_zt, ab_zf, ab_ozn, ab_ozp, ab_o_some, not_true_eq_false, not_false_eq_true, Bool.not_eq_false, Bool.not_eq_true, r44, r45, r46, r47, r48, r49, r50, r51, r52, r53, r54, r55, r56, r57, r58, r59, r60, r61, g0, g2, g6, g16] at h)) | (refine br_n (fun h => ?_) (fun h => ?_) <;> (try simp (disch := omega) only [nI_clamp, li_2, li_3, li_4, li_5, li_6, li_7, li_8, li_9, li_10, li_40, li_120, pk_mul, nI_add, nI_1, ix_eq, ix_lt, ix_le, ix_l0, ix_l1, ix_n0, ix_p0, ix_1lt, ix_lt1, ix_1le, ix_le1, ix_le0, ix_0lt, ab_z0, ab_z1, ab_zt, ab_zf, ab_ozn, ab_ozp, ab_o_some, not_true_eq_false, not_false_eq_true, Bool.not_eq_false, Bool.not_eq_true, r44, r45, r46, r47, r48, r49, r50, r51, r52, r53, r54, r55, r56, r57, r58, r59, r60, r61, g0, g2, g6, g16] at h)) | refine ab_sd (by first | (with_reducible refine vp_in_nI ?_ ?_ <;> omega) | (simp (disch := omega) only [nI_clamp, li_2, li_3, li_4, li_5, li_6, li_7, li_8, li_9, li_10, li_40, li_120, pk_mul, nI_add, nI_1, ix_eq, ix_lt, ix_le, ix_l0, ix_l1, ix_n0, ix_p0, ix_1lt, ix_lt1, ix_1le, ix_le1, ix_le0, ix_0lt, ab_z0, ab_z1, ab_zt, ab_zf, ab_ozn, ab_ozp, ab_o_some, not_true_eq_false, not_false_eq_true, Bool.not_eq_false, Bool.not_eq_true, r44, r45, r46, r47, r48, r49, r50, r51, r52, r53, r54, r55, r56, r57, r58, r59, r60, r61, g0, g2, g6, g16]; with_reducible refine vp_in_nI ?_ ?_ <;> omega)) ?_ | refine r_topOf hω R hW (t := f) rfl hf ?_ | refine r_topOf hω R hW (t := S.1 57 m) (by simp (disch := omega) only [nI_clamp, li_2, li_3, li_4, li_5, li_6, li_7, li_8, li_9, li_10, li_40, li_120, pk_mul, nI_add, nI_1, ix_eq, ix_lt, ix_le, ix_l0, ix_l1, ix_n0, ix_p0, ix_1lt, ix_lt1, ix_1le, ix_le1, ix_le0, ix_0lt, ab_z0, ab_z1, ab_zt, ab_zf, ab_ozn, ab_ozp, ab_o_some, not_true_eq_false, not_false_eq_true, Bool.not_eq_false, Bool.not_eq_true, r44, r45, r46, r47, r48, r49, r50, r51, r52, r53, r54, r55, r56, r57, r58, r59, r60, r61, g0, g2, g6, g16]) m1 ?_ | refine ab_sd ?_ ?_ | refine ab_sz (Or.inl rfl) ?_ | refine ab_sz (Or.inr rfl) ?_ | refine ab_sz ?_ ?_)
  all_goals first | (refine q_of hQ ?_; unfold s_opM ab_z; simp [*]; done) | (simp (disch := omega) only [nI_clamp, li_2, li_3, li_4, li_5, li_6, li_7, li_8, li_9, li_10, li_40, li_120, pk_mul, nI_add, nI_1, ix_eq, ix_lt, ix_le, ix_l0, ix_l1, ix_n0, ix_p0, ix_1lt, ix_lt1, ix_1le, ix_le1, ix_le0, ix_0lt, ab_z0, ab_z1, ab_zt, ab_zf, ab_ozn, ab_ozp, ab_o_some, not_true_eq_false, not_false_eq_true, Bool.not_eq_false, Bool.not_eq_true, r44, r45, r46, r47, r48, r49, r50, r51, r52, r53, r54, r55, r56, r57, r58, r59, r60, r61, g0, g2, g6, g16]; refine loop (f + 1) f (by omega) hf (q_of hQ ?_); unfold s_opM; simp [*]; done)
end R3
end
section
/-! changes of the state, and what they keep -/
def s_un (S : sT) (k j v : Nat) : sT := (fun a b => if a = k ∧ b = j then v else S.1 a b, S.2)
def s_ub (S : sT) (k j : Nat) (v : Bool) : sT := (S.1, fun a b => if a = k ∧ b = j then v else S.2.1 a b, S.2.2)
def s_uo (S : sT) (k j : Nat) (v : Option Nat) : sT := (S.1, S.2.1, fun a b => if a = k ∧ b = j then v else S.2.2 a b)
def SameC (μ μ' : ab_M) : Prop := μ'.2 = μ.2 ∧ ∀ k, k < 43 → μ'.1 k = μ.1 k
def SameK (μ μ' : ab_M) : Prop := μ'.1 43 22 = μ.1 43 22 ∧ μ'.1 62 = μ.1 62 ∧ μ'.1 64 = μ.1 64
theorem SameC.rf {μ : ab_M} : SameC μ μ := ⟨rfl, fun _ _ => rfl⟩
theorem SameC.tr {μ μ' μ'' : ab_M} (h : SameC μ μ') (h' : SameC μ' μ'') : SameC μ μ'' := ⟨h'.1.trans h.1, fun k hk => (h'.2 k hk).trans (h.2 k hk)⟩
theorem SameC.mi {μ μ' : ab_M} (h : SameC μ μ') {k j : Nat} {x : Int32} (hk : 43 ≤ k) : SameC μ (ab_mi μ' k j x) := ⟨h.1, fun a ha => by
  rw [← h.2 a ha]
  funext b
  have : ¬ a = k := by omega
  simp [ab_mi, this]⟩
theorem SameK.rf {μ : ab_M} : SameK μ μ := ⟨rfl, rfl, rfl⟩
theorem SameK.tr {μ μ' μ'' : ab_M} (h : SameK μ μ') (h' : SameK μ' μ'') : SameK μ μ'' := ⟨h'.1.trans h.1, h'.2.1.trans h.2.1, h'.2.2.trans h.2.2⟩
theorem SameK.mi {μ μ' : ab_M} (h : SameK μ μ') {k j : Nat} {x : Int32} (h1 : k ≠ 62) (h2 : k ≠ 64) (h3 : ¬ (k = 43 ∧ j = 22)) : SameK μ (ab_mi μ' k j x) := by
  refine ⟨?_, ?_, ?_⟩
  · rw [← h.1]
    have : ¬ (43 = k ∧ 22 = j) := fun q => h3 ⟨q.1.symm, q.2.symm⟩
    simp [ab_mi, this]
  · rw [← h.2.1]
    funext b
    simp [ab_mi, Ne.symm h1]
  · rw [← h.2.2]
    funext b
    simp [ab_mi, Ne.symm h2]
theorem s_ikb {k j : Nat} (h : s_ik k j = true) : s_bk k = false ∧ k ≠ 49 ∧ k ≠ 53 := by
  simp only [s_ik, Bool.or_eq_true, Bool.and_eq_true, beq_iff_eq] at h
  rcases h with h | h
  · rcases h with ((((((((((h | h) | h) | h) | h) | h) | h) | h) | h) | h) | h) | h <;> subst h <;> simp [s_bk]
  · rw [h.1]; simp [s_bk]
theorem rep_u {S : sT} {μ : ab_M} (R : RepR S μ) {k j v : Nat} (hk : s_ik k j = true) (hn : ¬ (k = 43 ∧ j = 6)) : RepR (s_un S k j v) (ab_mi μ k j (nI v)) := by
  obtain ⟨e1, e2, e3⟩ := s_ikb hk
  have hT : s_nT (s_un S k j v) = s_nT S := by
    simp only [s_nT, s_un]
    rw [if_neg (fun q => hn ⟨q.1.symm, q.2.symm⟩)]
  refine ⟨fun a b h => ?_, fun a b h => ?_, fun a b h hb => ?_⟩
  · by_cases hab : a = k ∧ b = j
    · simp [ab_mi, s_un, hab]
    · simp [ab_mi, s_un, hab, R.1 a b h]
  · have hab : ¬ a = k := fun q => by rw [q, e1] at h; cases h
    simp [ab_mi, s_un, hab, R.2.1 a b h]
  · have hab : ¬ a = k := fun q => by rcases h with h | h <;> omega
    rw [hT] at hb
    simp [ab_mi, s_un, hab, R.2.2 a b h hb]
theorem rep_ub {S : sT} {μ : ab_M} (R : RepR S μ) {k j : Nat} {v : Bool} (hk : s_bk k = true) : RepR (s_ub S k j v) (ab_mi μ k j (ab_z v)) := by
  have e0 : ∀ b, s_ik k b = false := by
    intro b
    simp only [s_bk, Bool.or_eq_true, beq_iff_eq] at hk
    rcases hk with ((h | h) | h) | h <;> subst h <;> simp [s_ik]
  have e1 : k ≠ 49 ∧ k ≠ 53 := by
    simp only [s_bk, Bool.or_eq_true, beq_iff_eq] at hk
    omega
  refine ⟨fun a b h => ?_, fun a b h => ?_, fun a b h hb => ?_⟩
  · have hab : ¬ a = k := fun q => by rw [q, e0] at h; cases h
    simp [ab_mi, s_ub, hab, R.1 a b h]
  · by_cases hab : a = k ∧ b = j
    · simp [ab_mi, s_ub, hab]
    · simp [ab_mi, s_ub, hab, R.2.1 a b h]
  · have hab : ¬ a = k := fun q => by rcases h with h | h <;> omega
    simp [ab_mi, hab]
    exact R.2.2 a b h hb
theorem rep_c {S : sT} {μ : ab_M} (R : RepR S μ) {k j : Nat} {x : Int32} (h1 : s_ik k j = false) (h2 : s_bk k = false) (h3 : k ≠ 49 ∧ k ≠ 53) : RepR S (ab_mi μ k j x) := by
  refine ⟨fun a b h => ?_, fun a b h => ?_, fun a b h hb => ?_⟩
  · have hab : ¬ (a = k ∧ b = j) := fun q => by rw [q.1, q.2, h1] at h; cases h
    simp [ab_mi, hab, R.1 a b h]
  · have hab : ¬ a = k := fun q => by rw [q, h2] at h; cases h
    simp [ab_mi, hab, R.2.1 a b h]
  · have hab : ¬ a = k := fun q => by rcases h with h | h <;> omega
    simp [ab_mi, hab, R.2.2 a b h hb]
/-! answers and changes: modules and packages -/
def a_module (S : sT) : Int32 := if s_nM S = 6 then -4 else nI (s_nM S)
def o_module (S : sT) : sT := if s_nM S = 6 then S else s_un (s_ub S 44 (6 * s_nM S) true) 43 0 (s_nM S + 1)
def a_reads (S : sT) (m n : Int32) : Int32 := if ab_ok (s_nM S) m && ab_ok (s_nM S) n then (if m = n ∨ S.2.1 44 (6 * m.toNatClampNeg + n.toNatClampNeg) = true then 0 else 1) else -1
def o_reads (S : sT) (m n : Int32) : sT := if a_reads S m n = 1 then s_ub S 44 (6 * m.toNatClampNeg + n.toNatClampNeg) true else S
def a_pack (S : sT) (m : Int32) : Int32 := if ab_ok (s_nM S) m then (if s_nP S = 10 then -4 else nI (s_nP S)) else -1
def o_pack (S : sT) (m : Int32) : sT := if ab_ok (s_nM S) m ∧ ¬ s_nP S = 10 then s_un (s_un S 45 (s_nP S) m.toNatClampNeg) 43 2 (s_nP S + 1) else S
def a_export (S : sT) (p to : Int32) : Int32 := if ab_ok (s_nP S) p && (to == -1 || ab_ok (s_nM S) to) then (if S.2.1 47 p.toNatClampNeg = true ∨ (¬ to = -1 ∧ S.2.1 46 (6 * p.toNatClampNeg + to.toNatClampNeg) = true) then 0 else 1) else -1
def o_export (S : sT) (p to : Int32) : sT := if a_export S p to = 1 then (if to = -1 then s_ub S 47 p.toNatClampNeg true else s_ub S 46 (6 * p.toNatClampNeg + to.toNatClampNeg) true) else S
def a_count (S : sT) (x : Int32) : Int32 := if x = 0 then nI (s_nM S) else if x = 1 then nI (s_nP S) else if x = 2 then nI (s_nT S) else if x = 3 then nI (s_nX S) else -1
def a_below (S : sT) (t u : Int32) : Int32 := if ab_ok (s_nT S) t && ab_ok (s_nT S) u then ab_z (s_ab S t.toNatClampNeg u.toNatClampNeg) else -1
def a_open (S : sT) (f t : Int32) : Int32 := if ab_ok (s_nT S) f && ab_ok (s_nT S) t then ab_z (s_open S f.toNatClampNeg t.toNatClampNeg) else -1
end
section
theorem mi_rd {μ : ab_M} {k j a b : Nat} {x : Int32} : (ab_mi μ k j x).1 a b = if a = k ∧ b = j then x else μ.1 a b := rfl
theorem mi_eq {μ : ab_M} {k j : Nat} {x : Int32} : (ab_mi μ k j x).1 k j = x := by simp [ab_mi]
theorem mi_ne {μ : ab_M} {k j a b : Nat} {x : Int32} (h : a ≠ k) : (ab_mi μ k j x).1 a b = μ.1 a b := by simp [ab_mi, h]
theorem mi_nj {μ : ab_M} {k j b : Nat} {x : Int32} (h : b ≠ j) : (ab_mi μ k j x).1 k b = μ.1 k b := by simp [ab_mi, h]
section R4
variable {l : Launch} {ω : ab_W} {S : sT} {μ : ab_M} {Q : Int32 → ab_M → Prop}
theorem r_module (hω : ω.2.2.2 = ab_SH) (R : RepR S μ) (hW : Wf S) (hQ : ∀ μ', RepR (o_module S) μ' → SameC μ μ' → SameK μ μ' → Q (a_module S) μ') : ab_CI l ω mX11_module [.ref 43] μ Q := by
  refine ab_intro (sh := ab_SH) (cd := kX11_module) hω vX11_module (by decide +kernel) rfl (Nat.le_of_ble_eq_true rfl) (fun j hj hw => ?_)
  obtain ⟨r44, r45, r46, r47, r48, r49, r50, r51, r52, r53, r54, r55, r56, r57, r58, r59, r60, r61, g0, g2, g6, g16⟩ := RepR_fs R
  have hM := hW.1.2
  repeat' (first | refine hj _ _ _ _ ?_ | (refine br_c (fun h => ?_) (fun h => ?_) <;> (try simp (disch := omega) only [nI_clamp, li_2, li_3, li_4, li_5, li_6, li_7, li_8, li_9, li_10, li_40, li_120, pk_mul, nI_add, nI_1, ix_eq, ix_lt, ix_le, ix_l0, ix_l1, ix_n0, ix_p0, ix_1lt, ix_lt1, ix_1le, ix_le1, ix_le0, ix_0lt, ab_z0, ab_z1, ab_zt, ab_zf, ab_ozn, ab_ozp, ab_o_some, not_true_eq_false, not_false_eq_true, Bool.not_eq_false, Bool.not_eq_true, Bool.not_eq_false', Bool.not_eq_true', Bool.false_eq_true, Bool.true_eq_false, reduceCtorEq, Option.isSome_some, Option.isSome_none, r44, r45, r46, r47, r48, r49, r50, r51, r52, r53, r54, r55, r56, r57, r58, r59, r60, r61, g0, g2, g6, g16] at h)) | (refine br_n (fun h => ?_) (fun h => ?_) <;> (try simp (disch := omega) only [nI_clamp, li_2, li_3, li_4, li_5, li_6, li_7, li_8, li_9, li_10, li_40, li_120, pk_mul, nI_add, nI_1, ix_eq, ix_lt, ix_le, ix_l0, ix_l1, ix_n0, ix_p0, ix_1lt, ix_lt1, ix_1le, ix_le1, ix_le0, ix_0lt, ab_z0, ab_z1, ab_zt, ab_zf, ab_ozn, ab_ozp, ab_o_some, not_true_eq_false, not_false_eq_true, Bool.not_eq_false, Bool.not_eq_true, Bool.not_eq_false', Bool.not_eq_true', Bool.false_eq_true, Bool.true_eq_false, reduceCtorEq, Option.isSome_some, Option.isSome_none, r44, r45, r46, r47, r48, r49, r50, r51, r52, r53, r54, r55, r56, r57, r58, r59, r60, r61, g0, g2, g6, g16] at h)) | refine ab_sd (by first | (with_reducible refine vp_in_nI ?_ ?_ <;> omega) | (simp (disch := omega) only [nI_clamp, li_2, li_3, li_4, li_5, li_6, li_7, li_8, li_9, li_10, li_40, li_120, pk_mul, nI_add, nI_1, ix_eq, ix_lt, ix_le, ix_l0, ix_l1, ix_n0, ix_p0, ix_1lt, ix_lt1, ix_1le, ix_le1, ix_le0, ix_0lt, ab_z0, ab_z1, ab_zt, ab_zf, ab_ozn, ab_ozp, ab_o_some, not_true_eq_false, not_false_eq_true, Bool.not_eq_false, Bool.not_eq_true, Bool.not_eq_false', Bool.not_eq_true', Bool.false_eq_true, Bool.true_eq_false, reduceCtorEq, Option.isSome_some, Option.isSome_none, r44, r45, r46, r47, r48, r49, r50, r51, r52, r53, r54, r55, r56, r57, r58, r59, r60, r61, g0, g2, g6, g16]; with_reducible refine vp_in_nI ?_ ?_ <;> omega)) ?_ | refine ab_sd ?_ ?_ | refine ab_sz (Or.inl rfl) ?_ | refine ab_sz (Or.inr rfl) ?_ | refine ab_sz ?_ ?_)
  · have h6 : ¬ s_nM S = 6 := h
    have e1 : a_module S = nI (s_nM S) := by simp [a_module, h6]
    have e2 : o_module S = s_un (s_ub S 44 (6 * s_nM S) true) 43 0 (s_nM S + 1) := by simp [o_module, h6]
    rw [e1, e2] at hQ
    show Q _ _
    simp (disch := omega) only [mi_eq, mi_ne, g0, li_6, pk_mul, nI_clamp, nI_1]
    exact q_of (hQ _ (rep_u (rep_ub (k := 44) (j := 6 * s_nM S) (v := true) R rfl) (k := 43) (j := 0) rfl (by omega)) ((SameC.rf.mi (by omega)).mi (by omega)) ((SameK.rf.mi (by omega) (by omega) (by omega)).mi (by omega) (by omega) (by omega))) (by simp [nI_pred])
  · have h6 : s_nM S = 6 := h
    have e1 : a_module S = -4 := by simp [a_module, h6]
    have e2 : o_module S = S := by simp [o_module, h6]
    rw [e1, e2] at hQ
    exact hQ μ R SameC.rf SameK.rf
theorem r_reads (hω : ω.2.2.2 = ab_SH) (R : RepR S μ) (hW : Wf S) {x y : Int32} (hQ : ∀ μ', RepR (o_reads S x y) μ' → SameC μ μ' → SameK μ μ' → Q (a_reads S x y) μ') : ab_CI l ω mX11_reads [.ref 43, .int x, .int y] μ Q := by
  refine ab_intro (sh := ab_SH) (cd := kX11_reads) hω vX11_reads (by decide +kernel) rfl (Nat.le_of_ble_eq_true rfl) (fun j hj hw => ?_)
  obtain ⟨r44, r45, r46, r47, r48, r49, r50, r51, r52, r53, r54, r55, r56, r57, r58, r59, r60, r61, g0, g2, g6, g16⟩ := RepR_fs R
  have hM := hW.1.2
  cases hx : ab_ok (s_nM S) x && ab_ok (s_nM S) y with
  | false =>
    have e1 : a_reads S x y = -1 := by simp [a_reads, hx]
    have e2 : o_reads S x y = S := by simp [o_reads, e1]
    rw [e1, e2] at hQ
    have hQ := hQ μ R SameC.rf SameK.rf
    repeat' (first | refine hj _ _ _ _ ?_ | (refine br_c (fun h => ?_) (fun h => ?_) <;> (try simp (disch := omega) only [nI_clamp, li_2, li_3, li_4, li_5, li_6, li_7, li_8, li_9, li_10, li_40, li_120, pk_mul, nI_add, nI_1, ix_eq, ix_lt, ix_le, ix_l0, ix_l1, ix_n0, ix_p0, ix_1lt, ix_lt1, ix_1le, ix_le1, ix_le0, ix_0lt, ab_z0, ab_z1, ab_zt, ab_zf, ab_ozn, ab_ozp, ab_o_some, not_true_eq_false, not_false_eq_true, Bool.not_eq_false, Bool.not_eq_true, Bool.not_eq_false', Bool.not_eq_true', Bool.false_eq_true, Bool.true_eq_false, reduceCtorEq, Option.isSome_some, Option.isSome_none, r44, r45, r46, r47, r48, r49, r50, r51, r52, r53, r54, r55, r56, r57, r58, r59, r60, r61, g0, g2, g6, g16] at h)) | (refine br_n (fun h => ?_) (fun h => ?_) <;> (try simp (disch := omega) only [nI_clamp, li_2, li_3, li_4, li_5, li_6, li_7, li_8, li_9, li_10, li_40, li_120, pk_mul, nI_add, nI_1, ix_eq, ix_lt, ix_le, ix_l0, ix_l1, ix_n0, ix_p0, ix_1lt, ix_lt1, ix_1le, ix_le1, ix_le0, ix_0lt, ab_z0, ab_z1, ab_zt, ab_zf, ab_ozn, ab_ozp, ab_o_some, not_true_eq_false, not_false_eq_true, Bool.not_eq_false, Bool.not_eq_true, Bool.not_eq_false', Bool.not_eq_true', Bool.false_eq_true, Bool.true_eq_false, reduceCtorEq, Option.isSome_some, Option.isSome_none, r44, r45, r46, r47, r48, r49, r50, r51, r52, r53, r54, r55, r56, r57, r58, r59, r60, r61, g0, g2, g6, g16] at h)) | refine ab_sd (by first | (with_reducible refine vp_in_nI ?_ ?_ <;> omega) | (simp (disch := omega) only [nI_clamp, li_2, li_3, li_4, li_5, li_6, li_7, li_8, li_9, li_10, li_40, li_120, pk_mul, nI_add, nI_1, ix_eq, ix_lt, ix_le, ix_l0, ix_l1, ix_n0, ix_p0, ix_1lt, ix_lt1, ix_1le, ix_le1, ix_le0, ix_0lt, ab_z0, ab_z1, ab_zt, ab_zf, ab_ozn, ab_ozp, ab_o_some, not_true_eq_false, not_false_eq_true, Bool.not_eq_false, Bool.not_eq_true, Bool.not_eq_false', Bool.not_eq_true', Bool.false_eq_true, Bool.true_eq_false, reduceCtorEq, Option.isSome_some, Option.isSome_none, r44, r45, r46, r47, r48, r49, r50, r51, r52, r53, r54, r55, r56, r57, r58, r59, r60, r61, g0, g2, g6, g16]; with_reducible refine vp_in_nI ?_ ?_ <;> omega)) ?_ | refine r_noModule hω R ?_ | refine ab_sd ?_ ?_ | refine ab_sz (Or.inl rfl) ?_ | refine ab_sz (Or.inr rfl) ?_ | refine ab_sz ?_ ?_)
    all_goals first | exact hQ | (exfalso; simp [*] at hx; done)
  | true =>
    have hxy : ab_ok (s_nM S) x = true ∧ ab_ok (s_nM S) y = true := by simpa using hx
    obtain ⟨hx1, hy1⟩ := hxy
    obtain ⟨m, hm, rfl⟩ := ab_ok_t (by omega) hx1
    obtain ⟨n, hn, rfl⟩ := ab_ok_t (by omega) hy1
    have c1 : (nI m).toNatClampNeg = m := nI_clamp (by omega)
    have c2 : (nI n).toNatClampNeg = n := nI_clamp (by omega)
    have c3 := ix_eq (a := m) (b := n) (by omega) (by omega)
    have e1 : a_reads S (nI m) (nI n) = if m = n ∨ S.2.1 44 (6 * m + n) = true then 0 else 1 := by simp [a_reads, hx1, hy1, c1, c2, c3]
    have e2 : o_reads S (nI m) (nI n) = if m = n ∨ S.2.1 44 (6 * m + n) = true then S else s_ub S 44 (6 * m + n) true := by
      unfold o_reads
      rw [e1, c1, c2]
      by_cases hc : m = n ∨ S.2.1 44 (6 * m + n) = true
      · simp [hc]
      · simp [hc]
    rw [e1, e2] at hQ
    repeat' (first | refine hj _ _ _ _ ?_ | (refine br_c (fun h => ?_) (fun h => ?_) <;> (try simp (disch := omega) only [nI_clamp, li_2, li_3, li_4, li_5, li_6, li_7, li_8, li_9, li_10, li_40, li_120, pk_mul, nI_add, nI_1, ix_eq, ix_lt, ix_le, ix_l0, ix_l1, ix_n0, ix_p0, ix_1lt, ix_lt1, ix_1le, ix_le1, ix_le0, ix_0lt, ab_z0, ab_z1, ab_zt, ab_zf, ab_ozn, ab_ozp, ab_o_some, not_true_eq_false, not_false_eq_true, Bool.not_eq_false, Bool.not_eq_true, Bool.not_eq_false', Bool.not_eq_true', Bool.false_eq_true, Bool.true_eq_false, reduceCtorEq, Option.isSome_some, Option.isSome_none, r44, r45, r46, r47, r48, r49, r50, r51, r52, r53, r54, r55, r56, r57, r58, r59, r60, r61, g0, g2, g6, g16, hx1, hy1] at h)) | (refine br_n (fun h => ?_) (fun h => ?_) <;> (try simp (disch := omega) only [nI_clamp, li_2, li_3, li_4, li_5, li_6, li_7, li_8, li_9, li_10, li_40, li_120, pk_mul, nI_add, nI_1, ix_eq, ix_lt, ix_le, ix_l0, ix_l1, ix_n0, ix_p0, ix_1lt, ix_lt1, ix_1le, ix_le1, ix_le0, ix_0lt, ab_z0, ab_z1, ab_zt, ab_zf, ab_ozn, ab_ozp, ab_o_some, not_true_eq_false, not_false_eq_true, Bool.not_eq_false, Bool.not_eq_true, Bool.not_eq_false', Bool.not_eq_true', Bool.false_eq_true, Bool.true_eq_false, reduceCtorEq, Option.isSome_some, Option.isSome_none, r44, r45, r46, r47, r48, r49, r50, r51, r52, r53, r54, r55, r56, r57, r58, r59, r60, r61, g0, g2, g6, g16, hx1, hy1] at h)) | refine ab_sd (by first | (with_reducible refine vp_in_nI ?_ ?_ <;> omega) | (simp (disch := omega) only [nI_clamp, li_2, li_3, li_4, li_5, li_6, li_7, li_8, li_9, li_10, li_40, li_120, pk_mul, nI_add, nI_1, ix_eq, ix_lt, ix_le, ix_l0, ix_l1, ix_n0, ix_p0, ix_1lt, ix_lt1, ix_1le, ix_le1, ix_le0, ix_0lt, ab_z0, ab_z1, ab_zt, ab_zf, ab_ozn, ab_ozp, ab_o_some, not_true_eq_false, not_false_eq_true, Bool.not_eq_false, Bool.not_eq_true, Bool.not_eq_false', Bool.not_eq_true', Bool.false_eq_true, Bool.true_eq_false, reduceCtorEq, Option.isSome_some, Option.isSome_none, r44, r45, r46, r47, r48, r49, r50, r51, r52, r53, r54, r55, r56, r57, r58, r59, r60, r61, g0, g2, g6, g16, hx1, hy1]; with_reducible refine vp_in_nI ?_ ?_ <;> omega)) ?_ | refine r_noModule hω R ?_ | refine ab_sd ?_ ?_ | refine ab_sz (Or.inl rfl) ?_ | refine ab_sz (Or.inr rfl) ?_ | refine ab_sz ?_ ?_)
    · rw [if_pos (Or.inl h), if_pos (Or.inl h)] at hQ
      exact hQ μ R SameC.rf SameK.rf
    · rename_i h0
      rw [if_neg (by simp [h, h0]), if_neg (by simp [h, h0])] at hQ
      show Q _ _
      simp (disch := omega) only [ix_6, nI_clamp]
      exact hQ _ (rep_ub (k := 44) (j := 6 * m + n) (v := true) R rfl) (SameC.rf.mi (by omega)) (SameK.rf.mi (by omega) (by omega) (by omega))
    · rw [if_pos (Or.inr h), if_pos (Or.inr h)] at hQ
      exact hQ μ R SameC.rf SameK.rf
theorem r_pack (hω : ω.2.2.2 = ab_SH) (R : RepR S μ) (hW : Wf S) {x : Int32} (hQ : ∀ μ', RepR (o_pack S x) μ' → SameC μ μ' → SameK μ μ' → Q (a_pack S x) μ') : ab_CI l ω mX11_pack [.ref 43, .int x] μ Q := by
  refine ab_intro (sh := ab_SH) (cd := kX11_pack) hω vX11_pack (by decide +kernel) rfl (Nat.le_of_ble_eq_true rfl) (fun j hj hw => ?_)
  obtain ⟨r44, r45, r46, r47, r48, r49, r50, r51, r52, r53, r54, r55, r56, r57, r58, r59, r60, r61, g0, g2, g6, g16⟩ := RepR_fs R
  have hM := hW.1.2
  have hP := hW.2.1.2
  cases hx : ab_ok (s_nM S) x with
  | false =>
    have e1 : a_pack S x = -1 := by simp [a_pack, hx]
    have e2 : o_pack S x = S := by simp [o_pack, hx]
    rw [e1, e2] at hQ
    have hQ := hQ μ R SameC.rf SameK.rf
    repeat' (first | refine hj _ _ _ _ ?_ | (refine br_c (fun h => ?_) (fun h => ?_) <;> (try simp (disch := omega) only [nI_clamp, li_2, li_3, li_4, li_5, li_6, li_7, li_8, li_9, li_10, li_40, li_120, pk_mul, nI_add, nI_1, ix_eq, ix_lt, ix_le, ix_l0, ix_l1, ix_n0, ix_p0, ix_1lt, ix_lt1, ix_1le, ix_le1, ix_le0, ix_0lt, ab_z0, ab_z1, ab_zt, ab_zf, ab_ozn, ab_ozp, ab_o_some, not_true_eq_false, not_false_eq_true, Bool.not_eq_false, Bool.not_eq_true, Bool.not_eq_false', Bool.not_eq_true', Bool.false_eq_true, Bool.true_eq_false, reduceCtorEq, Option.isSome_some, Option.isSome_none, r44, r45, r46, r47, r48, r49, r50, r51, r52, r53, r54, r55, r56, r57, r58, r59, r60, r61, g0, g2, g6, g16, hx] at h)) | (refine br_n (fun h => ?_) (fun h => ?_) <;> (try simp (disch := omega) only [nI_clamp, li_2, li_3, li_4, li_5, li_6, li_7, li_8, li_9, li_10, li_40, li_120, pk_mul, nI_add, nI_1, ix_eq, ix_lt, ix_le, ix_l0, ix_l1, ix_n0, ix_p0, ix_1lt, ix_lt1, ix_1le, ix_le1, ix_le0, ix_0lt, ab_z0, ab_z1, ab_zt, ab_zf, ab_ozn, ab_ozp, ab_o_some, not_true_eq_false, not_false_eq_true, Bool.not_eq_false, Bool.not_eq_true, Bool.not_eq_false', Bool.not_eq_true', Bool.false_eq_true, Bool.true_eq_false, reduceCtorEq, Option.isSome_some, Option.isSome_none, r44, r45, r46, r47, r48, r49, r50, r51, r52, r53, r54, r55, r56, r57, r58, r59, r60, r61, g0, g2, g6, g16, hx] at h)) | refine ab_sd (by first | (with_reducible refine vp_in_nI ?_ ?_ <;> omega) | (simp (disch := omega) only [nI_clamp, li_2, li_3, li_4, li_5, li_6, li_7, li_8, li_9, li_10, li_40, li_120, pk_mul, nI_add, nI_1, ix_eq, ix_lt, ix_le, ix_l0, ix_l1, ix_n0, ix_p0, ix_1lt, ix_lt1, ix_1le, ix_le1, ix_le0, ix_0lt, ab_z0, ab_z1, ab_zt, ab_zf, ab_ozn, ab_ozp, ab_o_some, not_true_eq_false, not_false_eq_true, Bool.not_eq_false, Bool.not_eq_true, Bool.not_eq_false', Bool.not_eq_true', Bool.false_eq_true, Bool.true_eq_false, reduceCtorEq, Option.isSome_some, Option.isSome_none, r44, r45, r46, r47, r48, r49, r50, r51, r52, r53, r54, r55, r56, r57, r58, r59, r60, r61, g0, g2, g6, g16, hx]; with_reducible refine vp_in_nI ?_ ?_ <;> omega)) ?_ | refine r_noModule hω R ?_ | refine ab_sd ?_ ?_ | refine ab_sz (Or.inl rfl) ?_ | refine ab_sz (Or.inr rfl) ?_ | refine ab_sz ?_ ?_)
    all_goals first | exact hQ | (exfalso; simp [*] at hx; done)
  | true =>
    obtain ⟨m, hm, rfl⟩ := ab_ok_t (by omega) hx
    have c1 : (nI m).toNatClampNeg = m := nI_clamp (by omega)
    unfold a_pack o_pack at hQ
    rw [hx, c1] at hQ
    repeat' (first | refine hj _ _ _ _ ?_ | (refine br_c (fun h => ?_) (fun h => ?_) <;> (try simp (disch := omega) only [nI_clamp, li_2, li_3, li_4, li_5, li_6, li_7, li_8, li_9, li_10, li_40, li_120, pk_mul, nI_add, nI_1, ix_eq, ix_lt, ix_le, ix_l0, ix_l1, ix_n0, ix_p0, ix_1lt, ix_lt1, ix_1le, ix_le1, ix_le0, ix_0lt, ab_z0, ab_z1, ab_zt, ab_zf, ab_ozn, ab_ozp, ab_o_some, not_true_eq_false, not_false_eq_true, Bool.not_eq_false, Bool.not_eq_true, Bool.not_eq_false', Bool.not_eq_true', Bool.false_eq_true, Bool.true_eq_false, reduceCtorEq, Option.isSome_some, Option.isSome_none, r44, r45, r46, r47, r48, r49, r50, r51, r52, r53, r54, r55, r56, r57, r58, r59, r60, r61, g0, g2, g6, g16, hx] at h)) | (refine br_n (fun h => ?_) (fun h => ?_) <;> (try simp (disch := omega) only [nI_clamp, li_2, li_3, li_4, li_5, li_6, li_7, li_8, li_9, li_10, li_40, li_120, pk_mul, nI_add, nI_1, ix_eq, ix_lt, ix_le, ix_l0, ix_l1, ix_n0, ix_p0, ix_1lt, ix_lt1, ix_1le, ix_le1, ix_le0, ix_0lt, ab_z0, ab_z1, ab_zt, ab_zf, ab_ozn, ab_ozp, ab_o_some, not_true_eq_false, not_false_eq_true, Bool.not_eq_false, Bool.not_eq_true, Bool.not_eq_false', Bool.not_eq_true', Bool.false_eq_true, Bool.true_eq_false, reduceCtorEq, Option.isSome_some, Option.isSome_none, r44, r45, r46, r47, r48, r49, r50, r51, r52, r53, r54, r55, r56, r57, r58, r59, r60, r61, g0, g2, g6, g16, hx] at h)) | refine ab_sd (by first | (with_reducible refine vp_in_nI ?_ ?_ <;> omega) | (simp (disch := omega) only [nI_clamp, li_2, li_3, li_4, li_5, li_6, li_7, li_8, li_9, li_10, li_40, li_120, pk_mul, nI_add, nI_1, ix_eq, ix_lt, ix_le, ix_l0, ix_l1, ix_n0, ix_p0, ix_1lt, ix_lt1, ix_1le, ix_le1, ix_le0, ix_0lt, ab_z0, ab_z1, ab_zt, ab_zf, ab_ozn, ab_ozp, ab_o_some, not_true_eq_false, not_false_eq_true, Bool.not_eq_false, Bool.not_eq_true, Bool.not_eq_false', Bool.not_eq_true', Bool.false_eq_true, Bool.true_eq_false, reduceCtorEq, Option.isSome_some, Option.isSome_none, r44, r45, r46, r47, r48, r49, r50, r51, r52, r53, r54, r55, r56, r57, r58, r59, r60, r61, g0, g2, g6, g16, hx]; with_reducible refine vp_in_nI ?_ ?_ <;> omega)) ?_ | refine r_noModule hω R ?_ | refine ab_sd ?_ ?_ | refine ab_sz (Or.inl rfl) ?_ | refine ab_sz (Or.inr rfl) ?_ | refine ab_sz ?_ ?_)
    · have h : ¬ s_nP S = 10 := h
      simp only [h, if_true, if_false, not_false_eq_true, and_self] at hQ
      show Q _ _
      simp (disch := omega) only [mi_eq, mi_ne, g2, nI_clamp, nI_1]
      exact q_of (hQ _ (rep_u (rep_u (k := 45) (j := s_nP S) (v := m) R rfl (by omega)) (k := 43) (j := 2) rfl (by omega)) ((SameC.rf.mi (by omega)).mi (by omega)) ((SameK.rf.mi (by omega) (by omega) (by omega)).mi (by omega) (by omega) (by omega))) (by simp [nI_pred])
    · have h : s_nP S = 10 := h
      simp only [h, if_true, not_true_eq_false, and_false, if_false] at hQ
      exact hQ μ R SameC.rf SameK.rf
theorem r_export (hω : ω.2.2.2 = ab_SH) (R : RepR S μ) (hW : Wf S) {x y : Int32} (hQ : ∀ μ', RepR (o_export S x y) μ' → SameC μ μ' → SameK μ μ' → Q (a_export S x y) μ') : ab_CI l ω mX11_export [.ref 43, .int x, .int y] μ Q := by
  refine ab_intro (sh := ab_SH) (cd := kX11_export) hω vX11_export (by decide +kernel) rfl (Nat.le_of_ble_eq_true rfl) (fun j hj hw => ?_)
  obtain ⟨r44, r45, r46, r47, r48, r49, r50, r51, r52, r53, r54, r55, r56, r57, r58, r59, r60, r61, g0, g2, g6, g16⟩ := RepR_fs R
  have hM := hW.1.2
  have hP := hW.2.1.2
  cases hx : ab_ok (s_nP S) x && (y == -1 || ab_ok (s_nM S) y) with
  | false =>
    have e1 : a_export S x y = -1 := by simp [a_export, hx]
    have e2 : o_export S x y = S := by simp [o_export, e1]
    rw [e1, e2] at hQ
    have hQ := hQ μ R SameC.rf SameK.rf
    repeat' (first | refine hj _ _ _ _ ?_ | (refine br_c (fun h => ?_) (fun h => ?_) <;> (try simp (disch := omega) only [nI_clamp, li_2, li_3, li_4, li_5, li_6, li_7, li_8, li_9, li_10, li_40, li_120, pk_mul, nI_add, nI_1, ix_eq, ix_lt, ix_le, ix_l0, ix_l1, ix_n0, ix_p0, ix_1lt, ix_lt1, ix_1le, ix_le1, ix_le0, ix_0lt, ab_z0, ab_z1, ab_zt, ab_zf, ab_ozn, ab_ozp, ab_o_some, not_true_eq_false, not_false_eq_true, Bool.not_eq_false, Bool.not_eq_true, Bool.not_eq_false', Bool.not_eq_true', Bool.false_eq_true, Bool.true_eq_false, reduceCtorEq, Option.isSome_some, Option.isSome_none, r44, r45, r46, r47, r48, r49, r50, r51, r52, r53, r54, r55, r56, r57, r58, r59, r60, r61, g0, g2, g6, g16] at h)) | (refine br_n (fun h => ?_) (fun h => ?_) <;> (try simp (disch := omega) only [nI_clamp, li_2, li_3, li_4, li_5, li_6, li_7, li_8, li_9, li_10, li_40, li_120, pk_mul, nI_add, nI_1, ix_eq, ix_lt, ix_le, ix_l0, ix_l1, ix_n0, ix_p0, ix_1lt, ix_lt1, ix_1le, ix_le1, ix_le0, ix_0lt, ab_z0, ab_z1, ab_zt, ab_zf, ab_ozn, ab_ozp, ab_o_some, not_true_eq_false, not_false_eq_true, Bool.not_eq_false, Bool.not_eq_true, Bool.not_eq_false', Bool.not_eq_true', Bool.false_eq_true, Bool.true_eq_false, reduceCtorEq, Option.isSome_some, Option.isSome_none, r44, r45, r46, r47, r48, r49, r50, r51, r52, r53, r54, r55, r56, r57, r58, r59, r60, r61, g0, g2, g6, g16] at h)) | refine ab_sd (by first | (with_reducible refine vp_in_nI ?_ ?_ <;> omega) | (simp (disch := omega) only [nI_clamp, li_2, li_3, li_4, li_5, li_6, li_7, li_8, li_9, li_10, li_40, li_120, pk_mul, nI_add, nI_1, ix_eq, ix_lt, ix_le, ix_l0, ix_l1, ix_n0, ix_p0, ix_1lt, ix_lt1, ix_1le, ix_le1, ix_le0, ix_0lt, ab_z0, ab_z1, ab_zt, ab_zf, ab_ozn, ab_ozp, ab_o_some, not_true_eq_false, not_false_eq_true, Bool.not_eq_false, Bool.not_eq_true, Bool.not_eq_false', Bool.not_eq_true', Bool.false_eq_true, Bool.true_eq_false, reduceCtorEq, Option.isSome_some, Option.isSome_none, r44, r45, r46, r47, r48, r49, r50, r51, r52, r53, r54, r55, r56, r57, r58, r59, r60, r61, g0, g2, g6, g16]; with_reducible refine vp_in_nI ?_ ?_ <;> omega)) ?_ | refine r_noModule hω R ?_ | refine r_noPack hω R ?_ | refine ab_sd ?_ ?_ | refine ab_sz (Or.inl rfl) ?_ | refine ab_sz (Or.inr rfl) ?_ | refine ab_sz ?_ ?_)
    all_goals first | exact hQ | (exfalso; simp [*] at hx; done)
  | true =>
    have hxy : ab_ok (s_nP S) x = true ∧ (y = -1 ∨ ab_ok (s_nM S) y = true) := by simpa using hx
    obtain ⟨hx1, hy1⟩ := hxy
    obtain ⟨p, hp, rfl⟩ := ab_ok_t (by omega) hx1
    have c1 : (nI p).toNatClampNeg = p := nI_clamp (by omega)
    rcases hy1 with rfl | hy1
    · have e1 : a_export S (nI p) (-1) = if S.2.1 47 p = true then 0 else 1 := by simp [a_export, hx1, c1]
      have e2 : o_export S (nI p) (-1) = if S.2.1 47 p = true then S else s_ub S 47 p true := by
        unfold o_export
        rw [e1, c1]
        by_cases hc : S.2.1 47 p = true <;> simp [hc]
      rw [e1, e2] at hQ
      have c0 : ((-1 : Int32) < 0) ↔ True := by decide
      have c9 : ((0 : Int32) ≤ -1) ↔ False := by decide
      by_cases hc : S.2.1 47 p = true
      · rw [if_pos hc, if_pos hc] at hQ
        have hQ := hQ μ R SameC.rf SameK.rf
        repeat' (first | refine hj _ _ _ _ ?_ | (refine br_c (fun h => ?_) (fun h => ?_) <;> (try simp (disch := omega) only [nI_clamp, li_2, li_3, li_4, li_5, li_6, li_7, li_8, li_9, li_10, li_40, li_120, pk_mul, nI_add, nI_1, ix_eq, ix_lt, ix_le, ix_l0, ix_l1, ix_n0, ix_p0, ix_1lt, ix_lt1, ix_1le, ix_le1, ix_le0, ix_0lt, ab_z0, ab_z1, ab_zt, ab_zf, ab_ozn, ab_ozp, ab_o_some, not_true_eq_false, not_false_eq_true, Bool.not_eq_false, Bool.not_eq_true, Bool.not_eq_false', Bool.not_eq_true', Bool.false_eq_true, Bool.true_eq_false, reduceCtorEq, Option.isSome_some, Option.isSome_none, r44, r45, r46, r47, r48, r49, r50, r51, r52, r53, r54, r55, r56, r57, r58, r59, r60, r61, g0, g2, g6, g16, hx1, c0, c9, hc] at h)) | (refine br_n (fun h => ?_) (fun h => ?_) <;> (try simp (disch := omega) only [nI_clamp, li_2, li_3, li_4, li_5, li_6, li_7, li_8, li_9, li_10, li_40, li_120, pk_mul, nI_add, nI_1, ix_eq, ix_lt, ix_le, ix_l0, ix_l1, ix_n0, ix_p0, ix_1lt, ix_lt1, ix_1le, ix_le1, ix_le0, ix_0lt, ab_z0, ab_z1, ab_zt, ab_zf, ab_ozn, ab_ozp, ab_o_some, not_true_eq_false, not_false_eq_true, Bool.not_eq_false, Bool.not_eq_true, Bool.not_eq_false', Bool.not_eq_true', Bool.false_eq_true, Bool.true_eq_false, reduceCtorEq, Option.isSome_some, Option.isSome_none, r44, r45, r46, r47, r48, r49, r50, r51, r52, r53, r54, r55, r56, r57, r58, r59, r60, r61, g0, g2, g6, g16, hx1, c0, c9, hc] at h)) | refine ab_sd (by first | (with_reducible refine vp_in_nI ?_ ?_ <;> omega) | (simp (disch := omega) only [nI_clamp, li_2, li_3, li_4, li_5, li_6, li_7, li_8, li_9, li_10, li_40, li_120, pk_mul, nI_add, nI_1, ix_eq, ix_lt, ix_le, ix_l0, ix_l1, ix_n0, ix_p0, ix_1lt, ix_lt1, ix_1le, ix_le1, ix_le0, ix_0lt, ab_z0, ab_z1, ab_zt, ab_zf, ab_ozn, ab_ozp, ab_o_some, not_true_eq_false, not_false_eq_true, Bool.not_eq_false, Bool.not_eq_true, Bool.not_eq_false', Bool.not_eq_true', Bool.false_eq_true, Bool.true_eq_false, reduceCtorEq, Option.isSome_some, Option.isSome_none, r44, r45, r46, r47, r48, r49, r50, r51, r52, r53, r54, r55, r56, r57, r58, r59, r60, r61, g0, g2, g6, g16, hx1, c0, c9, hc]; with_reducible refine vp_in_nI ?_ ?_ <;> omega)) ?_ | refine r_noModule hω R ?_ | refine r_noPack hω R ?_ | refine ab_sd ?_ ?_ | refine ab_sz (Or.inl rfl) ?_ | refine ab_sz (Or.inr rfl) ?_ | refine ab_sz ?_ ?_)
        all_goals first | exact hQ | (exfalso; clear hj hw hQ; simp_all; done)
      · rw [if_neg hc, if_neg hc] at hQ
        have hQ := hQ _ (rep_ub (k := 47) (j := p) (v := true) R rfl) (SameC.rf.mi (by omega)) (SameK.rf.mi (by omega) (by omega) (by omega))
        repeat' (first | refine hj _ _ _ _ ?_ | (refine br_c (fun h => ?_) (fun h => ?_) <;> (try simp (disch := omega) only [nI_clamp, li_2, li_3, li_4, li_5, li_6, li_7, li_8, li_9, li_10, li_40, li_120, pk_mul, nI_add, nI_1, ix_eq, ix_lt, ix_le, ix_l0, ix_l1, ix_n0, ix_p0, ix_1lt, ix_lt1, ix_1le, ix_le1, ix_le0, ix_0lt, ab_z0, ab_z1, ab_zt, ab_zf, ab_ozn, ab_ozp, ab_o_some, not_true_eq_false, not_false_eq_true, Bool.not_eq_false, Bool.not_eq_true, Bool.not_eq_false', Bool.not_eq_true', Bool.false_eq_true, Bool.true_eq_false, reduceCtorEq, Option.isSome_some, Option.isSome_none, r44, r45, r46, r47, r48, r49, r50, r51, r52, r53, r54, r55, r56, r57, r58, r59, r60, r61, g0, g2, g6, g16, hx1, c0, c9, hc] at h)) | (refine br_n (fun h => ?_) (fun h => ?_) <;> (try simp (disch := omega) only [nI_clamp, li_2, li_3, li_4, li_5, li_6, li_7, li_8, li_9, li_10, li_40, li_120, pk_mul, nI_add, nI_1, ix_eq, ix_lt, ix_le, ix_l0, ix_l1, ix_n0, ix_p0, ix_1lt, ix_lt1, ix_1le, ix_le1, ix_le0, ix_0lt, ab_z0, ab_z1, ab_zt, ab_zf, ab_ozn, ab_ozp, ab_o_some, not_true_eq_false, not_false_eq_true, Bool.not_eq_false, Bool.not_eq_true, Bool.not_eq_false', Bool.not_eq_true', Bool.false_eq_true, Bool.true_eq_false, reduceCtorEq, Option.isSome_some, Option.isSome_none, r44, r45, r46, r47, r48, r49, r50, r51, r52, r53, r54, r55, r56, r57, r58, r59, r60, r61, g0, g2, g6, g16, hx1, c0, c9, hc] at h)) | refine ab_sd (by first | (with_reducible refine vp_in_nI ?_ ?_ <;> omega) | (simp (disch := omega) only [nI_clamp, li_2, li_3, li_4, li_5, li_6, li_7, li_8, li_9, li_10, li_40, li_120, pk_mul, nI_add, nI_1, ix_eq, ix_lt, ix_le, ix_l0, ix_l1, ix_n0, ix_p0, ix_1lt, ix_lt1, ix_1le, ix_le1, ix_le0, ix_0lt, ab_z0, ab_z1, ab_zt, ab_zf, ab_ozn, ab_ozp, ab_o_some, not_true_eq_false, not_false_eq_true, Bool.not_eq_false, Bool.not_eq_true, Bool.not_eq_false', Bool.not_eq_true', Bool.false_eq_true, Bool.true_eq_false, reduceCtorEq, Option.isSome_some, Option.isSome_none, r44, r45, r46, r47, r48, r49, r50, r51, r52, r53, r54, r55, r56, r57, r58, r59, r60, r61, g0, g2, g6, g16, hx1, c0, c9, hc]; with_reducible refine vp_in_nI ?_ ?_ <;> omega)) ?_ | refine r_noModule hω R ?_ | refine r_noPack hω R ?_ | refine ab_sd ?_ ?_ | refine ab_sz (Or.inl rfl) ?_ | refine ab_sz (Or.inr rfl) ?_ | refine ab_sz ?_ ?_)
        show Q _ _
        rw [c1]
        exact hQ
    · obtain ⟨m, hm, rfl⟩ := ab_ok_t (by omega) hy1
      have c2 : (nI m).toNatClampNeg = m := nI_clamp (by omega)
      have c3 : ¬ nI m = -1 := fun q => by have := nI_pos (n := m) (by omega); rw [q] at this; exact this (by decide)
      have e1 : a_export S (nI p) (nI m) = if S.2.1 47 p = true ∨ S.2.1 46 (6 * p + m) = true then 0 else 1 := by simp [a_export, hx1, hy1, c1, c2, c3]
      have e2 : o_export S (nI p) (nI m) = if S.2.1 47 p = true ∨ S.2.1 46 (6 * p + m) = true then S else s_ub S 46 (6 * p + m) true := by
        unfold o_export
        rw [e1, c1, c2]
        by_cases hc : S.2.1 47 p = true ∨ S.2.1 46 (6 * p + m) = true <;> simp [hc, c3]
      rw [e1, e2] at hQ
      by_cases hc : S.2.1 47 p = true ∨ S.2.1 46 (6 * p + m) = true
      · rw [if_pos hc, if_pos hc] at hQ
        have hQ := hQ μ R SameC.rf SameK.rf
        repeat' (first | refine hj _ _ _ _ ?_ | (refine br_c (fun h => ?_) (fun h => ?_) <;> (try simp (disch := omega) only [nI_clamp, li_2, li_3, li_4, li_5, li_6, li_7, li_8, li_9, li_10, li_40, li_120, pk_mul, nI_add, nI_1, ix_eq, ix_lt, ix_le, ix_l0, ix_l1, ix_n0, ix_p0, ix_1lt, ix_lt1, ix_1le, ix_le1, ix_le0, ix_0lt, ab_z0, ab_z1, ab_zt, ab_zf, ab_ozn, ab_ozp, ab_o_some, not_true_eq_false, not_false_eq_true, Bool.not_eq_false, Bool.not_eq_true, Bool.not_eq_false', Bool.not_eq_true', Bool.false_eq_true, Bool.true_eq_false, reduceCtorEq, Option.isSome_some, Option.isSome_none, r44, r45, r46, r47, r48, r49, r50, r51, r52, r53, r54, r55, r56, r57, r58, r59, r60, r61, g0, g2, g6, g16, hx1, hy1, c3] at h)) | (refine br_n (fun h => ?_) (fun h => ?_) <;> (try simp (disch := omega) only [nI_clamp, li_2, li_3, li_4, li_5, li_6, li_7, li_8, li_9, li_10, li_40, li_120, pk_mul, nI_add, nI_1, ix_eq, ix_lt, ix_le, ix_l0, ix_l1, ix_n0, ix_p0, ix_1lt, ix_lt1, ix_1le, ix_le1, ix_le0, ix_0lt, ab_z0, ab_z1, ab_zt, ab_zf, ab_ozn, ab_ozp, ab_o_some, not_true_eq_false, not_false_eq_true, Bool.not_eq_false, Bool.not_eq_true, Bool.not_eq_false', Bool.not_eq_true', Bool.false_eq_true, Bool.true_eq_false, reduceCtorEq, Option.isSome_some, Option.isSome_none, r44, r45, r46, r47, r48, r49, r50, r51, r52, r53, r54, r55, r56, r57, r58, r59, r60, r61, g0, g2, g6, g16, hx1, hy1, c3] at h)) | refine ab_sd (by first | (with_reducible refine vp_in_nI ?_ ?_ <;> omega) | (simp (disch := omega) only [nI_clamp, li_2, li_3, li_4, li_5, li_6, li_7, li_8, li_9, li_10, li_40, li_120, pk_mul, nI_add, nI_1, ix_eq, ix_lt, ix_le, ix_l0, ix_l1, ix_n0, ix_p0, ix_1lt, ix_lt1, ix_1le, ix_le1, ix_le0, ix_0lt, ab_z0, ab_z1, ab_zt, ab_zf, ab_ozn, ab_ozp, ab_o_some, not_true_eq_false, not_false_eq_true, Bool.not_eq_false, Bool.not_eq_true, Bool.not_eq_false', Bool.not_eq_true', Bool.false_eq_true, Bool.true_eq_false, reduceCtorEq, Option.isSome_some, Option.isSome_none, r44, r45, r46, r47, r48, r49, r50, r51, r52, r53, r54, r55, r56, r57, r58, r59, r60, r61, g0, g2, g6, g16, hx1, hy1, c3]; with_reducible refine vp_in_nI ?_ ?_ <;> omega)) ?_ | refine r_noModule hω R ?_ | refine r_noPack hω R ?_ | refine ab_sd ?_ ?_ | refine ab_sz (Or.inl rfl) ?_ | refine ab_sz (Or.inr rfl) ?_ | refine ab_sz ?_ ?_)
        all_goals first | exact hQ | (exfalso; clear hj hw hQ; grind)
      · rw [if_neg hc, if_neg hc] at hQ
        have hQ := hQ _ (rep_ub (k := 46) (j := 6 * p + m) (v := true) R rfl) (SameC.rf.mi (by omega)) (SameK.rf.mi (by omega) (by omega) (by omega))
        repeat' (first | refine hj _ _ _ _ ?_ | (refine br_c (fun h => ?_) (fun h => ?_) <;> (try simp (disch := omega) only [nI_clamp, li_2, li_3, li_4, li_5, li_6, li_7, li_8, li_9, li_10, li_40, li_120, pk_mul, nI_add, nI_1, ix_eq, ix_lt, ix_le, ix_l0, ix_l1, ix_n0, ix_p0, ix_1lt, ix_lt1, ix_1le, ix_le1, ix_le0, ix_0lt, ab_z0, ab_z1, ab_zt, ab_zf, ab_ozn, ab_ozp, ab_o_some, not_true_eq_false, not_false_eq_true, Bool.not_eq_false, Bool.not_eq_true, Bool.not_eq_false', Bool.not_eq_true', Bool.false_eq_true, Bool.true_eq_false, reduceCtorEq, Option.isSome_some, Option.isSome_none, r44, r45, r46, r47, r48, r49, r50, r51, r52, r53, r54, r55, r56, r57, r58, r59, r60, r61, g0, g2, g6, g16, hx1, hy1, c3] at h)) | (refine br_n (fun h => ?_) (fun h => ?_) <;> (try simp (disch := omega) only [nI_clamp, li_2, li_3, li_4, li_5, li_6, li_7, li_8, li_9, li_10, li_40, li_120, pk_mul, nI_add, nI_1, ix_eq, ix_lt, ix_le, ix_l0, ix_l1, ix_n0, ix_p0, ix_1lt, ix_lt1, ix_1le, ix_le1, ix_le0, ix_0lt, ab_z0, ab_z1, ab_zt, ab_zf, ab_ozn, ab_ozp, ab_o_some, not_true_eq_false, not_false_eq_true, Bool.not_eq_false, Bool.not_eq_true, Bool.not_eq_false', Bool.not_eq_true', Bool.false_eq_true, Bool.true_eq_false, reduceCtorEq, Option.isSome_some, Option.isSome_none, r44, r45, r46, r47, r48, r49, r50, r51, r52, r53, r54, r55, r56, r57, r58, r59, r60, r61, g0, g2, g6, g16, hx1, hy1, c3] at h)) | refine ab_sd (by first | (with_reducible refine vp_in_nI ?_ ?_ <;> omega) | (simp (disch := omega) only [nI_clamp, li_2, li_3, li_4, li_5, li_6, li_7, li_8, li_9, li_10, li_40, li_120, pk_mul, nI_add, nI_1, ix_eq, ix_lt, ix_le, ix_l0, ix_l1, ix_n0, ix_p0, ix_1lt, ix_lt1, ix_1le, ix_le1, ix_le0, ix_0lt, ab_z0, ab_z1, ab_zt, ab_zf, ab_ozn, ab_ozp, ab_o_some, not_true_eq_false, not_false_eq_true, Bool.not_eq_false, Bool.not_eq_true, Bool.not_eq_false', Bool.not_eq_true', Bool.false_eq_true, Bool.true_eq_false, reduceCtorEq, Option.isSome_some, Option.isSome_none, r44, r45, r46, r47, r48, r49, r50, r51, r52, r53, r54, r55, r56, r57, r58, r59, r60, r61, g0, g2, g6, g16, hx1, hy1, c3]; with_reducible refine vp_in_nI ?_ ?_ <;> omega)) ?_ | refine r_noModule hω R ?_ | refine r_noPack hω R ?_ | refine ab_sd ?_ ?_ | refine ab_sz (Or.inl rfl) ?_ | refine ab_sz (Or.inr rfl) ?_ | refine ab_sz ?_ ?_)
        all_goals first | (show Q _ _; rw [ix_6, nI_clamp (by omega)]; exact hQ) | (exfalso; clear hj hw hQ; grind)
theorem r_count (hω : ω.2.2.2 = ab_SH) (R : RepR S μ) {x : Int32} (hQ : Q (a_count S x) μ) : ab_CI l ω mX11_count [.ref 43, .int x] μ Q := by
  refine ab_intro (sh := ab_SH) (cd := kX11_count) hω vX11_count (by decide +kernel) rfl (Nat.le_of_ble_eq_true rfl) (fun j hj hw => ?_)
  obtain ⟨g0, g2, g6, g16⟩ : μ.1 43 0 = nI (s_nM S) ∧ μ.1 43 2 = nI (s_nP S) ∧ μ.1 43 6 = nI (s_nT S) ∧ μ.1 43 16 = nI (s_nX S) := ⟨R.1 43 0 rfl, R.1 43 2 rfl, R.1 43 6 rfl, R.1 43 16 rfl⟩
  repeat' (first | refine hj _ _ _ _ ?_ | refine br_c (fun h => ?_) (fun h => ?_) | refine br_n (fun h => ?_) (fun h => ?_))
  all_goals (refine q_of hQ ?_; unfold a_count; simp [*])
theorem r_below (hω : ω.2.2.2 = ab_SH) (R : RepR S μ) (hW : Wf S) {x y : Int32} (hQ : Q (a_below S x y) μ) : ab_CI l ω mX11_below [.ref 43, .int x, .int y] μ Q := by
  refine ab_intro (sh := ab_SH) (cd := kX11_below) hω vX11_below (by decide +kernel) rfl (Nat.le_of_ble_eq_true rfl) (fun j hj hw => ?_)
  have hT := hW.2.2.1.2
  obtain ⟨r44, r45, r46, r47, r48, r49, r50, r51, r52, r53, r54, r55, r56, r57, r58, r59, r60, r61, g0, g2, g6, g16⟩ := RepR_fs R
  unfold a_below at hQ
  cases hx : ab_ok (s_nT S) x with
  | false =>
    rw [hx] at hQ
    repeat' (first | refine hj _ _ _ _ ?_ | (refine br_c (fun h => ?_) (fun h => ?_) <;> (try simp (disch := omega) only [nI_clamp, li_2, li_3, li_4, li_5, li_6, li_7, li_8, li_9, li_10, li_40, li_120, pk_mul, nI_add, nI_1, ix_eq, ix_lt, ix_le, ix_l0, ix_l1, ix_n0, ix_p0, ix_1lt, ix_lt1, ix_1le, ix_le1, ix_le0, ix_0lt, ab_z0, ab_z1, ab_zt, ab_zf, ab_ozn, ab_ozp, ab_o_some, not_true_eq_false, not_false_eq_true, Bool.not_eq_false, Bool.not_eq_true, Bool.not_eq_false', Bool.not_eq_true', Bool.false_eq_true, Bool.true_eq_false, reduceCtorEq, Option.isSome_some, Option.isSome_none, r44, r45, r46, r47, r48, r49, r50, r51, r52, r53, r54, r55, r56, r57, r58, r59, r60, r61, g0, g2, g6, g16, hx] at h)) | (refine br_n (fun h => ?_) (fun h => ?_) <;> (try simp (disch := omega) only [nI_clamp, li_2, li_3, li_4, li_5, li_6, li_7, li_8, li_9, li_10, li_40, li_120, pk_mul, nI_add, nI_1, ix_eq, ix_lt, ix_le, ix_l0, ix_l1, ix_n0, ix_p0, ix_1lt, ix_lt1, ix_1le, ix_le1, ix_le0, ix_0lt, ab_z0, ab_z1, ab_zt, ab_zf, ab_ozn, ab_ozp, ab_o_some, not_true_eq_false, not_false_eq_true, Bool.not_eq_false, Bool.not_eq_true, Bool.not_eq_false', Bool.not_eq_true', Bool.false_eq_true, Bool.true_eq_false, reduceCtorEq, Option.isSome_some, Option.isSome_none, r44, r45, r46, r47, r48, r49, r50, r51, r52, r53, r54, r55, r56, r57, r58, r59, r60, r61, g0, g2, g6, g16, hx] at h)) | refine ab_sd (by first | (with_reducible refine vp_in_nI ?_ ?_ <;> omega) | (simp (disch := omega) only [nI_clamp, li_2, li_3, li_4, li_5, li_6, li_7, li_8, li_9, li_10, li_40, li_120, pk_mul, nI_add, nI_1, ix_eq, ix_lt, ix_le, ix_l0, ix_l1, ix_n0, ix_p0, ix_1lt, ix_lt1, ix_1le, ix_le1, ix_le0, ix_0lt, ab_z0, ab_z1, ab_zt, ab_zf, ab_ozn, ab_ozp, ab_o_some, not_true_eq_false, not_false_eq_true, Bool.not_eq_false, Bool.not_eq_true, Bool.not_eq_false', Bool.not_eq_true', Bool.false_eq_true, Bool.true_eq_false, reduceCtorEq, Option.isSome_some, Option.isSome_none, r44, r45, r46, r47, r48, r49, r50, r51, r52, r53, r54, r55, r56, r57, r58, r59, r60, r61, g0, g2, g6, g16, hx]; with_reducible refine vp_in_nI ?_ ?_ <;> omega)) ?_ | refine r_noType hω R ?_ | refine ab_sd ?_ ?_ | refine ab_sz (Or.inl rfl) ?_ | refine ab_sz (Or.inr rfl) ?_ | refine ab_sz ?_ ?_)
    all_goals exact hQ
  | true =>
    obtain ⟨t, ht, rfl⟩ := ab_ok_t (by omega) hx
    cases hy : ab_ok (s_nT S) y with
    | false =>
      rw [hx, hy] at hQ
      repeat' (first | refine hj _ _ _ _ ?_ | (refine br_c (fun h => ?_) (fun h => ?_) <;> (try simp (disch := omega) only [nI_clamp, li_2, li_3, li_4, li_5, li_6, li_7, li_8, li_9, li_10, li_40, li_120, pk_mul, nI_add, nI_1, ix_eq, ix_lt, ix_le, ix_l0, ix_l1, ix_n0, ix_p0, ix_1lt, ix_lt1, ix_1le, ix_le1, ix_le0, ix_0lt, ab_z0, ab_z1, ab_zt, ab_zf, ab_ozn, ab_ozp, ab_o_some, not_true_eq_false, not_false_eq_true, Bool.not_eq_false, Bool.not_eq_true, Bool.not_eq_false', Bool.not_eq_true', Bool.false_eq_true, Bool.true_eq_false, reduceCtorEq, Option.isSome_some, Option.isSome_none, r44, r45, r46, r47, r48, r49, r50, r51, r52, r53, r54, r55, r56, r57, r58, r59, r60, r61, g0, g2, g6, g16, hx, hy] at h)) | (refine br_n (fun h => ?_) (fun h => ?_) <;> (try simp (disch := omega) only [nI_clamp, li_2, li_3, li_4, li_5, li_6, li_7, li_8, li_9, li_10, li_40, li_120, pk_mul, nI_add, nI_1, ix_eq, ix_lt, ix_le, ix_l0, ix_l1, ix_n0, ix_p0, ix_1lt, ix_lt1, ix_1le, ix_le1, ix_le0, ix_0lt, ab_z0, ab_z1, ab_zt, ab_zf, ab_ozn, ab_ozp, ab_o_some, not_true_eq_false, not_false_eq_true, Bool.not_eq_false, Bool.not_eq_true, Bool.not_eq_false', Bool.not_eq_true', Bool.false_eq_true, Bool.true_eq_false, reduceCtorEq, Option.isSome_some, Option.isSome_none, r44, r45, r46, r47, r48, r49, r50, r51, r52, r53, r54, r55, r56, r57, r58, r59, r60, r61, g0, g2, g6, g16, hx, hy] at h)) | refine ab_sd (by first | (with_reducible refine vp_in_nI ?_ ?_ <;> omega) | (simp (disch := omega) only [nI_clamp, li_2, li_3, li_4, li_5, li_6, li_7, li_8, li_9, li_10, li_40, li_120, pk_mul, nI_add, nI_1, ix_eq, ix_lt, ix_le, ix_l0, ix_l1, ix_n0, ix_p0, ix_1lt, ix_lt1, ix_1le, ix_le1, ix_le0, ix_0lt, ab_z0, ab_z1, ab_zt, ab_zf, ab_ozn, ab_ozp, ab_o_some, not_true_eq_false, not_false_eq_true, Bool.not_eq_false, Bool.not_eq_true, Bool.not_eq_false', Bool.not_eq_true', Bool.false_eq_true, Bool.true_eq_false, reduceCtorEq, Option.isSome_some, Option.isSome_none, r44, r45, r46, r47, r48, r49, r50, r51, r52, r53, r54, r55, r56, r57, r58, r59, r60, r61, g0, g2, g6, g16, hx, hy]; with_reducible refine vp_in_nI ?_ ?_ <;> omega)) ?_ | refine r_noType hω R ?_ | refine ab_sd ?_ ?_ | refine ab_sz (Or.inl rfl) ?_ | refine ab_sz (Or.inr rfl) ?_ | refine ab_sz ?_ ?_)
      all_goals exact hQ
    | true =>
      obtain ⟨u, hu, rfl⟩ := ab_ok_t (by omega) hy
      rw [hx, hy, nI_clamp (by omega), nI_clamp (by omega)] at hQ
      simp only [Bool.and_self, if_true] at hQ
      repeat' (first | refine hj _ _ _ _ ?_ | (refine br_c (fun h => ?_) (fun h => ?_) <;> (try simp (disch := omega) only [nI_clamp, li_2, li_3, li_4, li_5, li_6, li_7, li_8, li_9, li_10, li_40, li_120, pk_mul, nI_add, nI_1, ix_eq, ix_lt, ix_le, ix_l0, ix_l1, ix_n0, ix_p0, ix_1lt, ix_lt1, ix_1le, ix_le1, ix_le0, ix_0lt, ab_z0, ab_z1, ab_zt, ab_zf, ab_ozn, ab_ozp, ab_o_some, not_true_eq_false, not_false_eq_true, Bool.not_eq_false, Bool.not_eq_true, Bool.not_eq_false', Bool.not_eq_true', Bool.false_eq_true, Bool.true_eq_false, reduceCtorEq, Option.isSome_some, Option.isSome_none, r44, r45, r46, r47, r48, r49, r50, r51, r52, r53, r54, r55, r56, r57, r58, r59, r60, r61, g0, g2, g6, g16, hx, hy] at h)) | (refine br_n (fun h => ?_) (fun h => ?_) <;> (try simp (disch := omega) only [nI_clamp, li_2, li_3, li_4, li_5, li_6, li_7, li_8, li_9, li_10, li_40, li_120, pk_mul, nI_add, nI_1, ix_eq, ix_lt, ix_le, ix_l0, ix_l1, ix_n0, ix_p0, ix_1lt, ix_lt1, ix_1le, ix_le1, ix_le0, ix_0lt, ab_z0, ab_z1, ab_zt, ab_zf, ab_ozn, ab_ozp, ab_o_some, not_true_eq_false, not_false_eq_true, Bool.not_eq_false, Bool.not_eq_true, Bool.not_eq_false', Bool.not_eq_true', Bool.false_eq_true, Bool.true_eq_false, reduceCtorEq, Option.isSome_some, Option.isSome_none, r44, r45, r46, r47, r48, r49, r50, r51, r52, r53, r54, r55, r56, r57, r58, r59, r60, r61, g0, g2, g6, g16, hx, hy] at h)) | refine ab_sd (by first | (with_reducible refine vp_in_nI ?_ ?_ <;> omega) | (simp (disch := omega) only [nI_clamp, li_2, li_3, li_4, li_5, li_6, li_7, li_8, li_9, li_10, li_40, li_120, pk_mul, nI_add, nI_1, ix_eq, ix_lt, ix_le, ix_l0, ix_l1, ix_n0, ix_p0, ix_1lt, ix_lt1, ix_1le, ix_le1, ix_le0, ix_0lt, ab_z0, ab_z1, ab_zt, ab_zf, ab_ozn, ab_ozp, ab_o_some, not_true_eq_false, not_false_eq_true, Bool.not_eq_false, Bool.not_eq_true, Bool.not_eq_false', Bool.not_eq_true', Bool.false_eq_true, Bool.true_eq_false, reduceCtorEq, Option.isSome_some, Option.isSome_none, r44, r45, r46, r47, r48, r49, r50, r51, r52, r53, r54, r55, r56, r57, r58, r59, r60, r61, g0, g2, g6, g16, hx, hy]; with_reducible refine vp_in_nI ?_ ?_ <;> omega)) ?_ | refine r_noType hω R ?_ | refine r_isBelow hω R rfl rfl (by omega) (by omega) ?_ | refine ab_sd ?_ ?_ | refine ab_sz (Or.inl rfl) ?_ | refine ab_sz (Or.inr rfl) ?_ | refine ab_sz ?_ ?_)
      all_goals exact q_of hQ (by simp [*, ab_z])
theorem r_open (hω : ω.2.2.2 = ab_SH) (R : RepR S μ) (hW : Wf S) {x y : Int32} (hQ : Q (a_open S x y) μ) : ab_CI l ω mX11_open [.ref 43, .int x, .int y] μ Q := by
  refine ab_intro (sh := ab_SH) (cd := kX11_open) hω vX11_open (by decide +kernel) rfl (Nat.le_of_ble_eq_true rfl) (fun j hj hw => ?_)
  have hT := hW.2.2.1.2
  obtain ⟨r44, r45, r46, r47, r48, r49, r50, r51, r52, r53, r54, r55, r56, r57, r58, r59, r60, r61, g0, g2, g6, g16⟩ := RepR_fs R
  unfold a_open at hQ
  cases hx : ab_ok (s_nT S) x with
  | false =>
    rw [hx] at hQ
    repeat' (first | refine hj _ _ _ _ ?_ | (refine br_c (fun h => ?_) (fun h => ?_) <;> (try simp (disch := omega) only [nI_clamp, li_2, li_3, li_4, li_5, li_6, li_7, li_8, li_9, li_10, li_40, li_120, pk_mul, nI_add, nI_1, ix_eq, ix_lt, ix_le, ix_l0, ix_l1, ix_n0, ix_p0, ix_1lt, ix_lt1, ix_1le, ix_le1, ix_le0, ix_0lt, ab_z0, ab_z1, ab_zt, ab_zf, ab_ozn, ab_ozp, ab_o_some, not_true_eq_false, not_false_eq_true, Bool.not_eq_false, Bool.not_eq_true, Bool.not_eq_false', Bool.not_eq_true', Bool.false_eq_true, Bool.true_eq_false, reduceCtorEq, Option.isSome_some, Option.isSome_none, r44, r45, r46, r47, r48, r49, r50, r51, r52, r53, r54, r55, r56, r57, r58, r59, r60, r61, g0, g2, g6, g16, hx] at h)) | (refine br_n (fun h => ?_) (fun h => ?_) <;> (try simp (disch := omega) only [nI_clamp, li_2, li_3, li_4, li_5, li_6, li_7, li_8, li_9, li_10, li_40, li_120, pk_mul, nI_add, nI_1, ix_eq, ix_lt, ix_le, ix_l0, ix_l1, ix_n0, ix_p0, ix_1lt, ix_lt1, ix_1le, ix_le1, ix_le0, ix_0lt, ab_z0, ab_z1, ab_zt, ab_zf, ab_ozn, ab_ozp, ab_o_some, not_true_eq_false, not_false_eq_true, Bool.not_eq_false, Bool.not_eq_true, Bool.not_eq_false', Bool.not_eq_true', Bool.false_eq_true, Bool.true_eq_false, reduceCtorEq, Option.isSome_some, Option.isSome_none, r44, r45, r46, r47, r48, r49, r50, r51, r52, r53, r54, r55, r56, r57, r58, r59, r60, r61, g0, g2, g6, g16, hx] at h)) | refine ab_sd (by first | (with_reducible refine vp_in_nI ?_ ?_ <;> omega) | (simp (disch := omega) only [nI_clamp, li_2, li_3, li_4, li_5, li_6, li_7, li_8, li_9, li_10, li_40, li_120, pk_mul, nI_add, nI_1, ix_eq, ix_lt, ix_le, ix_l0, ix_l1, ix_n0, ix_p0, ix_1lt, ix_lt1, ix_1le, ix_le1, ix_le0, ix_0lt, ab_z0, ab_z1, ab_zt, ab_zf, ab_ozn, ab_ozp, ab_o_some, not_true_eq_false, not_false_eq_true, Bool.not_eq_false, Bool.not_eq_true, Bool.not_eq_false', Bool.not_eq_true', Bool.false_eq_true, Bool.true_eq_false, reduceCtorEq, Option.isSome_some, Option.isSome_none, r44, r45, r46, r47, r48, r49, r50, r51, r52, r53, r54, r55, r56, r57, r58, r59, r60, r61, g0, g2, g6, g16, hx]; with_reducible refine vp_in_nI ?_ ?_ <;> omega)) ?_ | refine r_noType hω R ?_ | refine ab_sd ?_ ?_ | refine ab_sz (Or.inl rfl) ?_ | refine ab_sz (Or.inr rfl) ?_ | refine ab_sz ?_ ?_)
    all_goals exact hQ
  | true =>
    obtain ⟨t, ht, rfl⟩ := ab_ok_t (by omega) hx
    cases hy : ab_ok (s_nT S) y with
    | false =>
      rw [hx, hy] at hQ
      repeat' (first | refine hj _ _ _ _ ?_ | (refine br_c (fun h => ?_) (fun h => ?_) <;> (try simp (disch := omega) only [nI_clamp, li_2, li_3, li_4, li_5, li_6, li_7, li_8, li_9, li_10, li_40, li_120, pk_mul, nI_add, nI_1, ix_eq, ix_lt, ix_le, ix_l0, ix_l1, ix_n0, ix_p0, ix_1lt, ix_lt1, ix_1le, ix_le1, ix_le0, ix_0lt, ab_z0, ab_z1, ab_zt, ab_zf, ab_ozn, ab_ozp, ab_o_some, not_true_eq_false, not_false_eq_true, Bool.not_eq_false, Bool.not_eq_true, Bool.not_eq_false', Bool.not_eq_true', Bool.false_eq_true, Bool.true_eq_false, reduceCtorEq, Option.isSome_some, Option.isSome_none, r44, r45, r46, r47, r48, r49, r50, r51, r52, r53, r54, r55, r56, r57, r58, r59, r60, r61, g0, g2, g6, g16, hx, hy] at h)) | (refine br_n (fun h => ?_) (fun h => ?_) <;> (try simp (disch := omega) only [nI_clamp, li_2, li_3, li_4, li_5, li_6, li_7, li_8, li_9, li_10, li_40, li_120, pk_mul, nI_add, nI_1, ix_eq, ix_lt, ix_le, ix_l0, ix_l1, ix_n0, ix_p0, ix_1lt, ix_lt1, ix_1le, ix_le1, ix_le0, ix_0lt, ab_z0, ab_z1, ab_zt, ab_zf, ab_ozn, ab_ozp, ab_o_some, not_true_eq_false, not_false_eq_true, Bool.not_eq_false, Bool.not_eq_true, Bool.not_eq_false', Bool.not_eq_true', Bool.false_eq_true, Bool.true_eq_false, reduceCtorEq, Option.isSome_some, Option.isSome_none, r44, r45, r46, r47, r48, r49, r50, r51, r52, r53, r54, r55, r56, r57, r58, r59, r60, r61, g0, g2, g6, g16, hx, hy] at h)) | refine ab_sd (by first | (with_reducible refine vp_in_nI ?_ ?_ <;> omega) | (simp (disch := omega) only [nI_clamp, li_2, li_3, li_4, li_5, li_6, li_7, li_8, li_9, li_10, li_40, li_120, pk_mul, nI_add, nI_1, ix_eq, ix_lt, ix_le, ix_l0, ix_l1, ix_n0, ix_p0, ix_1lt, ix_lt1, ix_1le, ix_le1, ix_le0, ix_0lt, ab_z0, ab_z1, ab_zt, ab_zf, ab_ozn, ab_ozp, ab_o_some, not_true_eq_false, not_false_eq_true, Bool.not_eq_false, Bool.not_eq_true, Bool.not_eq_false', Bool.not_eq_true', Bool.false_eq_true, Bool.true_eq_false, reduceCtorEq, Option.isSome_some, Option.isSome_none, r44, r45, r46, r47, r48, r49, r50, r51, r52, r53, r54, r55, r56, r57, r58, r59, r60, r61, g0, g2, g6, g16, hx, hy]; with_reducible refine vp_in_nI ?_ ?_ <;> omega)) ?_ | refine r_noType hω R ?_ | refine ab_sd ?_ ?_ | refine ab_sz (Or.inl rfl) ?_ | refine ab_sz (Or.inr rfl) ?_ | refine ab_sz ?_ ?_)
      all_goals exact hQ
    | true =>
      obtain ⟨u, hu, rfl⟩ := ab_ok_t (by omega) hy
      rw [hx, hy, nI_clamp (by omega), nI_clamp (by omega)] at hQ
      simp only [Bool.and_self, if_true] at hQ
      repeat' (first | refine hj _ _ _ _ ?_ | (refine br_c (fun h => ?_) (fun h => ?_) <;> (try simp (disch := omega) only [nI_clamp, li_2, li_3, li_4, li_5, li_6, li_7, li_8, li_9, li_10, li_40, li_120, pk_mul, nI_add, nI_1, ix_eq, ix_lt, ix_le, ix_l0, ix_l1, ix_n0, ix_p0, ix_1lt, ix_lt1, ix_1le, ix_le1, ix_le0, ix_0lt, ab_z0, ab_z1, ab_zt, ab_zf, ab_ozn, ab_ozp, ab_o_some, not_true_eq_false, not_false_eq_true, Bool.not_eq_false, Bool.not_eq_true, Bool.not_eq_false', Bool.not_eq_true', Bool.false_eq_true, Bool.true_eq_false, reduceCtorEq, Option.isSome_some, Option.isSome_none, r44, r45, r46, r47, r48, r49, r50, r51, r52, r53, r54, r55, r56, r57, r58, r59, r60, r61, g0, g2, g6, g16, hx, hy] at h)) | (refine br_n (fun h => ?_) (fun h => ?_) <;> (try simp (disch := omega) only [nI_clamp, li_2, li_3, li_4, li_5, li_6, li_7, li_8, li_9, li_10, li_40, li_120, pk_mul, nI_add, nI_1, ix_eq, ix_lt, ix_le, ix_l0, ix_l1, ix_n0, ix_p0, ix_1lt, ix_lt1, ix_1le, ix_le1, ix_le0, ix_0lt, ab_z0, ab_z1, ab_zt, ab_zf, ab_ozn, ab_ozp, ab_o_some, not_true_eq_false, not_false_eq_true, Bool.not_eq_false, Bool.not_eq_true, Bool.not_eq_false', Bool.not_eq_true', Bool.false_eq_true, Bool.true_eq_false, reduceCtorEq, Option.isSome_some, Option.isSome_none, r44, r45, r46, r47, r48, r49, r50, r51, r52, r53, r54, r55, r56, r57, r58, r59, r60, r61, g0, g2, g6, g16, hx, hy] at h)) | refine ab_sd (by first | (with_reducible refine vp_in_nI ?_ ?_ <;> omega) | (simp (disch := omega) only [nI_clamp, li_2, li_3, li_4, li_5, li_6, li_7, li_8, li_9, li_10, li_40, li_120, pk_mul, nI_add, nI_1, ix_eq, ix_lt, ix_le, ix_l0, ix_l1, ix_n0, ix_p0, ix_1lt, ix_lt1, ix_1le, ix_le1, ix_le0, ix_0lt, ab_z0, ab_z1, ab_zt, ab_zf, ab_ozn, ab_ozp, ab_o_some, not_true_eq_false, not_false_eq_true, Bool.not_eq_false, Bool.not_eq_true, Bool.not_eq_false', Bool.not_eq_true', Bool.false_eq_true, Bool.true_eq_false, reduceCtorEq, Option.isSome_some, Option.isSome_none, r44, r45, r46, r47, r48, r49, r50, r51, r52, r53, r54, r55, r56, r57, r58, r59, r60, r61, g0, g2, g6, g16, hx, hy]; with_reducible refine vp_in_nI ?_ ?_ <;> omega)) ?_ | refine r_noType hω R ?_ | refine r_isOpen hω R hW rfl rfl ht hu ?_ | refine ab_sd ?_ ?_ | refine ab_sz (Or.inl rfl) ?_ | refine ab_sz (Or.inr rfl) ?_ | refine ab_sz ?_ ?_)
      all_goals exact q_of hQ (by simp [*, ab_z])
end R4
end
section
/-! ABOVE grows -/
def s_w56 (S : sT) (f : Nat → Bool) : sT := (S.1, fun k j => if k = 56 then f j else S.2.1 k j, S.2.2)
def s_rsB (S : sT) (t a j : Nat) : Bool := S.2.1 56 j || (decide (j / 40 < s_nT S) && decide (j % 40 < s_nT S) && s_at S (j / 40) t && s_at S a (j % 40))
def s_raise (S : sT) (t a : Nat) : sT := s_w56 S (s_rsB S t a)
def s_fo (S : sT) (t a x j : Nat) : Bool := if j / 40 < x then s_rsB S t a j else S.2.1 56 j
def s_fi (S : sT) (t a x u j : Nat) : Bool := if j / 40 < x then s_rsB S t a j else if j / 40 = x then (S.2.1 56 j || (decide (j % 40 = a) || (decide (j % 40 < u) && S.2.1 56 (40 * a + j % 40)))) else S.2.1 56 j
theorem s_w56_up {S : sT} {f : Nat → Bool} {k : Nat} {v : Bool} {g : Nat → Bool} (h : ∀ j, g j = if j = k then v else f j) : s_ub (s_w56 S f) 56 k v = s_w56 S g := by
  unfold s_ub s_w56
  simp only [Prod.mk.injEq, true_and, and_true]
  funext a b
  by_cases ha : a = 56
  · subst ha
    simp only [true_and, if_true, h]
  · simp [ha]
theorem w_nT {S : sT} {f : Nat → Bool} : s_nT (s_w56 S f) = s_nT S := rfl
theorem w_nM {S : sT} {f : Nat → Bool} : s_nM (s_w56 S f) = s_nM S := rfl
theorem w_nP {S : sT} {f : Nat → Bool} : s_nP (s_w56 S f) = s_nP S := rfl
theorem w_nX {S : sT} {f : Nat → Bool} : s_nX (s_w56 S f) = s_nX S := rfl
theorem w_ou {S : sT} {f : Nat → Bool} {j : Nat} : s_ou (s_w56 S f) j = s_ou S j := rfl
theorem w_pa {S : sT} {f : Nat → Bool} {j : Nat} : s_pa (s_w56 S f) j = s_pa S j := rfl
theorem w_1 {S : sT} {f : Nat → Bool} : (s_w56 S f).1 = S.1 := rfl
theorem w_44 {S : sT} {f : Nat → Bool} {j : Nat} : (s_w56 S f).2.1 44 j = S.2.1 44 j := rfl
theorem w_46 {S : sT} {f : Nat → Bool} {j : Nat} : (s_w56 S f).2.1 46 j = S.2.1 46 j := rfl
theorem w_47 {S : sT} {f : Nat → Bool} {j : Nat} : (s_w56 S f).2.1 47 j = S.2.1 47 j := rfl
theorem w_56 {S : sT} {f : Nat → Bool} {j : Nat} : (s_w56 S f).2.1 56 j = f j := rfl
theorem s_w56_id {S : sT} {f : Nat → Bool} (h : ∀ j, f j = S.2.1 56 j) : s_w56 S f = S := by
  unfold s_w56
  have : (fun k j => if k = 56 then f j else S.2.1 k j) = S.2.1 := by
    funext k j
    by_cases hk : k = 56
    · subst hk; simp [h]
    · simp [hk]
  rw [this]
theorem s_w56_eq {S : sT} {f g : Nat → Bool} (h : ∀ j, f j = g j) : s_w56 S f = s_w56 S g := by
  rw [show f = g from funext h]
theorem s_fo_skip {S : sT} {t a x : Nat} (h : s_at S x t = false) (j : Nat) : s_fo S t a (x + 1) j = s_fo S t a x j := by
  unfold s_fo s_rsB
  by_cases h1 : j / 40 < x
  · simp [h1, show j / 40 < x + 1 by omega]
  · by_cases h2 : j / 40 = x
    · subst h2; simp [h]
    · simp [h1, show ¬ j / 40 < x + 1 by omega]
theorem s_fo_in {S : sT} {t a x : Nat} (hx : x < s_nT S) (ha : a < s_nT S) (h : s_at S x t = true) (j : Nat) : s_fo S t a (x + 1) j = s_fi S t a x (s_nT S) j := by
  unfold s_fo s_fi
  by_cases h1 : j / 40 < x
  · simp [h1, show j / 40 < x + 1 by omega]
  · by_cases h2 : j / 40 = x
    · subst h2
      simp only [Nat.lt_irrefl, if_false, if_true, show j / 40 < j / 40 + 1 by omega]
      unfold s_rsB
      rw [h]
      simp only [hx, decide_true, Bool.true_and, Bool.and_true]
      unfold s_at
      by_cases h3 : j % 40 = a
      · simp [h3, ha]
      · have h4 : ¬ a = j % 40 := fun q => h3 q.symm
        simp only [h3, decide_false, Bool.false_or, show (a == j % 40) = false by simp [h4]]
    · simp [h1, h2, show ¬ j / 40 < x + 1 by omega]
theorem s_fi_0 {S : sT} {t a x : Nat} (ha : a < 40) (j : Nat) : s_fi S t a x 0 j = if j = 40 * x + a then true else s_fo S t a x j := by
  unfold s_fi s_fo
  by_cases h0 : j = 40 * x + a
  · have e1 : j / 40 = x := by omega
    have e2 : j % 40 = a := by omega
    simp [h0, show (40 * x + a) / 40 = x by omega, show (40 * x + a) % 40 = a by omega]
  · rw [if_neg h0]
    by_cases h1 : j / 40 < x
    · simp [h1]
    · by_cases h2 : j / 40 = x
      · have : ¬ j % 40 = a := by omega
        simp [h2, this]
      · simp [h1, h2]
theorem s_fi_s {S : sT} {t a x u : Nat} (hu : u < 40) (j : Nat) : s_fi S t a x (u + 1) j = if j = 40 * x + u then (s_fi S t a x u (40 * x + u) || S.2.1 56 (40 * a + u)) else s_fi S t a x u j := by
  unfold s_fi
  by_cases h0 : j = 40 * x + u
  · subst h0
    simp only [show (40 * x + u) / 40 = x by omega, show (40 * x + u) % 40 = u by omega, Nat.lt_irrefl, if_false, if_true, Nat.lt_succ_self, decide_true, decide_false, Bool.true_and, Bool.false_and, Bool.or_false]
    cases S.2.1 56 (40 * x + u) <;> cases decide (u = a) <;> simp
  · rw [if_neg h0]
    by_cases h1 : j / 40 < x
    · simp [h1]
    · by_cases h2 : j / 40 = x
      · have : (j % 40 < u + 1) ↔ (j % 40 < u) := by omega
        simp [h2, this]
      · simp [h1, h2]
theorem s_fi_a {S : sT} {t a x u : Nat} (ha : s_at S a t = false) (hx : s_at S x t = true) (hu : u < 40) : s_fi S t a x u (40 * a + u) = S.2.1 56 (40 * a + u) := by
  have hax : a ≠ x := fun q => by rw [q, hx] at ha; cases ha
  unfold s_fi s_rsB
  simp [show (40 * a + u) / 40 = a by omega, show (40 * a + u) % 40 = u by omega, hax, ha]
section R5
variable {l : Launch} {ω : ab_W} {S : sT} {μ : ab_M}
set_option maxHeartbeats 2000000 in
theorem r_raise {Q : ab_M → Prop} (hω : ω.2.2.2 = ab_SH) (R : RepR S μ) (hT : s_nT S ≤ 40) {x y : Int32} {t a : Nat} (ex : x = nI t) (ey : y = nI a) (ht : t < s_nT S) (ha : a < s_nT S) (hat : s_at S a t = false) (hQ : ∀ μ', RepR (s_raise S t a) μ' → SameC μ μ' → μ'.1 43 22 = 0 → Q μ') : ab_CV l ω mX11_raise [.ref 43, .int x, .int y] μ Q := by
  subst ex ey
  refine ab_intro (sh := ab_SH) (cd := kX11_raise) hω vX11_raise (by decide +kernel) rfl (Nat.le_of_ble_eq_true rfl) (fun j hj hw => ?_)
  have hjx : ∀ i ll st μ, i ∉ ([2, 30] : List Nat) → _ → j i ll st μ := fun i ll st μ _ h => hj i ll st μ h
  have loop : ∀ n' x μ', s_nT S + 1 ≤ x + n' → x ≤ s_nT S → RepR (s_w56 S (s_fo S t a x)) μ' → SameC μ μ' → ∀ v4, j 2 [some (.ref 43), some (.int (nI t)), some (.int (nI a)), some (.int (nI x)), v4] [] μ' := by
    intro n'
    induction n' with
    | zero => intro x μ' h1 h2; omega
    | succ n' ih =>
      intro x μ' h1 h2 R hC v4
      refine hw _ _ [some (.ref 43), some (.int (nI t)), some (.int (nI a)), some (.int (nI x)), none] _ _ ⟨rfl, rfl, rfl, rfl, trivial⟩ ?_
      by_cases hx : x < s_nT S
      · have inner : ∀ m' u μ', s_nT S + 1 ≤ u + m' → u ≤ s_nT S → s_at S x t = true → RepR (s_w56 S (s_fi S t a x u)) μ' → SameC μ μ' → j 30 [some (.ref 43), some (.int (nI t)), some (.int (nI a)), some (.int (nI x)), some (.int (nI u))] [] μ' := by
          intro m'
          induction m' with
          | zero => intro u μ' h1 h2; omega
          | succ m' ih2 =>
            intro u μ' h3 h4 hxt R hC
            have R2 := RepR_fs R
            simp only [w_nT, w_nM, w_nP, w_nX, w_ou, w_pa, w_1, w_44, w_46, w_47, w_56] at R2
            obtain ⟨r44, r45, r46, r47, r48, r49, r50, r51, r52, r53, r54, r55, r56, r57, r58, r59, r60, r61, g0, g2, g6, g16⟩ := R2
            by_cases hu : u < s_nT S
            · refine hj _ _ _ _ ?_
              repeat' (first | refine hjx _ _ _ _ (by decide) ?_ | (refine br_c (fun h => ?_) (fun h => ?_) <;> (try simp (disch := omega) only [nI_clamp, li_2, li_3, li_4, li_5, li_6, li_7, li_8, li_9, li_10, li_40, li_120, pk_mul, nI_add, nI_1, ix_eq, ix_lt, ix_le, ix_l0, ix_l1, ix_n0, ix_p0, ix_1lt, ix_lt1, ix_1le, ix_le1, ix_le0, ix_0lt, ab_z0, ab_z1, ab_zt, ab_zf, ab_ozn, ab_ozp, ab_o_some, not_true_eq_false, not_false_eq_true, Bool.not_eq_false, Bool.not_eq_true, Bool.not_eq_false', Bool.not_eq_true', Bool.false_eq_true, Bool.true_eq_false, reduceCtorEq, Option.isSome_some, Option.isSome_none, r44, r45, r46, r47, r48, r49, r50, r51, r52, r53, r54, r55, r56, r57, r58, r59, r60, r61, g0, g2, g6, g16] at h) <;> (try omega)) | (refine br_n (fun h => ?_) (fun h => ?_) <;> (try simp (disch := omega) only [nI_clamp, li_2, li_3, li_4, li_5, li_6, li_7, li_8, li_9, li_10, li_40, li_120, pk_mul, nI_add, nI_1, ix_eq, ix_lt, ix_le, ix_l0, ix_l1, ix_n0, ix_p0, ix_1lt, ix_lt1, ix_1le, ix_le1, ix_le0, ix_0lt, ab_z0, ab_z1, ab_zt, ab_zf, ab_ozn, ab_ozp, ab_o_some, not_true_eq_false, not_false_eq_true, Bool.not_eq_false, Bool.not_eq_true, Bool.not_eq_false', Bool.not_eq_true', Bool.false_eq_true, Bool.true_eq_false, reduceCtorEq, Option.isSome_some, Option.isSome_none, r44, r45, r46, r47, r48, r49, r50, r51, r52, r53, r54, r55, r56, r57, r58, r59, r60, r61, g0, g2, g6, g16] at h) <;> (try omega)) | refine ab_sd (by first | (with_reducible refine vp_in_nI ?_ ?_ <;> omega) | (simp (disch := omega) only [nI_clamp, li_2, li_3, li_4, li_5, li_6, li_7, li_8, li_9, li_10, li_40, li_120, pk_mul, nI_add, nI_1, ix_eq, ix_lt, ix_le, ix_l0, ix_l1, ix_n0, ix_p0, ix_1lt, ix_lt1, ix_1le, ix_le1, ix_le0, ix_0lt, ab_z0, ab_z1, ab_zt, ab_zf, ab_ozn, ab_ozp, ab_o_some, not_true_eq_false, not_false_eq_true, Bool.not_eq_false, Bool.not_eq_true, Bool.not_eq_false', Bool.not_eq_true', Bool.false_eq_true, Bool.true_eq_false, reduceCtorEq, Option.isSome_some, Option.isSome_none, r44, r45, r46, r47, r48, r49, r50, r51, r52, r53, r54, r55, r56, r57, r58, r59, r60, r61, g0, g2, g6, g16]; with_reducible refine vp_in_nI ?_ ?_ <;> omega)) ?_ | refine ab_sd ?_ ?_ | refine ab_sz (Or.inl rfl) ?_ | refine ab_sz (Or.inr rfl) ?_ | refine ab_sz ?_ ?_)
              · simp (disch := omega) only [nI_clamp, li_2, li_3, li_4, li_5, li_6, li_7, li_8, li_9, li_10, li_40, li_120, pk_mul, nI_add, nI_1, ix_eq, ix_lt, ix_le, ix_l0, ix_l1, ix_n0, ix_p0, ix_1lt, ix_lt1, ix_1le, ix_le1, ix_le0, ix_0lt, ab_z0, ab_z1, ab_zt, ab_zf, ab_ozn, ab_ozp, ab_o_some, not_true_eq_false, not_false_eq_true, Bool.not_eq_false, Bool.not_eq_true, Bool.not_eq_false', Bool.not_eq_true', Bool.false_eq_true, Bool.true_eq_false, reduceCtorEq, Option.isSome_some, Option.isSome_none, r44, r45, r46, r47, r48, r49, r50, r51, r52, r53, r54, r55, r56, r57, r58, r59, r60, r61, g0, g2, g6, g16, ab_zor]
                grind
              · show j 30 _ _ _
                simp (disch := omega) only [nI_clamp, li_2, li_3, li_4, li_5, li_6, li_7, li_8, li_9, li_10, li_40, li_120, pk_mul, nI_add, nI_1, ix_eq, ix_lt, ix_le, ix_l0, ix_l1, ix_n0, ix_p0, ix_1lt, ix_lt1, ix_1le, ix_le1, ix_le0, ix_0lt, ab_z0, ab_z1, ab_zt, ab_zf, ab_ozn, ab_ozp, ab_o_some, not_true_eq_false, not_false_eq_true, Bool.not_eq_false, Bool.not_eq_true, Bool.not_eq_false', Bool.not_eq_true', Bool.false_eq_true, Bool.true_eq_false, reduceCtorEq, Option.isSome_some, Option.isSome_none, r44, r45, r46, r47, r48, r49, r50, r51, r52, r53, r54, r55, r56, r57, r58, r59, r60, r61, g0, g2, g6, g16, ab_zor]
                refine ih2 (u + 1) _ (by omega) (by omega) hxt ?_ (SameC.mi hC (k := 56) (by omega))
                rw [← s_w56_up (fun j => s_fi_s (by omega) j)]
                have := rep_ub (k := 56) (j := 40 * x + u) (v := s_fi S t a x u (40 * x + u) || s_fi S t a x u (40 * a + u)) R rfl
                rw [s_fi_a hat hxt (by omega)] at this
                rw [s_fi_a hat hxt (by omega)]
                exact this
            · have hu2 : u = s_nT S := by omega
              refine hj _ _ _ _ ?_
              repeat' (first | refine hjx _ _ _ _ (by decide) ?_ | (refine br_c (fun h => ?_) (fun h => ?_) <;> (try simp (disch := omega) only [nI_clamp, li_2, li_3, li_4, li_5, li_6, li_7, li_8, li_9, li_10, li_40, li_120, pk_mul, nI_add, nI_1, ix_eq, ix_lt, ix_le, ix_l0, ix_l1, ix_n0, ix_p0, ix_1lt, ix_lt1, ix_1le, ix_le1, ix_le0, ix_0lt, ab_z0, ab_z1, ab_zt, ab_zf, ab_ozn, ab_ozp, ab_o_some, not_true_eq_false, not_false_eq_true, Bool.not_eq_false, Bool.not_eq_true, Bool.not_eq_false', Bool.not_eq_true', Bool.false_eq_true, Bool.true_eq_false, reduceCtorEq, Option.isSome_some, Option.isSome_none, r44, r45, r46, r47, r48, r49, r50, r51, r52, r53, r54, r55, r56, r57, r58, r59, r60, r61, g0, g2, g6, g16] at h) <;> (try omega)) | (refine br_n (fun h => ?_) (fun h => ?_) <;> (try simp (disch := omega) only [nI_clamp, li_2, li_3, li_4, li_5, li_6, li_7, li_8, li_9, li_10, li_40, li_120, pk_mul, nI_add, nI_1, ix_eq, ix_lt, ix_le, ix_l0, ix_l1, ix_n0, ix_p0, ix_1lt, ix_lt1, ix_1le, ix_le1, ix_le0, ix_0lt, ab_z0, ab_z1, ab_zt, ab_zf, ab_ozn, ab_ozp, ab_o_some, not_true_eq_false, not_false_eq_true, Bool.not_eq_false, Bool.not_eq_true, Bool.not_eq_false', Bool.not_eq_true', Bool.false_eq_true, Bool.true_eq_false, reduceCtorEq, Option.isSome_some, Option.isSome_none, r44, r45, r46, r47, r48, r49, r50, r51, r52, r53, r54, r55, r56, r57, r58, r59, r60, r61, g0, g2, g6, g16] at h) <;> (try omega)) | refine ab_sd (by first | (with_reducible refine vp_in_nI ?_ ?_ <;> omega) | (simp (disch := omega) only [nI_clamp, li_2, li_3, li_4, li_5, li_6, li_7, li_8, li_9, li_10, li_40, li_120, pk_mul, nI_add, nI_1, ix_eq, ix_lt, ix_le, ix_l0, ix_l1, ix_n0, ix_p0, ix_1lt, ix_lt1, ix_1le, ix_le1, ix_le0, ix_0lt, ab_z0, ab_z1, ab_zt, ab_zf, ab_ozn, ab_ozp, ab_o_some, not_true_eq_false, not_false_eq_true, Bool.not_eq_false, Bool.not_eq_true, Bool.not_eq_false', Bool.not_eq_true', Bool.false_eq_true, Bool.true_eq_false, reduceCtorEq, Option.isSome_some, Option.isSome_none, r44, r45, r46, r47, r48, r49, r50, r51, r52, r53, r54, r55, r56, r57, r58, r59, r60, r61, g0, g2, g6, g16]; with_reducible refine vp_in_nI ?_ ?_ <;> omega)) ?_ | refine ab_sd ?_ ?_ | refine ab_sz (Or.inl rfl) ?_ | refine ab_sz (Or.inr rfl) ?_ | refine ab_sz ?_ ?_)
              · show j 2 _ _ _
                rw [nI_1]
                refine ih (x + 1) _ (by omega) (by omega) ?_ hC _
                rw [s_w56_eq (fun j => s_fo_in hx ha hxt j), ← hu2]
                exact R
        have R2 := RepR_fs R
        simp only [w_nT, w_nM, w_nP, w_nX, w_ou, w_pa, w_1, w_44, w_46, w_47, w_56] at R2
        obtain ⟨r44, r45, r46, r47, r48, r49, r50, r51, r52, r53, r54, r55, r56, r57, r58, r59, r60, r61, g0, g2, g6, g16⟩ := R2
        have c1 : s_fo S t a x (40 * x + t) = s_ab S x t := by
          unfold s_fo
          rw [if_neg (by omega)]
        have enter : s_at S x t = true → j 30 [some (.ref 43), some (.int (nI t)), some (.int (nI a)), some (.int (nI x)), some (.int (nI 0))] [] (ab_mi μ' 56 (40 * x + a) 1) := by
          intro hxt
          refine inner (s_nT S + 1) 0 _ (by omega) (by omega) hxt ?_ (hC.mi (by omega))
          rw [← s_w56_up (fun j => s_fi_0 (by omega) j)]
          exact rep_ub (k := 56) (j := 40 * x + a) (v := true) R rfl
        refine hj _ _ _ _ ?_
        repeat' (first | refine hjx _ _ _ _ (by decide) ?_ | (refine br_c (fun h => ?_) (fun h => ?_) <;> (try simp (disch := omega) only [nI_clamp, li_2, li_3, li_4, li_5, li_6, li_7, li_8, li_9, li_10, li_40, li_120, pk_mul, nI_add, nI_1, ix_eq, ix_lt, ix_le, ix_l0, ix_l1, ix_n0, ix_p0, ix_1lt, ix_lt1, ix_1le, ix_le1, ix_le0, ix_0lt, ab_z0, ab_z1, ab_zt, ab_zf, ab_ozn, ab_ozp, ab_o_some, not_true_eq_false, not_false_eq_true, Bool.not_eq_false, Bool.not_eq_true, Bool.not_eq_false', Bool.not_eq_true', Bool.false_eq_true, Bool.true_eq_false, reduceCtorEq, Option.isSome_some, Option.isSome_none, r44, r45, r46, r47, r48, r49, r50, r51, r52, r53, r54, r55, r56, r57, r58, r59, r60, r61, g0, g2, g6, g16, c1] at h) <;> (try omega)) | (refine br_n (fun h => ?_) (fun h => ?_) <;> (try simp (disch := omega) only [nI_clamp, li_2, li_3, li_4, li_5, li_6, li_7, li_8, li_9, li_10, li_40, li_120, pk_mul, nI_add, nI_1, ix_eq, ix_lt, ix_le, ix_l0, ix_l1, ix_n0, ix_p0, ix_1lt, ix_lt1, ix_1le, ix_le1, ix_le0, ix_0lt, ab_z0, ab_z1, ab_zt, ab_zf, ab_ozn, ab_ozp, ab_o_some, not_true_eq_false, not_false_eq_true, Bool.not_eq_false, Bool.not_eq_true, Bool.not_eq_false', Bool.not_eq_true', Bool.false_eq_true, Bool.true_eq_false, reduceCtorEq, Option.isSome_some, Option.isSome_none, r44, r45, r46, r47, r48, r49, r50, r51, r52, r53, r54, r55, r56, r57, r58, r59, r60, r61, g0, g2, g6, g16, c1] at h) <;> (try omega)) | refine ab_sd (by first | (with_reducible refine vp_in_nI ?_ ?_ <;> omega) | (simp (disch := omega) only [nI_clamp, li_2, li_3, li_4, li_5, li_6, li_7, li_8, li_9, li_10, li_40, li_120, pk_mul, nI_add, nI_1, ix_eq, ix_lt, ix_le, ix_l0, ix_l1, ix_n0, ix_p0, ix_1lt, ix_lt1, ix_1le, ix_le1, ix_le0, ix_0lt, ab_z0, ab_z1, ab_zt, ab_zf, ab_ozn, ab_ozp, ab_o_some, not_true_eq_false, not_false_eq_true, Bool.not_eq_false, Bool.not_eq_true, Bool.not_eq_false', Bool.not_eq_true', Bool.false_eq_true, Bool.true_eq_false, reduceCtorEq, Option.isSome_some, Option.isSome_none, r44, r45, r46, r47, r48, r49, r50, r51, r52, r53, r54, r55, r56, r57, r58, r59, r60, r61, g0, g2, g6, g16, c1]; with_reducible refine vp_in_nI ?_ ?_ <;> omega)) ?_ | refine ab_sd ?_ ?_ | refine ab_sz (Or.inl rfl) ?_ | refine ab_sz (Or.inr rfl) ?_ | refine ab_sz ?_ ?_)
        · show j 30 _ _ _
          simp (disch := omega) only [nI_clamp, li_2, li_3, li_4, li_5, li_6, li_7, li_8, li_9, li_10, li_40, li_120, pk_mul, nI_add, nI_1, ix_eq, ix_lt, ix_le, ix_l0, ix_l1, ix_n0, ix_p0, ix_1lt, ix_lt1, ix_1le, ix_le1, ix_le0, ix_0lt, ab_z0, ab_z1, ab_zt, ab_zf, ab_ozn, ab_ozp, ab_o_some, not_true_eq_false, not_false_eq_true, Bool.not_eq_false, Bool.not_eq_true, Bool.not_eq_false', Bool.not_eq_true', Bool.false_eq_true, Bool.true_eq_false, reduceCtorEq, Option.isSome_some, Option.isSome_none, r44, r45, r46, r47, r48, r49, r50, r51, r52, r53, r54, r55, r56, r57, r58, r59, r60, r61, g0, g2, g6, g16]
          exact enter (by simp [s_at, h])
        · show j 30 _ _ _
          simp (disch := omega) only [nI_clamp, li_2, li_3, li_4, li_5, li_6, li_7, li_8, li_9, li_10, li_40, li_120, pk_mul, nI_add, nI_1, ix_eq, ix_lt, ix_le, ix_l0, ix_l1, ix_n0, ix_p0, ix_1lt, ix_lt1, ix_1le, ix_le1, ix_le0, ix_0lt, ab_z0, ab_z1, ab_zt, ab_zf, ab_ozn, ab_ozp, ab_o_some, not_true_eq_false, not_false_eq_true, Bool.not_eq_false, Bool.not_eq_true, Bool.not_eq_false', Bool.not_eq_true', Bool.false_eq_true, Bool.true_eq_false, reduceCtorEq, Option.isSome_some, Option.isSome_none, r44, r45, r46, r47, r48, r49, r50, r51, r52, r53, r54, r55, r56, r57, r58, r59, r60, r61, g0, g2, g6, g16]
          exact enter (by simp [s_at, h])
        · show j 2 _ _ _
          rw [nI_1]
          refine ih (x + 1) _ (by omega) (by omega) ?_ hC _
          rw [s_w56_eq (fun j => s_fo_skip (by simp [s_at, *]) j)]
          exact R
      · have hx2 : x = s_nT S := by omega
        have R2 := RepR_fs R
        simp only [w_nT, w_nM, w_nP, w_nX, w_ou, w_pa, w_1, w_44, w_46, w_47, w_56] at R2
        obtain ⟨r44, r45, r46, r47, r48, r49, r50, r51, r52, r53, r54, r55, r56, r57, r58, r59, r60, r61, g0, g2, g6, g16⟩ := R2
        refine hj _ _ _ _ ?_
        repeat' (first | refine hjx _ _ _ _ (by decide) ?_ | (refine br_c (fun h => ?_) (fun h => ?_) <;> (try simp (disch := omega) only [nI_clamp, li_2, li_3, li_4, li_5, li_6, li_7, li_8, li_9, li_10, li_40, li_120, pk_mul, nI_add, nI_1, ix_eq, ix_lt, ix_le, ix_l0, ix_l1, ix_n0, ix_p0, ix_1lt, ix_lt1, ix_1le, ix_le1, ix_le0, ix_0lt, ab_z0, ab_z1, ab_zt, ab_zf, ab_ozn, ab_ozp, ab_o_some, not_true_eq_false, not_false_eq_true, Bool.not_eq_false, Bool.not_eq_true, Bool.not_eq_false', Bool.not_eq_true', Bool.false_eq_true, Bool.true_eq_false, reduceCtorEq, Option.isSome_some, Option.isSome_none, r44, r45, r46, r47, r48, r49, r50, r51, r52, r53, r54, r55, r56, r57, r58, r59, r60, r61, g0, g2, g6, g16] at h) <;> (try omega)) | (refine br_n (fun h => ?_) (fun h => ?_) <;> (try simp (disch := omega) only [nI_clamp, li_2, li_3, li_4, li_5, li_6, li_7, li_8, li_9, li_10, li_40, li_120, pk_mul, nI_add, nI_1, ix_eq, ix_lt, ix_le, ix_l0, ix_l1, ix_n0, ix_p0, ix_1lt, ix_lt1, ix_1le, ix_le1, ix_le0, ix_0lt, ab_z0, ab_z1, ab_zt, ab_zf, ab_ozn, ab_ozp, ab_o_some, not_true_eq_false, not_false_eq_true, Bool.not_eq_false, Bool.not_eq_true, Bool.not_eq_false', Bool.not_eq_true', Bool.false_eq_true, Bool.true_eq_false, reduceCtorEq, Option.isSome_some, Option.isSome_none, r44, r45, r46, r47, r48, r49, r50, r51, r52, r53, r54, r55, r56, r57, r58, r59, r60, r61, g0, g2, g6, g16] at h) <;> (try omega)) | refine ab_sd (by first | (with_reducible refine vp_in_nI ?_ ?_ <;> omega) | (simp (disch := omega) only [nI_clamp, li_2, li_3, li_4, li_5, li_6, li_7, li_8, li_9, li_10, li_40, li_120, pk_mul, nI_add, nI_1, ix_eq, ix_lt, ix_le, ix_l0, ix_l1, ix_n0, ix_p0, ix_1lt, ix_lt1, ix_1le, ix_le1, ix_le0, ix_0lt, ab_z0, ab_z1, ab_zt, ab_zf, ab_ozn, ab_ozp, ab_o_some, not_true_eq_false, not_false_eq_true, Bool.not_eq_false, Bool.not_eq_true, Bool.not_eq_false', Bool.not_eq_true', Bool.false_eq_true, Bool.true_eq_false, reduceCtorEq, Option.isSome_some, Option.isSome_none, r44, r45, r46, r47, r48, r49, r50, r51, r52, r53, r54, r55, r56, r57, r58, r59, r60, r61, g0, g2, g6, g16]; with_reducible refine vp_in_nI ?_ ?_ <;> omega)) ?_ | refine ab_sd ?_ ?_ | refine ab_sz (Or.inl rfl) ?_ | refine ab_sz (Or.inr rfl) ?_ | refine ab_sz ?_ ?_)
        refine hQ _ (rep_c ?_ rfl rfl ⟨by decide, by decide⟩) (hC.mi (by omega)) mi_eq
        unfold s_raise
        rw [s_w56_eq (g := s_fo S t a x)]
        · exact R
        · intro j
          unfold s_fo
          by_cases hj : j / 40 < x
          · rw [if_pos hj]
          · rw [if_neg hj]
            unfold s_rsB
            simp [show ¬ j / 40 < s_nT S by omega]
  repeat' (first | refine hjx _ _ _ _ (by decide) ?_ | (refine br_c (fun h => ?_) (fun h => ?_) <;> (try simp (disch := omega) only [nI_clamp, li_2, li_3, li_4, li_5, li_6, li_7, li_8, li_9, li_10, li_40, li_120, pk_mul, nI_add, nI_1, ix_eq, ix_lt, ix_le, ix_l0, ix_l1, ix_n0, ix_p0, ix_1lt, ix_lt1, ix_1le, ix_le1, ix_le0, ix_0lt, ab_z0, ab_z1, ab_zt, ab_zf, ab_ozn, ab_ozp, ab_o_some, not_true_eq_false, not_false_eq_true, Bool.not_eq_false, Bool.not_eq_true, Bool.not_eq_false', Bool.not_eq_true', Bool.false_eq_true, Bool.true_eq_false, reduceCtorEq, Option.isSome_some, Option.isSome_none] at h) <;> (try omega)) | (refine br_n (fun h => ?_) (fun h => ?_) <;> (try simp (disch := omega) only [nI_clamp, li_2, li_3, li_4, li_5, li_6, li_7, li_8, li_9, li_10, li_40, li_120, pk_mul, nI_add, nI_1, ix_eq, ix_lt, ix_le, ix_l0, ix_l1, ix_n0, ix_p0, ix_1lt, ix_lt1, ix_1le, ix_le1, ix_le0, ix_0lt, ab_z0, ab_z1, ab_zt, ab_zf, ab_ozn, ab_ozp, ab_o_some, not_true_eq_false, not_false_eq_true, Bool.not_eq_false, Bool.not_eq_true, Bool.not_eq_false', Bool.not_eq_true', Bool.false_eq_true, Bool.true_eq_false, reduceCtorEq, Option.isSome_some, Option.isSome_none] at h) <;> (try omega)) | refine ab_sd (by first | (with_reducible refine vp_in_nI ?_ ?_ <;> omega) | (simp (disch := omega) only [nI_clamp, li_2, li_3, li_4, li_5, li_6, li_7, li_8, li_9, li_10, li_40, li_120, pk_mul, nI_add, nI_1, ix_eq, ix_lt, ix_le, ix_l0, ix_l1, ix_n0, ix_p0, ix_1lt, ix_lt1, ix_1le, ix_le1, ix_le0, ix_0lt, ab_z0, ab_z1, ab_zt, ab_zf, ab_ozn, ab_ozp, ab_o_some, not_true_eq_false, not_false_eq_true, Bool.not_eq_false, Bool.not_eq_true, Bool.not_eq_false', Bool.not_eq_true', Bool.false_eq_true, Bool.true_eq_false, reduceCtorEq, Option.isSome_some, Option.isSome_none]; with_reducible refine vp_in_nI ?_ ?_ <;> omega)) ?_ | refine ab_sd ?_ ?_ | refine ab_sz (Or.inl rfl) ?_ | refine ab_sz (Or.inr rfl) ?_ | refine ab_sz ?_ ?_)
  refine loop (s_nT S + 1) 0 μ (by omega) (by omega) ?_ SameC.rf _
  rw [s_w56_id (fun j => by simp [s_fo])]
  exact R
end R5
end
section
/-! answers and changes: types, members -/
theorem rep_uo {S : sT} {μ : ab_M} (R : RepR S μ) {k j : Nat} {v : Option Nat} (hk : k = 49 ∨ k = 53) : RepR (s_uo S k j v) (ab_mi μ k j (ab_o v)) := by
  refine ⟨fun a b h => ?_, fun a b h => ?_, fun a b h hb => ?_⟩
  · obtain ⟨-, e2, e3⟩ := s_ikb h
    have hab : ¬ a = k := fun q => by omega
    simp [ab_mi, hab]
    exact R.1 a b h
  · have hab : ¬ a = k := fun q => by
      rcases hk with hk | hk <;> rw [q, hk] at h <;> simp [s_bk] at h
    simp [ab_mi, hab]
    exact R.2.1 a b h
  · by_cases hab : a = k ∧ b = j
    · simp [ab_mi, s_uo, hab]
    · simp [ab_mi, s_uo, hab]
      exact R.2.2 a b h hb
def v_par (S : sT) (t p : Nat) : Bool := !(S.1 50 t == 1) && !(S.1 50 p == 1) && !(t == 0)
def a_parent (S : sT) (t p : Int32) : Int32 := if ab_ok (s_nT S) t && ab_ok (s_nT S) p && v_par S t.toNatClampNeg p.toNatClampNeg then (if s_pa S t.toNatClampNeg = some 0 ∧ s_at S p.toNatClampNeg t.toNatClampNeg = false then 1 else -2) else -1
def o_parent (S : sT) (t p : Int32) : sT := if a_parent S t p = 1 then s_raise (s_uo S 53 t.toNatClampNeg (some p.toNatClampNeg)) t.toNatClampNeg p.toNatClampNeg else S
def s_isf (S : sT) (t i : Nat) : Bool := ab_ex (fun k => S.1 54 (4 * t + k) == i) (S.1 55 t)
def a_face (S : sT) (t i : Int32) : Int32 := if ab_ok (s_nT S) t && ab_ok (s_nT S) i && !(S.1 50 i.toNatClampNeg == 0) && !(t.toNatClampNeg == 0) then (if s_at S i.toNatClampNeg t.toNatClampNeg = true ∨ s_isf S t.toNatClampNeg i.toNatClampNeg = true then -2 else if S.1 55 t.toNatClampNeg = 4 then -4 else nI (S.1 55 t.toNatClampNeg + 1)) else -1
def o_face (S : sT) (t i : Int32) : sT := if ab_ok (s_nT S) t && ab_ok (s_nT S) i && !(S.1 50 i.toNatClampNeg == 0) && !(t.toNatClampNeg == 0) && !(s_at S i.toNatClampNeg t.toNatClampNeg) && !(s_isf S t.toNatClampNeg i.toNatClampNeg) && !(S.1 55 t.toNatClampNeg == 4) then s_raise (s_un (s_un S 54 (4 * t.toNatClampNeg + S.1 55 t.toNatClampNeg) i.toNatClampNeg) 55 t.toNatClampNeg (S.1 55 t.toNatClampNeg + 1)) t.toNatClampNeg i.toNatClampNeg else S
section R6
variable {l : Launch} {ω : ab_W} {S : sT} {μ : ab_M} {Q : Int32 → ab_M → Prop}
set_option maxHeartbeats 2000000 in
theorem r_parent (hω : ω.2.2.2 = ab_SH) (R : RepR S μ) (hW : Wf S) {x y : Int32} (hQ : ∀ μ', RepR (o_parent S x y) μ' → SameC μ μ' → (SameK μ μ' ∧ o_parent S x y = S) ∨ μ'.1 43 22 = 0 → Q (a_parent S x y) μ') : ab_CI l ω mX11_parent [.ref 43, .int x, .int y] μ Q := by
  refine ab_intro (sh := ab_SH) (cd := kX11_parent) hω vX11_parent (by decide +kernel) rfl (Nat.le_of_ble_eq_true rfl) (fun j hj hw => ?_)
  have hT := hW.2.2.1.2
  obtain ⟨r44, r45, r46, r47, r48, r49, r50, r51, r52, r53, r54, r55, r56, r57, r58, r59, r60, r61, g0, g2, g6, g16⟩ := RepR_fs R
  cases hx : ab_ok (s_nT S) x with
  | false =>
    have e1 : a_parent S x y = -1 := by simp [a_parent, hx]
    have e2 : o_parent S x y = S := by simp [o_parent, e1]
    rw [e1, e2] at hQ
    have hQ := hQ μ R SameC.rf (Or.inl ⟨SameK.rf, rfl⟩)
    repeat' (first | refine hj _ _ _ _ ?_ | (refine br_c (fun h => ?_) (fun h => ?_) <;> (try simp (disch := omega) only [nI_clamp, li_2, li_3, li_4, li_5, li_6, li_7, li_8, li_9, li_10, li_40, li_120, pk_mul, nI_add, nI_1, ix_eq, ix_lt, ix_le, ix_l0, ix_l1, ix_n0, ix_p0, ix_1lt, ix_lt1, ix_1le, ix_le1, ix_le0, ix_0lt, ab_z0, ab_z1, ab_zt, ab_zf, ab_ozn, ab_ozp, ab_o_some, not_true_eq_false, not_false_eq_true, Bool.not_eq_false, Bool.not_eq_true, Bool.not_eq_false', Bool.not_eq_true', Bool.false_eq_true, Bool.true_eq_false, reduceCtorEq, Option.isSome_some, Option.isSome_none, r44, r45, r46, r47, r48, r49, r50, r51, r52, r53, r54, r55, r56, r57, r58, r59, r60, r61, g0, g2, g6, g16, hx] at h) <;> (try omega)) | (refine br_n (fun h => ?_) (fun h => ?_) <;> (try simp (disch := omega) only [nI_clamp, li_2, li_3, li_4, li_5, li_6, li_7, li_8, li_9, li_10, li_40, li_120, pk_mul, nI_add, nI_1, ix_eq, ix_lt, ix_le, ix_l0, ix_l1, ix_n0, ix_p0, ix_1lt, ix_lt1, ix_1le, ix_le1, ix_le0, ix_0lt, ab_z0, ab_z1, ab_zt, ab_zf, ab_ozn, ab_ozp, ab_o_some, not_true_eq_false, not_false_eq_true, Bool.not_eq_false, Bool.not_eq_true, Bool.not_eq_false', Bool.not_eq_true', Bool.false_eq_true, Bool.true_eq_false, reduceCtorEq, Option.isSome_some, Option.isSome_none, r44, r45, r46, r47, r48, r49, r50, r51, r52, r53, r54, r55, r56, r57, r58, r59, r60, r61, g0, g2, g6, g16, hx] at h) <;> (try omega)) | refine ab_sd (by first | (with_reducible refine vp_in_nI ?_ ?_ <;> omega) | (simp (disch := omega) only [nI_clamp, li_2, li_3, li_4, li_5, li_6, li_7, li_8, li_9, li_10, li_40, li_120, pk_mul, nI_add, nI_1, ix_eq, ix_lt, ix_le, ix_l0, ix_l1, ix_n0, ix_p0, ix_1lt, ix_lt1, ix_1le, ix_le1, ix_le0, ix_0lt, ab_z0, ab_z1, ab_zt, ab_zf, ab_ozn, ab_ozp, ab_o_some, not_true_eq_false, not_false_eq_true, Bool.not_eq_false, Bool.not_eq_true, Bool.not_eq_false', Bool.not_eq_true', Bool.false_eq_true, Bool.true_eq_false, reduceCtorEq, Option.isSome_some, Option.isSome_none, r44, r45, r46, r47, r48, r49, r50, r51, r52, r53, r54, r55, r56, r57, r58, r59, r60, r61, g0, g2, g6, g16, hx]; with_reducible refine vp_in_nI ?_ ?_ <;> omega)) ?_ | refine r_noType hω R ?_ | refine ab_sd ?_ ?_ | refine ab_sz (Or.inl rfl) ?_ | refine ab_sz (Or.inr rfl) ?_ | refine ab_sz ?_ ?_)
    all_goals exact hQ
  | true =>
    obtain ⟨t, ht, rfl⟩ := ab_ok_t (by omega) hx
    have c1 : (nI t).toNatClampNeg = t := nI_clamp (by omega)
    cases hy : ab_ok (s_nT S) y with
    | false =>
      have e1 : a_parent S (nI t) y = -1 := by simp [a_parent, hx, hy]
      have e2 : o_parent S (nI t) y = S := by simp [o_parent, e1]
      rw [e1, e2] at hQ
      have hQ := hQ μ R SameC.rf (Or.inl ⟨SameK.rf, rfl⟩)
      repeat' (first | refine hj _ _ _ _ ?_ | (refine br_c (fun h => ?_) (fun h => ?_) <;> (try simp (disch := omega) only [nI_clamp, li_2, li_3, li_4, li_5, li_6, li_7, li_8, li_9, li_10, li_40, li_120, pk_mul, nI_add, nI_1, ix_eq, ix_lt, ix_le, ix_l0, ix_l1, ix_n0, ix_p0, ix_1lt, ix_lt1, ix_1le, ix_le1, ix_le0, ix_0lt, ab_z0, ab_z1, ab_zt, ab_zf, ab_ozn, ab_ozp, ab_o_some, not_true_eq_false, not_false_eq_true, Bool.not_eq_false, Bool.not_eq_true, Bool.not_eq_false', Bool.not_eq_true', Bool.false_eq_true, Bool.true_eq_false, reduceCtorEq, Option.isSome_some, Option.isSome_none, r44, r45, r46, r47, r48, r49, r50, r51, r52, r53, r54, r55, r56, r57, r58, r59, r60, r61, g0, g2, g6, g16, hx, hy] at h) <;> (try omega)) | (refine br_n (fun h => ?_) (fun h => ?_) <;> (try simp (disch := omega) only [nI_clamp, li_2, li_3, li_4, li_5, li_6, li_7, li_8, li_9, li_10, li_40, li_120, pk_mul, nI_add, nI_1, ix_eq, ix_lt, ix_le, ix_l0, ix_l1, ix_n0, ix_p0, ix_1lt, ix_lt1, ix_1le, ix_le1, ix_le0, ix_0lt, ab_z0, ab_z1, ab_zt, ab_zf, ab_ozn, ab_ozp, ab_o_some, not_true_eq_false, not_false_eq_true, Bool.not_eq_false, Bool.not_eq_true, Bool.not_eq_false', Bool.not_eq_true', Bool.false_eq_true, Bool.true_eq_false, reduceCtorEq, Option.isSome_some, Option.isSome_none, r44, r45, r46, r47, r48, r49, r50, r51, r52, r53, r54, r55, r56, r57, r58, r59, r60, r61, g0, g2, g6, g16, hx, hy] at h) <;> (try omega)) | refine ab_sd (by first | (with_reducible refine vp_in_nI ?_ ?_ <;> omega) | (simp (disch := omega) only [nI_clamp, li_2, li_3, li_4, li_5, li_6, li_7, li_8, li_9, li_10, li_40, li_120, pk_mul, nI_add, nI_1, ix_eq, ix_lt, ix_le, ix_l0, ix_l1, ix_n0, ix_p0, ix_1lt, ix_lt1, ix_1le, ix_le1, ix_le0, ix_0lt, ab_z0, ab_z1, ab_zt, ab_zf, ab_ozn, ab_ozp, ab_o_some, not_true_eq_false, not_false_eq_true, Bool.not_eq_false, Bool.not_eq_true, Bool.not_eq_false', Bool.not_eq_true', Bool.false_eq_true, Bool.true_eq_false, reduceCtorEq, Option.isSome_some, Option.isSome_none, r44, r45, r46, r47, r48, r49, r50, r51, r52, r53, r54, r55, r56, r57, r58, r59, r60, r61, g0, g2, g6, g16, hx, hy]; with_reducible refine vp_in_nI ?_ ?_ <;> omega)) ?_ | refine r_noType hω R ?_ | refine ab_sd ?_ ?_ | refine ab_sz (Or.inl rfl) ?_ | refine ab_sz (Or.inr rfl) ?_ | refine ab_sz ?_ ?_)
      all_goals exact hQ
    | true =>
      obtain ⟨p, hp, rfl⟩ := ab_ok_t (by omega) hy
      have c2 : (nI p).toNatClampNeg = p := nI_clamp (by omega)
      obtain ⟨t1, t2, t3, t4, -, -, -, t8⟩ := hW.2.2.2.2.2.1 t ht
      obtain ⟨p1, p2, p3, p4, -⟩ := hW.2.2.2.2.2.1 p hp
      have c3 : (ab_o (s_pa S t) = 0) ↔ s_pa S t = some 0 := by
        cases e : s_pa S t with
        | none => exact ⟨fun q => absurd q (by decide), fun q => by cases q⟩
        | some k =>
          have := t8 k e
          rw [ab_o_some, ix_l0 (by omega)]
          simp
      cases hv : v_par S t p with
      | false =>
        have e1 : a_parent S (nI t) (nI p) = -1 := by simp [a_parent, hx, hy, c1, c2, hv]
        have e2 : o_parent S (nI t) (nI p) = S := by simp [o_parent, e1]
        rw [e1, e2] at hQ
        have hQ := hQ μ R SameC.rf (Or.inl ⟨SameK.rf, rfl⟩)
        unfold v_par at hv
        repeat' (first | refine hj _ _ _ _ ?_ | (refine br_c (fun h => ?_) (fun h => ?_) <;> (try simp (disch := omega) only [nI_clamp, li_2, li_3, li_4, li_5, li_6, li_7, li_8, li_9, li_10, li_40, li_120, pk_mul, nI_add, nI_1, ix_eq, ix_lt, ix_le, ix_l0, ix_l1, ix_n0, ix_p0, ix_1lt, ix_lt1, ix_1le, ix_le1, ix_le0, ix_0lt, ab_z0, ab_z1, ab_zt, ab_zf, ab_ozn, ab_ozp, ab_o_some, not_true_eq_false, not_false_eq_true, Bool.not_eq_false, Bool.not_eq_true, Bool.not_eq_false', Bool.not_eq_true', Bool.false_eq_true, Bool.true_eq_false, reduceCtorEq, Option.isSome_some, Option.isSome_none, r44, r45, r46, r47, r48, r49, r50, r51, r52, r53, r54, r55, r56, r57, r58, r59, r60, r61, g0, g2, g6, g16, hx, hy, c3] at h) <;> (try omega)) | (refine br_n (fun h => ?_) (fun h => ?_) <;> (try simp (disch := omega) only [nI_clamp, li_2, li_3, li_4, li_5, li_6, li_7, li_8, li_9, li_10, li_40, li_120, pk_mul, nI_add, nI_1, ix_eq, ix_lt, ix_le, ix_l0, ix_l1, ix_n0, ix_p0, ix_1lt, ix_lt1, ix_1le, ix_le1, ix_le0, ix_0lt, ab_z0, ab_z1, ab_zt, ab_zf, ab_ozn, ab_ozp, ab_o_some, not_true_eq_false, not_false_eq_true, Bool.not_eq_false, Bool.not_eq_true, Bool.not_eq_false', Bool.not_eq_true', Bool.false_eq_true, Bool.true_eq_false, reduceCtorEq, Option.isSome_some, Option.isSome_none, r44, r45, r46, r47, r48, r49, r50, r51, r52, r53, r54, r55, r56, r57, r58, r59, r60, r61, g0, g2, g6, g16, hx, hy, c3] at h) <;> (try omega)) | refine ab_sd (by first | (with_reducible refine vp_in_nI ?_ ?_ <;> omega) | (simp (disch := omega) only [nI_clamp, li_2, li_3, li_4, li_5, li_6, li_7, li_8, li_9, li_10, li_40, li_120, pk_mul, nI_add, nI_1, ix_eq, ix_lt, ix_le, ix_l0, ix_l1, ix_n0, ix_p0, ix_1lt, ix_lt1, ix_1le, ix_le1, ix_le0, ix_0lt, ab_z0, ab_z1, ab_zt, ab_zf, ab_ozn, ab_ozp, ab_o_some, not_true_eq_false, not_false_eq_true, Bool.not_eq_false, Bool.not_eq_true, Bool.not_eq_false', Bool.not_eq_true', Bool.false_eq_true, Bool.true_eq_false, reduceCtorEq, Option.isSome_some, Option.isSome_none, r44, r45, r46, r47, r48, r49, r50, r51, r52, r53, r54, r55, r56, r57, r58, r59, r60, r61, g0, g2, g6, g16, hx, hy, c3]; with_reducible refine vp_in_nI ?_ ?_ <;> omega)) ?_ | refine r_noType hω R ?_ | refine r_isAt hω R (t := p) (u := t) rfl rfl (by omega) (by omega) ?_ | (exfalso; clear hj hw hQ; simp_all; done) | refine ab_sd ?_ ?_ | refine ab_sz (Or.inl rfl) ?_ | refine ab_sz (Or.inr rfl) ?_ | refine ab_sz ?_ ?_)
        all_goals first | exact hQ | (exfalso; clear hj hw hQ; simp_all; done)
      | true =>
        by_cases hc : s_pa S t = some 0 ∧ s_at S p t = false
        · have e1 : a_parent S (nI t) (nI p) = 1 := by simp [a_parent, hx, hy, c1, c2, hv, hc]
          have e2 : o_parent S (nI t) (nI p) = s_raise (s_uo S 53 t (some p)) t p := by simp [o_parent, e1, c1, c2]
          rw [e1, e2] at hQ
          obtain ⟨hc1, hc2⟩ := hc
          have hc3 : (p == t || s_ab S p t) = false := hc2
          unfold v_par at hv
          have R1 := rep_uo (k := 53) (j := t) (v := some p) R (Or.inr rfl)
          repeat' (first | refine hj _ _ _ _ ?_ | (refine br_c (fun h => ?_) (fun h => ?_) <;> (try simp (disch := omega) only [nI_clamp, li_2, li_3, li_4, li_5, li_6, li_7, li_8, li_9, li_10, li_40, li_120, pk_mul, nI_add, nI_1, ix_eq, ix_lt, ix_le, ix_l0, ix_l1, ix_n0, ix_p0, ix_1lt, ix_lt1, ix_1le, ix_le1, ix_le0, ix_0lt, ab_z0, ab_z1, ab_zt, ab_zf, ab_ozn, ab_ozp, ab_o_some, not_true_eq_false, not_false_eq_true, Bool.not_eq_false, Bool.not_eq_true, Bool.not_eq_false', Bool.not_eq_true', Bool.false_eq_true, Bool.true_eq_false, reduceCtorEq, Option.isSome_some, Option.isSome_none, r44, r45, r46, r47, r48, r49, r50, r51, r52, r53, r54, r55, r56, r57, r58, r59, r60, r61, g0, g2, g6, g16, hx, hy, c3, hc1, hc3] at h) <;> (try omega)) | (refine br_n (fun h => ?_) (fun h => ?_) <;> (try simp (disch := omega) only [nI_clamp, li_2, li_3, li_4, li_5, li_6, li_7, li_8, li_9, li_10, li_40, li_120, pk_mul, nI_add, nI_1, ix_eq, ix_lt, ix_le, ix_l0, ix_l1, ix_n0, ix_p0, ix_1lt, ix_lt1, ix_1le, ix_le1, ix_le0, ix_0lt, ab_z0, ab_z1, ab_zt, ab_zf, ab_ozn, ab_ozp, ab_o_some, not_true_eq_false, not_false_eq_true, Bool.not_eq_false, Bool.not_eq_true, Bool.not_eq_false', Bool.not_eq_true', Bool.false_eq_true, Bool.true_eq_false, reduceCtorEq, Option.isSome_some, Option.isSome_none, r44, r45, r46, r47, r48, r49, r50, r51, r52, r53, r54, r55, r56, r57, r58, r59, r60, r61, g0, g2, g6, g16, hx, hy, c3, hc1, hc3] at h) <;> (try omega)) | refine ab_sd (by first | (with_reducible refine vp_in_nI ?_ ?_ <;> omega) | (simp (disch := omega) only [nI_clamp, li_2, li_3, li_4, li_5, li_6, li_7, li_8, li_9, li_10, li_40, li_120, pk_mul, nI_add, nI_1, ix_eq, ix_lt, ix_le, ix_l0, ix_l1, ix_n0, ix_p0, ix_1lt, ix_lt1, ix_1le, ix_le1, ix_le0, ix_0lt, ab_z0, ab_z1, ab_zt, ab_zf, ab_ozn, ab_ozp, ab_o_some, not_true_eq_false, not_false_eq_true, Bool.not_eq_false, Bool.not_eq_true, Bool.not_eq_false', Bool.not_eq_true', Bool.false_eq_true, Bool.true_eq_false, reduceCtorEq, Option.isSome_some, Option.isSome_none, r44, r45, r46, r47, r48, r49, r50, r51, r52, r53, r54, r55, r56, r57, r58, r59, r60, r61, g0, g2, g6, g16, hx, hy, c3, hc1, hc3]; with_reducible refine vp_in_nI ?_ ?_ <;> omega)) ?_ | refine r_noType hω R ?_ | refine r_isAt hω R (t := p) (u := t) rfl rfl (by omega) (by omega) ?_ | refine ab_sd ?_ ?_ | refine ab_sz (Or.inl rfl) ?_ | refine ab_sz (Or.inr rfl) ?_ | refine ab_sz ?_ ?_)
          all_goals first | (exfalso; clear hj hw hQ; simp_all; done) | skip
          all_goals rw [c1]
          all_goals (refine r_raise hω R1 hT (t := t) (a := p) rfl rfl ht hp hc2 (fun μ' R' hC hF => ?_))
          all_goals repeat' (first | refine hj _ _ _ _ ?_ | (refine br_c (fun h => ?_) (fun h => ?_) <;> (try simp (disch := omega) only [nI_clamp, li_2, li_3, li_4, li_5, li_6, li_7, li_8, li_9, li_10, li_40, li_120, pk_mul, nI_add, nI_1, ix_eq, ix_lt, ix_le, ix_l0, ix_l1, ix_n0, ix_p0, ix_1lt, ix_lt1, ix_1le, ix_le1, ix_le0, ix_0lt, ab_z0, ab_z1, ab_zt, ab_zf, ab_ozn, ab_ozp, ab_o_some, not_true_eq_false, not_false_eq_true, Bool.not_eq_false, Bool.not_eq_true, Bool.not_eq_false', Bool.not_eq_true', Bool.false_eq_true, Bool.true_eq_false, reduceCtorEq, Option.isSome_some, Option.isSome_none] at h) <;> (try omega)) | (refine br_n (fun h => ?_) (fun h => ?_) <;> (try simp (disch := omega) only [nI_clamp, li_2, li_3, li_4, li_5, li_6, li_7, li_8, li_9, li_10, li_40, li_120, pk_mul, nI_add, nI_1, ix_eq, ix_lt, ix_le, ix_l0, ix_l1, ix_n0, ix_p0, ix_1lt, ix_lt1, ix_1le, ix_le1, ix_le0, ix_0lt, ab_z0, ab_z1, ab_zt, ab_zf, ab_ozn, ab_ozp, ab_o_some, not_true_eq_false, not_false_eq_true, Bool.not_eq_false, Bool.not_eq_true, Bool.not_eq_false', Bool.not_eq_true', Bool.false_eq_true, Bool.true_eq_false, reduceCtorEq, Option.isSome_some, Option.isSome_none] at h) <;> (try omega)) | refine ab_sd (by first | (with_reducible refine vp_in_nI ?_ ?_ <;> omega) | (simp (disch := omega) only [nI_clamp, li_2, li_3, li_4, li_5, li_6, li_7, li_8, li_9, li_10, li_40, li_120, pk_mul, nI_add, nI_1, ix_eq, ix_lt, ix_le, ix_l0, ix_l1, ix_n0, ix_p0, ix_1lt, ix_lt1, ix_1le, ix_le1, ix_le0, ix_0lt, ab_z0, ab_z1, ab_zt, ab_zf, ab_ozn, ab_ozp, ab_o_some, not_true_eq_false, not_false_eq_true, Bool.not_eq_false, Bool.not_eq_true, Bool.not_eq_false', Bool.not_eq_true', Bool.false_eq_true, Bool.true_eq_false, reduceCtorEq, Option.isSome_some, Option.isSome_none]; with_reducible refine vp_in_nI ?_ ?_ <;> omega)) ?_ | refine ab_sd ?_ ?_ | refine ab_sz (Or.inl rfl) ?_ | refine ab_sz (Or.inr rfl) ?_ | refine ab_sz ?_ ?_)
          all_goals exact hQ μ' R' ((SameC.rf.mi (k := 53) (by omega)).tr hC) (Or.inr hF)
        · have e1 : a_parent S (nI t) (nI p) = -2 := by simp [a_parent, hx, hy, c1, c2, hv, hc]
          have e2 : o_parent S (nI t) (nI p) = S := by simp [o_parent, e1]
          rw [e1, e2] at hQ
          have hQ := hQ μ R SameC.rf (Or.inl ⟨SameK.rf, rfl⟩)
          unfold v_par at hv
          unfold s_at at hc
          repeat' (first | refine hj _ _ _ _ ?_ | (refine br_c (fun h => ?_) (fun h => ?_) <;> (try simp (disch := omega) only [nI_clamp, li_2, li_3, li_4, li_5, li_6, li_7, li_8, li_9, li_10, li_40, li_120, pk_mul, nI_add, nI_1, ix_eq, ix_lt, ix_le, ix_l0, ix_l1, ix_n0, ix_p0, ix_1lt, ix_lt1, ix_1le, ix_le1, ix_le0, ix_0lt, ab_z0, ab_z1, ab_zt, ab_zf, ab_ozn, ab_ozp, ab_o_some, not_true_eq_false, not_false_eq_true, Bool.not_eq_false, Bool.not_eq_true, Bool.not_eq_false', Bool.not_eq_true', Bool.false_eq_true, Bool.true_eq_false, reduceCtorEq, Option.isSome_some, Option.isSome_none, r44, r45, r46, r47, r48, r49, r50, r51, r52, r53, r54, r55, r56, r57, r58, r59, r60, r61, g0, g2, g6, g16, hx, hy, c3] at h) <;> (try omega)) | (refine br_n (fun h => ?_) (fun h => ?_) <;> (try simp (disch := omega) only [nI_clamp, li_2, li_3, li_4, li_5, li_6, li_7, li_8, li_9, li_10, li_40, li_120, pk_mul, nI_add, nI_1, ix_eq, ix_lt, ix_le, ix_l0, ix_l1, ix_n0, ix_p0, ix_1lt, ix_lt1, ix_1le, ix_le1, ix_le0, ix_0lt, ab_z0, ab_z1, ab_zt, ab_zf, ab_ozn, ab_ozp, ab_o_some, not_true_eq_false, not_false_eq_true, Bool.not_eq_false, Bool.not_eq_true, Bool.not_eq_false', Bool.not_eq_true', Bool.false_eq_true, Bool.true_eq_false, reduceCtorEq, Option.isSome_some, Option.isSome_none, r44, r45, r46, r47, r48, r49, r50, r51, r52, r53, r54, r55, r56, r57, r58, r59, r60, r61, g0, g2, g6, g16, hx, hy, c3] at h) <;> (try omega)) | refine ab_sd (by first | (with_reducible refine vp_in_nI ?_ ?_ <;> omega) | (simp (disch := omega) only [nI_clamp, li_2, li_3, li_4, li_5, li_6, li_7, li_8, li_9, li_10, li_40, li_120, pk_mul, nI_add, nI_1, ix_eq, ix_lt, ix_le, ix_l0, ix_l1, ix_n0, ix_p0, ix_1lt, ix_lt1, ix_1le, ix_le1, ix_le0, ix_0lt, ab_z0, ab_z1, ab_zt, ab_zf, ab_ozn, ab_ozp, ab_o_some, not_true_eq_false, not_false_eq_true, Bool.not_eq_false, Bool.not_eq_true, Bool.not_eq_false', Bool.not_eq_true', Bool.false_eq_true, Bool.true_eq_false, reduceCtorEq, Option.isSome_some, Option.isSome_none, r44, r45, r46, r47, r48, r49, r50, r51, r52, r53, r54, r55, r56, r57, r58, r59, r60, r61, g0, g2, g6, g16, hx, hy, c3]; with_reducible refine vp_in_nI ?_ ?_ <;> omega)) ?_ | refine r_noType hω R ?_ | refine r_isAt hω R (t := p) (u := t) rfl rfl (by omega) (by omega) ?_ | (exfalso; clear hj hw hQ; simp_all; done) | refine ab_sd ?_ ?_ | refine ab_sz (Or.inl rfl) ?_ | refine ab_sz (Or.inr rfl) ?_ | refine ab_sz ?_ ?_)
          all_goals first | exact hQ | (exfalso; clear hj hw hQ; simp_all; done)
end R6
end
section
theorem i_10 : ((1 : Int32) = 0) ↔ False := ⟨fun h => absurd h (by decide), False.elim⟩
theorem i_01 : ((0 : Int32) = 1) ↔ False := ⟨fun h => absurd h (by decide), False.elim⟩
theorem ab_ex_s {f : Nat → Bool} {n : Nat} : ab_ex f (n + 1) = (ab_ex f n || f n) := rfl
section R7
variable {l : Launch} {ω : ab_W} {S : sT} {μ : ab_M} {Q : Int32 → ab_M → Prop}
set_option maxHeartbeats 2000000 in
theorem r_face (hω : ω.2.2.2 = ab_SH) (R : RepR S μ) (hW : Wf S) {x y : Int32} (hQ : ∀ μ', RepR (o_face S x y) μ' → SameC μ μ' → (SameK μ μ' ∧ o_face S x y = S) ∨ μ'.1 43 22 = 0 → Q (a_face S x y) μ') : ab_CI l ω mX11_face [.ref 43, .int x, .int y] μ Q := by
  refine ab_intro (sh := ab_SH) (cd := kX11_face) hω vX11_face (by decide +kernel) rfl (Nat.le_of_ble_eq_true rfl) (fun j hj hw => ?_)
  have hjx : ∀ i ll st μ, i ∉ ([24] : List Nat) → _ → j i ll st μ := fun i ll st μ _ h => hj i ll st μ h
  have hT := hW.2.2.1.2
  obtain ⟨r44, r45, r46, r47, r48, r49, r50, r51, r52, r53, r54, r55, r56, r57, r58, r59, r60, r61, g0, g2, g6, g16⟩ := RepR_fs R
  cases hx : ab_ok (s_nT S) x with
  | false =>
    have e1 : a_face S x y = -1 := by simp [a_face, hx]
    have e2 : o_face S x y = S := by simp [o_face, hx]
    rw [e1, e2] at hQ
    have hQ := hQ μ R SameC.rf (Or.inl ⟨SameK.rf, rfl⟩)
    repeat' (first | refine hj _ _ _ _ ?_ | (refine br_c (fun h => ?_) (fun h => ?_) <;> (try simp (disch := omega) only [nI_clamp, li_2, li_3, li_4, li_5, li_6, li_7, li_8, li_9, li_10, li_40, li_120, pk_mul, nI_add, nI_1, ix_eq, ix_lt, ix_le, ix_l0, ix_l1, ix_n0, ix_p0, ix_1lt, ix_lt1, ix_1le, ix_le1, ix_le0, ix_0lt, ab_z0, ab_z1, i_10, i_01, eq_self, ab_ozn, ab_ozp, ab_o_some, not_true_eq_false, not_false_eq_true, Bool.not_eq_false, Bool.not_eq_true, Bool.not_eq_false', Bool.not_eq_true', Bool.false_eq_true, Bool.true_eq_false, reduceCtorEq, Option.isSome_some, Option.isSome_none, r44, r45, r46, r47, r48, r49, r50, r51, r52, r53, r54, r55, r56, r57, r58, r59, r60, r61, g0, g2, g6, g16, hx] at h) <;> (try omega)) | (refine br_n (fun h => ?_) (fun h => ?_) <;> (try simp (disch := omega) only [nI_clamp, li_2, li_3, li_4, li_5, li_6, li_7, li_8, li_9, li_10, li_40, li_120, pk_mul, nI_add, nI_1, ix_eq, ix_lt, ix_le, ix_l0, ix_l1, ix_n0, ix_p0, ix_1lt, ix_lt1, ix_1le, ix_le1, ix_le0, ix_0lt, ab_z0, ab_z1, i_10, i_01, eq_self, ab_ozn, ab_ozp, ab_o_some, not_true_eq_false, not_false_eq_true, Bool.not_eq_false, Bool.not_eq_true, Bool.not_eq_false', Bool.not_eq_true', Bool.false_eq_true, Bool.true_eq_false, reduceCtorEq, Option.isSome_some, Option.isSome_none, r44, r45, r46, r47, r48, r49, r50, r51, r52, r53, r54, r55, r56, r57, r58, r59, r60, r61, g0, g2, g6, g16, hx] at h) <;> (try omega)) | refine ab_sd (by first | (with_reducible refine vp_in_nI ?_ ?_ <;> omega) | (simp (disch := omega) only [nI_clamp, li_2, li_3, li_4, li_5, li_6, li_7, li_8, li_9, li_10, li_40, li_120, pk_mul, nI_add, nI_1, ix_eq, ix_lt, ix_le, ix_l0, ix_l1, ix_n0, ix_p0, ix_1lt, ix_lt1, ix_1le, ix_le1, ix_le0, ix_0lt, ab_z0, ab_z1, i_10, i_01, eq_self, ab_ozn, ab_ozp, ab_o_some, not_true_eq_false, not_false_eq_true, Bool.not_eq_false, Bool.not_eq_true, Bool.not_eq_false', Bool.not_eq_true', Bool.false_eq_true, Bool.true_eq_false, reduceCtorEq, Option.isSome_some, Option.isSome_none, r44, r45, r46, r47, r48, r49, r50, r51, r52, r53, r54, r55, r56, r57, r58, r59, r60, r61, g0, g2, g6, g16, hx]; with_reducible refine vp_in_nI ?_ ?_ <;> omega)) ?_ | refine r_noType hω R ?_ | refine ab_sd ?_ ?_ | refine ab_sz (Or.inl rfl) ?_ | refine ab_sz (Or.inr rfl) ?_ | refine ab_sz ?_ ?_)
    all_goals exact hQ
  | true =>
    obtain ⟨t, ht, rfl⟩ := ab_ok_t (by omega) hx
    have c1 : (nI t).toNatClampNeg = t := nI_clamp (by omega)
    cases hy : ab_ok (s_nT S) y with
    | false =>
      have e1 : a_face S (nI t) y = -1 := by simp [a_face, hx, hy]
      have e2 : o_face S (nI t) y = S := by simp [o_face, hx, hy]
      rw [e1, e2] at hQ
      have hQ := hQ μ R SameC.rf (Or.inl ⟨SameK.rf, rfl⟩)
      repeat' (first | refine hj _ _ _ _ ?_ | (refine br_c (fun h => ?_) (fun h => ?_) <;> (try simp (disch := omega) only [nI_clamp, li_2, li_3, li_4, li_5, li_6, li_7, li_8, li_9, li_10, li_40, li_120, pk_mul, nI_add, nI_1, ix_eq, ix_lt, ix_le, ix_l0, ix_l1, ix_n0, ix_p0, ix_1lt, ix_lt1, ix_1le, ix_le1, ix_le0, ix_0lt, ab_z0, ab_z1, i_10, i_01, eq_self, ab_ozn, ab_ozp, ab_o_some, not_true_eq_false, not_false_eq_true, Bool.not_eq_false, Bool.not_eq_true, Bool.not_eq_false', Bool.not_eq_true', Bool.false_eq_true, Bool.true_eq_false, reduceCtorEq, Option.isSome_some, Option.isSome_none, r44, r45, r46, r47, r48, r49, r50, r51, r52, r53, r54, r55, r56, r57, r58, r59, r60, r61, g0, g2, g6, g16, hx, hy] at h) <;> (try omega)) | (refine br_n (fun h => ?_) (fun h => ?_) <;> (try simp (disch := omega) only [nI_clamp, li_2, li_3, li_4, li_5, li_6, li_7, li_8, li_9, li_10, li_40, li_120, pk_mul, nI_add, nI_1, ix_eq, ix_lt, ix_le, ix_l0, ix_l1, ix_n0, ix_p0, ix_1lt, ix_lt1, ix_1le, ix_le1, ix_le0, ix_0lt, ab_z0, ab_z1, i_10, i_01, eq_self, ab_ozn, ab_ozp, ab_o_some, not_true_eq_false, not_false_eq_true, Bool.not_eq_false, Bool.not_eq_true, Bool.not_eq_false', Bool.not_eq_true', Bool.false_eq_true, Bool.true_eq_false, reduceCtorEq, Option.isSome_some, Option.isSome_none, r44, r45, r46, r47, r48, r49, r50, r51, r52, r53, r54, r55, r56, r57, r58, r59, r60, r61, g0, g2, g6, g16, hx, hy] at h) <;> (try omega)) | refine ab_sd (by first | (with_reducible refine vp_in_nI ?_ ?_ <;> omega) | (simp (disch := omega) only [nI_clamp, li_2, li_3, li_4, li_5, li_6, li_7, li_8, li_9, li_10, li_40, li_120, pk_mul, nI_add, nI_1, ix_eq, ix_lt, ix_le, ix_l0, ix_l1, ix_n0, ix_p0, ix_1lt, ix_lt1, ix_1le, ix_le1, ix_le0, ix_0lt, ab_z0, ab_z1, i_10, i_01, eq_self, ab_ozn, ab_ozp, ab_o_some, not_true_eq_false, not_false_eq_true, Bool.not_eq_false, Bool.not_eq_true, Bool.not_eq_false', Bool.not_eq_true', Bool.false_eq_true, Bool.true_eq_false, reduceCtorEq, Option.isSome_some, Option.isSome_none, r44, r45, r46, r47, r48, r49, r50, r51, r52, r53, r54, r55, r56, r57, r58, r59, r60, r61, g0, g2, g6, g16, hx, hy]; with_reducible refine vp_in_nI ?_ ?_ <;> omega)) ?_ | refine r_noType hω R ?_ | refine ab_sd ?_ ?_ | refine ab_sz (Or.inl rfl) ?_ | refine ab_sz (Or.inr rfl) ?_ | refine ab_sz ?_ ?_)
      all_goals exact hQ
    | true =>
      obtain ⟨i, hi, rfl⟩ := ab_ok_t (by omega) hy
      have c2 : (nI i).toNatClampNeg = i := nI_clamp (by omega)
      obtain ⟨t1, t2, t3, t4, t5, t6, -, -⟩ := hW.2.2.2.2.2.1 t ht
      obtain ⟨p1, p2, p3, p4, -⟩ := hW.2.2.2.2.2.1 i hi
      by_cases hv : S.1 50 i = 0 ∨ t = 0
      · have e1 : a_face S (nI t) (nI i) = -1 := by unfold a_face; rw [c1, c2]; rcases hv with hv | hv <;> simp [hv]
        have e2 : o_face S (nI t) (nI i) = S := by unfold o_face; rw [c1, c2]; rcases hv with hv | hv <;> simp [hv]
        rw [e1, e2] at hQ
        have hQ := hQ μ R SameC.rf (Or.inl ⟨SameK.rf, rfl⟩)
        repeat' (first | refine hjx _ _ _ _ (by decide) ?_ | (refine br_c (fun h => ?_) (fun h => ?_) <;> (try simp (disch := omega) only [nI_clamp, li_2, li_3, li_4, li_5, li_6, li_7, li_8, li_9, li_10, li_40, li_120, pk_mul, nI_add, nI_1, ix_eq, ix_lt, ix_le, ix_l0, ix_l1, ix_n0, ix_p0, ix_1lt, ix_lt1, ix_1le, ix_le1, ix_le0, ix_0lt, ab_z0, ab_z1, i_10, i_01, eq_self, ab_ozn, ab_ozp, ab_o_some, not_true_eq_false, not_false_eq_true, Bool.not_eq_false, Bool.not_eq_true, Bool.not_eq_false', Bool.not_eq_true', Bool.false_eq_true, Bool.true_eq_false, reduceCtorEq, Option.isSome_some, Option.isSome_none, r44, r45, r46, r47, r48, r49, r50, r51, r52, r53, r54, r55, r56, r57, r58, r59, r60, r61, g0, g2, g6, g16, hx, hy] at h) <;> (try omega)) | (refine br_n (fun h => ?_) (fun h => ?_) <;> (try simp (disch := omega) only [nI_clamp, li_2, li_3, li_4, li_5, li_6, li_7, li_8, li_9, li_10, li_40, li_120, pk_mul, nI_add, nI_1, ix_eq, ix_lt, ix_le, ix_l0, ix_l1, ix_n0, ix_p0, ix_1lt, ix_lt1, ix_1le, ix_le1, ix_le0, ix_0lt, ab_z0, ab_z1, i_10, i_01, eq_self, ab_ozn, ab_ozp, ab_o_some, not_true_eq_false, not_false_eq_true, Bool.not_eq_false, Bool.not_eq_true, Bool.not_eq_false', Bool.not_eq_true', Bool.false_eq_true, Bool.true_eq_false, reduceCtorEq, Option.isSome_some, Option.isSome_none, r44, r45, r46, r47, r48, r49, r50, r51, r52, r53, r54, r55, r56, r57, r58, r59, r60, r61, g0, g2, g6, g16, hx, hy] at h) <;> (try omega)) | refine ab_sd (by first | (with_reducible refine vp_in_nI ?_ ?_ <;> omega) | (simp (disch := omega) only [nI_clamp, li_2, li_3, li_4, li_5, li_6, li_7, li_8, li_9, li_10, li_40, li_120, pk_mul, nI_add, nI_1, ix_eq, ix_lt, ix_le, ix_l0, ix_l1, ix_n0, ix_p0, ix_1lt, ix_lt1, ix_1le, ix_le1, ix_le0, ix_0lt, ab_z0, ab_z1, i_10, i_01, eq_self, ab_ozn, ab_ozp, ab_o_some, not_true_eq_false, not_false_eq_true, Bool.not_eq_false, Bool.not_eq_true, Bool.not_eq_false', Bool.not_eq_true', Bool.false_eq_true, Bool.true_eq_false, reduceCtorEq, Option.isSome_some, Option.isSome_none, r44, r45, r46, r47, r48, r49, r50, r51, r52, r53, r54, r55, r56, r57, r58, r59, r60, r61, g0, g2, g6, g16, hx, hy]; with_reducible refine vp_in_nI ?_ ?_ <;> omega)) ?_ | refine r_noType hω R ?_ | (exfalso; omega) | refine ab_sd ?_ ?_ | refine ab_sz (Or.inl rfl) ?_ | refine ab_sz (Or.inr rfl) ?_ | refine ab_sz ?_ ?_)
        all_goals first | exact hQ | (exfalso; omega)
      · have hv1 : ¬ S.1 50 i = 0 := fun q => hv (Or.inl q)
        have hv2 : ¬ t = 0 := fun q => hv (Or.inr q)
        have e1 : a_face S (nI t) (nI i) = if s_at S i t = true ∨ s_isf S t i = true then -2 else if S.1 55 t = 4 then -4 else nI (S.1 55 t + 1) := by simp [a_face, hx, hy, c1, c2, hv1, hv2]
        have e2 : o_face S (nI t) (nI i) = if s_at S i t = true ∨ s_isf S t i = true then S else if S.1 55 t = 4 then S else s_raise (s_un (s_un S 54 (4 * t + S.1 55 t) i) 55 t (S.1 55 t + 1)) t i := by
          unfold o_face
          rw [c1, c2]
          by_cases q1 : s_at S i t = true ∨ s_isf S t i = true
          · rw [if_pos q1]
            rcases q1 with q1 | q1 <;> simp [q1]
          · rw [if_neg q1]
            have q2 : s_at S i t = false := by cases h : s_at S i t <;> simp_all
            have q3 : s_isf S t i = false := by cases h : s_isf S t i <;> simp_all
            by_cases q4 : S.1 55 t = 4
            · simp [q4]
            · simp [hx, hy, hv1, hv2, q2, q3, q4]
        rw [e1, e2] at hQ
        clear e1 e2
        have loop : ∀ n' k, S.1 55 t + 1 ≤ k + n' → k ≤ S.1 55 t → j 24 [some (.ref 43), some (.int (nI t)), some (.int (nI i)), some (.int (ab_z (s_at S i t || ab_ex (fun k => S.1 54 (4 * t + k) == i) k))), some (.int (nI k))] [] μ := by
          intro n'
          induction n' with
          | zero => intro k h1 h2; omega
          | succ n' ih =>
            intro k h1 h2
            by_cases hk : k < S.1 55 t
            · have t7 := t6 k hk
              refine hj _ _ _ _ ?_
              repeat' (first | refine hjx _ _ _ _ (by decide) ?_ | (refine br_c (fun h => ?_) (fun h => ?_) <;> (try simp (disch := omega) only [nI_clamp, li_2, li_3, li_4, li_5, li_6, li_7, li_8, li_9, li_10, li_40, li_120, pk_mul, nI_add, nI_1, ix_eq, ix_lt, ix_le, ix_l0, ix_l1, ix_n0, ix_p0, ix_1lt, ix_lt1, ix_1le, ix_le1, ix_le0, ix_0lt, ab_z0, ab_z1, i_10, i_01, eq_self, ab_ozn, ab_ozp, ab_o_some, not_true_eq_false, not_false_eq_true, Bool.not_eq_false, Bool.not_eq_true, Bool.not_eq_false', Bool.not_eq_true', Bool.false_eq_true, Bool.true_eq_false, reduceCtorEq, Option.isSome_some, Option.isSome_none, r44, r45, r46, r47, r48, r49, r50, r51, r52, r53, r54, r55, r56, r57, r58, r59, r60, r61, g0, g2, g6, g16] at h) <;> (try omega)) | (refine br_n (fun h => ?_) (fun h => ?_) <;> (try simp (disch := omega) only [nI_clamp, li_2, li_3, li_4, li_5, li_6, li_7, li_8, li_9, li_10, li_40, li_120, pk_mul, nI_add, nI_1, ix_eq, ix_lt, ix_le, ix_l0, ix_l1, ix_n0, ix_p0, ix_1lt, ix_lt1, ix_1le, ix_le1, ix_le0, ix_0lt, ab_z0, ab_z1, i_10, i_01, eq_self, ab_ozn, ab_ozp, ab_o_some, not_true_eq_false, not_false_eq_true, Bool.not_eq_false, Bool.not_eq_true, Bool.not_eq_false', Bool.not_eq_true', Bool.false_eq_true, Bool.true_eq_false, reduceCtorEq, Option.isSome_some, Option.isSome_none, r44, r45, r46, r47, r48, r49, r50, r51, r52, r53, r54, r55, r56, r57, r58, r59, r60, r61, g0, g2, g6, g16] at h) <;> (try omega)) | refine ab_sd (by first | (with_reducible refine vp_in_nI ?_ ?_ <;> omega) | (simp (disch := omega) only [nI_clamp, li_2, li_3, li_4, li_5, li_6, li_7, li_8, li_9, li_10, li_40, li_120, pk_mul, nI_add, nI_1, ix_eq, ix_lt, ix_le, ix_l0, ix_l1, ix_n0, ix_p0, ix_1lt, ix_lt1, ix_1le, ix_le1, ix_le0, ix_0lt, ab_z0, ab_z1, i_10, i_01, eq_self, ab_ozn, ab_ozp, ab_o_some, not_true_eq_false, not_false_eq_true, Bool.not_eq_false, Bool.not_eq_true, Bool.not_eq_false', Bool.not_eq_true', Bool.false_eq_true, Bool.true_eq_false, reduceCtorEq, Option.isSome_some, Option.isSome_none, r44, r45, r46, r47, r48, r49, r50, r51, r52, r53, r54, r55, r56, r57, r58, r59, r60, r61, g0, g2, g6, g16]; with_reducible refine vp_in_nI ?_ ?_ <;> omega)) ?_ | refine ab_sd ?_ ?_ | refine ab_sz (Or.inl rfl) ?_ | refine ab_sz (Or.inr rfl) ?_ | refine ab_sz ?_ ?_)
              · show j 24 _ _ _
                rw [nI_1, show (0 : Int32) = ab_z false from rfl, ab_zor]
                have := ih (k + 1) (by omega) (by omega)
                rw [ab_ex_s, ← Bool.or_assoc, show (S.1 54 (4 * t + k) == i) = false by simp [h]] at this
                exact this
              · show j 24 _ _ _
                rw [nI_1, show (1 : Int32) = ab_z true from rfl, ab_zor]
                have := ih (k + 1) (by omega) (by omega)
                rw [ab_ex_s, ← Bool.or_assoc, show (S.1 54 (4 * t + k) == i) = true by simp [h]] at this
                exact this
            · have hk2 : k = S.1 55 t := by omega
              have hf : ab_ex (fun k => S.1 54 (4 * t + k) == i) k = s_isf S t i := by unfold s_isf; rw [hk2]
              rw [hf]
              cases hb : (s_at S i t || s_isf S t i) with
              | true =>
                have hb2 : s_at S i t = true ∨ s_isf S t i = true := by simpa using hb
                rw [if_pos hb2, if_pos hb2] at hQ
                have hQ := hQ μ R SameC.rf (Or.inl ⟨SameK.rf, rfl⟩)
                refine hj _ _ _ _ ?_
                repeat' (first | refine hjx _ _ _ _ (by decide) ?_ | (refine br_c (fun h => ?_) (fun h => ?_) <;> (try simp (disch := omega) only [nI_clamp, li_2, li_3, li_4, li_5, li_6, li_7, li_8, li_9, li_10, li_40, li_120, pk_mul, nI_add, nI_1, ix_eq, ix_lt, ix_le, ix_l0, ix_l1, ix_n0, ix_p0, ix_1lt, ix_lt1, ix_1le, ix_le1, ix_le0, ix_0lt, ab_z0, ab_z1, i_10, i_01, eq_self, ab_ozn, ab_ozp, ab_o_some, not_true_eq_false, not_false_eq_true, Bool.not_eq_false, Bool.not_eq_true, Bool.not_eq_false', Bool.not_eq_true', Bool.false_eq_true, Bool.true_eq_false, reduceCtorEq, Option.isSome_some, Option.isSome_none, r44, r45, r46, r47, r48, r49, r50, r51, r52, r53, r54, r55, r56, r57, r58, r59, r60, r61, g0, g2, g6, g16] at h) <;> (try omega)) | (refine br_n (fun h => ?_) (fun h => ?_) <;> (try simp (disch := omega) only [nI_clamp, li_2, li_3, li_4, li_5, li_6, li_7, li_8, li_9, li_10, li_40, li_120, pk_mul, nI_add, nI_1, ix_eq, ix_lt, ix_le, ix_l0, ix_l1, ix_n0, ix_p0, ix_1lt, ix_lt1, ix_1le, ix_le1, ix_le0, ix_0lt, ab_z0, ab_z1, i_10, i_01, eq_self, ab_ozn, ab_ozp, ab_o_some, not_true_eq_false, not_false_eq_true, Bool.not_eq_false, Bool.not_eq_true, Bool.not_eq_false', Bool.not_eq_true', Bool.false_eq_true, Bool.true_eq_false, reduceCtorEq, Option.isSome_some, Option.isSome_none, r44, r45, r46, r47, r48, r49, r50, r51, r52, r53, r54, r55, r56, r57, r58, r59, r60, r61, g0, g2, g6, g16] at h) <;> (try omega)) | refine ab_sd (by first | (with_reducible refine vp_in_nI ?_ ?_ <;> omega) | (simp (disch := omega) only [nI_clamp, li_2, li_3, li_4, li_5, li_6, li_7, li_8, li_9, li_10, li_40, li_120, pk_mul, nI_add, nI_1, ix_eq, ix_lt, ix_le, ix_l0, ix_l1, ix_n0, ix_p0, ix_1lt, ix_lt1, ix_1le, ix_le1, ix_le0, ix_0lt, ab_z0, ab_z1, i_10, i_01, eq_self, ab_ozn, ab_ozp, ab_o_some, not_true_eq_false, not_false_eq_true, Bool.not_eq_false, Bool.not_eq_true, Bool.not_eq_false', Bool.not_eq_true', Bool.false_eq_true, Bool.true_eq_false, reduceCtorEq, Option.isSome_some, Option.isSome_none, r44, r45, r46, r47, r48, r49, r50, r51, r52, r53, r54, r55, r56, r57, r58, r59, r60, r61, g0, g2, g6, g16]; with_reducible refine vp_in_nI ?_ ?_ <;> omega)) ?_ | refine ab_sd ?_ ?_ | refine ab_sz (Or.inl rfl) ?_ | refine ab_sz (Or.inr rfl) ?_ | refine ab_sz ?_ ?_)
                all_goals exact hQ
              | false =>
                have hb2 : ¬ (s_at S i t = true ∨ s_isf S t i = true) := by intro q; rcases q with q | q <;> simp [q] at hb
                have hb3 : s_at S i t = false := by cases h : s_at S i t <;> simp_all
                rw [if_neg hb2, if_neg hb2] at hQ
                by_cases h4 : S.1 55 t = 4
                · rw [if_pos h4, if_pos h4] at hQ
                  have hQ := hQ μ R SameC.rf (Or.inl ⟨SameK.rf, rfl⟩)
                  refine hj _ _ _ _ ?_
                  repeat' (first | refine hjx _ _ _ _ (by decide) ?_ | (refine br_c (fun h => ?_) (fun h => ?_) <;> (try simp (disch := omega) only [nI_clamp, li_2, li_3, li_4, li_5, li_6, li_7, li_8, li_9, li_10, li_40, li_120, pk_mul, nI_add, nI_1, ix_eq, ix_lt, ix_le, ix_l0, ix_l1, ix_n0, ix_p0, ix_1lt, ix_lt1, ix_1le, ix_le1, ix_le0, ix_0lt, ab_z0, ab_z1, i_10, i_01, eq_self, ab_ozn, ab_ozp, ab_o_some, not_true_eq_false, not_false_eq_true, Bool.not_eq_false, Bool.not_eq_true, Bool.not_eq_false', Bool.not_eq_true', Bool.false_eq_true, Bool.true_eq_false, reduceCtorEq, Option.isSome_some, Option.isSome_none, r44, r45, r46, r47, r48, r49, r50, r51, r52, r53, r54, r55, r56, r57, r58, r59, r60, r61, g0, g2, g6, g16] at h) <;> (try omega)) | (refine br_n (fun h => ?_) (fun h => ?_) <;> (try simp (disch := omega) only [nI_clamp, li_2, li_3, li_4, li_5, li_6, li_7, li_8, li_9, li_10, li_40, li_120, pk_mul, nI_add, nI_1, ix_eq, ix_lt, ix_le, ix_l0, ix_l1, ix_n0, ix_p0, ix_1lt, ix_lt1, ix_1le, ix_le1, ix_le0, ix_0lt, ab_z0, ab_z1, i_10, i_01, eq_self, ab_ozn, ab_ozp, ab_o_some, not_true_eq_false, not_false_eq_true, Bool.not_eq_false, Bool.not_eq_true, Bool.not_eq_false', Bool.not_eq_true', Bool.false_eq_true, Bool.true_eq_false, reduceCtorEq, Option.isSome_some, Option.isSome_none, r44, r45, r46, r47, r48, r49, r50, r51, r52, r53, r54, r55, r56, r57, r58, r59, r60, r61, g0, g2, g6, g16] at h) <;> (try omega)) | refine ab_sd (by first | (with_reducible refine vp_in_nI ?_ ?_ <;> omega) | (simp (disch := omega) only [nI_clamp, li_2, li_3, li_4, li_5, li_6, li_7, li_8, li_9, li_10, li_40, li_120, pk_mul, nI_add, nI_1, ix_eq, ix_lt, ix_le, ix_l0, ix_l1, ix_n0, ix_p0, ix_1lt, ix_lt1, ix_1le, ix_le1, ix_le0, ix_0lt, ab_z0, ab_z1, i_10, i_01, eq_self, ab_ozn, ab_ozp, ab_o_some, not_true_eq_false, not_false_eq_true, Bool.not_eq_false, Bool.not_eq_true, Bool.not_eq_false', Bool.not_eq_true', Bool.false_eq_true, Bool.true_eq_false, reduceCtorEq, Option.isSome_some, Option.isSome_none, r44, r45, r46, r47, r48, r49, r50, r51, r52, r53, r54, r55, r56, r57, r58, r59, r60, r61, g0, g2, g6, g16]; with_reducible refine vp_in_nI ?_ ?_ <;> omega)) ?_ | refine ab_sd ?_ ?_ | refine ab_sz (Or.inl rfl) ?_ | refine ab_sz (Or.inr rfl) ?_ | refine ab_sz ?_ ?_)
                  exact hQ
                · rw [if_neg h4, if_neg h4] at hQ
                  have R1 := rep_u (rep_u (k := 54) (j := 4 * t + S.1 55 t) (v := i) R rfl (by omega)) (k := 55) (j := t) (v := S.1 55 t + 1) rfl (by omega)
                  refine hj _ _ _ _ ?_
                  repeat' (first | refine hjx _ _ _ _ (by decide) ?_ | (refine br_c (fun h => ?_) (fun h => ?_) <;> (try simp (disch := omega) only [nI_clamp, li_2, li_3, li_4, li_5, li_6, li_7, li_8, li_9, li_10, li_40, li_120, pk_mul, nI_add, nI_1, ix_eq, ix_lt, ix_le, ix_l0, ix_l1, ix_n0, ix_p0, ix_1lt, ix_lt1, ix_1le, ix_le1, ix_le0, ix_0lt, ab_z0, ab_z1, i_10, i_01, eq_self, ab_ozn, ab_ozp, ab_o_some, not_true_eq_false, not_false_eq_true, Bool.not_eq_false, Bool.not_eq_true, Bool.not_eq_false', Bool.not_eq_true', Bool.false_eq_true, Bool.true_eq_false, reduceCtorEq, Option.isSome_some, Option.isSome_none, r44, r45, r46, r47, r48, r49, r50, r51, r52, r53, r54, r55, r56, r57, r58, r59, r60, r61, g0, g2, g6, g16] at h) <;> (try omega)) | (refine br_n (fun h => ?_) (fun h => ?_) <;> (try simp (disch := omega) only [nI_clamp, li_2, li_3, li_4, li_5, li_6, li_7, li_8, li_9, li_10, li_40, li_120, pk_mul, nI_add, nI_1, ix_eq, ix_lt, ix_le, ix_l0, ix_l1, ix_n0, ix_p0, ix_1lt, ix_lt1, ix_1le, ix_le1, ix_le0, ix_0lt, ab_z0, ab_z1, i_10, i_01, eq_self, ab_ozn, ab_ozp, ab_o_some, not_true_eq_false, not_false_eq_true, Bool.not_eq_false, Bool.not_eq_true, Bool.not_eq_false', Bool.not_eq_true', Bool.false_eq_true, Bool.true_eq_false, reduceCtorEq, Option.isSome_some, Option.isSome_none, r44, r45, r46, r47, r48, r49, r50, r51, r52, r53, r54, r55, r56, r57, r58, r59, r60, r61, g0, g2, g6, g16] at h) <;> (try omega)) | refine ab_sd (by first | (with_reducible refine vp_in_nI ?_ ?_ <;> omega) | (simp (disch := omega) only [nI_clamp, li_2, li_3, li_4, li_5, li_6, li_7, li_8, li_9, li_10, li_40, li_120, pk_mul, nI_add, nI_1, ix_eq, ix_lt, ix_le, ix_l0, ix_l1, ix_n0, ix_p0, ix_1lt, ix_lt1, ix_1le, ix_le1, ix_le0, ix_0lt, ab_z0, ab_z1, i_10, i_01, eq_self, ab_ozn, ab_ozp, ab_o_some, not_true_eq_false, not_false_eq_true, Bool.not_eq_false, Bool.not_eq_true, Bool.not_eq_false', Bool.not_eq_true', Bool.false_eq_true, Bool.true_eq_false, reduceCtorEq, Option.isSome_some, Option.isSome_none, r44, r45, r46, r47, r48, r49, r50, r51, r52, r53, r54, r55, r56, r57, r58, r59, r60, r61, g0, g2, g6, g16]; with_reducible refine vp_in_nI ?_ ?_ <;> omega)) ?_ | refine ab_sd ?_ ?_ | refine ab_sz (Or.inl rfl) ?_ | refine ab_sz (Or.inr rfl) ?_ | refine ab_sz ?_ ?_)
                  simp (disch := omega) only [ix_4, r55, nI_clamp, nI_1, mi_ne, c1]
                  refine r_raise hω R1 hT (t := t) (a := i) rfl rfl ht hi hb3 (fun μ' R' hC hF => ?_)
                  have r55' : μ'.1 55 t = nI (S.1 55 t + 1) := by
                    rw [R'.1 55 t rfl]
                    simp [s_raise, s_w56, s_un]
                  repeat' (first | refine hjx _ _ _ _ (by decide) ?_ | (refine br_c (fun h => ?_) (fun h => ?_) <;> (try simp (disch := omega) only [nI_clamp, li_2, li_3, li_4, li_5, li_6, li_7, li_8, li_9, li_10, li_40, li_120, pk_mul, nI_add, nI_1, ix_eq, ix_lt, ix_le, ix_l0, ix_l1, ix_n0, ix_p0, ix_1lt, ix_lt1, ix_1le, ix_le1, ix_le0, ix_0lt, ab_z0, ab_z1, i_10, i_01, eq_self, ab_ozn, ab_ozp, ab_o_some, not_true_eq_false, not_false_eq_true, Bool.not_eq_false, Bool.not_eq_true, Bool.not_eq_false', Bool.not_eq_true', Bool.false_eq_true, Bool.true_eq_false, reduceCtorEq, Option.isSome_some, Option.isSome_none] at h) <;> (try omega)) | (refine br_n (fun h => ?_) (fun h => ?_) <;> (try simp (disch := omega) only [nI_clamp, li_2, li_3, li_4, li_5, li_6, li_7, li_8, li_9, li_10, li_40, li_120, pk_mul, nI_add, nI_1, ix_eq, ix_lt, ix_le, ix_l0, ix_l1, ix_n0, ix_p0, ix_1lt, ix_lt1, ix_1le, ix_le1, ix_le0, ix_0lt, ab_z0, ab_z1, i_10, i_01, eq_self, ab_ozn, ab_ozp, ab_o_some, not_true_eq_false, not_false_eq_true, Bool.not_eq_false, Bool.not_eq_true, Bool.not_eq_false', Bool.not_eq_true', Bool.false_eq_true, Bool.true_eq_false, reduceCtorEq, Option.isSome_some, Option.isSome_none] at h) <;> (try omega)) | refine ab_sd (by first | (with_reducible refine vp_in_nI ?_ ?_ <;> omega) | (simp (disch := omega) only [nI_clamp, li_2, li_3, li_4, li_5, li_6, li_7, li_8, li_9, li_10, li_40, li_120, pk_mul, nI_add, nI_1, ix_eq, ix_lt, ix_le, ix_l0, ix_l1, ix_n0, ix_p0, ix_1lt, ix_lt1, ix_1le, ix_le1, ix_le0, ix_0lt, ab_z0, ab_z1, i_10, i_01, eq_self, ab_ozn, ab_ozp, ab_o_some, not_true_eq_false, not_false_eq_true, Bool.not_eq_false, Bool.not_eq_true, Bool.not_eq_false', Bool.not_eq_true', Bool.false_eq_true, Bool.true_eq_false, reduceCtorEq, Option.isSome_some, Option.isSome_none]; with_reducible refine vp_in_nI ?_ ?_ <;> omega)) ?_ | refine ab_sd ?_ ?_ | refine ab_sz (Or.inl rfl) ?_ | refine ab_sz (Or.inr rfl) ?_ | refine ab_sz ?_ ?_)
                  refine q_of (hQ μ' R' (((SameC.rf.mi (k := 54) (by omega)).mi (k := 55) (by omega)).tr hC) (Or.inr hF)) ?_
                  rw [c1, r55']
        repeat' (first | refine hjx _ _ _ _ (by decide) ?_ | (refine br_c (fun h => ?_) (fun h => ?_) <;> (try simp (disch := omega) only [nI_clamp, li_2, li_3, li_4, li_5, li_6, li_7, li_8, li_9, li_10, li_40, li_120, pk_mul, nI_add, nI_1, ix_eq, ix_lt, ix_le, ix_l0, ix_l1, ix_n0, ix_p0, ix_1lt, ix_lt1, ix_1le, ix_le1, ix_le0, ix_0lt, ab_z0, ab_z1, i_10, i_01, eq_self, ab_ozn, ab_ozp, ab_o_some, not_true_eq_false, not_false_eq_true, Bool.not_eq_false, Bool.not_eq_true, Bool.not_eq_false', Bool.not_eq_true', Bool.false_eq_true, Bool.true_eq_false, reduceCtorEq, Option.isSome_some, Option.isSome_none, r44, r45, r46, r47, r48, r49, r50, r51, r52, r53, r54, r55, r56, r57, r58, r59, r60, r61, g0, g2, g6, g16, hx, hy] at h) <;> (try omega)) | (refine br_n (fun h => ?_) (fun h => ?_) <;> (try simp (disch := omega) only [nI_clamp, li_2, li_3, li_4, li_5, li_6, li_7, li_8, li_9, li_10, li_40, li_120, pk_mul, nI_add, nI_1, ix_eq, ix_lt, ix_le, ix_l0, ix_l1, ix_n0, ix_p0, ix_1lt, ix_lt1, ix_1le, ix_le1, ix_le0, ix_0lt, ab_z0, ab_z1, i_10, i_01, eq_self, ab_ozn, ab_ozp, ab_o_some, not_true_eq_false, not_false_eq_true, Bool.not_eq_false, Bool.not_eq_true, Bool.not_eq_false', Bool.not_eq_true', Bool.false_eq_true, Bool.true_eq_false, reduceCtorEq, Option.isSome_some, Option.isSome_none, r44, r45, r46, r47, r48, r49, r50, r51, r52, r53, r54, r55, r56, r57, r58, r59, r60, r61, g0, g2, g6, g16, hx, hy] at h) <;> (try omega)) | refine ab_sd (by first | (with_reducible refine vp_in_nI ?_ ?_ <;> omega) | (simp (disch := omega) only [nI_clamp, li_2, li_3, li_4, li_5, li_6, li_7, li_8, li_9, li_10, li_40, li_120, pk_mul, nI_add, nI_1, ix_eq, ix_lt, ix_le, ix_l0, ix_l1, ix_n0, ix_p0, ix_1lt, ix_lt1, ix_1le, ix_le1, ix_le0, ix_0lt, ab_z0, ab_z1, i_10, i_01, eq_self, ab_ozn, ab_ozp, ab_o_some, not_true_eq_false, not_false_eq_true, Bool.not_eq_false, Bool.not_eq_true, Bool.not_eq_false', Bool.not_eq_true', Bool.false_eq_true, Bool.true_eq_false, reduceCtorEq, Option.isSome_some, Option.isSome_none, r44, r45, r46, r47, r48, r49, r50, r51, r52, r53, r54, r55, r56, r57, r58, r59, r60, r61, g0, g2, g6, g16, hx, hy]; with_reducible refine vp_in_nI ?_ ?_ <;> omega)) ?_ | refine r_noType hω R ?_ | refine r_isAt hω R (t := i) (u := t) rfl rfl (by omega) (by omega) ?_ | refine ab_sd ?_ ?_ | refine ab_sz (Or.inl rfl) ?_ | refine ab_sz (Or.inr rfl) ?_ | refine ab_sz ?_ ?_)
        have := loop (S.1 55 t + 1) 0 (by omega) (by omega)
        simp only [ab_ex, Bool.or_false] at this
        exact this
end R7
end
section
/-! type, member -/
def s_type (S : sT) (pk : Nat) (ou : Option Nat) (so ac fl : Nat) : sT := (fun a b => if a = 43 ∧ b = 6 then s_nT S + 1 else if a = 48 ∧ b = s_nT S then pk else if a = 50 ∧ b = s_nT S then so else if a = 51 ∧ b = s_nT S then ac else if a = 52 ∧ b = s_nT S then fl else S.1 a b,
  fun a b => if a = 56 ∧ b = 40 * s_nT S then so == 0 else S.2.1 a b,
  fun a b => if a = 49 ∧ b = s_nT S then ou else if a = 53 ∧ b = s_nT S then (if so = 0 then some 0 else none) else S.2.2 a b)
/-- an outer one as a call tells it -/
def s_dou (o : Int32) : Option Nat := if o = -1 then none else some o.toNatClampNeg
def v_type (S : sT) (p o so ac fl : Int32) : Bool := ab_ok (s_nP S) p && (o == -1 || ab_ok (s_nT S) o) && ab_ok 2 so && (ab_ok 4 ac && ab_ok 8 fl)
def s_rT2 (S : sT) (p o so ac fl : Int32) : Nat := s_rT S p.toNatClampNeg (s_dou o) so.toNatClampNeg ac.toNatClampNeg fl.toNatClampNeg
def a_type (S : sT) (p o so ac fl : Int32) : Int32 := if v_type S p o so ac fl then (if 0 < s_rT2 S p o so ac fl then -10 - nI (s_rT2 S p o so ac fl) else if s_nT S = 40 then -4 else nI (s_nT S)) else -1
def o_type (S : sT) (p o so ac fl : Int32) : sT := if v_type S p o so ac fl = true ∧ s_rT2 S p o so ac fl = 0 ∧ ¬ s_nT S = 40 then s_type S p.toNatClampNeg (s_dou o) so.toNatClampNeg ac.toNatClampNeg fl.toNatClampNeg else S
theorem s_rT_le (S : sT) (pk : Nat) (ou : Option Nat) (so ac fl : Nat) : s_rT S pk ou so ac fl ≤ 4 := by
  unfold s_rT s_r4
  grind
theorem ab_ok2 (x : Int32) : ab_ok 2 x = (decide (0 ≤ x) && decide (x ≤ 1)) := by
  unfold ab_ok
  congr 1
  rw [decide_eq_decide, Int32.lt_iff_toInt_lt, Int32.le_iff_toInt_le]
  show _ < (2 : Int) ↔ _ ≤ (1 : Int)
  omega
theorem rep_type {S : sT} {μ μ' : ab_M} (R : RepR S μ) {pk so ac fl : Nat} {ou : Option Nat}
    (hμ : μ' = ab_mi (ab_mi (ab_mi (ab_mi (ab_mi (ab_mi (ab_mi (ab_mi (ab_mi μ 43 6 (nI (s_nT S + 1))) 48 (s_nT S) (nI pk)) 49 (s_nT S) (ab_o ou)) 50 (s_nT S) (nI so)) 51 (s_nT S) (nI ac)) 52 (s_nT S) (nI fl)) 53 (s_nT S) (ab_o (if so = 0 then some 0 else none))) 56 (40 * s_nT S) (ab_z (so == 0))) 43 22 0) : RepR (s_type S pk ou so ac fl) μ' := by
  subst hμ
  refine ⟨fun k j h => ?_, fun k j h => ?_, fun k j h hb => ?_⟩
  · have h0 := R.1 k j h
    obtain ⟨e1, e2, e3⟩ := s_ikb h
    have e4 : ¬ k = 56 := fun q => by rw [q] at e1; simp [s_bk] at e1
    have e5 : ¬ (k = 43 ∧ j = 22) := fun q => by rw [q.1, q.2] at h; simp [s_ik] at h
    simp only [ab_mi, s_type]
    grind
  · have h0 := R.2.1 k j h
    have e1 : k ≠ 43 ∧ k ≠ 48 ∧ k ≠ 49 ∧ k ≠ 50 ∧ k ≠ 51 ∧ k ≠ 52 ∧ k ≠ 53 := by
      simp only [s_bk, Bool.or_eq_true, beq_iff_eq] at h
      omega
    simp only [ab_mi, s_type]
    grind
  · have hb2 : j < s_nT S + 1 := by
      simpa [s_nT, s_type] using hb
    have h0 := R.2.2 k j h
    simp only [ab_mi, s_type]
    rcases h with h | h <;> subst h <;> simp <;> grind
section R8
variable {l : Launch} {ω : ab_W} {S : sT} {μ : ab_M} {Q : Int32 → ab_M → Prop}
set_option maxHeartbeats 4000000 in
set_option maxRecDepth 10000 in
theorem r_type (hω : ω.2.2.2 = ab_SH) (R : RepR S μ) (hW : Wf S) {x y z v w : Int32} (hQ : ∀ μ', RepR (o_type S x y z v w) μ' → SameC μ μ' → (SameK μ μ' ∧ o_type S x y z v w = S) ∨ μ'.1 43 22 = 0 → Q (a_type S x y z v w) μ') : ab_CI l ω mX11_type [.ref 43, .int x, .int y, .int z, .int v, .int w] μ Q := by
  refine ab_intro (sh := ab_SH) (cd := kX11_type) hω vX11_type (by decide +kernel) rfl (Nat.le_of_ble_eq_true rfl) (fun j hj hw => ?_)
  have hT := hW.2.2.1.2
  have hP := hW.2.1.2
  obtain ⟨r44, r45, r46, r47, r48, r49, r50, r51, r52, r53, r54, r55, r56, r57, r58, r59, r60, r61, g0, g2, g6, g16⟩ := RepR_fs R
  cases hv : v_type S x y z v w with
  | false =>
    have e1 : a_type S x y z v w = -1 := by simp [a_type, hv]
    have e2 : o_type S x y z v w = S := by simp [o_type, hv]
    rw [e1, e2] at hQ
    have hQ := hQ μ R SameC.rf (Or.inl ⟨SameK.rf, rfl⟩)
    unfold v_type at hv
    rw [ab_ok2] at hv
    repeat' (first | refine hj _ _ _ _ ?_ | (refine br_c (fun h => ?_) (fun h => ?_) <;> (try simp (disch := omega) only [nI_clamp, li_2, li_3, li_4, li_5, li_6, li_7, li_8, li_9, li_10, li_40, li_120, pk_mul, nI_add, nI_1, ix_eq, ix_lt, ix_le, ix_l0, ix_l1, ix_n0, ix_p0, ix_1lt, ix_lt1, ix_1le, ix_le1, ix_le0, ix_0lt, ab_z0, ab_z1, i_10, i_01, eq_self, ab_ozn, ab_ozp, ab_o_some, not_true_eq_false, not_false_eq_true, Bool.not_eq_false, Bool.not_eq_true, Bool.not_eq_false', Bool.not_eq_true', Bool.false_eq_true, Bool.true_eq_false, reduceCtorEq, Option.isSome_some, Option.isSome_none, r44, r45, r46, r47, r48, r49, r50, r51, r52, r53, r54, r55, r56, r57, r58, r59, r60, r61, g0, g2, g6, g16] at h) <;> (try omega)) | (refine br_n (fun h => ?_) (fun h => ?_) <;> (try simp (disch := omega) only [nI_clamp, li_2, li_3, li_4, li_5, li_6, li_7, li_8, li_9, li_10, li_40, li_120, pk_mul, nI_add, nI_1, ix_eq, ix_lt, ix_le, ix_l0, ix_l1, ix_n0, ix_p0, ix_1lt, ix_lt1, ix_1le, ix_le1, ix_le0, ix_0lt, ab_z0, ab_z1, i_10, i_01, eq_self, ab_ozn, ab_ozp, ab_o_some, not_true_eq_false, not_false_eq_true, Bool.not_eq_false, Bool.not_eq_true, Bool.not_eq_false', Bool.not_eq_true', Bool.false_eq_true, Bool.true_eq_false, reduceCtorEq, Option.isSome_some, Option.isSome_none, r44, r45, r46, r47, r48, r49, r50, r51, r52, r53, r54, r55, r56, r57, r58, r59, r60, r61, g0, g2, g6, g16] at h) <;> (try omega)) | refine ab_sd (by first | (with_reducible refine vp_in_nI ?_ ?_ <;> omega) | (simp (disch := omega) only [nI_clamp, li_2, li_3, li_4, li_5, li_6, li_7, li_8, li_9, li_10, li_40, li_120, pk_mul, nI_add, nI_1, ix_eq, ix_lt, ix_le, ix_l0, ix_l1, ix_n0, ix_p0, ix_1lt, ix_lt1, ix_1le, ix_le1, ix_le0, ix_0lt, ab_z0, ab_z1, i_10, i_01, eq_self, ab_ozn, ab_ozp, ab_o_some, not_true_eq_false, not_false_eq_true, Bool.not_eq_false, Bool.not_eq_true, Bool.not_eq_false', Bool.not_eq_true', Bool.false_eq_true, Bool.true_eq_false, reduceCtorEq, Option.isSome_some, Option.isSome_none, r44, r45, r46, r47, r48, r49, r50, r51, r52, r53, r54, r55, r56, r57, r58, r59, r60, r61, g0, g2, g6, g16]; with_reducible refine vp_in_nI ?_ ?_ <;> omega)) ?_ | refine r_noPack hω R ?_ | refine r_noType hω R ?_ | refine r_noForm hω ?_ | (exfalso; clear hj hw hQ; grind) | refine ab_sd ?_ ?_ | refine ab_sz (Or.inl rfl) ?_ | refine ab_sz (Or.inr rfl) ?_ | refine ab_sz ?_ ?_)
    all_goals first | exact hQ | (exfalso; clear hj hw hQ; grind)
  | true =>
    have hv2 := hv
    unfold v_type at hv2
    simp only [Bool.and_eq_true, Bool.or_eq_true, beq_iff_eq] at hv2
    obtain ⟨⟨⟨hx, hy⟩, hz⟩, hf1, hf2⟩ := hv2
    obtain ⟨pk, hpk, rfl⟩ := ab_ok_t (by omega) hx
    obtain ⟨so, hso, rfl⟩ := ab_ok_t (by omega) hz
    obtain ⟨ac, hac, rfl⟩ := ab_ok_t (by omega) hf1
    obtain ⟨fl, hfl, rfl⟩ := ab_ok_t (by omega) hf2
    have c1 : (nI pk).toNatClampNeg = pk := nI_clamp (by omega)
    have c3 : (nI so).toNatClampNeg = so := nI_clamp (by omega)
    have c4 : (nI ac).toNatClampNeg = ac := nI_clamp (by omega)
    have c5 : (nI fl).toNatClampNeg = fl := nI_clamp (by omega)
    obtain ⟨ou, hou, ho1, ho2⟩ : ∃ ou : Option Nat, y = ab_o1 ou ∧ s_dou y = ou ∧ ∀ o, ou = some o → o < s_nT S := by
      rcases hy with rfl | hy
      · exact ⟨none, rfl, rfl, fun o h => by cases h⟩
      · obtain ⟨o, ho, rfl⟩ := ab_ok_t (by omega) hy
        have : ¬ nI o = -1 := fun q => by have := nI_pos (n := o) (by omega); rw [q] at this; exact this (by decide)
        exact ⟨some o, rfl, by simp [s_dou, this, nI_clamp (show o < 2 ^ 31 by omega)], fun o2 h => by cases h; exact ho⟩
    have e0 : s_rT2 S (nI pk) y (nI so) (nI ac) (nI fl) = s_rT S pk ou so ac fl := by unfold s_rT2; rw [c1, c3, c4, c5, ho1]
    have hr := s_rT_le S pk ou so ac fl
    unfold a_type o_type at hQ
    rw [hv, e0, c1, c3, c4, c5, ho1] at hQ
    generalize hrr : s_rT S pk ou so ac fl = rr at hQ hr
    have hy2 : y = -1 ∨ ab_ok (s_nT S) y = true := hy
    by_cases h0 : 0 < rr
    · rw [if_pos rfl, if_pos h0, if_neg (by omega)] at hQ
      have hQ := hQ μ R SameC.rf (Or.inl ⟨SameK.rf, rfl⟩)
      repeat' (first | refine hj _ _ _ _ ?_ | (refine br_c (fun h => ?_) (fun h => ?_) <;> (try simp (disch := omega) only [nI_clamp, li_2, li_3, li_4, li_5, li_6, li_7, li_8, li_9, li_10, li_40, li_120, pk_mul, nI_add, nI_1, ix_eq, ix_lt, ix_le, ix_l0, ix_l1, ix_n0, ix_p0, ix_1lt, ix_lt1, ix_1le, ix_le1, ix_le0, ix_0lt, ab_z0, ab_z1, i_10, i_01, eq_self, ab_ozn, ab_ozp, ab_o_some, not_true_eq_false, not_false_eq_true, Bool.not_eq_false, Bool.not_eq_true, Bool.not_eq_false', Bool.not_eq_true', Bool.false_eq_true, Bool.true_eq_false, reduceCtorEq, Option.isSome_some, Option.isSome_none, r44, r45, r46, r47, r48, r49, r50, r51, r52, r53, r54, r55, r56, r57, r58, r59, r60, r61, g0, g2, g6, g16, hx, hf1, hf2, Bool.and_self] at h) <;> (try omega)) | (refine br_n (fun h => ?_) (fun h => ?_) <;> (try simp (disch := omega) only [nI_clamp, li_2, li_3, li_4, li_5, li_6, li_7, li_8, li_9, li_10, li_40, li_120, pk_mul, nI_add, nI_1, ix_eq, ix_lt, ix_le, ix_l0, ix_l1, ix_n0, ix_p0, ix_1lt, ix_lt1, ix_1le, ix_le1, ix_le0, ix_0lt, ab_z0, ab_z1, i_10, i_01, eq_self, ab_ozn, ab_ozp, ab_o_some, not_true_eq_false, not_false_eq_true, Bool.not_eq_false, Bool.not_eq_true, Bool.not_eq_false', Bool.not_eq_true', Bool.false_eq_true, Bool.true_eq_false, reduceCtorEq, Option.isSome_some, Option.isSome_none, r44, r45, r46, r47, r48, r49, r50, r51, r52, r53, r54, r55, r56, r57, r58, r59, r60, r61, g0, g2, g6, g16, hx, hf1, hf2, Bool.and_self] at h) <;> (try omega)) | refine ab_sd (by first | (with_reducible refine vp_in_nI ?_ ?_ <;> omega) | (simp (disch := omega) only [nI_clamp, li_2, li_3, li_4, li_5, li_6, li_7, li_8, li_9, li_10, li_40, li_120, pk_mul, nI_add, nI_1, ix_eq, ix_lt, ix_le, ix_l0, ix_l1, ix_n0, ix_p0, ix_1lt, ix_lt1, ix_1le, ix_le1, ix_le0, ix_0lt, ab_z0, ab_z1, i_10, i_01, eq_self, ab_ozn, ab_ozp, ab_o_some, not_true_eq_false, not_false_eq_true, Bool.not_eq_false, Bool.not_eq_true, Bool.not_eq_false', Bool.not_eq_true', Bool.false_eq_true, Bool.true_eq_false, reduceCtorEq, Option.isSome_some, Option.isSome_none, r44, r45, r46, r47, r48, r49, r50, r51, r52, r53, r54, r55, r56, r57, r58, r59, r60, r61, g0, g2, g6, g16, hx, hf1, hf2, Bool.and_self]; with_reducible refine vp_in_nI ?_ ?_ <;> omega)) ?_ | refine r_noPack hω R ?_ | refine r_noType hω R ?_ | refine r_noForm hω ?_ | (refine r_ruleOfType hω R hW rfl hou rfl rfl rfl (by omega) ho2 hso hac hfl ?_; rw [hrr]) | refine ab_sd ?_ ?_ | refine ab_sz (Or.inl rfl) ?_ | refine ab_sz (Or.inr rfl) ?_ | refine ab_sz ?_ ?_)
      all_goals first | (show Q _ _; with_reducible exact hQ) | (exfalso; clear hj hw hQ; grind)
    · by_cases h4 : s_nT S = 40
      · rw [if_pos rfl, if_neg h0, if_pos h4, if_neg (by omega)] at hQ
        have hQ := hQ μ R SameC.rf (Or.inl ⟨SameK.rf, rfl⟩)
        repeat' (first | refine hj _ _ _ _ ?_ | (refine br_c (fun h => ?_) (fun h => ?_) <;> (try simp (disch := omega) only [nI_clamp, li_2, li_3, li_4, li_5, li_6, li_7, li_8, li_9, li_10, li_40, li_120, pk_mul, nI_add, nI_1, ix_eq, ix_lt, ix_le, ix_l0, ix_l1, ix_n0, ix_p0, ix_1lt, ix_lt1, ix_1le, ix_le1, ix_le0, ix_0lt, ab_z0, ab_z1, i_10, i_01, eq_self, ab_ozn, ab_ozp, ab_o_some, not_true_eq_false, not_false_eq_true, Bool.not_eq_false, Bool.not_eq_true, Bool.not_eq_false', Bool.not_eq_true', Bool.false_eq_true, Bool.true_eq_false, reduceCtorEq, Option.isSome_some, Option.isSome_none, r44, r45, r46, r47, r48, r49, r50, r51, r52, r53, r54, r55, r56, r57, r58, r59, r60, r61, g0, g2, g6, g16, hx, hf1, hf2, Bool.and_self] at h) <;> (try omega)) | (refine br_n (fun h => ?_) (fun h => ?_) <;> (try simp (disch := omega) only [nI_clamp, li_2, li_3, li_4, li_5, li_6, li_7, li_8, li_9, li_10, li_40, li_120, pk_mul, nI_add, nI_1, ix_eq, ix_lt, ix_le, ix_l0, ix_l1, ix_n0, ix_p0, ix_1lt, ix_lt1, ix_1le, ix_le1, ix_le0, ix_0lt, ab_z0, ab_z1, i_10, i_01, eq_self, ab_ozn, ab_ozp, ab_o_some, not_true_eq_false, not_false_eq_true, Bool.not_eq_false, Bool.not_eq_true, Bool.not_eq_false', Bool.not_eq_true', Bool.false_eq_true, Bool.true_eq_false, reduceCtorEq, Option.isSome_some, Option.isSome_none, r44, r45, r46, r47, r48, r49, r50, r51, r52, r53, r54, r55, r56, r57, r58, r59, r60, r61, g0, g2, g6, g16, hx, hf1, hf2, Bool.and_self] at h) <;> (try omega)) | refine ab_sd (by first | (with_reducible refine vp_in_nI ?_ ?_ <;> omega) | (simp (disch := omega) only [nI_clamp, li_2, li_3, li_4, li_5, li_6, li_7, li_8, li_9, li_10, li_40, li_120, pk_mul, nI_add, nI_1, ix_eq, ix_lt, ix_le, ix_l0, ix_l1, ix_n0, ix_p0, ix_1lt, ix_lt1, ix_1le, ix_le1, ix_le0, ix_0lt, ab_z0, ab_z1, i_10, i_01, eq_self, ab_ozn, ab_ozp, ab_o_some, not_true_eq_false, not_false_eq_true, Bool.not_eq_false, Bool.not_eq_true, Bool.not_eq_false', Bool.not_eq_true', Bool.false_eq_true, Bool.true_eq_false, reduceCtorEq, Option.isSome_some, Option.isSome_none, r44, r45, r46, r47, r48, r49, r50, r51, r52, r53, r54, r55, r56, r57, r58, r59, r60, r61, g0, g2, g6, g16, hx, hf1, hf2, Bool.and_self]; with_reducible refine vp_in_nI ?_ ?_ <;> omega)) ?_ | refine r_noPack hω R ?_ | refine r_noType hω R ?_ | refine r_noForm hω ?_ | (refine r_ruleOfType hω R hW rfl hou rfl rfl rfl (by omega) ho2 hso hac hfl ?_; rw [hrr]) | refine ab_sd ?_ ?_ | refine ab_sz (Or.inl rfl) ?_ | refine ab_sz (Or.inr rfl) ?_ | refine ab_sz ?_ ?_)
        all_goals first | (show Q _ _; with_reducible exact hQ) | (exfalso; clear hj hw hQ; grind)
      · rw [if_pos rfl, if_neg h0, if_neg h4, if_pos ⟨rfl, by omega, h4⟩] at hQ
        have h00 : rr = 0 := by omega
        subst h00
        have hn1 : ((0 : Int32) ≤ ab_o1 none) ↔ False := ⟨fun q => absurd q (by decide), False.elim⟩
        have hs : so = 0 ∨ so = 1 := by omega
        have done : ∀ μ', μ' = ab_mi (ab_mi (ab_mi (ab_mi (ab_mi (ab_mi (ab_mi (ab_mi (ab_mi μ 43 6 (nI (s_nT S + 1))) 48 (s_nT S) (nI pk)) 49 (s_nT S) (ab_o ou)) 50 (s_nT S) (nI so)) 51 (s_nT S) (nI ac)) 52 (s_nT S) (nI fl)) 53 (s_nT S) (ab_o (if so = 0 then some 0 else none))) 56 (40 * s_nT S) (ab_z (so == 0))) 43 22 0 → Q (nI (s_nT S)) μ' := by
          intro μ' hμ
          refine hQ μ' (rep_type R hμ) ?_ (Or.inr ?_)
          · rw [hμ]
            exact ((((((((SameC.rf.mi (k := 43) (by omega)).mi (k := 48) (by omega)).mi (k := 49) (by omega)).mi (k := 50) (by omega)).mi (k := 51) (by omega)).mi (k := 52) (by omega)).mi (k := 53) (by omega)).mi (k := 56) (by omega)).mi (k := 43) (by omega)
          · rw [hμ]
            exact mi_eq
        clear hQ
        have n1 : ((0 : Int32) ≤ -1) ↔ False := ⟨fun q => absurd q (by decide), False.elim⟩
        cases ou with
        | none =>
          have hy3 : y = -1 := hou
          subst hy3
          rcases hs with rfl | rfl
          · repeat' (first | refine hj _ _ _ _ ?_ | (refine br_c (fun h => ?_) (fun h => ?_) <;> (try simp (disch := omega) only [nI_clamp, li_2, li_3, li_4, li_5, li_6, li_7, li_8, li_9, li_10, li_40, li_120, pk_mul, nI_add, nI_1, ix_eq, ix_lt, ix_le, ix_l0, ix_l1, ix_n0, ix_p0, ix_1lt, ix_lt1, ix_1le, ix_le1, ix_le0, ix_0lt, ab_z0, ab_z1, i_10, i_01, eq_self, ab_ozn, ab_ozp, ab_o_some, not_true_eq_false, not_false_eq_true, Bool.not_eq_false, Bool.not_eq_true, Bool.not_eq_false', Bool.not_eq_true', Bool.false_eq_true, Bool.true_eq_false, reduceCtorEq, Option.isSome_some, Option.isSome_none, r44, r45, r46, r47, r48, r49, r50, r51, r52, r53, r54, r55, r56, r57, r58, r59, r60, r61, g0, g2, g6, g16, hx, hf1, hf2, Bool.and_self, n1] at h) <;> (try omega)) | (refine br_n (fun h => ?_) (fun h => ?_) <;> (try simp (disch := omega) only [nI_clamp, li_2, li_3, li_4, li_5, li_6, li_7, li_8, li_9, li_10, li_40, li_120, pk_mul, nI_add, nI_1, ix_eq, ix_lt, ix_le, ix_l0, ix_l1, ix_n0, ix_p0, ix_1lt, ix_lt1, ix_1le, ix_le1, ix_le0, ix_0lt, ab_z0, ab_z1, i_10, i_01, eq_self, ab_ozn, ab_ozp, ab_o_some, not_true_eq_false, not_false_eq_true, Bool.not_eq_false, Bool.not_eq_true, Bool.not_eq_false', Bool.not_eq_true', Bool.false_eq_true, Bool.true_eq_false, reduceCtorEq, Option.isSome_some, Option.isSome_none, r44, r45, r46, r47, r48, r49, r50, r51, r52, r53, r54, r55, r56, r57, r58, r59, r60, r61, g0, g2, g6, g16, hx, hf1, hf2, Bool.and_self, n1] at h) <;> (try omega)) | refine ab_sd (by first | (with_reducible refine vp_in_nI ?_ ?_ <;> omega) | (simp (disch := omega) only [nI_clamp, li_2, li_3, li_4, li_5, li_6, li_7, li_8, li_9, li_10, li_40, li_120, pk_mul, nI_add, nI_1, ix_eq, ix_lt, ix_le, ix_l0, ix_l1, ix_n0, ix_p0, ix_1lt, ix_lt1, ix_1le, ix_le1, ix_le0, ix_0lt, ab_z0, ab_z1, i_10, i_01, eq_self, ab_ozn, ab_ozp, ab_o_some, not_true_eq_false, not_false_eq_true, Bool.not_eq_false, Bool.not_eq_true, Bool.not_eq_false', Bool.not_eq_true', Bool.false_eq_true, Bool.true_eq_false, reduceCtorEq, Option.isSome_some, Option.isSome_none, r44, r45, r46, r47, r48, r49, r50, r51, r52, r53, r54, r55, r56, r57, r58, r59, r60, r61, g0, g2, g6, g16, hx, hf1, hf2, Bool.and_self, n1]; with_reducible refine vp_in_nI ?_ ?_ <;> omega)) ?_ | refine r_noPack hω R ?_ | refine r_noType hω R ?_ | refine r_noForm hω ?_ | (refine r_ruleOfType hω R hW rfl hou rfl rfl rfl (by omega) ho2 hso hac hfl ?_; rw [hrr]) | refine ab_sd ?_ ?_ | refine ab_sz (Or.inl rfl) ?_ | refine ab_sz (Or.inr rfl) ?_ | refine ab_sz ?_ ?_)
            all_goals first | (show Q _ _; simp (disch := omega) only [g6, nI_1, nI_clamp, li_40, pk_mul]; exact done _ rfl) | (exfalso; clear hj hw done; simp_all; done)
          · repeat' (first | refine hj _ _ _ _ ?_ | (refine br_c (fun h => ?_) (fun h => ?_) <;> (try simp (disch := omega) only [nI_clamp, li_2, li_3, li_4, li_5, li_6, li_7, li_8, li_9, li_10, li_40, li_120, pk_mul, nI_add, nI_1, ix_eq, ix_lt, ix_le, ix_l0, ix_l1, ix_n0, ix_p0, ix_1lt, ix_lt1, ix_1le, ix_le1, ix_le0, ix_0lt, ab_z0, ab_z1, i_10, i_01, eq_self, ab_ozn, ab_ozp, ab_o_some, not_true_eq_false, not_false_eq_true, Bool.not_eq_false, Bool.not_eq_true, Bool.not_eq_false', Bool.not_eq_true', Bool.false_eq_true, Bool.true_eq_false, reduceCtorEq, Option.isSome_some, Option.isSome_none, r44, r45, r46, r47, r48, r49, r50, r51, r52, r53, r54, r55, r56, r57, r58, r59, r60, r61, g0, g2, g6, g16, hx, hf1, hf2, Bool.and_self, n1] at h) <;> (try omega)) | (refine br_n (fun h => ?_) (fun h => ?_) <;> (try simp (disch := omega) only [nI_clamp, li_2, li_3, li_4, li_5, li_6, li_7, li_8, li_9, li_10, li_40, li_120, pk_mul, nI_add, nI_1, ix_eq, ix_lt, ix_le, ix_l0, ix_l1, ix_n0, ix_p0, ix_1lt, ix_lt1, ix_1le, ix_le1, ix_le0, ix_0lt, ab_z0, ab_z1, i_10, i_01, eq_self, ab_ozn, ab_ozp, ab_o_some, not_true_eq_false, not_false_eq_true, Bool.not_eq_false, Bool.not_eq_true, Bool.not_eq_false', Bool.not_eq_true', Bool.false_eq_true, Bool.true_eq_false, reduceCtorEq, Option.isSome_some, Option.isSome_none, r44, r45, r46, r47, r48, r49, r50, r51, r52, r53, r54, r55, r56, r57, r58, r59, r60, r61, g0, g2, g6, g16, hx, hf1, hf2, Bool.and_self, n1] at h) <;> (try omega)) | refine ab_sd (by first | (with_reducible refine vp_in_nI ?_ ?_ <;> omega) | (simp (disch := omega) only [nI_clamp, li_2, li_3, li_4, li_5, li_6, li_7, li_8, li_9, li_10, li_40, li_120, pk_mul, nI_add, nI_1, ix_eq, ix_lt, ix_le, ix_l0, ix_l1, ix_n0, ix_p0, ix_1lt, ix_lt1, ix_1le, ix_le1, ix_le0, ix_0lt, ab_z0, ab_z1, i_10, i_01, eq_self, ab_ozn, ab_ozp, ab_o_some, not_true_eq_false, not_false_eq_true, Bool.not_eq_false, Bool.not_eq_true, Bool.not_eq_false', Bool.not_eq_true', Bool.false_eq_true, Bool.true_eq_false, reduceCtorEq, Option.isSome_some, Option.isSome_none, r44, r45, r46, r47, r48, r49, r50, r51, r52, r53, r54, r55, r56, r57, r58, r59, r60, r61, g0, g2, g6, g16, hx, hf1, hf2, Bool.and_self, n1]; with_reducible refine vp_in_nI ?_ ?_ <;> omega)) ?_ | refine r_noPack hω R ?_ | refine r_noType hω R ?_ | refine r_noForm hω ?_ | (refine r_ruleOfType hω R hW rfl hou rfl rfl rfl (by omega) ho2 hso hac hfl ?_; rw [hrr]) | refine ab_sd ?_ ?_ | refine ab_sz (Or.inl rfl) ?_ | refine ab_sz (Or.inr rfl) ?_ | refine ab_sz ?_ ?_)
            all_goals first | (show Q _ _; simp (disch := omega) only [g6, nI_1, nI_clamp, li_40, pk_mul]; exact done _ rfl) | (exfalso; clear hj hw done; simp_all; done)
        | some o =>
          have hy3 : y = nI o := hou
          subst hy3
          have ho3 := ho2 o rfl
          have ho4 := ab_ok_nI (n := s_nT S) (by omega) ho3
          rcases hs with rfl | rfl
          · repeat' (first | refine hj _ _ _ _ ?_ | (refine br_c (fun h => ?_) (fun h => ?_) <;> (try simp (disch := omega) only [nI_clamp, li_2, li_3, li_4, li_5, li_6, li_7, li_8, li_9, li_10, li_40, li_120, pk_mul, nI_add, nI_1, ix_eq, ix_lt, ix_le, ix_l0, ix_l1, ix_n0, ix_p0, ix_1lt, ix_lt1, ix_1le, ix_le1, ix_le0, ix_0lt, ab_z0, ab_z1, i_10, i_01, eq_self, ab_ozn, ab_ozp, ab_o_some, not_true_eq_false, not_false_eq_true, Bool.not_eq_false, Bool.not_eq_true, Bool.not_eq_false', Bool.not_eq_true', Bool.false_eq_true, Bool.true_eq_false, reduceCtorEq, Option.isSome_some, Option.isSome_none, r44, r45, r46, r47, r48, r49, r50, r51, r52, r53, r54, r55, r56, r57, r58, r59, r60, r61, g0, g2, g6, g16, hx, hf1, hf2, Bool.and_self, ho4] at h) <;> (try omega)) | (refine br_n (fun h => ?_) (fun h => ?_) <;> (try simp (disch := omega) only [nI_clamp, li_2, li_3, li_4, li_5, li_6, li_7, li_8, li_9, li_10, li_40, li_120, pk_mul, nI_add, nI_1, ix_eq, ix_lt, ix_le, ix_l0, ix_l1, ix_n0, ix_p0, ix_1lt, ix_lt1, ix_1le, ix_le1, ix_le0, ix_0lt, ab_z0, ab_z1, i_10, i_01, eq_self, ab_ozn, ab_ozp, ab_o_some, not_true_eq_false, not_false_eq_true, Bool.not_eq_false, Bool.not_eq_true, Bool.not_eq_false', Bool.not_eq_true', Bool.false_eq_true, Bool.true_eq_false, reduceCtorEq, Option.isSome_some, Option.isSome_none, r44, r45, r46, r47, r48, r49, r50, r51, r52, r53, r54, r55, r56, r57, r58, r59, r60, r61, g0, g2, g6, g16, hx, hf1, hf2, Bool.and_self, ho4] at h) <;> (try omega)) | refine ab_sd (by first | (with_reducible refine vp_in_nI ?_ ?_ <;> omega) | (simp (disch := omega) only [nI_clamp, li_2, li_3, li_4, li_5, li_6, li_7, li_8, li_9, li_10, li_40, li_120, pk_mul, nI_add, nI_1, ix_eq, ix_lt, ix_le, ix_l0, ix_l1, ix_n0, ix_p0, ix_1lt, ix_lt1, ix_1le, ix_le1, ix_le0, ix_0lt, ab_z0, ab_z1, i_10, i_01, eq_self, ab_ozn, ab_ozp, ab_o_some, not_true_eq_false, not_false_eq_true, Bool.not_eq_false, Bool.not_eq_true, Bool.not_eq_false', Bool.not_eq_true', Bool.false_eq_true, Bool.true_eq_false, reduceCtorEq, Option.isSome_some, Option.isSome_none, r44, r45, r46, r47, r48, r49, r50, r51, r52, r53, r54, r55, r56, r57, r58, r59, r60, r61, g0, g2, g6, g16, hx, hf1, hf2, Bool.and_self, ho4]; with_reducible refine vp_in_nI ?_ ?_ <;> omega)) ?_ | refine r_noPack hω R ?_ | refine r_noType hω R ?_ | refine r_noForm hω ?_ | (refine r_ruleOfType hω R hW rfl hou rfl rfl rfl (by omega) ho2 hso hac hfl ?_; rw [hrr]) | refine ab_sd ?_ ?_ | refine ab_sz (Or.inl rfl) ?_ | refine ab_sz (Or.inr rfl) ?_ | refine ab_sz ?_ ?_)
            all_goals first | (show Q _ _; simp (disch := omega) only [g6, nI_1, nI_clamp, li_40, pk_mul]; exact done _ rfl) | (exfalso; clear hj hw done; simp_all; done)
          · repeat' (first | refine hj _ _ _ _ ?_ | (refine br_c (fun h => ?_) (fun h => ?_) <;> (try simp (disch := omega) only [nI_clamp, li_2, li_3, li_4, li_5, li_6, li_7, li_8, li_9, li_10, li_40, li_120, pk_mul, nI_add, nI_1, ix_eq, ix_lt, ix_le, ix_l0, ix_l1, ix_n0, ix_p0, ix_1lt, ix_lt1, ix_1le, ix_le1, ix_le0, ix_0lt, ab_z0, ab_z1, i_10, i_01, eq_self, ab_ozn, ab_ozp, ab_o_some, not_true_eq_false, not_false_eq_true, Bool.not_eq_false, Bool.not_eq_true, Bool.not_eq_false', Bool.not_eq_true', Bool.false_eq_true, Bool.true_eq_false, reduceCtorEq, Option.isSome_some, Option.isSome_none, r44, r45, r46, r47, r48, r49, r50, r51, r52, r53, r54, r55, r56, r57, r58, r59, r60, r61, g0, g2, g6, g16, hx, hf1, hf2, Bool.and_self, ho4] at h) <;> (try omega)) | (refine br_n (fun h => ?_) (fun h => ?_) <;> (try simp (disch := omega) only [nI_clamp, li_2, li_3, li_4, li_5, li_6, li_7, li_8, li_9, li_10, li_40, li_120, pk_mul, nI_add, nI_1, ix_eq, ix_lt, ix_le, ix_l0, ix_l1, ix_n0, ix_p0, ix_1lt, ix_lt1, ix_1le, ix_le1, ix_le0, ix_0lt, ab_z0, ab_z1, i_10, i_01, eq_self, ab_ozn, ab_ozp, ab_o_some, not_true_eq_false, not_false_eq_true, Bool.not_eq_false, Bool.not_eq_true, Bool.not_eq_false', Bool.not_eq_true', Bool.false_eq_true, Bool.true_eq_false, reduceCtorEq, Option.isSome_some, Option.isSome_none, r44, r45, r46, r47, r48, r49, r50, r51, r52, r53, r54, r55, r56, r57, r58, r59, r60, r61, g0, g2, g6, g16, hx, hf1, hf2, Bool.and_self, ho4] at h) <;> (try omega)) | refine ab_sd (by first | (with_reducible refine vp_in_nI ?_ ?_ <;> omega) | (simp (disch := omega) only [nI_clamp, li_2, li_3, li_4, li_5, li_6, li_7, li_8, li_9, li_10, li_40, li_120, pk_mul, nI_add, nI_1, ix_eq, ix_lt, ix_le, ix_l0, ix_l1, ix_n0, ix_p0, ix_1lt, ix_lt1, ix_1le, ix_le1, ix_le0, ix_0lt, ab_z0, ab_z1, i_10, i_01, eq_self, ab_ozn, ab_ozp, ab_o_some, not_true_eq_false, not_false_eq_true, Bool.not_eq_false, Bool.not_eq_true, Bool.not_eq_false', Bool.not_eq_true', Bool.false_eq_true, Bool.true_eq_false, reduceCtorEq, Option.isSome_some, Option.isSome_none, r44, r45, r46, r47, r48, r49, r50, r51, r52, r53, r54, r55, r56, r57, r58, r59, r60, r61, g0, g2, g6, g16, hx, hf1, hf2, Bool.and_self, ho4]; with_reducible refine vp_in_nI ?_ ?_ <;> omega)) ?_ | refine r_noPack hω R ?_ | refine r_noType hω R ?_ | refine r_noForm hω ?_ | (refine r_ruleOfType hω R hW rfl hou rfl rfl rfl (by omega) ho2 hso hac hfl ?_; rw [hrr]) | refine ab_sd ?_ ?_ | refine ab_sz (Or.inl rfl) ?_ | refine ab_sz (Or.inr rfl) ?_ | refine ab_sz ?_ ?_)
            all_goals first | (show Q _ _; simp (disch := omega) only [g6, nI_1, nI_clamp, li_40, pk_mul]; exact done _ rfl) | (exfalso; clear hj hw done; simp_all; done)
end R8
end
section
/-! member, make -/
def s_mem (S : sT) (t k n ac fl : Nat) : sT := (fun a b => if a = 43 ∧ b = 16 then s_nX S + 1 else if a = 57 ∧ b = s_nX S then t else if a = 58 ∧ b = s_nX S then k else if a = 59 ∧ b = s_nX S then n else if a = 60 ∧ b = s_nX S then ac else if a = 61 ∧ b = s_nX S then fl else S.1 a b, S.2)
def v_mem (S : sT) (t k n ac fl : Int32) : Bool := ab_ok (s_nT S) t && ab_ok 3 k && ab_ok 10 n && (ab_ok 4 ac && ab_ok 8 fl)
def s_rM2 (S : sT) (t k n ac fl : Int32) : Nat := s_rM S t.toNatClampNeg k.toNatClampNeg n.toNatClampNeg ac.toNatClampNeg fl.toNatClampNeg
def a_member (S : sT) (t k n ac fl : Int32) : Int32 := if v_mem S t k n ac fl then (if 0 < s_rM2 S t k n ac fl then -10 - nI (s_rM2 S t k n ac fl) else if s_nX S = 120 then -4 else nI (s_nX S)) else -1
def o_member (S : sT) (t k n ac fl : Int32) : sT := if v_mem S t k n ac fl = true ∧ s_rM2 S t k n ac fl = 0 ∧ ¬ s_nX S = 120 then s_mem S t.toNatClampNeg k.toNatClampNeg n.toNatClampNeg ac.toNatClampNeg fl.toNatClampNeg else S
theorem s_rM_le (S : sT) (t k n ac fl : Nat) : s_rM S t k n ac fl ≤ 8 := by
  unfold s_rM
  grind
theorem ab_ok3 (x : Int32) : ab_ok 3 x = (decide (0 ≤ x) && decide (x ≤ nI 2)) := by
  unfold ab_ok
  congr 1
  rw [decide_eq_decide, Int32.lt_iff_toInt_lt, Int32.le_iff_toInt_le]
  show _ < (3 : Int) ↔ _ ≤ (2 : Int)
  omega
theorem ab_ok10 (x : Int32) : ab_ok 10 x = (decide (0 ≤ x) && decide (x ≤ nI 9)) := by
  unfold ab_ok
  congr 1
  rw [decide_eq_decide, Int32.lt_iff_toInt_lt, Int32.le_iff_toInt_le]
  show _ < (10 : Int) ↔ _ ≤ (9 : Int)
  omega
theorem rep_mem {S : sT} {μ μ' : ab_M} (R : RepR S μ) {t k n ac fl : Nat}
    (hμ : μ' = ab_mi (ab_mi (ab_mi (ab_mi (ab_mi (ab_mi (ab_mi μ 43 16 (nI (s_nX S + 1))) 57 (s_nX S) (nI t)) 58 (s_nX S) (nI k)) 59 (s_nX S) (nI n)) 60 (s_nX S) (nI ac)) 61 (s_nX S) (nI fl)) 43 22 0) : RepR (s_mem S t k n ac fl) μ' := by
  subst hμ
  refine ⟨fun k j h => ?_, fun k j h => ?_, fun k j h hb => ?_⟩
  · have h0 := R.1 k j h
    obtain ⟨e1, e2, e3⟩ := s_ikb h
    have e5 : ¬ (k = 43 ∧ j = 22) := fun q => by rw [q.1, q.2] at h; simp [s_ik] at h
    simp only [ab_mi, s_mem]
    grind
  · have h0 := R.2.1 k j h
    have e1 : k ≠ 43 ∧ k ≠ 57 ∧ k ≠ 58 ∧ k ≠ 59 ∧ k ≠ 60 ∧ k ≠ 61 := by
      simp only [s_bk, Bool.or_eq_true, beq_iff_eq] at h
      omega
    simp only [ab_mi, s_mem]
    grind
  · have hb2 : j < s_nT S := by
      simpa [s_nT, s_mem] using hb
    have h0 := R.2.2 k j h hb2
    simp only [ab_mi, s_mem]
    rcases h with h | h <;> subst h <;> simp <;> exact h0
section R9
variable {l : Launch} {ω : ab_W} {S : sT} {μ : ab_M} {Q : Int32 → ab_M → Prop}
set_option maxHeartbeats 4000000 in
set_option maxRecDepth 10000 in
theorem r_member (hω : ω.2.2.2 = ab_SH) (R : RepR S μ) (hW : Wf S) {x y z v w : Int32} (hQ : ∀ μ', RepR (o_member S x y z v w) μ' → SameC μ μ' → (SameK μ μ' ∧ o_member S x y z v w = S) ∨ μ'.1 43 22 = 0 → Q (a_member S x y z v w) μ') : ab_CI l ω mX11_member [.ref 43, .int x, .int y, .int z, .int v, .int w] μ Q := by
  refine ab_intro (sh := ab_SH) (cd := kX11_member) hω vX11_member (by decide +kernel) rfl (Nat.le_of_ble_eq_true rfl) (fun j hj hw => ?_)
  have hT := hW.2.2.1.2
  have hX := hW.2.2.2.1
  obtain ⟨r44, r45, r46, r47, r48, r49, r50, r51, r52, r53, r54, r55, r56, r57, r58, r59, r60, r61, g0, g2, g6, g16⟩ := RepR_fs R
  cases hv : v_mem S x y z v w with
  | false =>
    have e1 : a_member S x y z v w = -1 := by simp [a_member, hv]
    have e2 : o_member S x y z v w = S := by simp [o_member, hv]
    rw [e1, e2] at hQ
    have hQ := hQ μ R SameC.rf (Or.inl ⟨SameK.rf, rfl⟩)
    unfold v_mem at hv
    rw [ab_ok3, ab_ok10] at hv
    repeat' (first | refine hj _ _ _ _ ?_ | (refine br_c (fun h => ?_) (fun h => ?_) <;> (try simp (disch := omega) only [nI_clamp, li_2, li_3, li_4, li_5, li_6, li_7, li_8, li_9, li_10, li_40, li_120, pk_mul, nI_add, nI_1, ix_eq, ix_lt, ix_le, ix_l0, ix_l1, ix_n0, ix_p0, ix_1lt, ix_lt1, ix_1le, ix_le1, ix_le0, ix_0lt, ab_z0, ab_z1, i_10, i_01, eq_self, ab_ozn, ab_ozp, ab_o_some, not_true_eq_false, not_false_eq_true, Bool.not_eq_false, Bool.not_eq_true, Bool.not_eq_false', Bool.not_eq_true', Bool.false_eq_true, Bool.true_eq_false, reduceCtorEq, Option.isSome_some, Option.isSome_none, r44, r45, r46, r47, r48, r49, r50, r51, r52, r53, r54, r55, r56, r57, r58, r59, r60, r61, g0, g2, g6, g16] at h) <;> (try omega)) | (refine br_n (fun h => ?_) (fun h => ?_) <;> (try simp (disch := omega) only [nI_clamp, li_2, li_3, li_4, li_5, li_6, li_7, li_8, li_9, li_10, li_40, li_120, pk_mul, nI_add, nI_1, ix_eq, ix_lt, ix_le, ix_l0, ix_l1, ix_n0, ix_p0, ix_1lt, ix_lt1, ix_1le, ix_le1, ix_le0, ix_0lt, ab_z0, ab_z1, i_10, i_01, eq_self, ab_ozn, ab_ozp, ab_o_some, not_true_eq_false, not_false_eq_true, Bool.not_eq_false, Bool.not_eq_true, Bool.not_eq_false', Bool.not_eq_true', Bool.false_eq_true, Bool.true_eq_false, reduceCtorEq, Option.isSome_some, Option.isSome_none, r44, r45, r46, r47, r48, r49, r50, r51, r52, r53, r54, r55, r56, r57, r58, r59, r60, r61, g0, g2, g6, g16] at h) <;> (try omega)) | refine ab_sd (by first | (with_reducible refine vp_in_nI ?_ ?_ <;> omega) | (simp (disch := omega) only [nI_clamp, li_2, li_3, li_4, li_5, li_6, li_7, li_8, li_9, li_10, li_40, li_120, pk_mul, nI_add, nI_1, ix_eq, ix_lt, ix_le, ix_l0, ix_l1, ix_n0, ix_p0, ix_1lt, ix_lt1, ix_1le, ix_le1, ix_le0, ix_0lt, ab_z0, ab_z1, i_10, i_01, eq_self, ab_ozn, ab_ozp, ab_o_some, not_true_eq_false, not_false_eq_true, Bool.not_eq_false, Bool.not_eq_true, Bool.not_eq_false', Bool.not_eq_true', Bool.false_eq_true, Bool.true_eq_false, reduceCtorEq, Option.isSome_some, Option.isSome_none, r44, r45, r46, r47, r48, r49, r50, r51, r52, r53, r54, r55, r56, r57, r58, r59, r60, r61, g0, g2, g6, g16]; with_reducible refine vp_in_nI ?_ ?_ <;> omega)) ?_ | refine r_noType hω R ?_ | refine r_noForm hω ?_ | (exfalso; clear hj hw hQ; grind) | refine ab_sd ?_ ?_ | refine ab_sz (Or.inl rfl) ?_ | refine ab_sz (Or.inr rfl) ?_ | refine ab_sz ?_ ?_)
    all_goals first | (show Q _ _; with_reducible exact hQ) | (exfalso; clear hj hw hQ; grind)
  | true =>
    have hv2 := hv
    unfold v_mem at hv2
    simp only [Bool.and_eq_true] at hv2
    obtain ⟨⟨⟨hx, hy⟩, hz⟩, hf1, hf2⟩ := hv2
    obtain ⟨t, ht, rfl⟩ := ab_ok_t (by omega) hx
    obtain ⟨k, hk, rfl⟩ := ab_ok_t (by omega) hy
    obtain ⟨n, hn, rfl⟩ := ab_ok_t (by omega) hz
    obtain ⟨ac, hac, rfl⟩ := ab_ok_t (by omega) hf1
    obtain ⟨fl, hfl, rfl⟩ := ab_ok_t (by omega) hf2
    have c1 : (nI t).toNatClampNeg = t := nI_clamp (by omega)
    have c2 : (nI k).toNatClampNeg = k := nI_clamp (by omega)
    have c3 : (nI n).toNatClampNeg = n := nI_clamp (by omega)
    have c4 : (nI ac).toNatClampNeg = ac := nI_clamp (by omega)
    have c5 : (nI fl).toNatClampNeg = fl := nI_clamp (by omega)
    have e0 : s_rM2 S (nI t) (nI k) (nI n) (nI ac) (nI fl) = s_rM S t k n ac fl := by unfold s_rM2; rw [c1, c2, c3, c4, c5]
    have hr := s_rM_le S t k n ac fl
    unfold a_member o_member at hQ
    rw [hv, e0, c1, c2, c3, c4, c5] at hQ
    generalize hrr : s_rM S t k n ac fl = rr at hQ hr
    by_cases h0 : 0 < rr
    · rw [if_pos rfl, if_pos h0, if_neg (by omega)] at hQ
      have hQ := hQ μ R SameC.rf (Or.inl ⟨SameK.rf, rfl⟩)
      repeat' (first | refine hj _ _ _ _ ?_ | (refine br_c (fun h => ?_) (fun h => ?_) <;> (try simp (disch := omega) only [nI_clamp, li_2, li_3, li_4, li_5, li_6, li_7, li_8, li_9, li_10, li_40, li_120, pk_mul, nI_add, nI_1, ix_eq, ix_lt, ix_le, ix_l0, ix_l1, ix_n0, ix_p0, ix_1lt, ix_lt1, ix_1le, ix_le1, ix_le0, ix_0lt, ab_z0, ab_z1, i_10, i_01, eq_self, ab_ozn, ab_ozp, ab_o_some, not_true_eq_false, not_false_eq_true, Bool.not_eq_false, Bool.not_eq_true, Bool.not_eq_false', Bool.not_eq_true', Bool.false_eq_true, Bool.true_eq_false, reduceCtorEq, Option.isSome_some, Option.isSome_none, r44, r45, r46, r47, r48, r49, r50, r51, r52, r53, r54, r55, r56, r57, r58, r59, r60, r61, g0, g2, g6, g16, hx, hf1, hf2, Bool.and_self] at h) <;> (try omega)) | (refine br_n (fun h => ?_) (fun h => ?_) <;> (try simp (disch := omega) only [nI_clamp, li_2, li_3, li_4, li_5, li_6, li_7, li_8, li_9, li_10, li_40, li_120, pk_mul, nI_add, nI_1, ix_eq, ix_lt, ix_le, ix_l0, ix_l1, ix_n0, ix_p0, ix_1lt, ix_lt1, ix_1le, ix_le1, ix_le0, ix_0lt, ab_z0, ab_z1, i_10, i_01, eq_self, ab_ozn, ab_ozp, ab_o_some, not_true_eq_false, not_false_eq_true, Bool.not_eq_false, Bool.not_eq_true, Bool.not_eq_false', Bool.not_eq_true', Bool.false_eq_true, Bool.true_eq_false, reduceCtorEq, Option.isSome_some, Option.isSome_none, r44, r45, r46, r47, r48, r49, r50, r51, r52, r53, r54, r55, r56, r57, r58, r59, r60, r61, g0, g2, g6, g16, hx, hf1, hf2, Bool.and_self] at h) <;> (try omega)) | refine ab_sd (by first | (with_reducible refine vp_in_nI ?_ ?_ <;> omega) | (simp (disch := omega) only [nI_clamp, li_2, li_3, li_4, li_5, li_6, li_7, li_8, li_9, li_10, li_40, li_120, pk_mul, nI_add, nI_1, ix_eq, ix_lt, ix_le, ix_l0, ix_l1, ix_n0, ix_p0, ix_1lt, ix_lt1, ix_1le, ix_le1, ix_le0, ix_0lt, ab_z0, ab_z1, i_10, i_01, eq_self, ab_ozn, ab_ozp, ab_o_some, not_true_eq_false, not_false_eq_true, Bool.not_eq_false, Bool.not_eq_true, Bool.not_eq_false', Bool.not_eq_true', Bool.false_eq_true, Bool.true_eq_false, reduceCtorEq, Option.isSome_some, Option.isSome_none, r44, r45, r46, r47, r48, r49, r50, r51, r52, r53, r54, r55, r56, r57, r58, r59, r60, r61, g0, g2, g6, g16, hx, hf1, hf2, Bool.and_self]; with_reducible refine vp_in_nI ?_ ?_ <;> omega)) ?_ | refine r_noType hω R ?_ | refine r_noForm hω ?_ | (refine r_ruleOfMember hω R hW rfl rfl rfl rfl rfl ht hk hn hac hfl ?_; rw [hrr]) | refine ab_sd ?_ ?_ | refine ab_sz (Or.inl rfl) ?_ | refine ab_sz (Or.inr rfl) ?_ | refine ab_sz ?_ ?_)
      all_goals first | (show Q _ _; with_reducible exact hQ) | (exfalso; clear hj hw hQ; grind)
    · by_cases h4 : s_nX S = 120
      · rw [if_pos rfl, if_neg h0, if_pos h4, if_neg (by omega)] at hQ
        have hQ := hQ μ R SameC.rf (Or.inl ⟨SameK.rf, rfl⟩)
        repeat' (first | refine hj _ _ _ _ ?_ | (refine br_c (fun h => ?_) (fun h => ?_) <;> (try simp (disch := omega) only [nI_clamp, li_2, li_3, li_4, li_5, li_6, li_7, li_8, li_9, li_10, li_40, li_120, pk_mul, nI_add, nI_1, ix_eq, ix_lt, ix_le, ix_l0, ix_l1, ix_n0, ix_p0, ix_1lt, ix_lt1, ix_1le, ix_le1, ix_le0, ix_0lt, ab_z0, ab_z1, i_10, i_01, eq_self, ab_ozn, ab_ozp, ab_o_some, not_true_eq_false, not_false_eq_true, Bool.not_eq_false, Bool.not_eq_true, Bool.not_eq_false', Bool.not_eq_true', Bool.false_eq_true, Bool.true_eq_false, reduceCtorEq, Option.isSome_some, Option.isSome_none, r44, r45, r46, r47, r48, r49, r50, r51, r52, r53, r54, r55, r56, r57, r58, r59, r60, r61, g0, g2, g6, g16, hx, hf1, hf2, Bool.and_self] at h) <;> (try omega)) | (refine br_n (fun h => ?_) (fun h => ?_) <;> (try simp (disch := omega) only [nI_clamp, li_2, li_3, li_4, li_5, li_6, li_7, li_8, li_9, li_10, li_40, li_120, pk_mul, nI_add, nI_1, ix_eq, ix_lt, ix_le, ix_l0, ix_l1, ix_n0, ix_p0, ix_1lt, ix_lt1, ix_1le, ix_le1, ix_le0, ix_0lt, ab_z0, ab_z1, i_10, i_01, eq_self, ab_ozn, ab_ozp, ab_o_some, not_true_eq_false, not_false_eq_true, Bool.not_eq_false, Bool.not_eq_true, Bool.not_eq_false', Bool.not_eq_true', Bool.false_eq_true, Bool.true_eq_false, reduceCtorEq, Option.isSome_some, Option.isSome_none, r44, r45, r46, r47, r48, r49, r50, r51, r52, r53, r54, r55, r56, r57, r58, r59, r60, r61, g0, g2, g6, g16, hx, hf1, hf2, Bool.and_self] at h) <;> (try omega)) | refine ab_sd (by first | (with_reducible refine vp_in_nI ?_ ?_ <;> omega) | (simp (disch := omega) only [nI_clamp, li_2, li_3, li_4, li_5, li_6, li_7, li_8, li_9, li_10, li_40, li_120, pk_mul, nI_add, nI_1, ix_eq, ix_lt, ix_le, ix_l0, ix_l1, ix_n0, ix_p0, ix_1lt, ix_lt1, ix_1le, ix_le1, ix_le0, ix_0lt, ab_z0, ab_z1, i_10, i_01, eq_self, ab_ozn, ab_ozp, ab_o_some, not_true_eq_false, not_false_eq_true, Bool.not_eq_false, Bool.not_eq_true, Bool.not_eq_false', Bool.not_eq_true', Bool.false_eq_true, Bool.true_eq_false, reduceCtorEq, Option.isSome_some, Option.isSome_none, r44, r45, r46, r47, r48, r49, r50, r51, r52, r53, r54, r55, r56, r57, r58, r59, r60, r61, g0, g2, g6, g16, hx, hf1, hf2, Bool.and_self]; with_reducible refine vp_in_nI ?_ ?_ <;> omega)) ?_ | refine r_noType hω R ?_ | refine r_noForm hω ?_ | (refine r_ruleOfMember hω R hW rfl rfl rfl rfl rfl ht hk hn hac hfl ?_; rw [hrr]) | refine ab_sd ?_ ?_ | refine ab_sz (Or.inl rfl) ?_ | refine ab_sz (Or.inr rfl) ?_ | refine ab_sz ?_ ?_)
        all_goals first | (show Q _ _; with_reducible exact hQ) | (exfalso; clear hj hw hQ; grind)
      · rw [if_pos rfl, if_neg h0, if_neg h4, if_pos ⟨rfl, by omega, h4⟩] at hQ
        have h00 : rr = 0 := by omega
        subst h00
        have fin : ∀ μ', μ' = ab_mi (ab_mi (ab_mi (ab_mi (ab_mi (ab_mi (ab_mi μ 43 16 (nI (s_nX S + 1))) 57 (s_nX S) (nI t)) 58 (s_nX S) (nI k)) 59 (s_nX S) (nI n)) 60 (s_nX S) (nI ac)) 61 (s_nX S) (nI fl)) 43 22 0 → Q (nI (s_nX S)) μ' := by
          intro μ' hμ
          refine hQ μ' (rep_mem R hμ) ?_ (Or.inr ?_)
          · rw [hμ]
            exact ((((((SameC.rf.mi (k := 43) (by omega)).mi (k := 57) (by omega)).mi (k := 58) (by omega)).mi (k := 59) (by omega)).mi (k := 60) (by omega)).mi (k := 61) (by omega)).mi (k := 43) (by omega)
          · rw [hμ]
            exact mi_eq
        clear hQ
        repeat' (first | refine hj _ _ _ _ ?_ | (refine br_c (fun h => ?_) (fun h => ?_) <;> (try simp (disch := omega) only [nI_clamp, li_2, li_3, li_4, li_5, li_6, li_7, li_8, li_9, li_10, li_40, li_120, pk_mul, nI_add, nI_1, ix_eq, ix_lt, ix_le, ix_l0, ix_l1, ix_n0, ix_p0, ix_1lt, ix_lt1, ix_1le, ix_le1, ix_le0, ix_0lt, ab_z0, ab_z1, i_10, i_01, eq_self, ab_ozn, ab_ozp, ab_o_some, not_true_eq_false, not_false_eq_true, Bool.not_eq_false, Bool.not_eq_true, Bool.not_eq_false', Bool.not_eq_true', Bool.false_eq_true, Bool.true_eq_false, reduceCtorEq, Option.isSome_some, Option.isSome_none, r44, r45, r46, r47, r48, r49, r50, r51, r52, r53, r54, r55, r56, r57, r58, r59, r60, r61, g0, g2, g6, g16, hx, hf1, hf2, Bool.and_self] at h) <;> (try omega)) | (refine br_n (fun h => ?_) (fun h => ?_) <;> (try simp (disch := omega) only [nI_clamp, li_2, li_3, li_4, li_5, li_6, li_7, li_8, li_9, li_10, li_40, li_120, pk_mul, nI_add, nI_1, ix_eq, ix_lt, ix_le, ix_l0, ix_l1, ix_n0, ix_p0, ix_1lt, ix_lt1, ix_1le, ix_le1, ix_le0, ix_0lt, ab_z0, ab_z1, i_10, i_01, eq_self, ab_ozn, ab_ozp, ab_o_some, not_true_eq_false, not_false_eq_true, Bool.not_eq_false, Bool.not_eq_true, Bool.not_eq_false', Bool.not_eq_true', Bool.false_eq_true, Bool.true_eq_false, reduceCtorEq, Option.isSome_some, Option.isSome_none, r44, r45, r46, r47, r48, r49, r50, r51, r52, r53, r54, r55, r56, r57, r58, r59, r60, r61, g0, g2, g6, g16, hx, hf1, hf2, Bool.and_self] at h) <;> (try omega)) | refine ab_sd (by first | (with_reducible refine vp_in_nI ?_ ?_ <;> omega) | (simp (disch := omega) only [nI_clamp, li_2, li_3, li_4, li_5, li_6, li_7, li_8, li_9, li_10, li_40, li_120, pk_mul, nI_add, nI_1, ix_eq, ix_lt, ix_le, ix_l0, ix_l1, ix_n0, ix_p0, ix_1lt, ix_lt1, ix_1le, ix_le1, ix_le0, ix_0lt, ab_z0, ab_z1, i_10, i_01, eq_self, ab_ozn, ab_ozp, ab_o_some, not_true_eq_false, not_false_eq_true, Bool.not_eq_false, Bool.not_eq_true, Bool.not_eq_false', Bool.not_eq_true', Bool.false_eq_true, Bool.true_eq_false, reduceCtorEq, Option.isSome_some, Option.isSome_none, r44, r45, r46, r47, r48, r49, r50, r51, r52, r53, r54, r55, r56, r57, r58, r59, r60, r61, g0, g2, g6, g16, hx, hf1, hf2, Bool.and_self]; with_reducible refine vp_in_nI ?_ ?_ <;> omega)) ?_ | refine r_noType hω R ?_ | refine r_noForm hω ?_ | (refine r_ruleOfMember hω R hW rfl rfl rfl rfl rfl ht hk hn hac hfl ?_; rw [hrr]) | refine ab_sd ?_ ?_ | refine ab_sz (Or.inl rfl) ?_ | refine ab_sz (Or.inr rfl) ?_ | refine ab_sz ?_ ?_)
        all_goals first | (show Q _ _; simp (disch := omega) only [g16, nI_1, nI_clamp]; exact fin _ rfl) | (exfalso; clear hj hw fin; simp_all; done)
theorem r_isCut (hω : ω.2.2.2 = ab_SH) (R : RepR S μ) (hW : Wf S) {x y : Int32} {f t : Nat} (ex : x = nI f) (ey : y = nI t) (hf : f < s_nT S) (ht : t ∈ s_ch S f) (hQ : Q (ab_z (((s_ch S f).takeWhile (fun x => !(x == t))).any (fun x => s_has (S.1 52 x) 1))) μ) : ab_CI l ω mX11_isCut [.ref 43, .int x, .int y] μ Q := by
  subst ex ey
  refine ab_intro (sh := ab_SH) (cd := kX11_isCut) hω vX11_isCut (by decide +kernel) rfl (Nat.le_of_ble_eq_true rfl) (fun j hj hw => ?_)
  have hjx : ∀ i ll st μ, i ∉ ([4] : List Nat) → _ → j i ll st μ := fun i ll st μ _ h => hj i ll st μ h
  obtain ⟨r44, r45, r46, r47, r48, r49, r50, r51, r52, r53, r54, r55, r56, r57, r58, r59, r60, r61, g0, g2, g6, g16⟩ := RepR_fs R
  have hT := hW.2.2.1.2
  have chlt : ∀ (n a b : Nat), a < n → a < s_nT S → b ∈ s_ch S a → b ≤ a := by
    intro n
    induction n with
    | zero => intro a b h; omega
    | succ n ih =>
      intro a b h1 h2 h3
      cases e : s_ou S a with
      | none => rw [s_ch_none e] at h3; simp at h3; omega
      | some o =>
        have h4 := (hW.2.2.2.2.2.1 a h2).2.2.2.2.2.2.1 o e
        rw [s_ch_some hW h2 e] at h3
        rcases List.mem_cons.mp h3 with h3 | h3
        · omega
        · have := ih o b (by omega) (by omega) h3
          omega
  have ht2 := chlt (f + 1) f t (by omega) hf ht
  have loop : ∀ n' a b, a < n' → a < s_nT S → t ∈ s_ch S a → Q (ab_z (b || ((s_ch S a).takeWhile (fun x => !(x == t))).any (fun x => s_has (S.1 52 x) 1))) μ → j 4 [some (.ref 43), some (.int (nI f)), some (.int (nI t)), some (.int (ab_z b)), some (.int (nI a))] [] μ := by
    intro n'
    induction n' with
    | zero => intro a b h1; omega
    | succ n' ih =>
      intro a b h1 h2 h3 hQ
      obtain ⟨a1, a2, a3, a4, -, -, ho, -⟩ := hW.2.2.2.2.2.1 a h2
      have q1 := s_and_lt (b := 1) a4
      cases e : s_ou S a with
      | none =>
        rw [s_ch_none e] at h3 hQ
        have h3 : t = a := by simpa using h3
        subst h3
        refine hj _ _ _ _ ?_
        repeat' (first | refine hjx _ _ _ _ (by decide) ?_ | (refine br_c (fun h => ?_) (fun h => ?_) <;> (try simp (disch := omega) only [nI_clamp, li_2, li_3, li_4, li_5, li_6, li_7, li_8, li_9, li_10, li_40, li_120, pk_mul, nI_add, nI_1, ix_eq, ix_lt, ix_le, ix_l0, ix_l1, ix_n0, ix_p0, ix_1lt, ix_lt1, ix_1le, ix_le1, ix_le0, ix_0lt, ab_z0, ab_z1, i_10, i_01, eq_self, ab_ozn, ab_ozp, ab_o_some, not_true_eq_false, not_false_eq_true, Bool.not_eq_false, Bool.not_eq_true, Bool.not_eq_false', Bool.not_eq_true', Bool.false_eq_true, Bool.true_eq_false, reduceCtorEq, Option.isSome_some, Option.isSome_none, r44, r45, r46, r47, r48, r49, r50, r51, r52, r53, r54, r55, r56, r57, r58, r59, r60, r61, g0, g2, g6, g16, e] at h) <;> (try omega)) | (refine br_n (fun h => ?_) (fun h => ?_) <;> (try simp (disch := omega) only [nI_clamp, li_2, li_3, li_4, li_5, li_6, li_7, li_8, li_9, li_10, li_40, li_120, pk_mul, nI_add, nI_1, ix_eq, ix_lt, ix_le, ix_l0, ix_l1, ix_n0, ix_p0, ix_1lt, ix_lt1, ix_1le, ix_le1, ix_le0, ix_0lt, ab_z0, ab_z1, i_10, i_01, eq_self, ab_ozn, ab_ozp, ab_o_some, not_true_eq_false, not_false_eq_true, Bool.not_eq_false, Bool.not_eq_true, Bool.not_eq_false', Bool.not_eq_true', Bool.false_eq_true, Bool.true_eq_false, reduceCtorEq, Option.isSome_some, Option.isSome_none, r44, r45, r46, r47, r48, r49, r50, r51, r52, r53, r54, r55, r56, r57, r58, r59, r60, r61, g0, g2, g6, g16, e] at h) <;> (try omega)) | refine ab_sd (by first | (with_reducible refine vp_in_nI ?_ ?_ <;> omega) | (simp (disch := omega) only [nI_clamp, li_2, li_3, li_4, li_5, li_6, li_7, li_8, li_9, li_10, li_40, li_120, pk_mul, nI_add, nI_1, ix_eq, ix_lt, ix_le, ix_l0, ix_l1, ix_n0, ix_p0, ix_1lt, ix_lt1, ix_1le, ix_le1, ix_le0, ix_0lt, ab_z0, ab_z1, i_10, i_01, eq_self, ab_ozn, ab_ozp, ab_o_some, not_true_eq_false, not_false_eq_true, Bool.not_eq_false, Bool.not_eq_true, Bool.not_eq_false', Bool.not_eq_true', Bool.false_eq_true, Bool.true_eq_false, reduceCtorEq, Option.isSome_some, Option.isSome_none, r44, r45, r46, r47, r48, r49, r50, r51, r52, r53, r54, r55, r56, r57, r58, r59, r60, r61, g0, g2, g6, g16, e]; with_reducible refine vp_in_nI ?_ ?_ <;> omega)) ?_ | refine r_has hω (a := S.1 52 t) (b := 1) (by simp (disch := omega) only [nI_clamp, li_2, li_3, li_4, li_5, li_6, li_7, li_8, li_9, li_10, li_40, li_120, pk_mul, nI_add, nI_1, ix_eq, ix_lt, ix_le, ix_l0, ix_l1, ix_n0, ix_p0, ix_1lt, ix_lt1, ix_1le, ix_le1, ix_le0, ix_0lt, ab_z0, ab_z1, i_10, i_01, eq_self, ab_ozn, ab_ozp, ab_o_some, not_true_eq_false, not_false_eq_true, Bool.not_eq_false, Bool.not_eq_true, Bool.not_eq_false', Bool.not_eq_true', Bool.false_eq_true, Bool.true_eq_false, reduceCtorEq, Option.isSome_some, Option.isSome_none, r44, r45, r46, r47, r48, r49, r50, r51, r52, r53, r54, r55, r56, r57, r58, r59, r60, r61, g0, g2, g6, g16]) rfl q1 ?_ | refine ab_sd ?_ ?_ | refine ab_sz (Or.inl rfl) ?_ | refine ab_sz (Or.inr rfl) ?_ | refine ab_sz ?_ ?_)
        · exact ab_z01 _
        · refine q_of hQ ?_
          simp
      | some o =>
        have h4 := ho o e
        rw [s_ch_some hW h2 e] at h3 hQ
        by_cases hat : a = t
        · subst hat
          refine hj _ _ _ _ ?_
          repeat' (first | refine hjx _ _ _ _ (by decide) ?_ | (refine br_c (fun h => ?_) (fun h => ?_) <;> (try simp (disch := omega) only [nI_clamp, li_2, li_3, li_4, li_5, li_6, li_7, li_8, li_9, li_10, li_40, li_120, pk_mul, nI_add, nI_1, ix_eq, ix_lt, ix_le, ix_l0, ix_l1, ix_n0, ix_p0, ix_1lt, ix_lt1, ix_1le, ix_le1, ix_le0, ix_0lt, ab_z0, ab_z1, i_10, i_01, eq_self, ab_ozn, ab_ozp, ab_o_some, not_true_eq_false, not_false_eq_true, Bool.not_eq_false, Bool.not_eq_true, Bool.not_eq_false', Bool.not_eq_true', Bool.false_eq_true, Bool.true_eq_false, reduceCtorEq, Option.isSome_some, Option.isSome_none, r44, r45, r46, r47, r48, r49, r50, r51, r52, r53, r54, r55, r56, r57, r58, r59, r60, r61, g0, g2, g6, g16, e] at h) <;> (try omega)) | (refine br_n (fun h => ?_) (fun h => ?_) <;> (try simp (disch := omega) only [nI_clamp, li_2, li_3, li_4, li_5, li_6, li_7, li_8, li_9, li_10, li_40, li_120, pk_mul, nI_add, nI_1, ix_eq, ix_lt, ix_le, ix_l0, ix_l1, ix_n0, ix_p0, ix_1lt, ix_lt1, ix_1le, ix_le1, ix_le0, ix_0lt, ab_z0, ab_z1, i_10, i_01, eq_self, ab_ozn, ab_ozp, ab_o_some, not_true_eq_false, not_false_eq_true, Bool.not_eq_false, Bool.not_eq_true, Bool.not_eq_false', Bool.not_eq_true', Bool.false_eq_true, Bool.true_eq_false, reduceCtorEq, Option.isSome_some, Option.isSome_none, r44, r45, r46, r47, r48, r49, r50, r51, r52, r53, r54, r55, r56, r57, r58, r59, r60, r61, g0, g2, g6, g16, e] at h) <;> (try omega)) | refine ab_sd (by first | (with_reducible refine vp_in_nI ?_ ?_ <;> omega) | (simp (disch := omega) only [nI_clamp, li_2, li_3, li_4, li_5, li_6, li_7, li_8, li_9, li_10, li_40, li_120, pk_mul, nI_add, nI_1, ix_eq, ix_lt, ix_le, ix_l0, ix_l1, ix_n0, ix_p0, ix_1lt, ix_lt1, ix_1le, ix_le1, ix_le0, ix_0lt, ab_z0, ab_z1, i_10, i_01, eq_self, ab_ozn, ab_ozp, ab_o_some, not_true_eq_false, not_false_eq_true, Bool.not_eq_false, Bool.not_eq_true, Bool.not_eq_false', Bool.not_eq_true', Bool.false_eq_true, Bool.true_eq_false, reduceCtorEq, Option.isSome_some, Option.isSome_none, r44, r45, r46, r47, r48, r49, r50, r51, r52, r53, r54, r55, r56, r57, r58, r59, r60, r61, g0, g2, g6, g16, e]; with_reducible refine vp_in_nI ?_ ?_ <;> omega)) ?_ | refine r_has hω (a := S.1 52 a) (b := 1) (by simp (disch := omega) only [nI_clamp, li_2, li_3, li_4, li_5, li_6, li_7, li_8, li_9, li_10, li_40, li_120, pk_mul, nI_add, nI_1, ix_eq, ix_lt, ix_le, ix_l0, ix_l1, ix_n0, ix_p0, ix_1lt, ix_lt1, ix_1le, ix_le1, ix_le0, ix_0lt, ab_z0, ab_z1, i_10, i_01, eq_self, ab_ozn, ab_ozp, ab_o_some, not_true_eq_false, not_false_eq_true, Bool.not_eq_false, Bool.not_eq_true, Bool.not_eq_false', Bool.not_eq_true', Bool.false_eq_true, Bool.true_eq_false, reduceCtorEq, Option.isSome_some, Option.isSome_none, r44, r45, r46, r47, r48, r49, r50, r51, r52, r53, r54, r55, r56, r57, r58, r59, r60, r61, g0, g2, g6, g16]) rfl q1 ?_ | refine ab_sd ?_ ?_ | refine ab_sz (Or.inl rfl) ?_ | refine ab_sz (Or.inr rfl) ?_ | refine ab_sz ?_ ?_)
          · exact ab_z01 _
          · refine q_of hQ ?_
            simp
        · have h3 : t ∈ s_ch S o := by
            rcases List.mem_cons.mp h3 with h3 | h3
            · exact absurd h3.symm hat
            · exact h3
          refine hj _ _ _ _ ?_
          repeat' (first | refine hjx _ _ _ _ (by decide) ?_ | (refine br_c (fun h => ?_) (fun h => ?_) <;> (try simp (disch := omega) only [nI_clamp, li_2, li_3, li_4, li_5, li_6, li_7, li_8, li_9, li_10, li_40, li_120, pk_mul, nI_add, nI_1, ix_eq, ix_lt, ix_le, ix_l0, ix_l1, ix_n0, ix_p0, ix_1lt, ix_lt1, ix_1le, ix_le1, ix_le0, ix_0lt, ab_z0, ab_z1, i_10, i_01, eq_self, ab_ozn, ab_ozp, ab_o_some, not_true_eq_false, not_false_eq_true, Bool.not_eq_false, Bool.not_eq_true, Bool.not_eq_false', Bool.not_eq_true', Bool.false_eq_true, Bool.true_eq_false, reduceCtorEq, Option.isSome_some, Option.isSome_none, r44, r45, r46, r47, r48, r49, r50, r51, r52, r53, r54, r55, r56, r57, r58, r59, r60, r61, g0, g2, g6, g16, e] at h) <;> (try omega)) | (refine br_n (fun h => ?_) (fun h => ?_) <;> (try simp (disch := omega) only [nI_clamp, li_2, li_3, li_4, li_5, li_6, li_7, li_8, li_9, li_10, li_40, li_120, pk_mul, nI_add, nI_1, ix_eq, ix_lt, ix_le, ix_l0, ix_l1, ix_n0, ix_p0, ix_1lt, ix_lt1, ix_1le, ix_le1, ix_le0, ix_0lt, ab_z0, ab_z1, i_10, i_01, eq_self, ab_ozn, ab_ozp, ab_o_some, not_true_eq_false, not_false_eq_true, Bool.not_eq_false, Bool.not_eq_true, Bool.not_eq_false', Bool.not_eq_true', Bool.false_eq_true, Bool.true_eq_false, reduceCtorEq, Option.isSome_some, Option.isSome_none, r44, r45, r46, r47, r48, r49, r50, r51, r52, r53, r54, r55, r56, r57, r58, r59, r60, r61, g0, g2, g6, g16, e] at h) <;> (try omega)) | refine ab_sd (by first | (with_reducible refine vp_in_nI ?_ ?_ <;> omega) | (simp (disch := omega) only [nI_clamp, li_2, li_3, li_4, li_5, li_6, li_7, li_8, li_9, li_10, li_40, li_120, pk_mul, nI_add, nI_1, ix_eq, ix_lt, ix_le, ix_l0, ix_l1, ix_n0, ix_p0, ix_1lt, ix_lt1, ix_1le, ix_le1, ix_le0, ix_0lt, ab_z0, ab_z1, i_10, i_01, eq_self, ab_ozn, ab_ozp, ab_o_some, not_true_eq_false, not_false_eq_true, Bool.not_eq_false, Bool.not_eq_true, Bool.not_eq_false', Bool.not_eq_true', Bool.false_eq_true, Bool.true_eq_false, reduceCtorEq, Option.isSome_some, Option.isSome_none, r44, r45, r46, r47, r48, r49, r50, r51, r52, r53, r54, r55, r56, r57, r58, r59, r60, r61, g0, g2, g6, g16, e]; with_reducible refine vp_in_nI ?_ ?_ <;> omega)) ?_ | refine r_has hω (a := S.1 52 a) (b := 1) (by simp (disch := omega) only [nI_clamp, li_2, li_3, li_4, li_5, li_6, li_7, li_8, li_9, li_10, li_40, li_120, pk_mul, nI_add, nI_1, ix_eq, ix_lt, ix_le, ix_l0, ix_l1, ix_n0, ix_p0, ix_1lt, ix_lt1, ix_1le, ix_le1, ix_le0, ix_0lt, ab_z0, ab_z1, i_10, i_01, eq_self, ab_ozn, ab_ozp, ab_o_some, not_true_eq_false, not_false_eq_true, Bool.not_eq_false, Bool.not_eq_true, Bool.not_eq_false', Bool.not_eq_true', Bool.false_eq_true, Bool.true_eq_false, reduceCtorEq, Option.isSome_some, Option.isSome_none, r44, r45, r46, r47, r48, r49, r50, r51, r52, r53, r54, r55, r56, r57, r58, r59, r60, r61, g0, g2, g6, g16]) rfl q1 ?_ | refine ab_sd ?_ ?_ | refine ab_sz (Or.inl rfl) ?_ | refine ab_sz (Or.inr rfl) ?_ | refine ab_sz ?_ ?_)
          show j 4 _ _ _
          simp (disch := omega) only [nI_clamp, li_2, li_3, li_4, li_5, li_6, li_7, li_8, li_9, li_10, li_40, li_120, pk_mul, nI_add, nI_1, ix_eq, ix_lt, ix_le, ix_l0, ix_l1, ix_n0, ix_p0, ix_1lt, ix_lt1, ix_1le, ix_le1, ix_le0, ix_0lt, ab_z0, ab_z1, i_10, i_01, eq_self, ab_ozn, ab_ozp, ab_o_some, not_true_eq_false, not_false_eq_true, Bool.not_eq_false, Bool.not_eq_true, Bool.not_eq_false', Bool.not_eq_true', Bool.false_eq_true, Bool.true_eq_false, reduceCtorEq, Option.isSome_some, Option.isSome_none, r44, r45, r46, r47, r48, r49, r50, r51, r52, r53, r54, r55, r56, r57, r58, r59, r60, r61, g0, g2, g6, g16, e, ab_zor]
          refine ih o _ (by omega) (by omega) h3 (q_of hQ ?_)
          rw [List.takeWhile_cons, if_pos (by simp [hat]), List.any_cons, Bool.or_assoc]
  repeat' (first | refine hjx _ _ _ _ (by decide) ?_ | (refine br_c (fun h => ?_) (fun h => ?_) <;> (try simp (disch := omega) only [nI_clamp, li_2, li_3, li_4, li_5, li_6, li_7, li_8, li_9, li_10, li_40, li_120, pk_mul, nI_add, nI_1, ix_eq, ix_lt, ix_le, ix_l0, ix_l1, ix_n0, ix_p0, ix_1lt, ix_lt1, ix_1le, ix_le1, ix_le0, ix_0lt, ab_z0, ab_z1, i_10, i_01, eq_self, ab_ozn, ab_ozp, ab_o_some, not_true_eq_false, not_false_eq_true, Bool.not_eq_false, Bool.not_eq_true, Bool.not_eq_false', Bool.not_eq_true', Bool.false_eq_true, Bool.true_eq_false, reduceCtorEq, Option.isSome_some, Option.isSome_none, r44, r45, r46, r47, r48, r49, r50, r51, r52, r53, r54, r55, r56, r57, r58, r59, r60, r61, g0, g2, g6, g16] at h) <;> (try omega)) | (refine br_n (fun h => ?_) (fun h => ?_) <;> (try simp (disch := omega) only [nI_clamp, li_2, li_3, li_4, li_5, li_6, li_7, li_8, li_9, li_10, li_40, li_120, pk_mul, nI_add, nI_1, ix_eq, ix_lt, ix_le, ix_l0, ix_l1, ix_n0, ix_p0, ix_1lt, ix_lt1, ix_1le, ix_le1, ix_le0, ix_0lt, ab_z0, ab_z1, i_10, i_01, eq_self, ab_ozn, ab_ozp, ab_o_some, not_true_eq_false, not_false_eq_true, Bool.not_eq_false, Bool.not_eq_true, Bool.not_eq_false', Bool.not_eq_true', Bool.false_eq_true, Bool.true_eq_false, reduceCtorEq, Option.isSome_some, Option.isSome_none, r44, r45, r46, r47, r48, r49, r50, r51, r52, r53, r54, r55, r56, r57, r58, r59, r60, r61, g0, g2, g6, g16] at h) <;> (try omega)) | refine ab_sd (by first | (with_reducible refine vp_in_nI ?_ ?_ <;> omega) | (simp (disch := omega) only [nI_clamp, li_2, li_3, li_4, li_5, li_6, li_7, li_8, li_9, li_10, li_40, li_120, pk_mul, nI_add, nI_1, ix_eq, ix_lt, ix_le, ix_l0, ix_l1, ix_n0, ix_p0, ix_1lt, ix_lt1, ix_1le, ix_le1, ix_le0, ix_0lt, ab_z0, ab_z1, i_10, i_01, eq_self, ab_ozn, ab_ozp, ab_o_some, not_true_eq_false, not_false_eq_true, Bool.not_eq_false, Bool.not_eq_true, Bool.not_eq_false', Bool.not_eq_true', Bool.false_eq_true, Bool.true_eq_false, reduceCtorEq, Option.isSome_some, Option.isSome_none, r44, r45, r46, r47, r48, r49, r50, r51, r52, r53, r54, r55, r56, r57, r58, r59, r60, r61, g0, g2, g6, g16]; with_reducible refine vp_in_nI ?_ ?_ <;> omega)) ?_ | refine ab_sd ?_ ?_ | refine ab_sz (Or.inl rfl) ?_ | refine ab_sz (Or.inr rfl) ?_ | refine ab_sz ?_ ?_)
  exact loop (f + 1) f false (by omega) hf ht (by simpa using hQ)
end R9
end
section
/-! make -/
def s_mkT (S : sT) (f h : Nat) (o : Option Nat) (n : Nat) : Int32 := match o with
  | none => -11
  | some t => match s_dec S t 2 n with
    | none => -12
    | some m => if (S.1 60 m = 0 ∧ ¬ s_top S f = s_top S t) ∨ (S.1 60 m = 1 ∧ ¬ S.1 48 f = S.1 48 t) ∨ (S.1 60 m = 2 ∧ ¬ S.1 48 f = S.1 48 t ∧ h = 0) then -13 else if h = 0 ∧ s_has (S.1 52 t) 4 = true then -15 else if h = 1 ∧ s_has (S.1 52 t) 2 = true then -16 else nI m
def s_mkO (S : sT) (f h q : Nat) : Option Nat := if h = 2 then s_pa S f else if s_open S f q = true then some q else none
def v_make (S : sT) (f how q n : Int32) : Bool := ab_ok (s_nT S) f && ab_ok 3 how && (decide (nI 2 ≤ how) || ab_ok (s_nT S) q) && ab_ok 10 n
def a_make (S : sT) (f how q n : Int32) : Int32 := if v_make S f how q n then s_mkT S f.toNatClampNeg how.toNatClampNeg (s_mkO S f.toNatClampNeg how.toNatClampNeg q.toNatClampNeg) n.toNatClampNeg else -1
section R10
variable {l : Launch} {ω : ab_W} {S : sT} {μ : ab_M} {Q : Int32 → ab_M → Prop}
set_option maxHeartbeats 4000000 in
set_option maxRecDepth 10000 in
theorem r_make (hω : ω.2.2.2 = ab_SH) (R : RepR S μ) (hW : Wf S) {x y z v : Int32} (hQ : Q (a_make S x y z v) μ) : ab_CI l ω mX11_make [.ref 43, .int x, .int y, .int z, .int v] μ Q := by
  refine ab_intro (sh := ab_SH) (cd := kX11_make) hω vX11_make (by decide +kernel) rfl (Nat.le_of_ble_eq_true rfl) (fun j hj hw => ?_)
  have hjx : ∀ i ll st μ, i ∉ ([40] : List Nat) → _ → j i ll st μ := fun i ll st μ _ h => hj i ll st μ h
  have hT := hW.2.2.1.2
  have hP := hW.2.1.2
  obtain ⟨r44, r45, r46, r47, r48, r49, r50, r51, r52, r53, r54, r55, r56, r57, r58, r59, r60, r61, g0, g2, g6, g16⟩ := RepR_fs R
  cases hv : v_make S x y z v with
  | false =>
    have e1 : a_make S x y z v = -1 := by simp [a_make, hv]
    rw [e1] at hQ
    unfold v_make at hv
    rw [ab_ok3, ab_ok10] at hv
    repeat' (first | refine hjx _ _ _ _ (by decide) ?_ | (refine br_c (fun h => ?_) (fun h => ?_) <;> (try simp (disch := omega) only [nI_clamp, li_2, li_3, li_4, li_5, li_6, li_7, li_8, li_9, li_10, li_40, li_120, pk_mul, nI_add, nI_1, ix_eq, ix_lt, ix_le, ix_l0, ix_l1, ix_n0, ix_p0, ix_1lt, ix_lt1, ix_1le, ix_le1, ix_le0, ix_0lt, ab_z0, ab_z1, i_10, i_01, eq_self, ab_ozn, ab_ozp, ab_o_some, not_true_eq_false, not_false_eq_true, Bool.not_eq_false, Bool.not_eq_true, Bool.not_eq_false', Bool.not_eq_true', Bool.false_eq_true, Bool.true_eq_false, reduceCtorEq, Option.isSome_some, Option.isSome_none, r44, r45, r46, r47, r48, r49, r50, r51, r52, r53, r54, r55, r56, r57, r58, r59, r60, r61, g0, g2, g6, g16] at h) <;> (try omega)) | (refine br_n (fun h => ?_) (fun h => ?_) <;> (try simp (disch := omega) only [nI_clamp, li_2, li_3, li_4, li_5, li_6, li_7, li_8, li_9, li_10, li_40, li_120, pk_mul, nI_add, nI_1, ix_eq, ix_lt, ix_le, ix_l0, ix_l1, ix_n0, ix_p0, ix_1lt, ix_lt1, ix_1le, ix_le1, ix_le0, ix_0lt, ab_z0, ab_z1, i_10, i_01, eq_self, ab_ozn, ab_ozp, ab_o_some, not_true_eq_false, not_false_eq_true, Bool.not_eq_false, Bool.not_eq_true, Bool.not_eq_false', Bool.not_eq_true', Bool.false_eq_true, Bool.true_eq_false, reduceCtorEq, Option.isSome_some, Option.isSome_none, r44, r45, r46, r47, r48, r49, r50, r51, r52, r53, r54, r55, r56, r57, r58, r59, r60, r61, g0, g2, g6, g16] at h) <;> (try omega)) | refine ab_sd (by first | (with_reducible refine vp_in_nI ?_ ?_ <;> omega) | (simp (disch := omega) only [nI_clamp, li_2, li_3, li_4, li_5, li_6, li_7, li_8, li_9, li_10, li_40, li_120, pk_mul, nI_add, nI_1, ix_eq, ix_lt, ix_le, ix_l0, ix_l1, ix_n0, ix_p0, ix_1lt, ix_lt1, ix_1le, ix_le1, ix_le0, ix_0lt, ab_z0, ab_z1, i_10, i_01, eq_self, ab_ozn, ab_ozp, ab_o_some, not_true_eq_false, not_false_eq_true, Bool.not_eq_false, Bool.not_eq_true, Bool.not_eq_false', Bool.not_eq_true', Bool.false_eq_true, Bool.true_eq_false, reduceCtorEq, Option.isSome_some, Option.isSome_none, r44, r45, r46, r47, r48, r49, r50, r51, r52, r53, r54, r55, r56, r57, r58, r59, r60, r61, g0, g2, g6, g16]; with_reducible refine vp_in_nI ?_ ?_ <;> omega)) ?_ | refine r_noType hω R ?_ | (exfalso; clear hj hw hQ; grind) | refine ab_sd ?_ ?_ | refine ab_sz (Or.inl rfl) ?_ | refine ab_sz (Or.inr rfl) ?_ | refine ab_sz ?_ ?_)
    all_goals first | (show Q _ _; with_reducible exact hQ) | (exfalso; clear hj hw hQ; grind)
  | true =>
    unfold a_make at hQ
    rw [hv, if_pos rfl] at hQ
    unfold v_make at hv
    simp only [Bool.and_eq_true, Bool.or_eq_true, decide_eq_true_eq] at hv
    obtain ⟨⟨⟨hx, hy⟩, hz⟩, hn⟩ := hv
    obtain ⟨f, hf, rfl⟩ := ab_ok_t (by omega) hx
    obtain ⟨h, hh, rfl⟩ := ab_ok_t (by omega) hy
    obtain ⟨n, hn2, rfl⟩ := ab_ok_t (by omega) hn
    rw [nI_clamp (by omega), nI_clamp (by omega), nI_clamp (n := n) (by omega)] at hQ
    obtain ⟨f1, f2, f3, f4, -, -, -, f8⟩ := hW.2.2.2.2.2.1 f hf
    have ft := s_top_lt hW _ f (Nat.lt_succ_self _) hf
    rw [ix_le (by omega) (by omega)] at hz
    have t40 : ∀ o : Option Nat, (∀ t, o = some t → t < s_nT S) → Q (s_mkT S f h o n) μ → ∀ v6 v7 v8, j 40 [some (.ref 43), some (.int (nI f)), some (.int (nI h)), some (.int z), some (.int (nI n)), some (.int (ab_o o)), v6, v7, v8] [] μ := by
      intro o ho hQ v6 v7 v8
      refine hw _ _ [some (.ref 43), some (.int (nI f)), some (.int (nI h)), some (.int z), some (.int (nI n)), some (.int (ab_o o)), none, none, none] _ _ ⟨rfl, rfl, rfl, rfl, rfl, rfl, trivial⟩ ?_
      cases o with
      | none =>
        refine hj _ _ _ _ ?_
        repeat' (first | refine hjx _ _ _ _ (by decide) ?_ | (refine br_c (fun h => ?_) (fun h => ?_) <;> (try simp (disch := omega) only [nI_clamp, li_2, li_3, li_4, li_5, li_6, li_7, li_8, li_9, li_10, li_40, li_120, pk_mul, nI_add, nI_1, ix_eq, ix_lt, ix_le, ix_l0, ix_l1, ix_n0, ix_p0, ix_1lt, ix_lt1, ix_1le, ix_le1, ix_le0, ix_0lt, ab_z0, ab_z1, i_10, i_01, eq_self, ab_ozn, ab_ozp, ab_o_some, not_true_eq_false, not_false_eq_true, Bool.not_eq_false, Bool.not_eq_true, Bool.not_eq_false', Bool.not_eq_true', Bool.false_eq_true, Bool.true_eq_false, reduceCtorEq, Option.isSome_some, Option.isSome_none, r44, r45, r46, r47, r48, r49, r50, r51, r52, r53, r54, r55, r56, r57, r58, r59, r60, r61, g0, g2, g6, g16] at h) <;> (try omega)) | (refine br_n (fun h => ?_) (fun h => ?_) <;> (try simp (disch := omega) only [nI_clamp, li_2, li_3, li_4, li_5, li_6, li_7, li_8, li_9, li_10, li_40, li_120, pk_mul, nI_add, nI_1, ix_eq, ix_lt, ix_le, ix_l0, ix_l1, ix_n0, ix_p0, ix_1lt, ix_lt1, ix_1le, ix_le1, ix_le0, ix_0lt, ab_z0, ab_z1, i_10, i_01, eq_self, ab_ozn, ab_ozp, ab_o_some, not_true_eq_false, not_false_eq_true, Bool.not_eq_false, Bool.not_eq_true, Bool.not_eq_false', Bool.not_eq_true', Bool.false_eq_true, Bool.true_eq_false, reduceCtorEq, Option.isSome_some, Option.isSome_none, r44, r45, r46, r47, r48, r49, r50, r51, r52, r53, r54, r55, r56, r57, r58, r59, r60, r61, g0, g2, g6, g16] at h) <;> (try omega)) | refine ab_sd (by first | (with_reducible refine vp_in_nI ?_ ?_ <;> omega) | (simp (disch := omega) only [nI_clamp, li_2, li_3, li_4, li_5, li_6, li_7, li_8, li_9, li_10, li_40, li_120, pk_mul, nI_add, nI_1, ix_eq, ix_lt, ix_le, ix_l0, ix_l1, ix_n0, ix_p0, ix_1lt, ix_lt1, ix_1le, ix_le1, ix_le0, ix_0lt, ab_z0, ab_z1, i_10, i_01, eq_self, ab_ozn, ab_ozp, ab_o_some, not_true_eq_false, not_false_eq_true, Bool.not_eq_false, Bool.not_eq_true, Bool.not_eq_false', Bool.not_eq_true', Bool.false_eq_true, Bool.true_eq_false, reduceCtorEq, Option.isSome_some, Option.isSome_none, r44, r45, r46, r47, r48, r49, r50, r51, r52, r53, r54, r55, r56, r57, r58, r59, r60, r61, g0, g2, g6, g16]; with_reducible refine vp_in_nI ?_ ?_ <;> omega)) ?_ | refine ab_sd ?_ ?_ | refine ab_sz (Or.inl rfl) ?_ | refine ab_sz (Or.inr rfl) ?_ | refine ab_sz ?_ ?_)
        exact hQ
      | some t =>
        have ht := ho t rfl
        obtain ⟨t1, t2, t3, t4, -⟩ := hW.2.2.2.2.2.1 t ht
        have tt := s_top_lt hW _ t (Nat.lt_succ_self _) ht
        have q4 := s_and_lt (b := 4) t4
        have q2 := s_and_lt (b := 2) t4
        unfold s_mkT at hQ
        dsimp only at hQ
        cases hd : s_dec S t 2 n with
        | none =>
          rw [hd] at hQ
          refine hj _ _ _ _ ?_
          repeat' (first | refine hjx _ _ _ _ (by decide) ?_ | (refine br_c (fun h => ?_) (fun h => ?_) <;> (try simp (disch := omega) only [nI_clamp, li_2, li_3, li_4, li_5, li_6, li_7, li_8, li_9, li_10, li_40, li_120, pk_mul, nI_add, nI_1, ix_eq, ix_lt, ix_le, ix_l0, ix_l1, ix_n0, ix_p0, ix_1lt, ix_lt1, ix_1le, ix_le1, ix_le0, ix_0lt, ab_z0, ab_z1, i_10, i_01, eq_self, ab_ozn, ab_ozp, ab_o_some, not_true_eq_false, not_false_eq_true, Bool.not_eq_false, Bool.not_eq_true, Bool.not_eq_false', Bool.not_eq_true', Bool.false_eq_true, Bool.true_eq_false, reduceCtorEq, Option.isSome_some, Option.isSome_none, r44, r45, r46, r47, r48, r49, r50, r51, r52, r53, r54, r55, r56, r57, r58, r59, r60, r61, g0, g2, g6, g16] at h) <;> (try omega)) | (refine br_n (fun h => ?_) (fun h => ?_) <;> (try simp (disch := omega) only [nI_clamp, li_2, li_3, li_4, li_5, li_6, li_7, li_8, li_9, li_10, li_40, li_120, pk_mul, nI_add, nI_1, ix_eq, ix_lt, ix_le, ix_l0, ix_l1, ix_n0, ix_p0, ix_1lt, ix_lt1, ix_1le, ix_le1, ix_le0, ix_0lt, ab_z0, ab_z1, i_10, i_01, eq_self, ab_ozn, ab_ozp, ab_o_some, not_true_eq_false, not_false_eq_true, Bool.not_eq_false, Bool.not_eq_true, Bool.not_eq_false', Bool.not_eq_true', Bool.false_eq_true, Bool.true_eq_false, reduceCtorEq, Option.isSome_some, Option.isSome_none, r44, r45, r46, r47, r48, r49, r50, r51, r52, r53, r54, r55, r56, r57, r58, r59, r60, r61, g0, g2, g6, g16] at h) <;> (try omega)) | refine ab_sd (by first | (with_reducible refine vp_in_nI ?_ ?_ <;> omega) | (simp (disch := omega) only [nI_clamp, li_2, li_3, li_4, li_5, li_6, li_7, li_8, li_9, li_10, li_40, li_120, pk_mul, nI_add, nI_1, ix_eq, ix_lt, ix_le, ix_l0, ix_l1, ix_n0, ix_p0, ix_1lt, ix_lt1, ix_1le, ix_le1, ix_le0, ix_0lt, ab_z0, ab_z1, i_10, i_01, eq_self, ab_ozn, ab_ozp, ab_o_some, not_true_eq_false, not_false_eq_true, Bool.not_eq_false, Bool.not_eq_true, Bool.not_eq_false', Bool.not_eq_true', Bool.false_eq_true, Bool.true_eq_false, reduceCtorEq, Option.isSome_some, Option.isSome_none, r44, r45, r46, r47, r48, r49, r50, r51, r52, r53, r54, r55, r56, r57, r58, r59, r60, r61, g0, g2, g6, g16]; with_reducible refine vp_in_nI ?_ ?_ <;> omega)) ?_ | (refine r_declared hω R hW (t := t) (k := 2) (n := n) rfl rfl rfl (by omega) (by omega) (by omega) ?_; rw [hd]) | refine ab_sd ?_ ?_ | refine ab_sz (Or.inl rfl) ?_ | refine ab_sz (Or.inr rfl) ?_ | refine ab_sz ?_ ?_)
          exact hQ
        | some m =>
          rw [hd] at hQ
          dsimp only at hQ
          have hm := s_dec_lt hW hd
          obtain ⟨m1, m2, m3, m4, m5⟩ := hW.2.2.2.2.2.2 m hm.1
          refine hj _ _ _ _ ?_
          repeat' (first | refine hjx _ _ _ _ (by decide) ?_ | (refine br_c (fun h => ?_) (fun h => ?_) <;> (try simp (disch := omega) only [nI_clamp, li_2, li_3, li_4, li_5, li_6, li_7, li_8, li_9, li_10, li_40, li_120, pk_mul, nI_add, nI_1, ix_eq, ix_lt, ix_le, ix_l0, ix_l1, ix_n0, ix_p0, ix_1lt, ix_lt1, ix_1le, ix_le1, ix_le0, ix_0lt, ab_z0, ab_z1, i_10, i_01, eq_self, ab_ozn, ab_ozp, ab_o_some, not_true_eq_false, not_false_eq_true, Bool.not_eq_false, Bool.not_eq_true, Bool.not_eq_false', Bool.not_eq_true', Bool.false_eq_true, Bool.true_eq_false, reduceCtorEq, Option.isSome_some, Option.isSome_none, r44, r45, r46, r47, r48, r49, r50, r51, r52, r53, r54, r55, r56, r57, r58, r59, r60, r61, g0, g2, g6, g16] at h) <;> (try omega)) | (refine br_n (fun h => ?_) (fun h => ?_) <;> (try simp (disch := omega) only [nI_clamp, li_2, li_3, li_4, li_5, li_6, li_7, li_8, li_9, li_10, li_40, li_120, pk_mul, nI_add, nI_1, ix_eq, ix_lt, ix_le, ix_l0, ix_l1, ix_n0, ix_p0, ix_1lt, ix_lt1, ix_1le, ix_le1, ix_le0, ix_0lt, ab_z0, ab_z1, i_10, i_01, eq_self, ab_ozn, ab_ozp, ab_o_some, not_true_eq_false, not_false_eq_true, Bool.not_eq_false, Bool.not_eq_true, Bool.not_eq_false', Bool.not_eq_true', Bool.false_eq_true, Bool.true_eq_false, reduceCtorEq, Option.isSome_some, Option.isSome_none, r44, r45, r46, r47, r48, r49, r50, r51, r52, r53, r54, r55, r56, r57, r58, r59, r60, r61, g0, g2, g6, g16] at h) <;> (try omega)) | refine ab_sd (by first | (with_reducible refine vp_in_nI ?_ ?_ <;> omega) | (simp (disch := omega) only [nI_clamp, li_2, li_3, li_4, li_5, li_6, li_7, li_8, li_9, li_10, li_40, li_120, pk_mul, nI_add, nI_1, ix_eq, ix_lt, ix_le, ix_l0, ix_l1, ix_n0, ix_p0, ix_1lt, ix_lt1, ix_1le, ix_le1, ix_le0, ix_0lt, ab_z0, ab_z1, i_10, i_01, eq_self, ab_ozn, ab_ozp, ab_o_some, not_true_eq_false, not_false_eq_true, Bool.not_eq_false, Bool.not_eq_true, Bool.not_eq_false', Bool.not_eq_true', Bool.false_eq_true, Bool.true_eq_false, reduceCtorEq, Option.isSome_some, Option.isSome_none, r44, r45, r46, r47, r48, r49, r50, r51, r52, r53, r54, r55, r56, r57, r58, r59, r60, r61, g0, g2, g6, g16]; with_reducible refine vp_in_nI ?_ ?_ <;> omega)) ?_ | (refine r_declared hω R hW (t := t) (k := 2) (n := n) rfl rfl rfl (by omega) (by omega) (by omega) ?_; rw [hd]) | refine r_topOf hω R hW (t := f) rfl hf ?_ | refine r_topOf hω R hW (t := t) rfl ht ?_ | refine r_has hω (a := S.1 52 t) (b := 4) (by simp (disch := omega) only [nI_clamp, li_2, li_3, li_4, li_5, li_6, li_7, li_8, li_9, li_10, li_40, li_120, pk_mul, nI_add, nI_1, ix_eq, ix_lt, ix_le, ix_l0, ix_l1, ix_n0, ix_p0, ix_1lt, ix_lt1, ix_1le, ix_le1, ix_le0, ix_0lt, ab_z0, ab_z1, i_10, i_01, eq_self, ab_ozn, ab_ozp, ab_o_some, not_true_eq_false, not_false_eq_true, Bool.not_eq_false, Bool.not_eq_true, Bool.not_eq_false', Bool.not_eq_true', Bool.false_eq_true, Bool.true_eq_false, reduceCtorEq, Option.isSome_some, Option.isSome_none, r44, r45, r46, r47, r48, r49, r50, r51, r52, r53, r54, r55, r56, r57, r58, r59, r60, r61, g0, g2, g6, g16]) rfl q4 ?_ | refine r_has hω (a := S.1 52 t) (b := 2) (by simp (disch := omega) only [nI_clamp, li_2, li_3, li_4, li_5, li_6, li_7, li_8, li_9, li_10, li_40, li_120, pk_mul, nI_add, nI_1, ix_eq, ix_lt, ix_le, ix_l0, ix_l1, ix_n0, ix_p0, ix_1lt, ix_lt1, ix_1le, ix_le1, ix_le0, ix_0lt, ab_z0, ab_z1, i_10, i_01, eq_self, ab_ozn, ab_ozp, ab_o_some, not_true_eq_false, not_false_eq_true, Bool.not_eq_false, Bool.not_eq_true, Bool.not_eq_false', Bool.not_eq_true', Bool.false_eq_true, Bool.true_eq_false, reduceCtorEq, Option.isSome_some, Option.isSome_none, r44, r45, r46, r47, r48, r49, r50, r51, r52, r53, r54, r55, r56, r57, r58, r59, r60, r61, g0, g2, g6, g16]) rfl q2 ?_ | refine ab_sd ?_ ?_ | refine ab_sz (Or.inl rfl) ?_ | refine ab_sz (Or.inr rfl) ?_ | refine ab_sz ?_ ?_)
          all_goals (refine q_of hQ ?_; clear hjx hQ ho f8; clear hω hW R r44 r45 r46 r47 r48 r49 r50 r51 r52 r53 r54 r55 r56 r57 r58 r59 r60 r61 g0 g2 g6 g16 hj hw; (try rw [ab_o_some]); grind)
    have h3 : h = 0 ∨ h = 1 ∨ h = 2 := by omega
    rcases h3 with rfl | rfl | rfl
    · have hz : ab_ok (s_nT S) z = true := by rcases hz with hz | hz; omega; exact hz
      obtain ⟨q, hq, rfl⟩ := ab_ok_t (by omega) hz
      rw [nI_clamp (by omega)] at hQ
      unfold s_mkO at hQ
      rw [if_neg (by omega)] at hQ
      cases ho : s_open S f q with
      | true =>
        rw [ho, if_pos rfl] at hQ
        repeat' (first | refine hjx _ _ _ _ (by decide) ?_ | (refine br_c (fun h => ?_) (fun h => ?_) <;> (try simp (disch := omega) only [nI_clamp, li_2, li_3, li_4, li_5, li_6, li_7, li_8, li_9, li_10, li_40, li_120, pk_mul, nI_add, nI_1, ix_eq, ix_lt, ix_le, ix_l0, ix_l1, ix_n0, ix_p0, ix_1lt, ix_lt1, ix_1le, ix_le1, ix_le0, ix_0lt, ab_z0, ab_z1, i_10, i_01, eq_self, ab_ozn, ab_ozp, ab_o_some, not_true_eq_false, not_false_eq_true, Bool.not_eq_false, Bool.not_eq_true, Bool.not_eq_false', Bool.not_eq_true', Bool.false_eq_true, Bool.true_eq_false, reduceCtorEq, Option.isSome_some, Option.isSome_none, r44, r45, r46, r47, r48, r49, r50, r51, r52, r53, r54, r55, r56, r57, r58, r59, r60, r61, g0, g2, g6, g16, hx, hz] at h) <;> (try omega)) | (refine br_n (fun h => ?_) (fun h => ?_) <;> (try simp (disch := omega) only [nI_clamp, li_2, li_3, li_4, li_5, li_6, li_7, li_8, li_9, li_10, li_40, li_120, pk_mul, nI_add, nI_1, ix_eq, ix_lt, ix_le, ix_l0, ix_l1, ix_n0, ix_p0, ix_1lt, ix_lt1, ix_1le, ix_le1, ix_le0, ix_0lt, ab_z0, ab_z1, i_10, i_01, eq_self, ab_ozn, ab_ozp, ab_o_some, not_true_eq_false, not_false_eq_true, Bool.not_eq_false, Bool.not_eq_true, Bool.not_eq_false', Bool.not_eq_true', Bool.false_eq_true, Bool.true_eq_false, reduceCtorEq, Option.isSome_some, Option.isSome_none, r44, r45, r46, r47, r48, r49, r50, r51, r52, r53, r54, r55, r56, r57, r58, r59, r60, r61, g0, g2, g6, g16, hx, hz] at h) <;> (try omega)) | refine ab_sd (by first | (with_reducible refine vp_in_nI ?_ ?_ <;> omega) | (simp (disch := omega) only [nI_clamp, li_2, li_3, li_4, li_5, li_6, li_7, li_8, li_9, li_10, li_40, li_120, pk_mul, nI_add, nI_1, ix_eq, ix_lt, ix_le, ix_l0, ix_l1, ix_n0, ix_p0, ix_1lt, ix_lt1, ix_1le, ix_le1, ix_le0, ix_0lt, ab_z0, ab_z1, i_10, i_01, eq_self, ab_ozn, ab_ozp, ab_o_some, not_true_eq_false, not_false_eq_true, Bool.not_eq_false, Bool.not_eq_true, Bool.not_eq_false', Bool.not_eq_true', Bool.false_eq_true, Bool.true_eq_false, reduceCtorEq, Option.isSome_some, Option.isSome_none, r44, r45, r46, r47, r48, r49, r50, r51, r52, r53, r54, r55, r56, r57, r58, r59, r60, r61, g0, g2, g6, g16, hx, hz]; with_reducible refine vp_in_nI ?_ ?_ <;> omega)) ?_ | refine r_noType hω R ?_ | (refine r_isOpen hω R hW (f := f) (t := q) rfl rfl hf hq ?_; rw [ho]) | refine ab_sd ?_ ?_ | refine ab_sz (Or.inl rfl) ?_ | refine ab_sz (Or.inr rfl) ?_ | refine ab_sz ?_ ?_)
        all_goals first | exact t40 (some q) (fun t e => by cases e; exact hq) hQ _ _ _ | (exfalso; simp_all; done)
      | false =>
        rw [ho, if_neg (by simp)] at hQ
        repeat' (first | refine hjx _ _ _ _ (by decide) ?_ | (refine br_c (fun h => ?_) (fun h => ?_) <;> (try simp (disch := omega) only [nI_clamp, li_2, li_3, li_4, li_5, li_6, li_7, li_8, li_9, li_10, li_40, li_120, pk_mul, nI_add, nI_1, ix_eq, ix_lt, ix_le, ix_l0, ix_l1, ix_n0, ix_p0, ix_1lt, ix_lt1, ix_1le, ix_le1, ix_le0, ix_0lt, ab_z0, ab_z1, i_10, i_01, eq_self, ab_ozn, ab_ozp, ab_o_some, not_true_eq_false, not_false_eq_true, Bool.not_eq_false, Bool.not_eq_true, Bool.not_eq_false', Bool.not_eq_true', Bool.false_eq_true, Bool.true_eq_false, reduceCtorEq, Option.isSome_some, Option.isSome_none, r44, r45, r46, r47, r48, r49, r50, r51, r52, r53, r54, r55, r56, r57, r58, r59, r60, r61, g0, g2, g6, g16, hx, hz] at h) <;> (try omega)) | (refine br_n (fun h => ?_) (fun h => ?_) <;> (try simp (disch := omega) only [nI_clamp, li_2, li_3, li_4, li_5, li_6, li_7, li_8, li_9, li_10, li_40, li_120, pk_mul, nI_add, nI_1, ix_eq, ix_lt, ix_le, ix_l0, ix_l1, ix_n0, ix_p0, ix_1lt, ix_lt1, ix_1le, ix_le1, ix_le0, ix_0lt, ab_z0, ab_z1, i_10, i_01, eq_self, ab_ozn, ab_ozp, ab_o_some, not_true_eq_false, not_false_eq_true, Bool.not_eq_false, Bool.not_eq_true, Bool.not_eq_false', Bool.not_eq_true', Bool.false_eq_true, Bool.true_eq_false, reduceCtorEq, Option.isSome_some, Option.isSome_none, r44, r45, r46, r47, r48, r49, r50, r51, r52, r53, r54, r55, r56, r57, r58, r59, r60, r61, g0, g2, g6, g16, hx, hz] at h) <;> (try omega)) | refine ab_sd (by first | (with_reducible refine vp_in_nI ?_ ?_ <;> omega) | (simp (disch := omega) only [nI_clamp, li_2, li_3, li_4, li_5, li_6, li_7, li_8, li_9, li_10, li_40, li_120, pk_mul, nI_add, nI_1, ix_eq, ix_lt, ix_le, ix_l0, ix_l1, ix_n0, ix_p0, ix_1lt, ix_lt1, ix_1le, ix_le1, ix_le0, ix_0lt, ab_z0, ab_z1, i_10, i_01, eq_self, ab_ozn, ab_ozp, ab_o_some, not_true_eq_false, not_false_eq_true, Bool.not_eq_false, Bool.not_eq_true, Bool.not_eq_false', Bool.not_eq_true', Bool.false_eq_true, Bool.true_eq_false, reduceCtorEq, Option.isSome_some, Option.isSome_none, r44, r45, r46, r47, r48, r49, r50, r51, r52, r53, r54, r55, r56, r57, r58, r59, r60, r61, g0, g2, g6, g16, hx, hz]; with_reducible refine vp_in_nI ?_ ?_ <;> omega)) ?_ | refine r_noType hω R ?_ | (refine r_isOpen hω R hW (f := f) (t := q) rfl rfl hf hq ?_; rw [ho]) | refine ab_sd ?_ ?_ | refine ab_sz (Or.inl rfl) ?_ | refine ab_sz (Or.inr rfl) ?_ | refine ab_sz ?_ ?_)
        all_goals first | exact t40 none (fun t e => by cases e) hQ _ _ _ | (exfalso; simp_all; done)
    · have hz : ab_ok (s_nT S) z = true := by rcases hz with hz | hz; omega; exact hz
      obtain ⟨q, hq, rfl⟩ := ab_ok_t (by omega) hz
      rw [nI_clamp (by omega)] at hQ
      unfold s_mkO at hQ
      rw [if_neg (by omega)] at hQ
      cases ho : s_open S f q with
      | true =>
        rw [ho, if_pos rfl] at hQ
        repeat' (first | refine hjx _ _ _ _ (by decide) ?_ | (refine br_c (fun h => ?_) (fun h => ?_) <;> (try simp (disch := omega) only [nI_clamp, li_2, li_3, li_4, li_5, li_6, li_7, li_8, li_9, li_10, li_40, li_120, pk_mul, nI_add, nI_1, ix_eq, ix_lt, ix_le, ix_l0, ix_l1, ix_n0, ix_p0, ix_1lt, ix_lt1, ix_1le, ix_le1, ix_le0, ix_0lt, ab_z0, ab_z1, i_10, i_01, eq_self, ab_ozn, ab_ozp, ab_o_some, not_true_eq_false, not_false_eq_true, Bool.not_eq_false, Bool.not_eq_true, Bool.not_eq_false', Bool.not_eq_true', Bool.false_eq_true, Bool.true_eq_false, reduceCtorEq, Option.isSome_some, Option.isSome_none, r44, r45, r46, r47, r48, r49, r50, r51, r52, r53, r54, r55, r56, r57, r58, r59, r60, r61, g0, g2, g6, g16, hx, hz] at h) <;> (try omega)) | (refine br_n (fun h => ?_) (fun h => ?_) <;> (try simp (disch := omega) only [nI_clamp, li_2, li_3, li_4, li_5, li_6, li_7, li_8, li_9, li_10, li_40, li_120, pk_mul, nI_add, nI_1, ix_eq, ix_lt, ix_le, ix_l0, ix_l1, ix_n0, ix_p0, ix_1lt, ix_lt1, ix_1le, ix_le1, ix_le0, ix_0lt, ab_z0, ab_z1, i_10, i_01, eq_self, ab_ozn, ab_ozp, ab_o_some, not_true_eq_false, not_false_eq_true, Bool.not_eq_false, Bool.not_eq_true, Bool.not_eq_false', Bool.not_eq_true', Bool.false_eq_true, Bool.true_eq_false, reduceCtorEq, Option.isSome_some, Option.isSome_none, r44, r45, r46, r47, r48, r49, r50, r51, r52, r53, r54, r55, r56, r57, r58, r59, r60, r61, g0, g2, g6, g16, hx, hz] at h) <;> (try omega)) | refine ab_sd (by first | (with_reducible refine vp_in_nI ?_ ?_ <;> omega) | (simp (disch := omega) only [nI_clamp, li_2, li_3, li_4, li_5, li_6, li_7, li_8, li_9, li_10, li_40, li_120, pk_mul, nI_add, nI_1, ix_eq, ix_lt, ix_le, ix_l0, ix_l1, ix_n0, ix_p0, ix_1lt, ix_lt1, ix_1le, ix_le1, ix_le0, ix_0lt, ab_z0, ab_z1, i_10, i_01, eq_self, ab_ozn, ab_ozp, ab_o_some, not_true_eq_false, not_false_eq_true, Bool.not_eq_false, Bool.not_eq_true, Bool.not_eq_false', Bool.not_eq_true', Bool.false_eq_true, Bool.true_eq_false, reduceCtorEq, Option.isSome_some, Option.isSome_none, r44, r45, r46, r47, r48, r49, r50, r51, r52, r53, r54, r55, r56, r57, r58, r59, r60, r61, g0, g2, g6, g16, hx, hz]; with_reducible refine vp_in_nI ?_ ?_ <;> omega)) ?_ | refine r_noType hω R ?_ | (refine r_isOpen hω R hW (f := f) (t := q) rfl rfl hf hq ?_; rw [ho]) | refine ab_sd ?_ ?_ | refine ab_sz (Or.inl rfl) ?_ | refine ab_sz (Or.inr rfl) ?_ | refine ab_sz ?_ ?_)
        all_goals first | exact t40 (some q) (fun t e => by cases e; exact hq) hQ _ _ _ | (exfalso; simp_all; done)
      | false =>
        rw [ho, if_neg (by simp)] at hQ
        repeat' (first | refine hjx _ _ _ _ (by decide) ?_ | (refine br_c (fun h => ?_) (fun h => ?_) <;> (try simp (disch := omega) only [nI_clamp, li_2, li_3, li_4, li_5, li_6, li_7, li_8, li_9, li_10, li_40, li_120, pk_mul, nI_add, nI_1, ix_eq, ix_lt, ix_le, ix_l0, ix_l1, ix_n0, ix_p0, ix_1lt, ix_lt1, ix_1le, ix_le1, ix_le0, ix_0lt, ab_z0, ab_z1, i_10, i_01, eq_self, ab_ozn, ab_ozp, ab_o_some, not_true_eq_false, not_false_eq_true, Bool.not_eq_false, Bool.not_eq_true, Bool.not_eq_false', Bool.not_eq_true', Bool.false_eq_true, Bool.true_eq_false, reduceCtorEq, Option.isSome_some, Option.isSome_none, r44, r45, r46, r47, r48, r49, r50, r51, r52, r53, r54, r55, r56, r57, r58, r59, r60, r61, g0, g2, g6, g16, hx, hz] at h) <;> (try omega)) | (refine br_n (fun h => ?_) (fun h => ?_) <;> (try simp (disch := omega) only [nI_clamp, li_2, li_3, li_4, li_5, li_6, li_7, li_8, li_9, li_10, li_40, li_120, pk_mul, nI_add, nI_1, ix_eq, ix_lt, ix_le, ix_l0, ix_l1, ix_n0, ix_p0, ix_1lt, ix_lt1, ix_1le, ix_le1, ix_le0, ix_0lt, ab_z0, ab_z1, i_10, i_01, eq_self, ab_ozn, ab_ozp, ab_o_some, not_true_eq_false, not_false_eq_true, Bool.not_eq_false, Bool.not_eq_true, Bool.not_eq_false', Bool.not_eq_true', Bool.false_eq_true, Bool.true_eq_false, reduceCtorEq, Option.isSome_some, Option.isSome_none, r44, r45, r46, r47, r48, r49, r50, r51, r52, r53, r54, r55, r56, r57, r58, r59, r60, r61, g0, g2, g6, g16, hx, hz] at h) <;> (try omega)) | refine ab_sd (by first | (with_reducible refine vp_in_nI ?_ ?_ <;> omega) | (simp (disch := omega) only [nI_clamp, li_2, li_3, li_4, li_5, li_6, li_7, li_8, li_9, li_10, li_40, li_120, pk_mul, nI_add, nI_1, ix_eq, ix_lt, ix_le, ix_l0, ix_l1, ix_n0, ix_p0, ix_1lt, ix_lt1, ix_1le, ix_le1, ix_le0, ix_0lt, ab_z0, ab_z1, i_10, i_01, eq_self, ab_ozn, ab_ozp, ab_o_some, not_true_eq_false, not_false_eq_true, Bool.not_eq_false, Bool.not_eq_true, Bool.not_eq_false', Bool.not_eq_true', Bool.false_eq_true, Bool.true_eq_false, reduceCtorEq, Option.isSome_some, Option.isSome_none, r44, r45, r46, r47, r48, r49, r50, r51, r52, r53, r54, r55, r56, r57, r58, r59, r60, r61, g0, g2, g6, g16, hx, hz]; with_reducible refine vp_in_nI ?_ ?_ <;> omega)) ?_ | refine r_noType hω R ?_ | (refine r_isOpen hω R hW (f := f) (t := q) rfl rfl hf hq ?_; rw [ho]) | refine ab_sd ?_ ?_ | refine ab_sz (Or.inl rfl) ?_ | refine ab_sz (Or.inr rfl) ?_ | refine ab_sz ?_ ?_)
        all_goals first | exact t40 none (fun t e => by cases e) hQ _ _ _ | (exfalso; simp_all; done)
    · unfold s_mkO at hQ
      rw [if_pos rfl] at hQ
      repeat' (first | refine hjx _ _ _ _ (by decide) ?_ | (refine br_c (fun h => ?_) (fun h => ?_) <;> (try simp (disch := omega) only [nI_clamp, li_2, li_3, li_4, li_5, li_6, li_7, li_8, li_9, li_10, li_40, li_120, pk_mul, nI_add, nI_1, ix_eq, ix_lt, ix_le, ix_l0, ix_l1, ix_n0, ix_p0, ix_1lt, ix_lt1, ix_1le, ix_le1, ix_le0, ix_0lt, ab_z0, ab_z1, i_10, i_01, eq_self, ab_ozn, ab_ozp, ab_o_some, not_true_eq_false, not_false_eq_true, Bool.not_eq_false, Bool.not_eq_true, Bool.not_eq_false', Bool.not_eq_true', Bool.false_eq_true, Bool.true_eq_false, reduceCtorEq, Option.isSome_some, Option.isSome_none, r44, r45, r46, r47, r48, r49, r50, r51, r52, r53, r54, r55, r56, r57, r58, r59, r60, r61, g0, g2, g6, g16, hx] at h) <;> (try omega)) | (refine br_n (fun h => ?_) (fun h => ?_) <;> (try simp (disch := omega) only [nI_clamp, li_2, li_3, li_4, li_5, li_6, li_7, li_8, li_9, li_10, li_40, li_120, pk_mul, nI_add, nI_1, ix_eq, ix_lt, ix_le, ix_l0, ix_l1, ix_n0, ix_p0, ix_1lt, ix_lt1, ix_1le, ix_le1, ix_le0, ix_0lt, ab_z0, ab_z1, i_10, i_01, eq_self, ab_ozn, ab_ozp, ab_o_some, not_true_eq_false, not_false_eq_true, Bool.not_eq_false, Bool.not_eq_true, Bool.not_eq_false', Bool.not_eq_true', Bool.false_eq_true, Bool.true_eq_false, reduceCtorEq, Option.isSome_some, Option.isSome_none, r44, r45, r46, r47, r48, r49, r50, r51, r52, r53, r54, r55, r56, r57, r58, r59, r60, r61, g0, g2, g6, g16, hx] at h) <;> (try omega)) | refine ab_sd (by first | (with_reducible refine vp_in_nI ?_ ?_ <;> omega) | (simp (disch := omega) only [nI_clamp, li_2, li_3, li_4, li_5, li_6, li_7, li_8, li_9, li_10, li_40, li_120, pk_mul, nI_add, nI_1, ix_eq, ix_lt, ix_le, ix_l0, ix_l1, ix_n0, ix_p0, ix_1lt, ix_lt1, ix_1le, ix_le1, ix_le0, ix_0lt, ab_z0, ab_z1, i_10, i_01, eq_self, ab_ozn, ab_ozp, ab_o_some, not_true_eq_false, not_false_eq_true, Bool.not_eq_false, Bool.not_eq_true, Bool.not_eq_false', Bool.not_eq_true', Bool.false_eq_true, Bool.true_eq_false, reduceCtorEq, Option.isSome_some, Option.isSome_none, r44, r45, r46, r47, r48, r49, r50, r51, r52, r53, r54, r55, r56, r57, r58, r59, r60, r61, g0, g2, g6, g16, hx]; with_reducible refine vp_in_nI ?_ ?_ <;> omega)) ?_ | refine r_noType hω R ?_ | refine ab_sd ?_ ?_ | refine ab_sz (Or.inl rfl) ?_ | refine ab_sz (Or.inr rfl) ?_ | refine ab_sz ?_ ?_)
      all_goals first | (show j 40 _ _ _; simp (disch := omega) only [nI_clamp, li_2, li_3, li_4, li_5, li_6, li_7, li_8, li_9, li_10, li_40, li_120, pk_mul, nI_add, nI_1, ix_eq, ix_lt, ix_le, ix_l0, ix_l1, ix_n0, ix_p0, ix_1lt, ix_lt1, ix_1le, ix_le1, ix_le0, ix_0lt, ab_z0, ab_z1, i_10, i_01, eq_self, ab_ozn, ab_ozp, ab_o_some, not_true_eq_false, not_false_eq_true, Bool.not_eq_false, Bool.not_eq_true, Bool.not_eq_false', Bool.not_eq_true', Bool.false_eq_true, Bool.true_eq_false, reduceCtorEq, Option.isSome_some, Option.isSome_none, r44, r45, r46, r47, r48, r49, r50, r51, r52, r53, r54, r55, r56, r57, r58, r59, r60, r61, g0, g2, g6, g16]; exact t40 _ f8 hQ _ _ _) | (exfalso; simp_all; done)
end R10
end
section
/-! MEMBERS OF A TYPE, by one step: O is what is known of the PARENT and of the FACES -/
def s_cfp (S : sT) (O : Nat → Bool) (t m : Nat) : Bool := match s_pa S t with
  | none => false
  | some p => O (120 * p + m) && !(S.1 60 m == 0) && (!(S.1 60 m == 1) || S.1 48 (S.1 57 m) == S.1 48 t)
def s_ofp (S : sT) (O : Nat → Bool) (t m : Nat) : Bool := match s_pa S t with
  | none => false
  | some p => O (120 * p + m)
def s_iof (S : sT) (O : Nat → Bool) (t m : Nat) : Bool := ab_ex (fun k => O (120 * S.1 54 (4 * t + k) + m)) (S.1 55 t)
def s_bh1 (S : sT) (O : Nat → Bool) (t m x : Nat) : Bool := S.1 58 x == 1 && S.1 59 x == S.1 59 m && ((S.1 50 (S.1 57 x) == 0 && !s_has (S.1 61 x) 4 && s_cfp S O t x) || (s_pl S x && s_ab S (S.1 57 x) (S.1 57 m) && (s_ofp S O t x || s_iof S O t x)))
def s_bh (S : sT) (O : Nat → Bool) (t m : Nat) : Bool := ab_ex (s_bh1 S O t m) (s_nX S)
def s_ofS (S : sT) (O : Nat → Bool) (t m : Nat) : Bool := S.1 57 m == t || (!(S.1 58 m == 2) && (s_dec S t (S.1 58 m) (S.1 59 m)).isNone && (s_cfp S O t m || (s_iof S O t m && (S.1 58 m == 0 || (s_pl S m && !s_bh S O t m)))))
section R11
variable {l : Launch} {ω : ab_W} {S : sT} {μ : ab_M} {Q : Int32 → ab_M → Prop} {O : Nat → Bool}
theorem r_comesFromParent (hω : ω.2.2.2 = ab_SH) (R : RepR S μ) (hW : Wf S) (r62 : ∀ j, μ.1 62 j = ab_z (O j)) {x y : Int32} {t m : Nat} (ex : x = nI t) (ey : y = nI m) (ht : t < s_nT S) (hm : m < s_nX S) (hQ : Q (ab_z (s_cfp S O t m)) μ) : ab_CI l ω mX11_comesFromParent [.ref 43, .int x, .int y] μ Q := by
  subst ex ey
  refine ab_intro (sh := ab_SH) (cd := kX11_comesFromParent) hω vX11_comesFromParent (by decide +kernel) rfl (Nat.le_of_ble_eq_true rfl) (fun j hj hw => ?_)
  obtain ⟨r44, r45, r46, r47, r48, r49, r50, r51, r52, r53, r54, r55, r56, r57, r58, r59, r60, r61, g0, g2, g6, g16⟩ := RepR_fs R
  have hT := hW.2.2.1.2
  have hX := hW.2.2.2.1
  have hP := hW.2.1.2
  obtain ⟨t1, t2, t3, t4, -, -, -, t8⟩ := hW.2.2.2.2.2.1 t ht
  obtain ⟨m1, m2, m3, m4, m5⟩ := hW.2.2.2.2.2.2 m hm
  obtain ⟨d1, -⟩ := hW.2.2.2.2.2.1 _ m1
  unfold s_cfp at hQ
  cases e : s_pa S t with
  | none =>
    rw [e] at hQ
    repeat' (first | refine hj _ _ _ _ ?_ | (refine br_c (fun h => ?_) (fun h => ?_) <;> (try simp (disch := omega) only [nI_clamp, li_2, li_3, li_4, li_5, li_6, li_7, li_8, li_9, li_10, li_40, li_120, pk_mul, nI_add, nI_1, ix_eq, ix_lt, ix_le, ix_l0, ix_l1, ix_n0, ix_p0, ix_1lt, ix_lt1, ix_1le, ix_le1, ix_le0, ix_0lt, ab_z0, ab_z1, i_10, i_01, eq_self, ab_ozn, ab_ozp, ab_o_some, not_true_eq_false, not_false_eq_true, Bool.not_eq_false, Bool.not_eq_true, Bool.not_eq_false', Bool.not_eq_true', Bool.false_eq_true, Bool.true_eq_false, reduceCtorEq, Option.isSome_some, Option.isSome_none, r44, r45, r46, r47, r48, r49, r50, r51, r52, r53, r54, r55, r56, r57, r58, r59, r60, r61, g0, g2, g6, g16, e] at h) <;> (try omega)) | (refine br_n (fun h => ?_) (fun h => ?_) <;> (try simp (disch := omega) only [nI_clamp, li_2, li_3, li_4, li_5, li_6, li_7, li_8, li_9, li_10, li_40, li_120, pk_mul, nI_add, nI_1, ix_eq, ix_lt, ix_le, ix_l0, ix_l1, ix_n0, ix_p0, ix_1lt, ix_lt1, ix_1le, ix_le1, ix_le0, ix_0lt, ab_z0, ab_z1, i_10, i_01, eq_self, ab_ozn, ab_ozp, ab_o_some, not_true_eq_false, not_false_eq_true, Bool.not_eq_false, Bool.not_eq_true, Bool.not_eq_false', Bool.not_eq_true', Bool.false_eq_true, Bool.true_eq_false, reduceCtorEq, Option.isSome_some, Option.isSome_none, r44, r45, r46, r47, r48, r49, r50, r51, r52, r53, r54, r55, r56, r57, r58, r59, r60, r61, g0, g2, g6, g16, e] at h) <;> (try omega)) | refine ab_sd (by first | (with_reducible refine vp_in_nI ?_ ?_ <;> omega) | (simp (disch := omega) only [nI_clamp, li_2, li_3, li_4, li_5, li_6, li_7, li_8, li_9, li_10, li_40, li_120, pk_mul, nI_add, nI_1, ix_eq, ix_lt, ix_le, ix_l0, ix_l1, ix_n0, ix_p0, ix_1lt, ix_lt1, ix_1le, ix_le1, ix_le0, ix_0lt, ab_z0, ab_z1, i_10, i_01, eq_self, ab_ozn, ab_ozp, ab_o_some, not_true_eq_false, not_false_eq_true, Bool.not_eq_false, Bool.not_eq_true, Bool.not_eq_false', Bool.not_eq_true', Bool.false_eq_true, Bool.true_eq_false, reduceCtorEq, Option.isSome_some, Option.isSome_none, r44, r45, r46, r47, r48, r49, r50, r51, r52, r53, r54, r55, r56, r57, r58, r59, r60, r61, g0, g2, g6, g16, e]; with_reducible refine vp_in_nI ?_ ?_ <;> omega)) ?_ | refine ab_sd ?_ ?_ | refine ab_sz (Or.inl rfl) ?_ | refine ab_sz (Or.inr rfl) ?_ | refine ab_sz ?_ ?_)
    exact hQ
  | some p =>
    have hp := t8 p e
    rw [e] at hQ
    dsimp only at hQ
    repeat' (first | refine hj _ _ _ _ ?_ | (refine br_c (fun h => ?_) (fun h => ?_) <;> (try simp (disch := omega) only [nI_clamp, li_2, li_3, li_4, li_5, li_6, li_7, li_8, li_9, li_10, li_40, li_120, pk_mul, nI_add, nI_1, ix_eq, ix_lt, ix_le, ix_l0, ix_l1, ix_n0, ix_p0, ix_1lt, ix_lt1, ix_1le, ix_le1, ix_le0, ix_0lt, ab_z0, ab_z1, i_10, i_01, eq_self, ab_ozn, ab_ozp, ab_o_some, not_true_eq_false, not_false_eq_true, Bool.not_eq_false, Bool.not_eq_true, Bool.not_eq_false', Bool.not_eq_true', Bool.false_eq_true, Bool.true_eq_false, reduceCtorEq, Option.isSome_some, Option.isSome_none, r44, r45, r46, r47, r48, r49, r50, r51, r52, r53, r54, r55, r56, r57, r58, r59, r60, r61, g0, g2, g6, g16, e, r62] at h) <;> (try omega)) | (refine br_n (fun h => ?_) (fun h => ?_) <;> (try simp (disch := omega) only [nI_clamp, li_2, li_3, li_4, li_5, li_6, li_7, li_8, li_9, li_10, li_40, li_120, pk_mul, nI_add, nI_1, ix_eq, ix_lt, ix_le, ix_l0, ix_l1, ix_n0, ix_p0, ix_1lt, ix_lt1, ix_1le, ix_le1, ix_le0, ix_0lt, ab_z0, ab_z1, i_10, i_01, eq_self, ab_ozn, ab_ozp, ab_o_some, not_true_eq_false, not_false_eq_true, Bool.not_eq_false, Bool.not_eq_true, Bool.not_eq_false', Bool.not_eq_true', Bool.false_eq_true, Bool.true_eq_false, reduceCtorEq, Option.isSome_some, Option.isSome_none, r44, r45, r46, r47, r48, r49, r50, r51, r52, r53, r54, r55, r56, r57, r58, r59, r60, r61, g0, g2, g6, g16, e, r62] at h) <;> (try omega)) | refine ab_sd (by first | (with_reducible refine vp_in_nI ?_ ?_ <;> omega) | (simp (disch := omega) only [nI_clamp, li_2, li_3, li_4, li_5, li_6, li_7, li_8, li_9, li_10, li_40, li_120, pk_mul, nI_add, nI_1, ix_eq, ix_lt, ix_le, ix_l0, ix_l1, ix_n0, ix_p0, ix_1lt, ix_lt1, ix_1le, ix_le1, ix_le0, ix_0lt, ab_z0, ab_z1, i_10, i_01, eq_self, ab_ozn, ab_ozp, ab_o_some, not_true_eq_false, not_false_eq_true, Bool.not_eq_false, Bool.not_eq_true, Bool.not_eq_false', Bool.not_eq_true', Bool.false_eq_true, Bool.true_eq_false, reduceCtorEq, Option.isSome_some, Option.isSome_none, r44, r45, r46, r47, r48, r49, r50, r51, r52, r53, r54, r55, r56, r57, r58, r59, r60, r61, g0, g2, g6, g16, e, r62]; with_reducible refine vp_in_nI ?_ ?_ <;> omega)) ?_ | refine ab_sd ?_ ?_ | refine ab_sz (Or.inl rfl) ?_ | refine ab_sz (Or.inr rfl) ?_ | refine ab_sz ?_ ?_)
    all_goals (refine q_of hQ ?_; simp [*, ab_z])
theorem r_isOfFace (hω : ω.2.2.2 = ab_SH) (R : RepR S μ) (hW : Wf S) (r62 : ∀ j, μ.1 62 j = ab_z (O j)) {x y : Int32} {t m : Nat} (ex : x = nI t) (ey : y = nI m) (ht : t < s_nT S) (hm : m < 120) (hQ : Q (ab_z (s_iof S O t m)) μ) : ab_CI l ω mX11_isOfFace [.ref 43, .int x, .int y] μ Q := by
  subst ex ey
  refine ab_intro (sh := ab_SH) (cd := kX11_isOfFace) hω vX11_isOfFace (by decide +kernel) rfl (Nat.le_of_ble_eq_true rfl) (fun j hj hw => ?_)
  have hjx : ∀ i ll st μ, i ∉ ([4] : List Nat) → _ → j i ll st μ := fun i ll st μ _ h => hj i ll st μ h
  obtain ⟨r44, r45, r46, r47, r48, r49, r50, r51, r52, r53, r54, r55, r56, r57, r58, r59, r60, r61, g0, g2, g6, g16⟩ := RepR_fs R
  have hT := hW.2.2.1.2
  obtain ⟨t1, t2, t3, t4, t5, t6, -, -⟩ := hW.2.2.2.2.2.1 t ht
  have loop : ∀ n' k, S.1 55 t + 1 ≤ k + n' → k ≤ S.1 55 t → j 4 [some (.ref 43), some (.int (nI t)), some (.int (nI m)), some (.int (ab_z (ab_ex (fun k => O (120 * S.1 54 (4 * t + k) + m)) k))), some (.int (nI k))] [] μ := by
    intro n'
    induction n' with
    | zero => intro k h1 h2; omega
    | succ n' ih =>
      intro k h1 h2
      by_cases hk : k < S.1 55 t
      · have t7 := t6 k hk
        refine hj _ _ _ _ ?_
        repeat' (first | refine hjx _ _ _ _ (by decide) ?_ | (refine br_c (fun h => ?_) (fun h => ?_) <;> (try simp (disch := omega) only [nI_clamp, li_2, li_3, li_4, li_5, li_6, li_7, li_8, li_9, li_10, li_40, li_120, pk_mul, nI_add, nI_1, ix_eq, ix_lt, ix_le, ix_l0, ix_l1, ix_n0, ix_p0, ix_1lt, ix_lt1, ix_1le, ix_le1, ix_le0, ix_0lt, ab_z0, ab_z1, i_10, i_01, eq_self, ab_ozn, ab_ozp, ab_o_some, not_true_eq_false, not_false_eq_true, Bool.not_eq_false, Bool.not_eq_true, Bool.not_eq_false', Bool.not_eq_true', Bool.false_eq_true, Bool.true_eq_false, reduceCtorEq, Option.isSome_some, Option.isSome_none, r44, r45, r46, r47, r48, r49, r50, r51, r52, r53, r54, r55, r56, r57, r58, r59, r60, r61, g0, g2, g6, g16, r62] at h) <;> (try omega)) | (refine br_n (fun h => ?_) (fun h => ?_) <;> (try simp (disch := omega) only [nI_clamp, li_2, li_3, li_4, li_5, li_6, li_7, li_8, li_9, li_10, li_40, li_120, pk_mul, nI_add, nI_1, ix_eq, ix_lt, ix_le, ix_l0, ix_l1, ix_n0, ix_p0, ix_1lt, ix_lt1, ix_1le, ix_le1, ix_le0, ix_0lt, ab_z0, ab_z1, i_10, i_01, eq_self, ab_ozn, ab_ozp, ab_o_some, not_true_eq_false, not_false_eq_true, Bool.not_eq_false, Bool.not_eq_true, Bool.not_eq_false', Bool.not_eq_true', Bool.false_eq_true, Bool.true_eq_false, reduceCtorEq, Option.isSome_some, Option.isSome_none, r44, r45, r46, r47, r48, r49, r50, r51, r52, r53, r54, r55, r56, r57, r58, r59, r60, r61, g0, g2, g6, g16, r62] at h) <;> (try omega)) | refine ab_sd (by first | (with_reducible refine vp_in_nI ?_ ?_ <;> omega) | (simp (disch := omega) only [nI_clamp, li_2, li_3, li_4, li_5, li_6, li_7, li_8, li_9, li_10, li_40, li_120, pk_mul, nI_add, nI_1, ix_eq, ix_lt, ix_le, ix_l0, ix_l1, ix_n0, ix_p0, ix_1lt, ix_lt1, ix_1le, ix_le1, ix_le0, ix_0lt, ab_z0, ab_z1, i_10, i_01, eq_self, ab_ozn, ab_ozp, ab_o_some, not_true_eq_false, not_false_eq_true, Bool.not_eq_false, Bool.not_eq_true, Bool.not_eq_false', Bool.not_eq_true', Bool.false_eq_true, Bool.true_eq_false, reduceCtorEq, Option.isSome_some, Option.isSome_none, r44, r45, r46, r47, r48, r49, r50, r51, r52, r53, r54, r55, r56, r57, r58, r59, r60, r61, g0, g2, g6, g16, r62]; with_reducible refine vp_in_nI ?_ ?_ <;> omega)) ?_ | refine ab_sd ?_ ?_ | refine ab_sz (Or.inl rfl) ?_ | refine ab_sz (Or.inr rfl) ?_ | refine ab_sz ?_ ?_)
        show j 4 _ _ _
        simp (disch := omega) only [nI_clamp, li_2, li_3, li_4, li_5, li_6, li_7, li_8, li_9, li_10, li_40, li_120, pk_mul, nI_add, nI_1, ix_eq, ix_lt, ix_le, ix_l0, ix_l1, ix_n0, ix_p0, ix_1lt, ix_lt1, ix_1le, ix_le1, ix_le0, ix_0lt, ab_z0, ab_z1, i_10, i_01, eq_self, ab_ozn, ab_ozp, ab_o_some, not_true_eq_false, not_false_eq_true, Bool.not_eq_false, Bool.not_eq_true, Bool.not_eq_false', Bool.not_eq_true', Bool.false_eq_true, Bool.true_eq_false, reduceCtorEq, Option.isSome_some, Option.isSome_none, r44, r45, r46, r47, r48, r49, r50, r51, r52, r53, r54, r55, r56, r57, r58, r59, r60, r61, g0, g2, g6, g16, r62, ab_zor]
        exact ih (k + 1) (by omega) (by omega)
      · have hk2 : k = S.1 55 t := by omega
        refine hj _ _ _ _ ?_
        repeat' (first | refine hjx _ _ _ _ (by decide) ?_ | (refine br_c (fun h => ?_) (fun h => ?_) <;> (try simp (disch := omega) only [nI_clamp, li_2, li_3, li_4, li_5, li_6, li_7, li_8, li_9, li_10, li_40, li_120, pk_mul, nI_add, nI_1, ix_eq, ix_lt, ix_le, ix_l0, ix_l1, ix_n0, ix_p0, ix_1lt, ix_lt1, ix_1le, ix_le1, ix_le0, ix_0lt, ab_z0, ab_z1, i_10, i_01, eq_self, ab_ozn, ab_ozp, ab_o_some, not_true_eq_false, not_false_eq_true, Bool.not_eq_false, Bool.not_eq_true, Bool.not_eq_false', Bool.not_eq_true', Bool.false_eq_true, Bool.true_eq_false, reduceCtorEq, Option.isSome_some, Option.isSome_none, r44, r45, r46, r47, r48, r49, r50, r51, r52, r53, r54, r55, r56, r57, r58, r59, r60, r61, g0, g2, g6, g16] at h) <;> (try omega)) | (refine br_n (fun h => ?_) (fun h => ?_) <;> (try simp (disch := omega) only [nI_clamp, li_2, li_3, li_4, li_5, li_6, li_7, li_8, li_9, li_10, li_40, li_120, pk_mul, nI_add, nI_1, ix_eq, ix_lt, ix_le, ix_l0, ix_l1, ix_n0, ix_p0, ix_1lt, ix_lt1, ix_1le, ix_le1, ix_le0, ix_0lt, ab_z0, ab_z1, i_10, i_01, eq_self, ab_ozn, ab_ozp, ab_o_some, not_true_eq_false, not_false_eq_true, Bool.not_eq_false, Bool.not_eq_true, Bool.not_eq_false', Bool.not_eq_true', Bool.false_eq_true, Bool.true_eq_false, reduceCtorEq, Option.isSome_some, Option.isSome_none, r44, r45, r46, r47, r48, r49, r50, r51, r52, r53, r54, r55, r56, r57, r58, r59, r60, r61, g0, g2, g6, g16] at h) <;> (try omega)) | refine ab_sd (by first | (with_reducible refine vp_in_nI ?_ ?_ <;> omega) | (simp (disch := omega) only [nI_clamp, li_2, li_3, li_4, li_5, li_6, li_7, li_8, li_9, li_10, li_40, li_120, pk_mul, nI_add, nI_1, ix_eq, ix_lt, ix_le, ix_l0, ix_l1, ix_n0, ix_p0, ix_1lt, ix_lt1, ix_1le, ix_le1, ix_le0, ix_0lt, ab_z0, ab_z1, i_10, i_01, eq_self, ab_ozn, ab_ozp, ab_o_some, not_true_eq_false, not_false_eq_true, Bool.not_eq_false, Bool.not_eq_true, Bool.not_eq_false', Bool.not_eq_true', Bool.false_eq_true, Bool.true_eq_false, reduceCtorEq, Option.isSome_some, Option.isSome_none, r44, r45, r46, r47, r48, r49, r50, r51, r52, r53, r54, r55, r56, r57, r58, r59, r60, r61, g0, g2, g6, g16]; with_reducible refine vp_in_nI ?_ ?_ <;> omega)) ?_ | refine ab_sd ?_ ?_ | refine ab_sz (Or.inl rfl) ?_ | refine ab_sz (Or.inr rfl) ?_ | refine ab_sz ?_ ?_)
        · exact ab_z01 _
        · rw [hk2]; exact hQ
  repeat' (first | refine hjx _ _ _ _ (by decide) ?_ | (refine br_c (fun h => ?_) (fun h => ?_) <;> (try simp (disch := omega) only [nI_clamp, li_2, li_3, li_4, li_5, li_6, li_7, li_8, li_9, li_10, li_40, li_120, pk_mul, nI_add, nI_1, ix_eq, ix_lt, ix_le, ix_l0, ix_l1, ix_n0, ix_p0, ix_1lt, ix_lt1, ix_1le, ix_le1, ix_le0, ix_0lt, ab_z0, ab_z1, i_10, i_01, eq_self, ab_ozn, ab_ozp, ab_o_some, not_true_eq_false, not_false_eq_true, Bool.not_eq_false, Bool.not_eq_true, Bool.not_eq_false', Bool.not_eq_true', Bool.false_eq_true, Bool.true_eq_false, reduceCtorEq, Option.isSome_some, Option.isSome_none, r44, r45, r46, r47, r48, r49, r50, r51, r52, r53, r54, r55, r56, r57, r58, r59, r60, r61, g0, g2, g6, g16] at h) <;> (try omega)) | (refine br_n (fun h => ?_) (fun h => ?_) <;> (try simp (disch := omega) only [nI_clamp, li_2, li_3, li_4, li_5, li_6, li_7, li_8, li_9, li_10, li_40, li_120, pk_mul, nI_add, nI_1, ix_eq, ix_lt, ix_le, ix_l0, ix_l1, ix_n0, ix_p0, ix_1lt, ix_lt1, ix_1le, ix_le1, ix_le0, ix_0lt, ab_z0, ab_z1, i_10, i_01, eq_self, ab_ozn, ab_ozp, ab_o_some, not_true_eq_false, not_false_eq_true, Bool.not_eq_false, Bool.not_eq_true, Bool.not_eq_false', Bool.not_eq_true', Bool.false_eq_true, Bool.true_eq_false, reduceCtorEq, Option.isSome_some, Option.isSome_none, r44, r45, r46, r47, r48, r49, r50, r51, r52, r53, r54, r55, r56, r57, r58, r59, r60, r61, g0, g2, g6, g16] at h) <;> (try omega)) | refine ab_sd (by first | (with_reducible refine vp_in_nI ?_ ?_ <;> omega) | (simp (disch := omega) only [nI_clamp, li_2, li_3, li_4, li_5, li_6, li_7, li_8, li_9, li_10, li_40, li_120, pk_mul, nI_add, nI_1, ix_eq, ix_lt, ix_le, ix_l0, ix_l1, ix_n0, ix_p0, ix_1lt, ix_lt1, ix_1le, ix_le1, ix_le0, ix_0lt, ab_z0, ab_z1, i_10, i_01, eq_self, ab_ozn, ab_ozp, ab_o_some, not_true_eq_false, not_false_eq_true, Bool.not_eq_false, Bool.not_eq_true, Bool.not_eq_false', Bool.not_eq_true', Bool.false_eq_true, Bool.true_eq_false, reduceCtorEq, Option.isSome_some, Option.isSome_none, r44, r45, r46, r47, r48, r49, r50, r51, r52, r53, r54, r55, r56, r57, r58, r59, r60, r61, g0, g2, g6, g16]; with_reducible refine vp_in_nI ?_ ?_ <;> omega)) ?_ | refine ab_sd ?_ ?_ | refine ab_sz (Or.inl rfl) ?_ | refine ab_sz (Or.inr rfl) ?_ | refine ab_sz ?_ ?_)
  exact loop (S.1 55 t + 1) 0 (by omega) (by omega)
set_option maxHeartbeats 2000000 in
theorem r_isBehind (hω : ω.2.2.2 = ab_SH) (R : RepR S μ) (hW : Wf S) (r62 : ∀ j, μ.1 62 j = ab_z (O j)) {x y : Int32} {t m : Nat} (ex : x = nI t) (ey : y = nI m) (ht : t < s_nT S) (hm : m < s_nX S) (hQ : Q (ab_z (s_bh S O t m)) μ) : ab_CI l ω mX11_isBehind [.ref 43, .int x, .int y] μ Q := by
  subst ex ey
  refine ab_intro (sh := ab_SH) (cd := kX11_isBehind) hω vX11_isBehind (by decide +kernel) rfl (Nat.le_of_ble_eq_true rfl) (fun j hj hw => ?_)
  have hjx : ∀ i ll st μ, i ∉ ([2] : List Nat) → _ → j i ll st μ := fun i ll st μ _ h => hj i ll st μ h
  obtain ⟨r44, r45, r46, r47, r48, r49, r50, r51, r52, r53, r54, r55, r56, r57, r58, r59, r60, r61, g0, g2, g6, g16⟩ := RepR_fs R
  have hT := hW.2.2.1.2
  have hX := hW.2.2.2.1
  obtain ⟨t1, t2, t3, t4, -, -, -, t8⟩ := hW.2.2.2.2.2.1 t ht
  obtain ⟨m1, m2, m3, m4, m5⟩ := hW.2.2.2.2.2.2 m hm
  have loop : ∀ n' a, s_nX S + 1 ≤ a + n' → a ≤ s_nX S → ab_ex (s_bh1 S O t m) a = false → ∀ v4, j 2 [some (.ref 43), some (.int (nI t)), some (.int (nI m)), some (.int (nI a)), v4] [] μ := by
    intro n'
    induction n' with
    | zero => intro a h1 h2; omega
    | succ n' ih =>
      intro a h1 h2 h3 v4
      refine hw _ _ [some (.ref 43), some (.int (nI t)), some (.int (nI m)), some (.int (nI a)), none] _ _ ⟨rfl, rfl, rfl, rfl, trivial⟩ ?_
      by_cases ha : a < s_nX S
      · obtain ⟨a1, a2, a3, a4, a5⟩ := hW.2.2.2.2.2.2 a ha
        obtain ⟨-, d2, -⟩ := hW.2.2.2.2.2.1 _ a1
        have q4 := s_and_lt (b := 4) a5
        have ih := ih (a + 1) (by omega) (by omega)
        rw [ab_ex_s, h3, Bool.false_or] at ih
        have fin : s_bh1 S O t m a = true → Q 1 μ := by
          intro hb
          refine q_of hQ ?_
          have : s_bh S O t m = true := ab_ex_iff.mpr ⟨a, ha, hb⟩
          rw [this]; rfl
        unfold s_bh1 s_ofp at ih fin
        have go : ∀ p, s_pa S t = some p → p < s_nT S := t8
        refine hj _ _ _ _ ?_
        cases e : s_pa S t with
        | none =>
          rw [e] at ih fin
          repeat' (first | refine hjx _ _ _ _ (by decide) ?_ | (refine br_c (fun h => ?_) (fun h => ?_) <;> (try simp (disch := omega) only [nI_clamp, li_2, li_3, li_4, li_5, li_6, li_7, li_8, li_9, li_10, li_40, li_120, pk_mul, nI_add, nI_1, ix_eq, ix_lt, ix_le, ix_l0, ix_l1, ix_n0, ix_p0, ix_1lt, ix_lt1, ix_1le, ix_le1, ix_le0, ix_0lt, ab_z0, ab_z1, i_10, i_01, eq_self, ab_ozn, ab_ozp, ab_o_some, not_true_eq_false, not_false_eq_true, Bool.not_eq_false, Bool.not_eq_true, Bool.not_eq_false', Bool.not_eq_true', Bool.false_eq_true, Bool.true_eq_false, reduceCtorEq, Option.isSome_some, Option.isSome_none, r44, r45, r46, r47, r48, r49, r50, r51, r52, r53, r54, r55, r56, r57, r58, r59, r60, r61, g0, g2, g6, g16, r62, e] at h) <;> (try omega)) | (refine br_n (fun h => ?_) (fun h => ?_) <;> (try simp (disch := omega) only [nI_clamp, li_2, li_3, li_4, li_5, li_6, li_7, li_8, li_9, li_10, li_40, li_120, pk_mul, nI_add, nI_1, ix_eq, ix_lt, ix_le, ix_l0, ix_l1, ix_n0, ix_p0, ix_1lt, ix_lt1, ix_1le, ix_le1, ix_le0, ix_0lt, ab_z0, ab_z1, i_10, i_01, eq_self, ab_ozn, ab_ozp, ab_o_some, not_true_eq_false, not_false_eq_true, Bool.not_eq_false, Bool.not_eq_true, Bool.not_eq_false', Bool.not_eq_true', Bool.false_eq_true, Bool.true_eq_false, reduceCtorEq, Option.isSome_some, Option.isSome_none, r44, r45, r46, r47, r48, r49, r50, r51, r52, r53, r54, r55, r56, r57, r58, r59, r60, r61, g0, g2, g6, g16, r62, e] at h) <;> (try omega)) | refine ab_sd (by first | (with_reducible refine vp_in_nI ?_ ?_ <;> omega) | (simp (disch := omega) only [nI_clamp, li_2, li_3, li_4, li_5, li_6, li_7, li_8, li_9, li_10, li_40, li_120, pk_mul, nI_add, nI_1, ix_eq, ix_lt, ix_le, ix_l0, ix_l1, ix_n0, ix_p0, ix_1lt, ix_lt1, ix_1le, ix_le1, ix_le0, ix_0lt, ab_z0, ab_z1, i_10, i_01, eq_self, ab_ozn, ab_ozp, ab_o_some, not_true_eq_false, not_false_eq_true, Bool.not_eq_false, Bool.not_eq_true, Bool.not_eq_false', Bool.not_eq_true', Bool.false_eq_true, Bool.true_eq_false, reduceCtorEq, Option.isSome_some, Option.isSome_none, r44, r45, r46, r47, r48, r49, r50, r51, r52, r53, r54, r55, r56, r57, r58, r59, r60, r61, g0, g2, g6, g16, r62, e]; with_reducible refine vp_in_nI ?_ ?_ <;> omega)) ?_ | refine r_has hω (a := S.1 61 a) (b := 4) (by simp (disch := omega) only [nI_clamp, li_2, li_3, li_4, li_5, li_6, li_7, li_8, li_9, li_10, li_40, li_120, pk_mul, nI_add, nI_1, ix_eq, ix_lt, ix_le, ix_l0, ix_l1, ix_n0, ix_p0, ix_1lt, ix_lt1, ix_1le, ix_le1, ix_le0, ix_0lt, ab_z0, ab_z1, i_10, i_01, eq_self, ab_ozn, ab_ozp, ab_o_some, not_true_eq_false, not_false_eq_true, Bool.not_eq_false, Bool.not_eq_true, Bool.not_eq_false', Bool.not_eq_true', Bool.false_eq_true, Bool.true_eq_false, reduceCtorEq, Option.isSome_some, Option.isSome_none, r44, r45, r46, r47, r48, r49, r50, r51, r52, r53, r54, r55, r56, r57, r58, r59, r60, r61, g0, g2, g6, g16]) rfl q4 ?_ | refine r_comesFromParent hω R hW r62 (t := t) (m := a) rfl rfl ht ha ?_ | refine r_isOfFace hω R hW r62 (t := t) (m := a) rfl rfl ht (by omega) ?_ | refine r_isPlain hω R hW (m := a) rfl ha ?_ | refine r_isBelow hω R (t := S.1 57 a) (u := S.1 57 m) (by simp (disch := omega) only [nI_clamp, li_2, li_3, li_4, li_5, li_6, li_7, li_8, li_9, li_10, li_40, li_120, pk_mul, nI_add, nI_1, ix_eq, ix_lt, ix_le, ix_l0, ix_l1, ix_n0, ix_p0, ix_1lt, ix_lt1, ix_1le, ix_le1, ix_le0, ix_0lt, ab_z0, ab_z1, i_10, i_01, eq_self, ab_ozn, ab_ozp, ab_o_some, not_true_eq_false, not_false_eq_true, Bool.not_eq_false, Bool.not_eq_true, Bool.not_eq_false', Bool.not_eq_true', Bool.false_eq_true, Bool.true_eq_false, reduceCtorEq, Option.isSome_some, Option.isSome_none, r44, r45, r46, r47, r48, r49, r50, r51, r52, r53, r54, r55, r56, r57, r58, r59, r60, r61, g0, g2, g6, g16]) (by simp (disch := omega) only [nI_clamp, li_2, li_3, li_4, li_5, li_6, li_7, li_8, li_9, li_10, li_40, li_120, pk_mul, nI_add, nI_1, ix_eq, ix_lt, ix_le, ix_l0, ix_l1, ix_n0, ix_p0, ix_1lt, ix_lt1, ix_1le, ix_le1, ix_le0, ix_0lt, ab_z0, ab_z1, i_10, i_01, eq_self, ab_ozn, ab_ozp, ab_o_some, not_true_eq_false, not_false_eq_true, Bool.not_eq_false, Bool.not_eq_true, Bool.not_eq_false', Bool.not_eq_true', Bool.false_eq_true, Bool.true_eq_false, reduceCtorEq, Option.isSome_some, Option.isSome_none, r44, r45, r46, r47, r48, r49, r50, r51, r52, r53, r54, r55, r56, r57, r58, r59, r60, r61, g0, g2, g6, g16]) (by omega) (by omega) ?_ | refine ab_sd ?_ ?_ | refine ab_sz (Or.inl rfl) ?_ | refine ab_sz (Or.inr rfl) ?_ | refine ab_sz ?_ ?_)
          all_goals first | (show j 2 _ _ _; rw [nI_1]; refine ih ?_ _; simp [*]; done) | (refine fin ?_; simp [*]; done)
        | some p =>
          have hp := go p e
          rw [e] at ih fin
          dsimp only at ih fin
          repeat' (first | refine hjx _ _ _ _ (by decide) ?_ | (refine br_c (fun h => ?_) (fun h => ?_) <;> (try simp (disch := omega) only [nI_clamp, li_2, li_3, li_4, li_5, li_6, li_7, li_8, li_9, li_10, li_40, li_120, pk_mul, nI_add, nI_1, ix_eq, ix_lt, ix_le, ix_l0, ix_l1, ix_n0, ix_p0, ix_1lt, ix_lt1, ix_1le, ix_le1, ix_le0, ix_0lt, ab_z0, ab_z1, i_10, i_01, eq_self, ab_ozn, ab_ozp, ab_o_some, not_true_eq_false, not_false_eq_true, Bool.not_eq_false, Bool.not_eq_true, Bool.not_eq_false', Bool.not_eq_true', Bool.false_eq_true, Bool.true_eq_false, reduceCtorEq, Option.isSome_some, Option.isSome_none, r44, r45, r46, r47, r48, r49, r50, r51, r52, r53, r54, r55, r56, r57, r58, r59, r60, r61, g0, g2, g6, g16, r62, e] at h) <;> (try omega)) | (refine br_n (fun h => ?_) (fun h => ?_) <;> (try simp (disch := omega) only [nI_clamp, li_2, li_3, li_4, li_5, li_6, li_7, li_8, li_9, li_10, li_40, li_120, pk_mul, nI_add, nI_1, ix_eq, ix_lt, ix_le, ix_l0, ix_l1, ix_n0, ix_p0, ix_1lt, ix_lt1, ix_1le, ix_le1, ix_le0, ix_0lt, ab_z0, ab_z1, i_10, i_01, eq_self, ab_ozn, ab_ozp, ab_o_some, not_true_eq_false, not_false_eq_true, Bool.not_eq_false, Bool.not_eq_true, Bool.not_eq_false', Bool.not_eq_true', Bool.false_eq_true, Bool.true_eq_false, reduceCtorEq, Option.isSome_some, Option.isSome_none, r44, r45, r46, r47, r48, r49, r50, r51, r52, r53, r54, r55, r56, r57, r58, r59, r60, r61, g0, g2, g6, g16, r62, e] at h) <;> (try omega)) | refine ab_sd (by first | (with_reducible refine vp_in_nI ?_ ?_ <;> omega) | (simp (disch := omega) only [nI_clamp, li_2, li_3, li_4, li_5, li_6, li_7, li_8, li_9, li_10, li_40, li_120, pk_mul, nI_add, nI_1, ix_eq, ix_lt, ix_le, ix_l0, ix_l1, ix_n0, ix_p0, ix_1lt, ix_lt1, ix_1le, ix_le1, ix_le0, ix_0lt, ab_z0, ab_z1, i_10, i_01, eq_self, ab_ozn, ab_ozp, ab_o_some, not_true_eq_false, not_false_eq_true, Bool.not_eq_false, Bool.not_eq_true, Bool.not_eq_false', Bool.not_eq_true', Bool.false_eq_true, Bool.true_eq_false, reduceCtorEq, Option.isSome_some, Option.isSome_none, r44, r45, r46, r47, r48, r49, r50, r51, r52, r53, r54, r55, r56, r57, r58, r59, r60, r61, g0, g2, g6, g16, r62, e]; with_reducible refine vp_in_nI ?_ ?_ <;> omega)) ?_ | refine r_has hω (a := S.1 61 a) (b := 4) (by simp (disch := omega) only [nI_clamp, li_2, li_3, li_4, li_5, li_6, li_7, li_8, li_9, li_10, li_40, li_120, pk_mul, nI_add, nI_1, ix_eq, ix_lt, ix_le, ix_l0, ix_l1, ix_n0, ix_p0, ix_1lt, ix_lt1, ix_1le, ix_le1, ix_le0, ix_0lt, ab_z0, ab_z1, i_10, i_01, eq_self, ab_ozn, ab_ozp, ab_o_some, not_true_eq_false, not_false_eq_true, Bool.not_eq_false, Bool.not_eq_true, Bool.not_eq_false', Bool.not_eq_true', Bool.false_eq_true, Bool.true_eq_false, reduceCtorEq, Option.isSome_some, Option.isSome_none, r44, r45, r46, r47, r48, r49, r50, r51, r52, r53, r54, r55, r56, r57, r58, r59, r60, r61, g0, g2, g6, g16]) rfl q4 ?_ | refine r_comesFromParent hω R hW r62 (t := t) (m := a) rfl rfl ht ha ?_ | refine r_isOfFace hω R hW r62 (t := t) (m := a) rfl rfl ht (by omega) ?_ | refine r_isPlain hω R hW (m := a) rfl ha ?_ | refine r_isBelow hω R (t := S.1 57 a) (u := S.1 57 m) (by simp (disch := omega) only [nI_clamp, li_2, li_3, li_4, li_5, li_6, li_7, li_8, li_9, li_10, li_40, li_120, pk_mul, nI_add, nI_1, ix_eq, ix_lt, ix_le, ix_l0, ix_l1, ix_n0, ix_p0, ix_1lt, ix_lt1, ix_1le, ix_le1, ix_le0, ix_0lt, ab_z0, ab_z1, i_10, i_01, eq_self, ab_ozn, ab_ozp, ab_o_some, not_true_eq_false, not_false_eq_true, Bool.not_eq_false, Bool.not_eq_true, Bool.not_eq_false', Bool.not_eq_true', Bool.false_eq_true, Bool.true_eq_false, reduceCtorEq, Option.isSome_some, Option.isSome_none, r44, r45, r46, r47, r48, r49, r50, r51, r52, r53, r54, r55, r56, r57, r58, r59, r60, r61, g0, g2, g6, g16]) (by simp (disch := omega) only [nI_clamp, li_2, li_3, li_4, li_5, li_6, li_7, li_8, li_9, li_10, li_40, li_120, pk_mul, nI_add, nI_1, ix_eq, ix_lt, ix_le, ix_l0, ix_l1, ix_n0, ix_p0, ix_1lt, ix_lt1, ix_1le, ix_le1, ix_le0, ix_0lt, ab_z0, ab_z1, i_10, i_01, eq_self, ab_ozn, ab_ozp, ab_o_some, not_true_eq_false, not_false_eq_true, Bool.not_eq_false, Bool.not_eq_true, Bool.not_eq_false', Bool.not_eq_true', Bool.false_eq_true, Bool.true_eq_false, reduceCtorEq, Option.isSome_some, Option.isSome_none, r44, r45, r46, r47, r48, r49, r50, r51, r52, r53, r54, r55, r56, r57, r58, r59, r60, r61, g0, g2, g6, g16]) (by omega) (by omega) ?_ | refine ab_sd ?_ ?_ | refine ab_sz (Or.inl rfl) ?_ | refine ab_sz (Or.inr rfl) ?_ | refine ab_sz ?_ ?_)
          all_goals first | (show j 2 _ _ _; rw [nI_1]; refine ih ?_ _; simp [*]; done) | (refine fin ?_; simp [*]; done)
      · have ha2 : a = s_nX S := by omega
        refine hj _ _ _ _ ?_
        repeat' (first | refine hjx _ _ _ _ (by decide) ?_ | (refine br_c (fun h => ?_) (fun h => ?_) <;> (try simp (disch := omega) only [nI_clamp, li_2, li_3, li_4, li_5, li_6, li_7, li_8, li_9, li_10, li_40, li_120, pk_mul, nI_add, nI_1, ix_eq, ix_lt, ix_le, ix_l0, ix_l1, ix_n0, ix_p0, ix_1lt, ix_lt1, ix_1le, ix_le1, ix_le0, ix_0lt, ab_z0, ab_z1, i_10, i_01, eq_self, ab_ozn, ab_ozp, ab_o_some, not_true_eq_false, not_false_eq_true, Bool.not_eq_false, Bool.not_eq_true, Bool.not_eq_false', Bool.not_eq_true', Bool.false_eq_true, Bool.true_eq_false, reduceCtorEq, Option.isSome_some, Option.isSome_none, r44, r45, r46, r47, r48, r49, r50, r51, r52, r53, r54, r55, r56, r57, r58, r59, r60, r61, g0, g2, g6, g16] at h) <;> (try omega)) | (refine br_n (fun h => ?_) (fun h => ?_) <;> (try simp (disch := omega) only [nI_clamp, li_2, li_3, li_4, li_5, li_6, li_7, li_8, li_9, li_10, li_40, li_120, pk_mul, nI_add, nI_1, ix_eq, ix_lt, ix_le, ix_l0, ix_l1, ix_n0, ix_p0, ix_1lt, ix_lt1, ix_1le, ix_le1, ix_le0, ix_0lt, ab_z0, ab_z1, i_10, i_01, eq_self, ab_ozn, ab_ozp, ab_o_some, not_true_eq_false, not_false_eq_true, Bool.not_eq_false, Bool.not_eq_true, Bool.not_eq_false', Bool.not_eq_true', Bool.false_eq_true, Bool.true_eq_false, reduceCtorEq, Option.isSome_some, Option.isSome_none, r44, r45, r46, r47, r48, r49, r50, r51, r52, r53, r54, r55, r56, r57, r58, r59, r60, r61, g0, g2, g6, g16] at h) <;> (try omega)) | refine ab_sd (by first | (with_reducible refine vp_in_nI ?_ ?_ <;> omega) | (simp (disch := omega) only [nI_clamp, li_2, li_3, li_4, li_5, li_6, li_7, li_8, li_9, li_10, li_40, li_120, pk_mul, nI_add, nI_1, ix_eq, ix_lt, ix_le, ix_l0, ix_l1, ix_n0, ix_p0, ix_1lt, ix_lt1, ix_1le, ix_le1, ix_le0, ix_0lt, ab_z0, ab_z1, i_10, i_01, eq_self, ab_ozn, ab_ozp, ab_o_some, not_true_eq_false, not_false_eq_true, Bool.not_eq_false, Bool.not_eq_true, Bool.not_eq_false', Bool.not_eq_true', Bool.false_eq_true, Bool.true_eq_false, reduceCtorEq, Option.isSome_some, Option.isSome_none, r44, r45, r46, r47, r48, r49, r50, r51, r52, r53, r54, r55, r56, r57, r58, r59, r60, r61, g0, g2, g6, g16]; with_reducible refine vp_in_nI ?_ ?_ <;> omega)) ?_ | refine ab_sd ?_ ?_ | refine ab_sz (Or.inl rfl) ?_ | refine ab_sz (Or.inr rfl) ?_ | refine ab_sz ?_ ?_)
        refine q_of hQ ?_
        unfold s_bh
        rw [← ha2, h3]
        rfl
  repeat' (first | refine hjx _ _ _ _ (by decide) ?_ | (refine br_c (fun h => ?_) (fun h => ?_) <;> (try simp (disch := omega) only [nI_clamp, li_2, li_3, li_4, li_5, li_6, li_7, li_8, li_9, li_10, li_40, li_120, pk_mul, nI_add, nI_1, ix_eq, ix_lt, ix_le, ix_l0, ix_l1, ix_n0, ix_p0, ix_1lt, ix_lt1, ix_1le, ix_le1, ix_le0, ix_0lt, ab_z0, ab_z1, i_10, i_01, eq_self, ab_ozn, ab_ozp, ab_o_some, not_true_eq_false, not_false_eq_true, Bool.not_eq_false, Bool.not_eq_true, Bool.not_eq_false', Bool.not_eq_true', Bool.false_eq_true, Bool.true_eq_false, reduceCtorEq, Option.isSome_some, Option.isSome_none, r44, r45, r46, r47, r48, r49, r50, r51, r52, r53, r54, r55, r56, r57, r58, r59, r60, r61, g0, g2, g6, g16] at h) <;> (try omega)) | (refine br_n (fun h => ?_) (fun h => ?_) <;> (try simp (disch := omega) only [nI_clamp, li_2, li_3, li_4, li_5, li_6, li_7, li_8, li_9, li_10, li_40, li_120, pk_mul, nI_add, nI_1, ix_eq, ix_lt, ix_le, ix_l0, ix_l1, ix_n0, ix_p0, ix_1lt, ix_lt1, ix_1le, ix_le1, ix_le0, ix_0lt, ab_z0, ab_z1, i_10, i_01, eq_self, ab_ozn, ab_ozp, ab_o_some, not_true_eq_false, not_false_eq_true, Bool.not_eq_false, Bool.not_eq_true, Bool.not_eq_false', Bool.not_eq_true', Bool.false_eq_true, Bool.true_eq_false, reduceCtorEq, Option.isSome_some, Option.isSome_none, r44, r45, r46, r47, r48, r49, r50, r51, r52, r53, r54, r55, r56, r57, r58, r59, r60, r61, g0, g2, g6, g16] at h) <;> (try omega)) | refine ab_sd (by first | (with_reducible refine vp_in_nI ?_ ?_ <;> omega) | (simp (disch := omega) only [nI_clamp, li_2, li_3, li_4, li_5, li_6, li_7, li_8, li_9, li_10, li_40, li_120, pk_mul, nI_add, nI_1, ix_eq, ix_lt, ix_le, ix_l0, ix_l1, ix_n0, ix_p0, ix_1lt, ix_lt1, ix_1le, ix_le1, ix_le0, ix_0lt, ab_z0, ab_z1, i_10, i_01, eq_self, ab_ozn, ab_ozp, ab_o_some, not_true_eq_false, not_false_eq_true, Bool.not_eq_false, Bool.not_eq_true, Bool.not_eq_false', Bool.not_eq_true', Bool.false_eq_true, Bool.true_eq_false, reduceCtorEq, Option.isSome_some, Option.isSome_none, r44, r45, r46, r47, r48, r49, r50, r51, r52, r53, r54, r55, r56, r57, r58, r59, r60, r61, g0, g2, g6, g16]; with_reducible refine vp_in_nI ?_ ?_ <;> omega)) ?_ | refine ab_sd ?_ ?_ | refine ab_sz (Or.inl rfl) ?_ | refine ab_sz (Or.inr rfl) ?_ | refine ab_sz ?_ ?_)
  exact loop (s_nX S + 1) 0 (by omega) (by omega) rfl _
end R11
end
section
def ab_al (f : Nat → Bool) : Nat → Bool
  | 0 => true
  | n + 1 => ab_al f n && f n
theorem ab_al_s {f : Nat → Bool} {n : Nat} : ab_al f (n + 1) = (ab_al f n && f n) := rfl
theorem ab_al_iff {f : Nat → Bool} : ∀ {n : Nat}, ab_al f n = true ↔ ∀ i, i < n → f i = true
  | 0 => by simp [ab_al]
  | n + 1 => by
    simp only [ab_al, Bool.and_eq_true, ab_al_iff]
    constructor
    · rintro ⟨h1, h2⟩ i hi
      by_cases e : i = n
      · subst e; exact h2
      · exact h1 i (by omega)
    · intro h
      exact ⟨fun i hi => h i (by omega), h n (by omega)⟩
def s_can (S : sT) (d a : Nat) : Bool := S.1 58 d == 1 && S.1 58 a == 1 && S.1 59 d == S.1 59 a && s_pl S d && s_pl S a && s_ab S (S.1 57 d) (S.1 57 a)
def s_by (S : sT) (V : Nat → Bool) (d a : Nat) : Bool := ab_ex (fun b => V (120 * d + b) && V (120 * b + a) && S.1 50 (S.1 57 b) == 0) (s_nX S)
def s_rdy (S : sT) (D : Nat → Bool) (t : Nat) : Bool := (match s_pa S t with
  | none => true
  | some p => D p) && ab_al (fun k => D (S.1 54 (4 * t + k))) (S.1 55 t)
section R12
variable {l : Launch} {ω : ab_W} {S : sT} {μ : ab_M} {Q : Int32 → ab_M → Prop} {O D V : Nat → Bool}
theorem r_canOver (hω : ω.2.2.2 = ab_SH) (R : RepR S μ) (hW : Wf S) {x y : Int32} {d a : Nat} (ex : x = nI d) (ey : y = nI a) (hd : d < s_nX S) (ha : a < s_nX S) (hQ : Q (ab_z (s_can S d a)) μ) : ab_CI l ω mX11_canOver [.ref 43, .int x, .int y] μ Q := by
  subst ex ey
  refine ab_intro (sh := ab_SH) (cd := kX11_canOver) hω vX11_canOver (by decide +kernel) rfl (Nat.le_of_ble_eq_true rfl) (fun j hj hw => ?_)
  obtain ⟨r44, r45, r46, r47, r48, r49, r50, r51, r52, r53, r54, r55, r56, r57, r58, r59, r60, r61, g0, g2, g6, g16⟩ := RepR_fs R
  have hT := hW.2.2.1.2
  have hX := hW.2.2.2.1
  obtain ⟨a1, a2, a3, a4, a5⟩ := hW.2.2.2.2.2.2 a ha
  obtain ⟨d1, d2, d3, d4, d5⟩ := hW.2.2.2.2.2.2 d hd
  unfold s_can at hQ
  repeat' (first | refine hj _ _ _ _ ?_ | (refine br_c (fun h => ?_) (fun h => ?_) <;> (try simp (disch := omega) only [nI_clamp, li_2, li_3, li_4, li_5, li_6, li_7, li_8, li_9, li_10, li_40, li_120, pk_mul, nI_add, nI_1, ix_eq, ix_lt, ix_le, ix_l0, ix_l1, ix_n0, ix_p0, ix_1lt, ix_lt1, ix_1le, ix_le1, ix_le0, ix_0lt, ab_z0, ab_z1, i_10, i_01, eq_self, ab_ozn, ab_ozp, ab_o_some, not_true_eq_false, not_false_eq_true, Bool.not_eq_false, Bool.not_eq_true, Bool.not_eq_false', Bool.not_eq_true', Bool.false_eq_true, Bool.true_eq_false, reduceCtorEq, Option.isSome_some, Option.isSome_none, r44, r45, r46, r47, r48, r49, r50, r51, r52, r53, r54, r55, r56, r57, r58, r59, r60, r61, g0, g2, g6, g16] at h) <;> (try omega)) | (refine br_n (fun h => ?_) (fun h => ?_) <;> (try simp (disch := omega) only [nI_clamp, li_2, li_3, li_4, li_5, li_6, li_7, li_8, li_9, li_10, li_40, li_120, pk_mul, nI_add, nI_1, ix_eq, ix_lt, ix_le, ix_l0, ix_l1, ix_n0, ix_p0, ix_1lt, ix_lt1, ix_1le, ix_le1, ix_le0, ix_0lt, ab_z0, ab_z1, i_10, i_01, eq_self, ab_ozn, ab_ozp, ab_o_some, not_true_eq_false, not_false_eq_true, Bool.not_eq_false, Bool.not_eq_true, Bool.not_eq_false', Bool.not_eq_true', Bool.false_eq_true, Bool.true_eq_false, reduceCtorEq, Option.isSome_some, Option.isSome_none, r44, r45, r46, r47, r48, r49, r50, r51, r52, r53, r54, r55, r56, r57, r58, r59, r60, r61, g0, g2, g6, g16] at h) <;> (try omega)) | refine ab_sd (by first | (with_reducible refine vp_in_nI ?_ ?_ <;> omega) | (simp (disch := omega) only [nI_clamp, li_2, li_3, li_4, li_5, li_6, li_7, li_8, li_9, li_10, li_40, li_120, pk_mul, nI_add, nI_1, ix_eq, ix_lt, ix_le, ix_l0, ix_l1, ix_n0, ix_p0, ix_1lt, ix_lt1, ix_1le, ix_le1, ix_le0, ix_0lt, ab_z0, ab_z1, i_10, i_01, eq_self, ab_ozn, ab_ozp, ab_o_some, not_true_eq_false, not_false_eq_true, Bool.not_eq_false, Bool.not_eq_true, Bool.not_eq_false', Bool.not_eq_true', Bool.false_eq_true, Bool.true_eq_false, reduceCtorEq, Option.isSome_some, Option.isSome_none, r44, r45, r46, r47, r48, r49, r50, r51, r52, r53, r54, r55, r56, r57, r58, r59, r60, r61, g0, g2, g6, g16]; with_reducible refine vp_in_nI ?_ ?_ <;> omega)) ?_ | refine r_isPlain hω R hW (m := d) rfl hd ?_ | refine r_isPlain hω R hW (m := a) rfl ha ?_ | refine r_isBelow hω R (t := S.1 57 d) (u := S.1 57 a) (by simp (disch := omega) only [nI_clamp, li_2, li_3, li_4, li_5, li_6, li_7, li_8, li_9, li_10, li_40, li_120, pk_mul, nI_add, nI_1, ix_eq, ix_lt, ix_le, ix_l0, ix_l1, ix_n0, ix_p0, ix_1lt, ix_lt1, ix_1le, ix_le1, ix_le0, ix_0lt, ab_z0, ab_z1, i_10, i_01, eq_self, ab_ozn, ab_ozp, ab_o_some, not_true_eq_false, not_false_eq_true, Bool.not_eq_false, Bool.not_eq_true, Bool.not_eq_false', Bool.not_eq_true', Bool.false_eq_true, Bool.true_eq_false, reduceCtorEq, Option.isSome_some, Option.isSome_none, r44, r45, r46, r47, r48, r49, r50, r51, r52, r53, r54, r55, r56, r57, r58, r59, r60, r61, g0, g2, g6, g16]) (by simp (disch := omega) only [nI_clamp, li_2, li_3, li_4, li_5, li_6, li_7, li_8, li_9, li_10, li_40, li_120, pk_mul, nI_add, nI_1, ix_eq, ix_lt, ix_le, ix_l0, ix_l1, ix_n0, ix_p0, ix_1lt, ix_lt1, ix_1le, ix_le1, ix_le0, ix_0lt, ab_z0, ab_z1, i_10, i_01, eq_self, ab_ozn, ab_ozp, ab_o_some, not_true_eq_false, not_false_eq_true, Bool.not_eq_false, Bool.not_eq_true, Bool.not_eq_false', Bool.not_eq_true', Bool.false_eq_true, Bool.true_eq_false, reduceCtorEq, Option.isSome_some, Option.isSome_none, r44, r45, r46, r47, r48, r49, r50, r51, r52, r53, r54, r55, r56, r57, r58, r59, r60, r61, g0, g2, g6, g16]) (by omega) (by omega) ?_ | refine ab_sd ?_ ?_ | refine ab_sz (Or.inl rfl) ?_ | refine ab_sz (Or.inr rfl) ?_ | refine ab_sz ?_ ?_)
  all_goals (refine q_of hQ ?_; simp [*, ab_z])
theorem r_isOverBy (hω : ω.2.2.2 = ab_SH) (R : RepR S μ) (hW : Wf S) (r62 : ∀ j, μ.1 64 j = ab_z (V j)) {x y : Int32} {d a : Nat} (ex : x = nI d) (ey : y = nI a) (hd : d < s_nX S) (ha : a < s_nX S) (hQ : Q (ab_z (s_by S V d a)) μ) : ab_CI l ω mX11_isOverBy [.ref 43, .int x, .int y] μ Q := by
  subst ex ey
  refine ab_intro (sh := ab_SH) (cd := kX11_isOverBy) hω vX11_isOverBy (by decide +kernel) rfl (Nat.le_of_ble_eq_true rfl) (fun j hj hw => ?_)
  have hjx : ∀ i ll st μ, i ∉ ([4] : List Nat) → _ → j i ll st μ := fun i ll st μ _ h => hj i ll st μ h
  obtain ⟨r44, r45, r46, r47, r48, r49, r50, r51, r52, r53, r54, r55, r56, r57, r58, r59, r60, r61, g0, g2, g6, g16⟩ := RepR_fs R
  have hT := hW.2.2.1.2
  have hX := hW.2.2.2.1
  have loop : ∀ n' b, s_nX S + 1 ≤ b + n' → b ≤ s_nX S → j 4 [some (.ref 43), some (.int (nI d)), some (.int (nI a)), some (.int (ab_z (ab_ex (fun b => V (120 * d + b) && V (120 * b + a) && S.1 50 (S.1 57 b) == 0) b))), some (.int (nI b))] [] μ := by
    intro n'
    induction n' with
    | zero => intro b h1 h2; omega
    | succ n' ih =>
      intro b h1 h2
      by_cases hb : b < s_nX S
      · obtain ⟨b1, b2, b3, b4, b5⟩ := hW.2.2.2.2.2.2 b hb
        obtain ⟨-, e2, -⟩ := hW.2.2.2.2.2.1 _ b1
        have ih := ih (b + 1) (by omega) (by omega)
        rw [ab_ex_s] at ih
        refine hj _ _ _ _ ?_
        repeat' (first | refine hjx _ _ _ _ (by decide) ?_ | (refine br_c (fun h => ?_) (fun h => ?_) <;> (try simp (disch := omega) only [nI_clamp, li_2, li_3, li_4, li_5, li_6, li_7, li_8, li_9, li_10, li_40, li_120, pk_mul, nI_add, nI_1, ix_eq, ix_lt, ix_le, ix_l0, ix_l1, ix_n0, ix_p0, ix_1lt, ix_lt1, ix_1le, ix_le1, ix_le0, ix_0lt, ab_z0, ab_z1, i_10, i_01, eq_self, ab_ozn, ab_ozp, ab_o_some, not_true_eq_false, not_false_eq_true, Bool.not_eq_false, Bool.not_eq_true, Bool.not_eq_false', Bool.not_eq_true', Bool.false_eq_true, Bool.true_eq_false, reduceCtorEq, Option.isSome_some, Option.isSome_none, r44, r45, r46, r47, r48, r49, r50, r51, r52, r53, r54, r55, r56, r57, r58, r59, r60, r61, g0, g2, g6, g16, r62] at h) <;> (try omega)) | (refine br_n (fun h => ?_) (fun h => ?_) <;> (try simp (disch := omega) only [nI_clamp, li_2, li_3, li_4, li_5, li_6, li_7, li_8, li_9, li_10, li_40, li_120, pk_mul, nI_add, nI_1, ix_eq, ix_lt, ix_le, ix_l0, ix_l1, ix_n0, ix_p0, ix_1lt, ix_lt1, ix_1le, ix_le1, ix_le0, ix_0lt, ab_z0, ab_z1, i_10, i_01, eq_self, ab_ozn, ab_ozp, ab_o_some, not_true_eq_false, not_false_eq_true, Bool.not_eq_false, Bool.not_eq_true, Bool.not_eq_false', Bool.not_eq_true', Bool.false_eq_true, Bool.true_eq_false, reduceCtorEq, Option.isSome_some, Option.isSome_none, r44, r45, r46, r47, r48, r49, r50, r51, r52, r53, r54, r55, r56, r57, r58, r59, r60, r61, g0, g2, g6, g16, r62] at h) <;> (try omega)) | refine ab_sd (by first | (with_reducible refine vp_in_nI ?_ ?_ <;> omega) | (simp (disch := omega) only [nI_clamp, li_2, li_3, li_4, li_5, li_6, li_7, li_8, li_9, li_10, li_40, li_120, pk_mul, nI_add, nI_1, ix_eq, ix_lt, ix_le, ix_l0, ix_l1, ix_n0, ix_p0, ix_1lt, ix_lt1, ix_1le, ix_le1, ix_le0, ix_0lt, ab_z0, ab_z1, i_10, i_01, eq_self, ab_ozn, ab_ozp, ab_o_some, not_true_eq_false, not_false_eq_true, Bool.not_eq_false, Bool.not_eq_true, Bool.not_eq_false', Bool.not_eq_true', Bool.false_eq_true, Bool.true_eq_false, reduceCtorEq, Option.isSome_some, Option.isSome_none, r44, r45, r46, r47, r48, r49, r50, r51, r52, r53, r54, r55, r56, r57, r58, r59, r60, r61, g0, g2, g6, g16, r62]; with_reducible refine vp_in_nI ?_ ?_ <;> omega)) ?_ | refine ab_sd ?_ ?_ | refine ab_sz (Or.inl rfl) ?_ | refine ab_sz (Or.inr rfl) ?_ | refine ab_sz ?_ ?_)
        all_goals first | (show j 4 _ _ _; rw [nI_1]; simp [*, ab_z] at ih ⊢; exact ih) | exact ab_z01 _ | (refine q_of hQ ?_; rw [h, show s_by S V d a = true from (by obtain ⟨i, h7, h8⟩ := ab_ex_iff.mp h; exact ab_ex_iff.mpr ⟨i, by omega, h8⟩)])
      · have hb2 : b = s_nX S := by omega
        refine hj _ _ _ _ ?_
        repeat' (first | refine hjx _ _ _ _ (by decide) ?_ | (refine br_c (fun h => ?_) (fun h => ?_) <;> (try simp (disch := omega) only [nI_clamp, li_2, li_3, li_4, li_5, li_6, li_7, li_8, li_9, li_10, li_40, li_120, pk_mul, nI_add, nI_1, ix_eq, ix_lt, ix_le, ix_l0, ix_l1, ix_n0, ix_p0, ix_1lt, ix_lt1, ix_1le, ix_le1, ix_le0, ix_0lt, ab_z0, ab_z1, i_10, i_01, eq_self, ab_ozn, ab_ozp, ab_o_some, not_true_eq_false, not_false_eq_true, Bool.not_eq_false, Bool.not_eq_true, Bool.not_eq_false', Bool.not_eq_true', Bool.false_eq_true, Bool.true_eq_false, reduceCtorEq, Option.isSome_some, Option.isSome_none, r44, r45, r46, r47, r48, r49, r50, r51, r52, r53, r54, r55, r56, r57, r58, r59, r60, r61, g0, g2, g6, g16] at h) <;> (try omega)) | (refine br_n (fun h => ?_) (fun h => ?_) <;> (try simp (disch := omega) only [nI_clamp, li_2, li_3, li_4, li_5, li_6, li_7, li_8, li_9, li_10, li_40, li_120, pk_mul, nI_add, nI_1, ix_eq, ix_lt, ix_le, ix_l0, ix_l1, ix_n0, ix_p0, ix_1lt, ix_lt1, ix_1le, ix_le1, ix_le0, ix_0lt, ab_z0, ab_z1, i_10, i_01, eq_self, ab_ozn, ab_ozp, ab_o_some, not_true_eq_false, not_false_eq_true, Bool.not_eq_false, Bool.not_eq_true, Bool.not_eq_false', Bool.not_eq_true', Bool.false_eq_true, Bool.true_eq_false, reduceCtorEq, Option.isSome_some, Option.isSome_none, r44, r45, r46, r47, r48, r49, r50, r51, r52, r53, r54, r55, r56, r57, r58, r59, r60, r61, g0, g2, g6, g16] at h) <;> (try omega)) | refine ab_sd (by first | (with_reducible refine vp_in_nI ?_ ?_ <;> omega) | (simp (disch := omega) only [nI_clamp, li_2, li_3, li_4, li_5, li_6, li_7, li_8, li_9, li_10, li_40, li_120, pk_mul, nI_add, nI_1, ix_eq, ix_lt, ix_le, ix_l0, ix_l1, ix_n0, ix_p0, ix_1lt, ix_lt1, ix_1le, ix_le1, ix_le0, ix_0lt, ab_z0, ab_z1, i_10, i_01, eq_self, ab_ozn, ab_ozp, ab_o_some, not_true_eq_false, not_false_eq_true, Bool.not_eq_false, Bool.not_eq_true, Bool.not_eq_false', Bool.not_eq_true', Bool.false_eq_true, Bool.true_eq_false, reduceCtorEq, Option.isSome_some, Option.isSome_none, r44, r45, r46, r47, r48, r49, r50, r51, r52, r53, r54, r55, r56, r57, r58, r59, r60, r61, g0, g2, g6, g16]; with_reducible refine vp_in_nI ?_ ?_ <;> omega)) ?_ | refine ab_sd ?_ ?_ | refine ab_sz (Or.inl rfl) ?_ | refine ab_sz (Or.inr rfl) ?_ | refine ab_sz ?_ ?_)
        · exact ab_z01 _
        · rw [hb2]; exact hQ
  repeat' (first | refine hjx _ _ _ _ (by decide) ?_ | (refine br_c (fun h => ?_) (fun h => ?_) <;> (try simp (disch := omega) only [nI_clamp, li_2, li_3, li_4, li_5, li_6, li_7, li_8, li_9, li_10, li_40, li_120, pk_mul, nI_add, nI_1, ix_eq, ix_lt, ix_le, ix_l0, ix_l1, ix_n0, ix_p0, ix_1lt, ix_lt1, ix_1le, ix_le1, ix_le0, ix_0lt, ab_z0, ab_z1, i_10, i_01, eq_self, ab_ozn, ab_ozp, ab_o_some, not_true_eq_false, not_false_eq_true, Bool.not_eq_false, Bool.not_eq_true, Bool.not_eq_false', Bool.not_eq_true', Bool.false_eq_true, Bool.true_eq_false, reduceCtorEq, Option.isSome_some, Option.isSome_none, r44, r45, r46, r47, r48, r49, r50, r51, r52, r53, r54, r55, r56, r57, r58, r59, r60, r61, g0, g2, g6, g16] at h) <;> (try omega)) | (refine br_n (fun h => ?_) (fun h => ?_) <;> (try simp (disch := omega) only [nI_clamp, li_2, li_3, li_4, li_5, li_6, li_7, li_8, li_9, li_10, li_40, li_120, pk_mul, nI_add, nI_1, ix_eq, ix_lt, ix_le, ix_l0, ix_l1, ix_n0, ix_p0, ix_1lt, ix_lt1, ix_1le, ix_le1, ix_le0, ix_0lt, ab_z0, ab_z1, i_10, i_01, eq_self, ab_ozn, ab_ozp, ab_o_some, not_true_eq_false, not_false_eq_true, Bool.not_eq_false, Bool.not_eq_true, Bool.not_eq_false', Bool.not_eq_true', Bool.false_eq_true, Bool.true_eq_false, reduceCtorEq, Option.isSome_some, Option.isSome_none, r44, r45, r46, r47, r48, r49, r50, r51, r52, r53, r54, r55, r56, r57, r58, r59, r60, r61, g0, g2, g6, g16] at h) <;> (try omega)) | refine ab_sd (by first | (with_reducible refine vp_in_nI ?_ ?_ <;> omega) | (simp (disch := omega) only [nI_clamp, li_2, li_3, li_4, li_5, li_6, li_7, li_8, li_9, li_10, li_40, li_120, pk_mul, nI_add, nI_1, ix_eq, ix_lt, ix_le, ix_l0, ix_l1, ix_n0, ix_p0, ix_1lt, ix_lt1, ix_1le, ix_le1, ix_le0, ix_0lt, ab_z0, ab_z1, i_10, i_01, eq_self, ab_ozn, ab_ozp, ab_o_some, not_true_eq_false, not_false_eq_true, Bool.not_eq_false, Bool.not_eq_true, Bool.not_eq_false', Bool.not_eq_true', Bool.false_eq_true, Bool.true_eq_false, reduceCtorEq, Option.isSome_some, Option.isSome_none, r44, r45, r46, r47, r48, r49, r50, r51, r52, r53, r54, r55, r56, r57, r58, r59, r60, r61, g0, g2, g6, g16]; with_reducible refine vp_in_nI ?_ ?_ <;> omega)) ?_ | refine ab_sd ?_ ?_ | refine ab_sz (Or.inl rfl) ?_ | refine ab_sz (Or.inr rfl) ?_ | refine ab_sz ?_ ?_)
  exact loop (s_nX S + 1) 0 (by omega) (by omega)
theorem r_isReady (hω : ω.2.2.2 = ab_SH) (R : RepR S μ) (hW : Wf S) (r63 : ∀ j, μ.1 63 j = ab_z (D j)) {x : Int32} {t : Nat} (ex : x = nI t) (ht : t < s_nT S) (hQ : Q (ab_z (s_rdy S D t)) μ) : ab_CI l ω mX11_isReady [.ref 43, .int x] μ Q := by
  subst ex
  refine ab_intro (sh := ab_SH) (cd := kX11_isReady) hω vX11_isReady (by decide +kernel) rfl (Nat.le_of_ble_eq_true rfl) (fun j hj hw => ?_)
  have hjx : ∀ i ll st μ, i ∉ ([19] : List Nat) → _ → j i ll st μ := fun i ll st μ _ h => hj i ll st μ h
  obtain ⟨r44, r45, r46, r47, r48, r49, r50, r51, r52, r53, r54, r55, r56, r57, r58, r59, r60, r61, g0, g2, g6, g16⟩ := RepR_fs R
  have hT := hW.2.2.1.2
  obtain ⟨t1, t2, t3, t4, t5, t6, -, t8⟩ := hW.2.2.2.2.2.1 t ht
  have loop : ∀ c : Bool, Q (ab_z (c && ab_al (fun k => D (S.1 54 (4 * t + k))) (S.1 55 t))) μ → ∀ n' k, S.1 55 t + 1 ≤ k + n' → k ≤ S.1 55 t → j 19 [some (.ref 43), some (.int (nI t)), some (.int (ab_z (c && ab_al (fun k => D (S.1 54 (4 * t + k))) k))), some (.int (nI k))] [] μ := by
    intro c hQ n'
    induction n' with
    | zero => intro k h1 h2; omega
    | succ n' ih =>
      intro k h1 h2
      by_cases hk : k < S.1 55 t
      · have t7 := t6 k hk
        have ih := ih (k + 1) (by omega) (by omega)
        rw [ab_al_s, ← Bool.and_assoc] at ih
        refine hj _ _ _ _ ?_
        repeat' (first | refine hjx _ _ _ _ (by decide) ?_ | (refine br_c (fun h => ?_) (fun h => ?_) <;> (try simp (disch := omega) only [nI_clamp, li_2, li_3, li_4, li_5, li_6, li_7, li_8, li_9, li_10, li_40, li_120, pk_mul, nI_add, nI_1, ix_eq, ix_lt, ix_le, ix_l0, ix_l1, ix_n0, ix_p0, ix_1lt, ix_lt1, ix_1le, ix_le1, ix_le0, ix_0lt, ab_z0, ab_z1, i_10, i_01, eq_self, ab_ozn, ab_ozp, ab_o_some, not_true_eq_false, not_false_eq_true, Bool.not_eq_false, Bool.not_eq_true, Bool.not_eq_false', Bool.not_eq_true', Bool.false_eq_true, Bool.true_eq_false, reduceCtorEq, Option.isSome_some, Option.isSome_none, r44, r45, r46, r47, r48, r49, r50, r51, r52, r53, r54, r55, r56, r57, r58, r59, r60, r61, g0, g2, g6, g16, r63] at h) <;> (try omega)) | (refine br_n (fun h => ?_) (fun h => ?_) <;> (try simp (disch := omega) only [nI_clamp, li_2, li_3, li_4, li_5, li_6, li_7, li_8, li_9, li_10, li_40, li_120, pk_mul, nI_add, nI_1, ix_eq, ix_lt, ix_le, ix_l0, ix_l1, ix_n0, ix_p0, ix_1lt, ix_lt1, ix_1le, ix_le1, ix_le0, ix_0lt, ab_z0, ab_z1, i_10, i_01, eq_self, ab_ozn, ab_ozp, ab_o_some, not_true_eq_false, not_false_eq_true, Bool.not_eq_false, Bool.not_eq_true, Bool.not_eq_false', Bool.not_eq_true', Bool.false_eq_true, Bool.true_eq_false, reduceCtorEq, Option.isSome_some, Option.isSome_none, r44, r45, r46, r47, r48, r49, r50, r51, r52, r53, r54, r55, r56, r57, r58, r59, r60, r61, g0, g2, g6, g16, r63] at h) <;> (try omega)) | refine ab_sd (by first | (with_reducible refine vp_in_nI ?_ ?_ <;> omega) | (simp (disch := omega) only [nI_clamp, li_2, li_3, li_4, li_5, li_6, li_7, li_8, li_9, li_10, li_40, li_120, pk_mul, nI_add, nI_1, ix_eq, ix_lt, ix_le, ix_l0, ix_l1, ix_n0, ix_p0, ix_1lt, ix_lt1, ix_1le, ix_le1, ix_le0, ix_0lt, ab_z0, ab_z1, i_10, i_01, eq_self, ab_ozn, ab_ozp, ab_o_some, not_true_eq_false, not_false_eq_true, Bool.not_eq_false, Bool.not_eq_true, Bool.not_eq_false', Bool.not_eq_true', Bool.false_eq_true, Bool.true_eq_false, reduceCtorEq, Option.isSome_some, Option.isSome_none, r44, r45, r46, r47, r48, r49, r50, r51, r52, r53, r54, r55, r56, r57, r58, r59, r60, r61, g0, g2, g6, g16, r63]; with_reducible refine vp_in_nI ?_ ?_ <;> omega)) ?_ | refine ab_sd ?_ ?_ | refine ab_sz (Or.inl rfl) ?_ | refine ab_sz (Or.inr rfl) ?_ | refine ab_sz ?_ ?_)
        all_goals (show j 19 _ _ _; rw [nI_1]; simp only [*, Bool.and_true, Bool.and_false, Bool.false_and] at ih ⊢; exact ih)
      · have hk2 : k = S.1 55 t := by omega
        refine hj _ _ _ _ ?_
        repeat' (first | refine hjx _ _ _ _ (by decide) ?_ | (refine br_c (fun h => ?_) (fun h => ?_) <;> (try simp (disch := omega) only [nI_clamp, li_2, li_3, li_4, li_5, li_6, li_7, li_8, li_9, li_10, li_40, li_120, pk_mul, nI_add, nI_1, ix_eq, ix_lt, ix_le, ix_l0, ix_l1, ix_n0, ix_p0, ix_1lt, ix_lt1, ix_1le, ix_le1, ix_le0, ix_0lt, ab_z0, ab_z1, i_10, i_01, eq_self, ab_ozn, ab_ozp, ab_o_some, not_true_eq_false, not_false_eq_true, Bool.not_eq_false, Bool.not_eq_true, Bool.not_eq_false', Bool.not_eq_true', Bool.false_eq_true, Bool.true_eq_false, reduceCtorEq, Option.isSome_some, Option.isSome_none, r44, r45, r46, r47, r48, r49, r50, r51, r52, r53, r54, r55, r56, r57, r58, r59, r60, r61, g0, g2, g6, g16] at h) <;> (try omega)) | (refine br_n (fun h => ?_) (fun h => ?_) <;> (try simp (disch := omega) only [nI_clamp, li_2, li_3, li_4, li_5, li_6, li_7, li_8, li_9, li_10, li_40, li_120, pk_mul, nI_add, nI_1, ix_eq, ix_lt, ix_le, ix_l0, ix_l1, ix_n0, ix_p0, ix_1lt, ix_lt1, ix_1le, ix_le1, ix_le0, ix_0lt, ab_z0, ab_z1, i_10, i_01, eq_self, ab_ozn, ab_ozp, ab_o_some, not_true_eq_false, not_false_eq_true, Bool.not_eq_false, Bool.not_eq_true, Bool.not_eq_false', Bool.not_eq_true', Bool.false_eq_true, Bool.true_eq_false, reduceCtorEq, Option.isSome_some, Option.isSome_none, r44, r45, r46, r47, r48, r49, r50, r51, r52, r53, r54, r55, r56, r57, r58, r59, r60, r61, g0, g2, g6, g16] at h) <;> (try omega)) | refine ab_sd (by first | (with_reducible refine vp_in_nI ?_ ?_ <;> omega) | (simp (disch := omega) only [nI_clamp, li_2, li_3, li_4, li_5, li_6, li_7, li_8, li_9, li_10, li_40, li_120, pk_mul, nI_add, nI_1, ix_eq, ix_lt, ix_le, ix_l0, ix_l1, ix_n0, ix_p0, ix_1lt, ix_lt1, ix_1le, ix_le1, ix_le0, ix_0lt, ab_z0, ab_z1, i_10, i_01, eq_self, ab_ozn, ab_ozp, ab_o_some, not_true_eq_false, not_false_eq_true, Bool.not_eq_false, Bool.not_eq_true, Bool.not_eq_false', Bool.not_eq_true', Bool.false_eq_true, Bool.true_eq_false, reduceCtorEq, Option.isSome_some, Option.isSome_none, r44, r45, r46, r47, r48, r49, r50, r51, r52, r53, r54, r55, r56, r57, r58, r59, r60, r61, g0, g2, g6, g16]; with_reducible refine vp_in_nI ?_ ?_ <;> omega)) ?_ | refine ab_sd ?_ ?_ | refine ab_sz (Or.inl rfl) ?_ | refine ab_sz (Or.inr rfl) ?_ | refine ab_sz ?_ ?_)
        · exact ab_z01 _
        · rw [hk2]; exact hQ
  unfold s_rdy at hQ
  cases e : s_pa S t with
  | none =>
    rw [e] at hQ
    repeat' (first | refine hjx _ _ _ _ (by decide) ?_ | (refine br_c (fun h => ?_) (fun h => ?_) <;> (try simp (disch := omega) only [nI_clamp, li_2, li_3, li_4, li_5, li_6, li_7, li_8, li_9, li_10, li_40, li_120, pk_mul, nI_add, nI_1, ix_eq, ix_lt, ix_le, ix_l0, ix_l1, ix_n0, ix_p0, ix_1lt, ix_lt1, ix_1le, ix_le1, ix_le0, ix_0lt, ab_z0, ab_z1, i_10, i_01, eq_self, ab_ozn, ab_ozp, ab_o_some, not_true_eq_false, not_false_eq_true, Bool.not_eq_false, Bool.not_eq_true, Bool.not_eq_false', Bool.not_eq_true', Bool.false_eq_true, Bool.true_eq_false, reduceCtorEq, Option.isSome_some, Option.isSome_none, r44, r45, r46, r47, r48, r49, r50, r51, r52, r53, r54, r55, r56, r57, r58, r59, r60, r61, g0, g2, g6, g16, e] at h) <;> (try omega)) | (refine br_n (fun h => ?_) (fun h => ?_) <;> (try simp (disch := omega) only [nI_clamp, li_2, li_3, li_4, li_5, li_6, li_7, li_8, li_9, li_10, li_40, li_120, pk_mul, nI_add, nI_1, ix_eq, ix_lt, ix_le, ix_l0, ix_l1, ix_n0, ix_p0, ix_1lt, ix_lt1, ix_1le, ix_le1, ix_le0, ix_0lt, ab_z0, ab_z1, i_10, i_01, eq_self, ab_ozn, ab_ozp, ab_o_some, not_true_eq_false, not_false_eq_true, Bool.not_eq_false, Bool.not_eq_true, Bool.not_eq_false', Bool.not_eq_true', Bool.false_eq_true, Bool.true_eq_false, reduceCtorEq, Option.isSome_some, Option.isSome_none, r44, r45, r46, r47, r48, r49, r50, r51, r52, r53, r54, r55, r56, r57, r58, r59, r60, r61, g0, g2, g6, g16, e] at h) <;> (try omega)) | refine ab_sd (by first | (with_reducible refine vp_in_nI ?_ ?_ <;> omega) | (simp (disch := omega) only [nI_clamp, li_2, li_3, li_4, li_5, li_6, li_7, li_8, li_9, li_10, li_40, li_120, pk_mul, nI_add, nI_1, ix_eq, ix_lt, ix_le, ix_l0, ix_l1, ix_n0, ix_p0, ix_1lt, ix_lt1, ix_1le, ix_le1, ix_le0, ix_0lt, ab_z0, ab_z1, i_10, i_01, eq_self, ab_ozn, ab_ozp, ab_o_some, not_true_eq_false, not_false_eq_true, Bool.not_eq_false, Bool.not_eq_true, Bool.not_eq_false', Bool.not_eq_true', Bool.false_eq_true, Bool.true_eq_false, reduceCtorEq, Option.isSome_some, Option.isSome_none, r44, r45, r46, r47, r48, r49, r50, r51, r52, r53, r54, r55, r56, r57, r58, r59, r60, r61, g0, g2, g6, g16, e]; with_reducible refine vp_in_nI ?_ ?_ <;> omega)) ?_ | refine ab_sd ?_ ?_ | refine ab_sz (Or.inl rfl) ?_ | refine ab_sz (Or.inr rfl) ?_ | refine ab_sz ?_ ?_)
    have := loop true hQ (S.1 55 t + 1) 0 (by omega) (by omega)
    exact this
  | some p =>
    have hp := t8 p e
    rw [e] at hQ
    dsimp only at hQ
    cases hd : D p with
    | true =>
      rw [hd] at hQ
      repeat' (first | refine hjx _ _ _ _ (by decide) ?_ | (refine br_c (fun h => ?_) (fun h => ?_) <;> (try simp (disch := omega) only [nI_clamp, li_2, li_3, li_4, li_5, li_6, li_7, li_8, li_9, li_10, li_40, li_120, pk_mul, nI_add, nI_1, ix_eq, ix_lt, ix_le, ix_l0, ix_l1, ix_n0, ix_p0, ix_1lt, ix_lt1, ix_1le, ix_le1, ix_le0, ix_0lt, ab_z0, ab_z1, i_10, i_01, eq_self, ab_ozn, ab_ozp, ab_o_some, not_true_eq_false, not_false_eq_true, Bool.not_eq_false, Bool.not_eq_true, Bool.not_eq_false', Bool.not_eq_true', Bool.false_eq_true, Bool.true_eq_false, reduceCtorEq, Option.isSome_some, Option.isSome_none, r44, r45, r46, r47, r48, r49, r50, r51, r52, r53, r54, r55, r56, r57, r58, r59, r60, r61, g0, g2, g6, g16, e, r63, hd] at h) <;> (try omega)) | (refine br_n (fun h => ?_) (fun h => ?_) <;> (try simp (disch := omega) only [nI_clamp, li_2, li_3, li_4, li_5, li_6, li_7, li_8, li_9, li_10, li_40, li_120, pk_mul, nI_add, nI_1, ix_eq, ix_lt, ix_le, ix_l0, ix_l1, ix_n0, ix_p0, ix_1lt, ix_lt1, ix_1le, ix_le1, ix_le0, ix_0lt, ab_z0, ab_z1, i_10, i_01, eq_self, ab_ozn, ab_ozp, ab_o_some, not_true_eq_false, not_false_eq_true, Bool.not_eq_false, Bool.not_eq_true, Bool.not_eq_false', Bool.not_eq_true', Bool.false_eq_true, Bool.true_eq_false, reduceCtorEq, Option.isSome_some, Option.isSome_none, r44, r45, r46, r47, r48, r49, r50, r51, r52, r53, r54, r55, r56, r57, r58, r59, r60, r61, g0, g2, g6, g16, e, r63, hd] at h) <;> (try omega)) | refine ab_sd (by first | (with_reducible refine vp_in_nI ?_ ?_ <;> omega) | (simp (disch := omega) only [nI_clamp, li_2, li_3, li_4, li_5, li_6, li_7, li_8, li_9, li_10, li_40, li_120, pk_mul, nI_add, nI_1, ix_eq, ix_lt, ix_le, ix_l0, ix_l1, ix_n0, ix_p0, ix_1lt, ix_lt1, ix_1le, ix_le1, ix_le0, ix_0lt, ab_z0, ab_z1, i_10, i_01, eq_self, ab_ozn, ab_ozp, ab_o_some, not_true_eq_false, not_false_eq_true, Bool.not_eq_false, Bool.not_eq_true, Bool.not_eq_false', Bool.not_eq_true', Bool.false_eq_true, Bool.true_eq_false, reduceCtorEq, Option.isSome_some, Option.isSome_none, r44, r45, r46, r47, r48, r49, r50, r51, r52, r53, r54, r55, r56, r57, r58, r59, r60, r61, g0, g2, g6, g16, e, r63, hd]; with_reducible refine vp_in_nI ?_ ?_ <;> omega)) ?_ | refine ab_sd ?_ ?_ | refine ab_sz (Or.inl rfl) ?_ | refine ab_sz (Or.inr rfl) ?_ | refine ab_sz ?_ ?_)
      have := loop true hQ (S.1 55 t + 1) 0 (by omega) (by omega)
      exact this
    | false =>
      rw [hd] at hQ
      repeat' (first | refine hjx _ _ _ _ (by decide) ?_ | (refine br_c (fun h => ?_) (fun h => ?_) <;> (try simp (disch := omega) only [nI_clamp, li_2, li_3, li_4, li_5, li_6, li_7, li_8, li_9, li_10, li_40, li_120, pk_mul, nI_add, nI_1, ix_eq, ix_lt, ix_le, ix_l0, ix_l1, ix_n0, ix_p0, ix_1lt, ix_lt1, ix_1le, ix_le1, ix_le0, ix_0lt, ab_z0, ab_z1, i_10, i_01, eq_self, ab_ozn, ab_ozp, ab_o_some, not_true_eq_false, not_false_eq_true, Bool.not_eq_false, Bool.not_eq_true, Bool.not_eq_false', Bool.not_eq_true', Bool.false_eq_true, Bool.true_eq_false, reduceCtorEq, Option.isSome_some, Option.isSome_none, r44, r45, r46, r47, r48, r49, r50, r51, r52, r53, r54, r55, r56, r57, r58, r59, r60, r61, g0, g2, g6, g16, e, r63, hd] at h) <;> (try omega)) | (refine br_n (fun h => ?_) (fun h => ?_) <;> (try simp (disch := omega) only [nI_clamp, li_2, li_3, li_4, li_5, li_6, li_7, li_8, li_9, li_10, li_40, li_120, pk_mul, nI_add, nI_1, ix_eq, ix_lt, ix_le, ix_l0, ix_l1, ix_n0, ix_p0, ix_1lt, ix_lt1, ix_1le, ix_le1, ix_le0, ix_0lt, ab_z0, ab_z1, i_10, i_01, eq_self, ab_ozn, ab_ozp, ab_o_some, not_true_eq_false, not_false_eq_true, Bool.not_eq_false, Bool.not_eq_true, Bool.not_eq_false', Bool.not_eq_true', Bool.false_eq_true, Bool.true_eq_false, reduceCtorEq, Option.isSome_some, Option.isSome_none, r44, r45, r46, r47, r48, r49, r50, r51, r52, r53, r54, r55, r56, r57, r58, r59, r60, r61, g0, g2, g6, g16, e, r63, hd] at h) <;> (try omega)) | refine ab_sd (by first | (with_reducible refine vp_in_nI ?_ ?_ <;> omega) | (simp (disch := omega) only [nI_clamp, li_2, li_3, li_4, li_5, li_6, li_7, li_8, li_9, li_10, li_40, li_120, pk_mul, nI_add, nI_1, ix_eq, ix_lt, ix_le, ix_l0, ix_l1, ix_n0, ix_p0, ix_1lt, ix_lt1, ix_1le, ix_le1, ix_le0, ix_0lt, ab_z0, ab_z1, i_10, i_01, eq_self, ab_ozn, ab_ozp, ab_o_some, not_true_eq_false, not_false_eq_true, Bool.not_eq_false, Bool.not_eq_true, Bool.not_eq_false', Bool.not_eq_true', Bool.false_eq_true, Bool.true_eq_false, reduceCtorEq, Option.isSome_some, Option.isSome_none, r44, r45, r46, r47, r48, r49, r50, r51, r52, r53, r54, r55, r56, r57, r58, r59, r60, r61, g0, g2, g6, g16, e, r63, hd]; with_reducible refine vp_in_nI ?_ ?_ <;> omega)) ?_ | refine ab_sd ?_ ?_ | refine ab_sz (Or.inl rfl) ?_ | refine ab_sz (Or.inr rfl) ?_ | refine ab_sz ?_ ?_)
      have := loop false hQ (S.1 55 t + 1) 0 (by omega) (by omega)
      exact this
end R12
end
section
/-! findMembers -/
def s_A (S : sT) (O : Nat → Bool) (t m : Nat) : Bool := S.1 57 m == t || (!(S.1 58 m == 2) && (s_dec S t (S.1 58 m) (S.1 59 m)).isNone && s_cfp S O t m)
def s_X (S : sT) (O : Nat → Bool) (t m : Nat) : Bool := !s_A S O t m && (!(S.1 58 m == 2) && (s_dec S t (S.1 58 m) (S.1 59 m)).isNone && (s_iof S O t m && (S.1 58 m == 0 || (s_pl S m && !s_bh S O t m))))
theorem s_AX (S : sT) (O : Nat → Bool) (t m : Nat) : (s_A S O t m || s_X S O t m) = s_ofS S O t m := by
  unfold s_X s_A s_ofS
  generalize (S.1 57 m == t) = a
  generalize (!(S.1 58 m == 2) && (s_dec S t (S.1 58 m) (S.1 59 m)).isNone) = b
  generalize s_cfp S O t m = c
  generalize (s_iof S O t m && (S.1 58 m == 0 || (s_pl S m && !s_bh S O t m))) = d
  cases a <;> cases b <;> cases c <;> cases d <;> rfl
/-- two pictures that differ at most in row t -/
def s_eqr (O O' : Nat → Bool) (t : Nat) : Prop := ∀ p m, p ≠ t → m < 120 → O (120 * p + m) = O' (120 * p + m)
theorem s_cfp_c {S : sT} {O O' : Nat → Bool} {t m : Nat} (h : s_eqr O O' t) (hp : ∀ p, s_pa S t = some p → p ≠ t) (hm : m < 120) : s_cfp S O t m = s_cfp S O' t m := by
  unfold s_cfp
  cases e : s_pa S t with
  | none => rfl
  | some p => simp only [h p m (hp p e) hm]
theorem s_ofp_c {S : sT} {O O' : Nat → Bool} {t m : Nat} (h : s_eqr O O' t) (hp : ∀ p, s_pa S t = some p → p ≠ t) (hm : m < 120) : s_ofp S O t m = s_ofp S O' t m := by
  unfold s_ofp
  cases e : s_pa S t with
  | none => rfl
  | some p => simp only [h p m (hp p e) hm]
theorem s_iof_c {S : sT} {O O' : Nat → Bool} {t m : Nat} (h : s_eqr O O' t) (hf : ∀ k, k < S.1 55 t → S.1 54 (4 * t + k) ≠ t) (hm : m < 120) : s_iof S O t m = s_iof S O' t m := by
  unfold s_iof
  exact ab_ex_congr (fun k hk => h _ m (hf k hk) hm)
theorem s_bh_c {S : sT} {O O' : Nat → Bool} {t m : Nat} (hX : s_nX S ≤ 120) (h : s_eqr O O' t) (hp : ∀ p, s_pa S t = some p → p ≠ t) (hf : ∀ k, k < S.1 55 t → S.1 54 (4 * t + k) ≠ t) : s_bh S O t m = s_bh S O' t m := by
  unfold s_bh
  refine ab_ex_congr (fun x hx => ?_)
  unfold s_bh1
  rw [s_cfp_c h hp (by omega), s_ofp_c h hp (by omega), s_iof_c h hf (by omega)]
theorem s_A_c {S : sT} {O O' : Nat → Bool} {t m : Nat} (h : s_eqr O O' t) (hp : ∀ p, s_pa S t = some p → p ≠ t) (hm : m < 120) : s_A S O t m = s_A S O' t m := by
  unfold s_A
  rw [s_cfp_c h hp hm]
/-- what find's helpers keep -/
def FR (μ μ' : ab_M) : Prop := SameC μ μ' ∧ μ'.1 63 = μ.1 63 ∧ μ'.1 64 = μ.1 64 ∧ μ'.1 43 22 = μ.1 43 22
theorem FR.rf {μ : ab_M} : FR μ μ := ⟨SameC.rf, rfl, rfl, rfl⟩
theorem FR.mi {μ μ' : ab_M} (h : FR μ μ') {k j : Nat} {x : Int32} (hk : k = 62 ∨ k = 65) : FR μ (ab_mi μ' k j x) := by
  refine ⟨h.1.mi (by omega), ?_, ?_, ?_⟩
  · rw [← h.2.1]; funext b; rcases hk with hk | hk <;> simp [ab_mi, hk]
  · rw [← h.2.2.1]; funext b; rcases hk with hk | hk <;> simp [ab_mi, hk]
  · rw [← h.2.2.2]; rcases hk with hk | hk <;> simp [ab_mi, hk]
theorem bool_up {μ : ab_M} {k : Nat} {O O' : Nat → Bool} {i : Nat} {v : Bool} (h : ∀ j, μ.1 k j = ab_z (O j)) (hO : ∀ j, O' j = if j = i then v else O j) : ∀ j, (ab_mi μ k i (ab_z v)).1 k j = ab_z (O' j) := by
  intro j
  rw [hO j]
  by_cases e : j = i
  · subst e; simp [ab_mi]
  · simp [ab_mi, e, h]
section R13
variable {l : Launch} {ω : ab_W} {S : sT} {μ : ab_M}
def s_o1 (S : sT) (O : Nat → Bool) (t a j : Nat) : Bool := if j / 120 = t ∧ j % 120 < a then s_A S O t (j % 120) else O j
def s_o3 (S : sT) (O : Nat → Bool) (t a j : Nat) : Bool := if j / 120 = t ∧ j % 120 < s_nX S then s_A S O t (j % 120) || (decide (j % 120 < a) && s_X S O t (j % 120)) else O j
theorem s_o1_eqr {S : sT} {O : Nat → Bool} {t a : Nat} : s_eqr (s_o1 S O t a) O t := by
  intro p m hp hm
  unfold s_o1
  rw [if_neg (by omega)]
theorem s_o1_s {S : sT} {O : Nat → Bool} {t a : Nat} (ha : a < 120) (j : Nat) : s_o1 S O t (a + 1) j = if j = 120 * t + a then s_A S O t a else s_o1 S O t a j := by
  unfold s_o1
  by_cases e : j = 120 * t + a
  · subst e
    simp only [show (120 * t + a) / 120 = t by omega, show (120 * t + a) % 120 = a by omega, if_true, Nat.lt_succ_self, and_self]
  · rw [if_neg e]
    by_cases h1 : j / 120 = t ∧ j % 120 < a
    · rw [if_pos h1, if_pos (by omega)]
    · rw [if_neg h1, if_neg (by omega)]
theorem s_o3_s {S : sT} {O : Nat → Bool} {t a : Nat} (ha : a < s_nX S) (hX : s_nX S ≤ 120) (j : Nat) : s_o3 S O t (a + 1) j = if j = 120 * t + a then s_o3 S O t a (120 * t + a) || s_X S O t a else s_o3 S O t a j := by
  unfold s_o3
  by_cases e : j = 120 * t + a
  · subst e
    simp only [show (120 * t + a) / 120 = t by omega, show (120 * t + a) % 120 = a by omega, if_true, Nat.lt_succ_self, and_self, ha, decide_true, Bool.true_and, Nat.lt_irrefl, decide_false, Bool.false_and, Bool.or_false]
  · rw [if_neg e]
    by_cases h1 : j / 120 = t ∧ j % 120 < s_nX S
    · rw [if_pos h1, if_pos h1]
      have : (j % 120 < a + 1) ↔ (j % 120 < a) := by omega
      simp only [this]
    · rw [if_neg h1, if_neg h1]
theorem s_o1_o3 {S : sT} {O : Nat → Bool} {t j : Nat} : s_o1 S O t (s_nX S) j = s_o3 S O t 0 j := by
  unfold s_o1 s_o3
  simp
set_option maxHeartbeats 4000000 in
theorem r_findMembers {Q : ab_M → Prop} {O : Nat → Bool} (hω : ω.2.2.2 = ab_SH) (R : RepR S μ) (hW : Wf S) (r62 : ∀ j, μ.1 62 j = ab_z (O j)) (r65 : ∃ C : Nat → Bool, ∀ j, μ.1 65 j = ab_z (C j)) {x : Int32} {t : Nat} (ex : x = nI t) (ht : t < s_nT S) (hpt : ∀ p, s_pa S t = some p → p ≠ t) (hft : ∀ k, k < S.1 55 t → S.1 54 (4 * t + k) ≠ t)
    (hQ : ∀ μ', RepR S μ' → FR μ μ' → (∃ C : Nat → Bool, ∀ j, μ'.1 65 j = ab_z (C j)) → (∀ j, μ'.1 62 j = ab_z (if j / 120 = t ∧ j % 120 < s_nX S then s_ofS S O t (j % 120) else O j)) → Q μ') : ab_CV l ω mX11_findMembers [.ref 43, .int x] μ Q := by
  subst ex
  refine ab_intro (sh := ab_SH) (cd := kX11_findMembers) hω vX11_findMembers (by decide +kernel) rfl (Nat.le_of_ble_eq_true rfl) (fun j hj hw => ?_)
  have hjx : ∀ i ll st μ, i ∉ ([2, 50, 117] : List Nat) → _ → j i ll st μ := fun i ll st μ _ h => hj i ll st μ h
  have hT := hW.2.2.1.2
  have hX := hW.2.2.2.1
  obtain ⟨t1, t2, t3, t4, t5, t6, -, t8⟩ := hW.2.2.2.2.2.1 t ht
  have loop3 : ∀ n' a μ', s_nX S + 1 ≤ a + n' → a ≤ s_nX S → RepR S μ' → FR μ μ' → (∃ C : Nat → Bool, (∀ j, μ'.1 65 j = ab_z (C j)) ∧ ∀ m, m < s_nX S → C m = s_X S O t m) → (∀ j, μ'.1 62 j = ab_z (s_o3 S O t a j)) → j 117 [some (.ref 43), some (.int (nI t)), some (.int (nI a))] [] μ' := by
    intro n'
    induction n' with
    | zero => intro a μ' h1 h2; omega
    | succ n' ih =>
      intro a μ' h1 h2 R hF hC r62
      obtain ⟨C, r65, hC⟩ := hC
      obtain ⟨r44, r45, r46, r47, r48, r49, r50, r51, r52, r53, r54, r55, r56, r57, r58, r59, r60, r61, g0, g2, g6, g16⟩ := RepR_fs R
      by_cases ha : a < s_nX S
      · have hca := hC a ha
        refine hj _ _ _ _ ?_
        repeat' (first | refine hjx _ _ _ _ (by decide) ?_ | (refine br_c (fun h => ?_) (fun h => ?_) <;> (try simp (disch := omega) only [nI_clamp, li_2, li_3, li_4, li_5, li_6, li_7, li_8, li_9, li_10, li_40, li_120, pk_mul, nI_add, nI_1, ix_eq, ix_lt, ix_le, ix_l0, ix_l1, ix_n0, ix_p0, ix_1lt, ix_lt1, ix_1le, ix_le1, ix_le0, ix_0lt, ab_z0, ab_z1, i_10, i_01, eq_self, ab_ozn, ab_ozp, ab_o_some, not_true_eq_false, not_false_eq_true, Bool.not_eq_false, Bool.not_eq_true, Bool.not_eq_false', Bool.not_eq_true', Bool.false_eq_true, Bool.true_eq_false, reduceCtorEq, Option.isSome_some, Option.isSome_none, r44, r45, r46, r47, r48, r49, r50, r51, r52, r53, r54, r55, r56, r57, r58, r59, r60, r61, g0, g2, g6, g16, r62, r65] at h) <;> (try omega)) | (refine br_n (fun h => ?_) (fun h => ?_) <;> (try simp (disch := omega) only [nI_clamp, li_2, li_3, li_4, li_5, li_6, li_7, li_8, li_9, li_10, li_40, li_120, pk_mul, nI_add, nI_1, ix_eq, ix_lt, ix_le, ix_l0, ix_l1, ix_n0, ix_p0, ix_1lt, ix_lt1, ix_1le, ix_le1, ix_le0, ix_0lt, ab_z0, ab_z1, i_10, i_01, eq_self, ab_ozn, ab_ozp, ab_o_some, not_true_eq_false, not_false_eq_true, Bool.not_eq_false, Bool.not_eq_true, Bool.not_eq_false', Bool.not_eq_true', Bool.false_eq_true, Bool.true_eq_false, reduceCtorEq, Option.isSome_some, Option.isSome_none, r44, r45, r46, r47, r48, r49, r50, r51, r52, r53, r54, r55, r56, r57, r58, r59, r60, r61, g0, g2, g6, g16, r62, r65] at h) <;> (try omega)) | refine ab_sd (by first | (with_reducible refine vp_in_nI ?_ ?_ <;> omega) | (simp (disch := omega) only [nI_clamp, li_2, li_3, li_4, li_5, li_6, li_7, li_8, li_9, li_10, li_40, li_120, pk_mul, nI_add, nI_1, ix_eq, ix_lt, ix_le, ix_l0, ix_l1, ix_n0, ix_p0, ix_1lt, ix_lt1, ix_1le, ix_le1, ix_le0, ix_0lt, ab_z0, ab_z1, i_10, i_01, eq_self, ab_ozn, ab_ozp, ab_o_some, not_true_eq_false, not_false_eq_true, Bool.not_eq_false, Bool.not_eq_true, Bool.not_eq_false', Bool.not_eq_true', Bool.false_eq_true, Bool.true_eq_false, reduceCtorEq, Option.isSome_some, Option.isSome_none, r44, r45, r46, r47, r48, r49, r50, r51, r52, r53, r54, r55, r56, r57, r58, r59, r60, r61, g0, g2, g6, g16, r62, r65]; with_reducible refine vp_in_nI ?_ ?_ <;> omega)) ?_ | refine ab_sd ?_ ?_ | refine ab_sz (Or.inl rfl) ?_ | refine ab_sz (Or.inr rfl) ?_ | refine ab_sz ?_ ?_)
        · simp (disch := omega) only [nI_clamp, li_2, li_3, li_4, li_5, li_6, li_7, li_8, li_9, li_10, li_40, li_120, pk_mul, nI_add, nI_1, ix_eq, ix_lt, ix_le, ix_l0, ix_l1, ix_n0, ix_p0, ix_1lt, ix_lt1, ix_1le, ix_le1, ix_le0, ix_0lt, ab_z0, ab_z1, i_10, i_01, eq_self, ab_ozn, ab_ozp, ab_o_some, not_true_eq_false, not_false_eq_true, Bool.not_eq_false, Bool.not_eq_true, Bool.not_eq_false', Bool.not_eq_true', Bool.false_eq_true, Bool.true_eq_false, reduceCtorEq, Option.isSome_some, Option.isSome_none, r44, r45, r46, r47, r48, r49, r50, r51, r52, r53, r54, r55, r56, r57, r58, r59, r60, r61, g0, g2, g6, g16, r62, r65, ab_zor]
          grind
        · show j 117 _ _ _
          simp (disch := omega) only [nI_clamp, li_2, li_3, li_4, li_5, li_6, li_7, li_8, li_9, li_10, li_40, li_120, pk_mul, nI_add, nI_1, ix_eq, ix_lt, ix_le, ix_l0, ix_l1, ix_n0, ix_p0, ix_1lt, ix_lt1, ix_1le, ix_le1, ix_le0, ix_0lt, ab_z0, ab_z1, i_10, i_01, eq_self, ab_ozn, ab_ozp, ab_o_some, not_true_eq_false, not_false_eq_true, Bool.not_eq_false, Bool.not_eq_true, Bool.not_eq_false', Bool.not_eq_true', Bool.false_eq_true, Bool.true_eq_false, reduceCtorEq, Option.isSome_some, Option.isSome_none, r44, r45, r46, r47, r48, r49, r50, r51, r52, r53, r54, r55, r56, r57, r58, r59, r60, r61, g0, g2, g6, g16, r62, r65, ab_zor]
          refine ih (a + 1) _ (by omega) (by omega) (rep_c R rfl rfl ⟨by decide, by decide⟩) (hF.mi (Or.inl rfl)) ⟨C, fun j => by rw [mi_ne (by omega)]; exact r65 j, hC⟩ ?_
          rw [hca]
          exact bool_up r62 (s_o3_s ha hX)
      · have ha2 : a = s_nX S := by omega
        refine hj _ _ _ _ ?_
        repeat' (first | refine hjx _ _ _ _ (by decide) ?_ | (refine br_c (fun h => ?_) (fun h => ?_) <;> (try simp (disch := omega) only [nI_clamp, li_2, li_3, li_4, li_5, li_6, li_7, li_8, li_9, li_10, li_40, li_120, pk_mul, nI_add, nI_1, ix_eq, ix_lt, ix_le, ix_l0, ix_l1, ix_n0, ix_p0, ix_1lt, ix_lt1, ix_1le, ix_le1, ix_le0, ix_0lt, ab_z0, ab_z1, i_10, i_01, eq_self, ab_ozn, ab_ozp, ab_o_some, not_true_eq_false, not_false_eq_true, Bool.not_eq_false, Bool.not_eq_true, Bool.not_eq_false', Bool.not_eq_true', Bool.false_eq_true, Bool.true_eq_false, reduceCtorEq, Option.isSome_some, Option.isSome_none, r44, r45, r46, r47, r48, r49, r50, r51, r52, r53, r54, r55, r56, r57, r58, r59, r60, r61, g0, g2, g6, g16] at h) <;> (try omega)) | (refine br_n (fun h => ?_) (fun h => ?_) <;> (try simp (disch := omega) only [nI_clamp, li_2, li_3, li_4, li_5, li_6, li_7, li_8, li_9, li_10, li_40, li_120, pk_mul, nI_add, nI_1, ix_eq, ix_lt, ix_le, ix_l0, ix_l1, ix_n0, ix_p0, ix_1lt, ix_lt1, ix_1le, ix_le1, ix_le0, ix_0lt, ab_z0, ab_z1, i_10, i_01, eq_self, ab_ozn, ab_ozp, ab_o_some, not_true_eq_false, not_false_eq_true, Bool.not_eq_false, Bool.not_eq_true, Bool.not_eq_false', Bool.not_eq_true', Bool.false_eq_true, Bool.true_eq_false, reduceCtorEq, Option.isSome_some, Option.isSome_none, r44, r45, r46, r47, r48, r49, r50, r51, r52, r53, r54, r55, r56, r57, r58, r59, r60, r61, g0, g2, g6, g16] at h) <;> (try omega)) | refine ab_sd (by first | (with_reducible refine vp_in_nI ?_ ?_ <;> omega) | (simp (disch := omega) only [nI_clamp, li_2, li_3, li_4, li_5, li_6, li_7, li_8, li_9, li_10, li_40, li_120, pk_mul, nI_add, nI_1, ix_eq, ix_lt, ix_le, ix_l0, ix_l1, ix_n0, ix_p0, ix_1lt, ix_lt1, ix_1le, ix_le1, ix_le0, ix_0lt, ab_z0, ab_z1, i_10, i_01, eq_self, ab_ozn, ab_ozp, ab_o_some, not_true_eq_false, not_false_eq_true, Bool.not_eq_false, Bool.not_eq_true, Bool.not_eq_false', Bool.not_eq_true', Bool.false_eq_true, Bool.true_eq_false, reduceCtorEq, Option.isSome_some, Option.isSome_none, r44, r45, r46, r47, r48, r49, r50, r51, r52, r53, r54, r55, r56, r57, r58, r59, r60, r61, g0, g2, g6, g16]; with_reducible refine vp_in_nI ?_ ?_ <;> omega)) ?_ | refine ab_sd ?_ ?_ | refine ab_sz (Or.inl rfl) ?_ | refine ab_sz (Or.inr rfl) ?_ | refine ab_sz ?_ ?_)
        refine hQ μ' R hF ⟨C, r65⟩ (fun j => ?_)
        rw [r62 j, ha2]
        unfold s_o3
        by_cases h9 : j / 120 = t ∧ j % 120 < s_nX S
        · rw [if_pos h9, if_pos h9, ← s_AX]
          simp [h9.2]
        · rw [if_neg h9, if_neg h9]
  have loop2 : ∀ n' a μ', s_nX S + 1 ≤ a + n' → a ≤ s_nX S → RepR S μ' → FR μ μ' → (∃ C : Nat → Bool, (∀ j, μ'.1 65 j = ab_z (C j)) ∧ ∀ m, m < a → C m = s_X S O t m) → (∀ j, μ'.1 62 j = ab_z (s_o1 S O t (s_nX S) j)) → j 50 [some (.ref 43), some (.int (nI t)), some (.int (nI a))] [] μ' := by
    intro n'
    induction n' with
    | zero => intro a μ' h1 h2; omega
    | succ n' ih =>
      intro a μ' h1 h2 R hF hC r62
      obtain ⟨C, r65, hC⟩ := hC
      obtain ⟨r44, r45, r46, r47, r48, r49, r50, r51, r52, r53, r54, r55, r56, r57, r58, r59, r60, r61, g0, g2, g6, g16⟩ := RepR_fs R
      by_cases ha : a < s_nX S
      · obtain ⟨a1, a2, a3, a4, a5⟩ := hW.2.2.2.2.2.2 a ha
        have c1 : s_o1 S O t (s_nX S) (120 * t + a) = s_A S O t a := by
          unfold s_o1
          rw [if_pos (by omega), show (120 * t + a) % 120 = a by omega]
        have c2 := s_iof_c (m := a) (s_o1_eqr (S := S) (O := O) (t := t) (a := s_nX S)) hft (by omega)
        have c3 := s_bh_c (m := a) hX (s_o1_eqr (S := S) (O := O) (t := t) (a := s_nX S)) hpt hft
        have dn : (s_dec S t (S.1 58 a) (S.1 59 a)).isNone = !(s_dec S t (S.1 58 a) (S.1 59 a)).isSome := by cases s_dec S t (S.1 58 a) (S.1 59 a) <;> rfl
        have d1 := ab_o_pos2 (o := s_dec S t (S.1 58 a) (S.1 59 a)) (fun m hm => by have := s_dec_lt hW hm; omega)
        have ih : ∀ b : Bool, b = s_X S O t a → j 50 [some (.ref 43), some (.int (nI t)), some (.int (nI (a + 1)))] [] (ab_mi μ' 65 a (ab_z b)) := by
          intro b hb
          refine ih (a + 1) _ (by omega) (by omega) (rep_c R rfl rfl ⟨by decide, by decide⟩) (hF.mi (Or.inr rfl)) ⟨fun j => if j = a then b else C j, bool_up r65 (fun j => rfl), fun m hm => ?_⟩ (fun j => by rw [mi_ne (by omega)]; exact r62 j)
          by_cases e : m = a
          · subst e; simp [hb]
          · simp only [e, if_false]; exact hC m (by omega)
        refine hj _ _ _ _ ?_
        repeat' (first | refine hjx _ _ _ _ (by decide) ?_ | (refine br_c (fun h => ?_) (fun h => ?_) <;> (try simp (disch := omega) only [nI_clamp, li_2, li_3, li_4, li_5, li_6, li_7, li_8, li_9, li_10, li_40, li_120, pk_mul, nI_add, nI_1, ix_eq, ix_lt, ix_le, ix_l0, ix_l1, ix_n0, ix_p0, ix_1lt, ix_lt1, ix_1le, ix_le1, ix_le0, ix_0lt, ab_z0, ab_z1, i_10, i_01, eq_self, ab_ozn, ab_ozp, ab_o_some, not_true_eq_false, not_false_eq_true, Bool.not_eq_false, Bool.not_eq_true, Bool.not_eq_false', Bool.not_eq_true', Bool.false_eq_true, Bool.true_eq_false, reduceCtorEq, Option.isSome_some, Option.isSome_none, r44, r45, r46, r47, r48, r49, r50, r51, r52, r53, r54, r55, r56, r57, r58, r59, r60, r61, g0, g2, g6, g16, r62, r65, c1, d1] at h) <;> (try omega)) | (refine br_n (fun h => ?_) (fun h => ?_) <;> (try simp (disch := omega) only [nI_clamp, li_2, li_3, li_4, li_5, li_6, li_7, li_8, li_9, li_10, li_40, li_120, pk_mul, nI_add, nI_1, ix_eq, ix_lt, ix_le, ix_l0, ix_l1, ix_n0, ix_p0, ix_1lt, ix_lt1, ix_1le, ix_le1, ix_le0, ix_0lt, ab_z0, ab_z1, i_10, i_01, eq_self, ab_ozn, ab_ozp, ab_o_some, not_true_eq_false, not_false_eq_true, Bool.not_eq_false, Bool.not_eq_true, Bool.not_eq_false', Bool.not_eq_true', Bool.false_eq_true, Bool.true_eq_false, reduceCtorEq, Option.isSome_some, Option.isSome_none, r44, r45, r46, r47, r48, r49, r50, r51, r52, r53, r54, r55, r56, r57, r58, r59, r60, r61, g0, g2, g6, g16, r62, r65, c1, d1] at h) <;> (try omega)) | refine ab_sd (by first | (with_reducible refine vp_in_nI ?_ ?_ <;> omega) | (simp (disch := omega) only [nI_clamp, li_2, li_3, li_4, li_5, li_6, li_7, li_8, li_9, li_10, li_40, li_120, pk_mul, nI_add, nI_1, ix_eq, ix_lt, ix_le, ix_l0, ix_l1, ix_n0, ix_p0, ix_1lt, ix_lt1, ix_1le, ix_le1, ix_le0, ix_0lt, ab_z0, ab_z1, i_10, i_01, eq_self, ab_ozn, ab_ozp, ab_o_some, not_true_eq_false, not_false_eq_true, Bool.not_eq_false, Bool.not_eq_true, Bool.not_eq_false', Bool.not_eq_true', Bool.false_eq_true, Bool.true_eq_false, reduceCtorEq, Option.isSome_some, Option.isSome_none, r44, r45, r46, r47, r48, r49, r50, r51, r52, r53, r54, r55, r56, r57, r58, r59, r60, r61, g0, g2, g6, g16, r62, r65, c1, d1]; with_reducible refine vp_in_nI ?_ ?_ <;> omega)) ?_ | refine r_declared hω R hW (t := t) (k := S.1 58 a) (n := S.1 59 a) rfl (by simp (disch := omega) only [nI_clamp, li_2, li_3, li_4, li_5, li_6, li_7, li_8, li_9, li_10, li_40, li_120, pk_mul, nI_add, nI_1, ix_eq, ix_lt, ix_le, ix_l0, ix_l1, ix_n0, ix_p0, ix_1lt, ix_lt1, ix_1le, ix_le1, ix_le0, ix_0lt, ab_z0, ab_z1, i_10, i_01, eq_self, ab_ozn, ab_ozp, ab_o_some, not_true_eq_false, not_false_eq_true, Bool.not_eq_false, Bool.not_eq_true, Bool.not_eq_false', Bool.not_eq_true', Bool.false_eq_true, Bool.true_eq_false, reduceCtorEq, Option.isSome_some, Option.isSome_none, r44, r45, r46, r47, r48, r49, r50, r51, r52, r53, r54, r55, r56, r57, r58, r59, r60, r61, g0, g2, g6, g16]) (by simp (disch := omega) only [nI_clamp, li_2, li_3, li_4, li_5, li_6, li_7, li_8, li_9, li_10, li_40, li_120, pk_mul, nI_add, nI_1, ix_eq, ix_lt, ix_le, ix_l0, ix_l1, ix_n0, ix_p0, ix_1lt, ix_lt1, ix_1le, ix_le1, ix_le0, ix_0lt, ab_z0, ab_z1, i_10, i_01, eq_self, ab_ozn, ab_ozp, ab_o_some, not_true_eq_false, not_false_eq_true, Bool.not_eq_false, Bool.not_eq_true, Bool.not_eq_false', Bool.not_eq_true', Bool.false_eq_true, Bool.true_eq_false, reduceCtorEq, Option.isSome_some, Option.isSome_none, r44, r45, r46, r47, r48, r49, r50, r51, r52, r53, r54, r55, r56, r57, r58, r59, r60, r61, g0, g2, g6, g16]) (by omega) (by omega) (by omega) ?_ | refine r_isOfFace hω R hW r62 (t := t) (m := a) rfl rfl ht (by omega) ?_ | refine r_isPlain hω R hW (m := a) rfl ha ?_ | refine r_isBehind hω R hW r62 (t := t) (m := a) rfl rfl ht ha ?_ | refine ab_sd ?_ ?_ | refine ab_sz (Or.inl rfl) ?_ | refine ab_sz (Or.inr rfl) ?_ | refine ab_sz ?_ ?_)
        all_goals (show j 50 _ _ _; simp (disch := omega) only [nI_clamp, li_2, li_3, li_4, li_5, li_6, li_7, li_8, li_9, li_10, li_40, li_120, pk_mul, nI_add, nI_1, ix_eq, ix_lt, ix_le, ix_l0, ix_l1, ix_n0, ix_p0, ix_1lt, ix_lt1, ix_1le, ix_le1, ix_le0, ix_0lt, ab_z0, ab_z1, i_10, i_01, eq_self, ab_ozn, ab_ozp, ab_o_some, not_true_eq_false, not_false_eq_true, Bool.not_eq_false, Bool.not_eq_true, Bool.not_eq_false', Bool.not_eq_true', Bool.false_eq_true, Bool.true_eq_false, reduceCtorEq, Option.isSome_some, Option.isSome_none, r44, r45, r46, r47, r48, r49, r50, r51, r52, r53, r54, r55, r56, r57, r58, r59, r60, r61, g0, g2, g6, g16]; first | exact ih true (by unfold s_X; rw [dn]; clear dn; simp_all) | exact ih false (by unfold s_X; rw [dn]; clear dn; simp_all))
      · have ha2 : a = s_nX S := by omega
        refine hj _ _ _ _ ?_
        repeat' (first | refine hjx _ _ _ _ (by decide) ?_ | (refine br_c (fun h => ?_) (fun h => ?_) <;> (try simp (disch := omega) only [nI_clamp, li_2, li_3, li_4, li_5, li_6, li_7, li_8, li_9, li_10, li_40, li_120, pk_mul, nI_add, nI_1, ix_eq, ix_lt, ix_le, ix_l0, ix_l1, ix_n0, ix_p0, ix_1lt, ix_lt1, ix_1le, ix_le1, ix_le0, ix_0lt, ab_z0, ab_z1, i_10, i_01, eq_self, ab_ozn, ab_ozp, ab_o_some, not_true_eq_false, not_false_eq_true, Bool.not_eq_false, Bool.not_eq_true, Bool.not_eq_false', Bool.not_eq_true', Bool.false_eq_true, Bool.true_eq_false, reduceCtorEq, Option.isSome_some, Option.isSome_none, r44, r45, r46, r47, r48, r49, r50, r51, r52, r53, r54, r55, r56, r57, r58, r59, r60, r61, g0, g2, g6, g16] at h) <;> (try omega)) | (refine br_n (fun h => ?_) (fun h => ?_) <;> (try simp (disch := omega) only [nI_clamp, li_2, li_3, li_4, li_5, li_6, li_7, li_8, li_9, li_10, li_40, li_120, pk_mul, nI_add, nI_1, ix_eq, ix_lt, ix_le, ix_l0, ix_l1, ix_n0, ix_p0, ix_1lt, ix_lt1, ix_1le, ix_le1, ix_le0, ix_0lt, ab_z0, ab_z1, i_10, i_01, eq_self, ab_ozn, ab_ozp, ab_o_some, not_true_eq_false, not_false_eq_true, Bool.not_eq_false, Bool.not_eq_true, Bool.not_eq_false', Bool.not_eq_true', Bool.false_eq_true, Bool.true_eq_false, reduceCtorEq, Option.isSome_some, Option.isSome_none, r44, r45, r46, r47, r48, r49, r50, r51, r52, r53, r54, r55, r56, r57, r58, r59, r60, r61, g0, g2, g6, g16] at h) <;> (try omega)) | refine ab_sd (by first | (with_reducible refine vp_in_nI ?_ ?_ <;> omega) | (simp (disch := omega) only [nI_clamp, li_2, li_3, li_4, li_5, li_6, li_7, li_8, li_9, li_10, li_40, li_120, pk_mul, nI_add, nI_1, ix_eq, ix_lt, ix_le, ix_l0, ix_l1, ix_n0, ix_p0, ix_1lt, ix_lt1, ix_1le, ix_le1, ix_le0, ix_0lt, ab_z0, ab_z1, i_10, i_01, eq_self, ab_ozn, ab_ozp, ab_o_some, not_true_eq_false, not_false_eq_true, Bool.not_eq_false, Bool.not_eq_true, Bool.not_eq_false', Bool.not_eq_true', Bool.false_eq_true, Bool.true_eq_false, reduceCtorEq, Option.isSome_some, Option.isSome_none, r44, r45, r46, r47, r48, r49, r50, r51, r52, r53, r54, r55, r56, r57, r58, r59, r60, r61, g0, g2, g6, g16]; with_reducible refine vp_in_nI ?_ ?_ <;> omega)) ?_ | refine ab_sd ?_ ?_ | refine ab_sz (Or.inl rfl) ?_ | refine ab_sz (Or.inr rfl) ?_ | refine ab_sz ?_ ?_)
        refine loop3 (s_nX S + 1) 0 μ' (by omega) (by omega) R hF ⟨C, r65, fun m hm => hC m (by omega)⟩ (fun j => ?_)
        rw [r62 j, s_o1_o3]
  have loop1 : ∀ n' a μ', s_nX S + 1 ≤ a + n' → a ≤ s_nX S → RepR S μ' → FR μ μ' → (∃ C : Nat → Bool, ∀ j, μ'.1 65 j = ab_z (C j)) → (∀ j, μ'.1 62 j = ab_z (s_o1 S O t a j)) → j 2 [some (.ref 43), some (.int (nI t)), some (.int (nI a))] [] μ' := by
    intro n'
    induction n' with
    | zero => intro a μ' h1 h2; omega
    | succ n' ih =>
      intro a μ' h1 h2 R hF hC r62
      obtain ⟨C, r65⟩ := hC
      obtain ⟨r44, r45, r46, r47, r48, r49, r50, r51, r52, r53, r54, r55, r56, r57, r58, r59, r60, r61, g0, g2, g6, g16⟩ := RepR_fs R
      by_cases ha : a < s_nX S
      · obtain ⟨a1, a2, a3, a4, a5⟩ := hW.2.2.2.2.2.2 a ha
        have c2 := s_cfp_c (m := a) (s_o1_eqr (S := S) (O := O) (t := t) (a := a)) hpt (by omega)
        have dn : (s_dec S t (S.1 58 a) (S.1 59 a)).isNone = !(s_dec S t (S.1 58 a) (S.1 59 a)).isSome := by cases s_dec S t (S.1 58 a) (S.1 59 a) <;> rfl
        have d1 := ab_o_pos2 (o := s_dec S t (S.1 58 a) (S.1 59 a)) (fun m hm => by have := s_dec_lt hW hm; omega)
        have ih : ∀ b : Bool, b = s_A S O t a → j 2 [some (.ref 43), some (.int (nI t)), some (.int (nI (a + 1)))] [] (ab_mi μ' 62 (120 * t + a) (ab_z b)) := by
          intro b hb
          refine ih (a + 1) _ (by omega) (by omega) (rep_c R rfl rfl ⟨by decide, by decide⟩) (hF.mi (Or.inl rfl)) ⟨C, fun j => by rw [mi_ne (by omega)]; exact r65 j⟩ ?_
          rw [hb]
          exact bool_up r62 (s_o1_s (by omega))
        refine hj _ _ _ _ ?_
        repeat' (first | refine hjx _ _ _ _ (by decide) ?_ | (refine br_c (fun h => ?_) (fun h => ?_) <;> (try simp (disch := omega) only [nI_clamp, li_2, li_3, li_4, li_5, li_6, li_7, li_8, li_9, li_10, li_40, li_120, pk_mul, nI_add, nI_1, ix_eq, ix_lt, ix_le, ix_l0, ix_l1, ix_n0, ix_p0, ix_1lt, ix_lt1, ix_1le, ix_le1, ix_le0, ix_0lt, ab_z0, ab_z1, i_10, i_01, eq_self, ab_ozn, ab_ozp, ab_o_some, not_true_eq_false, not_false_eq_true, Bool.not_eq_false, Bool.not_eq_true, Bool.not_eq_false', Bool.not_eq_true', Bool.false_eq_true, Bool.true_eq_false, reduceCtorEq, Option.isSome_some, Option.isSome_none, r44, r45, r46, r47, r48, r49, r50, r51, r52, r53, r54, r55, r56, r57, r58, r59, r60, r61, g0, g2, g6, g16, r62, r65, d1] at h) <;> (try omega)) | (refine br_n (fun h => ?_) (fun h => ?_) <;> (try simp (disch := omega) only [nI_clamp, li_2, li_3, li_4, li_5, li_6, li_7, li_8, li_9, li_10, li_40, li_120, pk_mul, nI_add, nI_1, ix_eq, ix_lt, ix_le, ix_l0, ix_l1, ix_n0, ix_p0, ix_1lt, ix_lt1, ix_1le, ix_le1, ix_le0, ix_0lt, ab_z0, ab_z1, i_10, i_01, eq_self, ab_ozn, ab_ozp, ab_o_some, not_true_eq_false, not_false_eq_true, Bool.not_eq_false, Bool.not_eq_true, Bool.not_eq_false', Bool.not_eq_true', Bool.false_eq_true, Bool.true_eq_false, reduceCtorEq, Option.isSome_some, Option.isSome_none, r44, r45, r46, r47, r48, r49, r50, r51, r52, r53, r54, r55, r56, r57, r58, r59, r60, r61, g0, g2, g6, g16, r62, r65, d1] at h) <;> (try omega)) | refine ab_sd (by first | (with_reducible refine vp_in_nI ?_ ?_ <;> omega) | (simp (disch := omega) only [nI_clamp, li_2, li_3, li_4, li_5, li_6, li_7, li_8, li_9, li_10, li_40, li_120, pk_mul, nI_add, nI_1, ix_eq, ix_lt, ix_le, ix_l0, ix_l1, ix_n0, ix_p0, ix_1lt, ix_lt1, ix_1le, ix_le1, ix_le0, ix_0lt, ab_z0, ab_z1, i_10, i_01, eq_self, ab_ozn, ab_ozp, ab_o_some, not_true_eq_false, not_false_eq_true, Bool.not_eq_false, Bool.not_eq_true, Bool.not_eq_false', Bool.not_eq_true', Bool.false_eq_true, Bool.true_eq_false, reduceCtorEq, Option.isSome_some, Option.isSome_none, r44, r45, r46, r47, r48, r49, r50, r51, r52, r53, r54, r55, r56, r57, r58, r59, r60, r61, g0, g2, g6, g16, r62, r65, d1]; with_reducible refine vp_in_nI ?_ ?_ <;> omega)) ?_ | refine r_declared hω R hW (t := t) (k := S.1 58 a) (n := S.1 59 a) rfl (by simp (disch := omega) only [nI_clamp, li_2, li_3, li_4, li_5, li_6, li_7, li_8, li_9, li_10, li_40, li_120, pk_mul, nI_add, nI_1, ix_eq, ix_lt, ix_le, ix_l0, ix_l1, ix_n0, ix_p0, ix_1lt, ix_lt1, ix_1le, ix_le1, ix_le0, ix_0lt, ab_z0, ab_z1, i_10, i_01, eq_self, ab_ozn, ab_ozp, ab_o_some, not_true_eq_false, not_false_eq_true, Bool.not_eq_false, Bool.not_eq_true, Bool.not_eq_false', Bool.not_eq_true', Bool.false_eq_true, Bool.true_eq_false, reduceCtorEq, Option.isSome_some, Option.isSome_none, r44, r45, r46, r47, r48, r49, r50, r51, r52, r53, r54, r55, r56, r57, r58, r59, r60, r61, g0, g2, g6, g16]) (by simp (disch := omega) only [nI_clamp, li_2, li_3, li_4, li_5, li_6, li_7, li_8, li_9, li_10, li_40, li_120, pk_mul, nI_add, nI_1, ix_eq, ix_lt, ix_le, ix_l0, ix_l1, ix_n0, ix_p0, ix_1lt, ix_lt1, ix_1le, ix_le1, ix_le0, ix_0lt, ab_z0, ab_z1, i_10, i_01, eq_self, ab_ozn, ab_ozp, ab_o_some, not_true_eq_false, not_false_eq_true, Bool.not_eq_false, Bool.not_eq_true, Bool.not_eq_false', Bool.not_eq_true', Bool.false_eq_true, Bool.true_eq_false, reduceCtorEq, Option.isSome_some, Option.isSome_none, r44, r45, r46, r47, r48, r49, r50, r51, r52, r53, r54, r55, r56, r57, r58, r59, r60, r61, g0, g2, g6, g16]) (by omega) (by omega) (by omega) ?_ | refine r_comesFromParent hω R hW r62 (t := t) (m := a) rfl rfl ht ha ?_ | refine ab_sd ?_ ?_ | refine ab_sz (Or.inl rfl) ?_ | refine ab_sz (Or.inr rfl) ?_ | refine ab_sz ?_ ?_)
        all_goals (show j 2 _ _ _; simp (disch := omega) only [nI_clamp, li_2, li_3, li_4, li_5, li_6, li_7, li_8, li_9, li_10, li_40, li_120, pk_mul, nI_add, nI_1, ix_eq, ix_lt, ix_le, ix_l0, ix_l1, ix_n0, ix_p0, ix_1lt, ix_lt1, ix_1le, ix_le1, ix_le0, ix_0lt, ab_z0, ab_z1, i_10, i_01, eq_self, ab_ozn, ab_ozp, ab_o_some, not_true_eq_false, not_false_eq_true, Bool.not_eq_false, Bool.not_eq_true, Bool.not_eq_false', Bool.not_eq_true', Bool.false_eq_true, Bool.true_eq_false, reduceCtorEq, Option.isSome_some, Option.isSome_none, r44, r45, r46, r47, r48, r49, r50, r51, r52, r53, r54, r55, r56, r57, r58, r59, r60, r61, g0, g2, g6, g16]; first | exact ih true (by unfold s_A; rw [dn]; clear dn; simp_all) | exact ih false (by unfold s_A; rw [dn]; clear dn; simp_all))
      · have ha2 : a = s_nX S := by omega
        refine hj _ _ _ _ ?_
        repeat' (first | refine hjx _ _ _ _ (by decide) ?_ | (refine br_c (fun h => ?_) (fun h => ?_) <;> (try simp (disch := omega) only [nI_clamp, li_2, li_3, li_4, li_5, li_6, li_7, li_8, li_9, li_10, li_40, li_120, pk_mul, nI_add, nI_1, ix_eq, ix_lt, ix_le, ix_l0, ix_l1, ix_n0, ix_p0, ix_1lt, ix_lt1, ix_1le, ix_le1, ix_le0, ix_0lt, ab_z0, ab_z1, i_10, i_01, eq_self, ab_ozn, ab_ozp, ab_o_some, not_true_eq_false, not_false_eq_true, Bool.not_eq_false, Bool.not_eq_true, Bool.not_eq_false', Bool.not_eq_true', Bool.false_eq_true, Bool.true_eq_false, reduceCtorEq, Option.isSome_some, Option.isSome_none, r44, r45, r46, r47, r48, r49, r50, r51, r52, r53, r54, r55, r56, r57, r58, r59, r60, r61, g0, g2, g6, g16] at h) <;> (try omega)) | (refine br_n (fun h => ?_) (fun h => ?_) <;> (try simp (disch := omega) only [nI_clamp, li_2, li_3, li_4, li_5, li_6, li_7, li_8, li_9, li_10, li_40, li_120, pk_mul, nI_add, nI_1, ix_eq, ix_lt, ix_le, ix_l0, ix_l1, ix_n0, ix_p0, ix_1lt, ix_lt1, ix_1le, ix_le1, ix_le0, ix_0lt, ab_z0, ab_z1, i_10, i_01, eq_self, ab_ozn, ab_ozp, ab_o_some, not_true_eq_false, not_false_eq_true, Bool.not_eq_false, Bool.not_eq_true, Bool.not_eq_false', Bool.not_eq_true', Bool.false_eq_true, Bool.true_eq_false, reduceCtorEq, Option.isSome_some, Option.isSome_none, r44, r45, r46, r47, r48, r49, r50, r51, r52, r53, r54, r55, r56, r57, r58, r59, r60, r61, g0, g2, g6, g16] at h) <;> (try omega)) | refine ab_sd (by first | (with_reducible refine vp_in_nI ?_ ?_ <;> omega) | (simp (disch := omega) only [nI_clamp, li_2, li_3, li_4, li_5, li_6, li_7, li_8, li_9, li_10, li_40, li_120, pk_mul, nI_add, nI_1, ix_eq, ix_lt, ix_le, ix_l0, ix_l1, ix_n0, ix_p0, ix_1lt, ix_lt1, ix_1le, ix_le1, ix_le0, ix_0lt, ab_z0, ab_z1, i_10, i_01, eq_self, ab_ozn, ab_ozp, ab_o_some, not_true_eq_false, not_false_eq_true, Bool.not_eq_false, Bool.not_eq_true, Bool.not_eq_false', Bool.not_eq_true', Bool.false_eq_true, Bool.true_eq_false, reduceCtorEq, Option.isSome_some, Option.isSome_none, r44, r45, r46, r47, r48, r49, r50, r51, r52, r53, r54, r55, r56, r57, r58, r59, r60, r61, g0, g2, g6, g16]; with_reducible refine vp_in_nI ?_ ?_ <;> omega)) ?_ | refine ab_sd ?_ ?_ | refine ab_sz (Or.inl rfl) ?_ | refine ab_sz (Or.inr rfl) ?_ | refine ab_sz ?_ ?_)
        exact loop2 (s_nX S + 1) 0 μ' (by omega) (by omega) R hF ⟨C, r65, fun m hm => by omega⟩ (by rw [← ha2]; exact r62)
  obtain ⟨r44, r45, r46, r47, r48, r49, r50, r51, r52, r53, r54, r55, r56, r57, r58, r59, r60, r61, g0, g2, g6, g16⟩ := RepR_fs R
  repeat' (first | refine hjx _ _ _ _ (by decide) ?_ | (refine br_c (fun h => ?_) (fun h => ?_) <;> (try simp (disch := omega) only [nI_clamp, li_2, li_3, li_4, li_5, li_6, li_7, li_8, li_9, li_10, li_40, li_120, pk_mul, nI_add, nI_1, ix_eq, ix_lt, ix_le, ix_l0, ix_l1, ix_n0, ix_p0, ix_1lt, ix_lt1, ix_1le, ix_le1, ix_le0, ix_0lt, ab_z0, ab_z1, i_10, i_01, eq_self, ab_ozn, ab_ozp, ab_o_some, not_true_eq_false, not_false_eq_true, Bool.not_eq_false, Bool.not_eq_true, Bool.not_eq_false', Bool.not_eq_true', Bool.false_eq_true, Bool.true_eq_false, reduceCtorEq, Option.isSome_some, Option.isSome_none, r44, r45, r46, r47, r48, r49, r50, r51, r52, r53, r54, r55, r56, r57, r58, r59, r60, r61, g0, g2, g6, g16] at h) <;> (try omega)) | (refine br_n (fun h => ?_) (fun h => ?_) <;> (try simp (disch := omega) only [nI_clamp, li_2, li_3, li_4, li_5, li_6, li_7, li_8, li_9, li_10, li_40, li_120, pk_mul, nI_add, nI_1, ix_eq, ix_lt, ix_le, ix_l0, ix_l1, ix_n0, ix_p0, ix_1lt, ix_lt1, ix_1le, ix_le1, ix_le0, ix_0lt, ab_z0, ab_z1, i_10, i_01, eq_self, ab_ozn, ab_ozp, ab_o_some, not_true_eq_false, not_false_eq_true, Bool.not_eq_false, Bool.not_eq_true, Bool.not_eq_false', Bool.not_eq_true', Bool.false_eq_true, Bool.true_eq_false, reduceCtorEq, Option.isSome_some, Option.isSome_none, r44, r45, r46, r47, r48, r49, r50, r51, r52, r53, r54, r55, r56, r57, r58, r59, r60, r61, g0, g2, g6, g16] at h) <;> (try omega)) | refine ab_sd (by first | (with_reducible refine vp_in_nI ?_ ?_ <;> omega) | (simp (disch := omega) only [nI_clamp, li_2, li_3, li_4, li_5, li_6, li_7, li_8, li_9, li_10, li_40, li_120, pk_mul, nI_add, nI_1, ix_eq, ix_lt, ix_le, ix_l0, ix_l1, ix_n0, ix_p0, ix_1lt, ix_lt1, ix_1le, ix_le1, ix_le0, ix_0lt, ab_z0, ab_z1, i_10, i_01, eq_self, ab_ozn, ab_ozp, ab_o_some, not_true_eq_false, not_false_eq_true, Bool.not_eq_false, Bool.not_eq_true, Bool.not_eq_false', Bool.not_eq_true', Bool.false_eq_true, Bool.true_eq_false, reduceCtorEq, Option.isSome_some, Option.isSome_none, r44, r45, r46, r47, r48, r49, r50, r51, r52, r53, r54, r55, r56, r57, r58, r59, r60, r61, g0, g2, g6, g16]; with_reducible refine vp_in_nI ?_ ?_ <;> omega)) ?_ | refine ab_sd ?_ ?_ | refine ab_sz (Or.inl rfl) ?_ | refine ab_sz (Or.inr rfl) ?_ | refine ab_sz ?_ ?_)
  exact loop1 (s_nX S + 1) 0 μ (by omega) (by omega) R FR.rf r65 (fun j => by rw [r62 j]; unfold s_o1; rw [if_neg (by omega)])
end R13
end
section
/-! findOvers -/
def s_dir (S : sT) (d a : Nat) : Bool := s_can S d a && (!(S.1 60 a == 1) || S.1 48 (S.1 57 d) == S.1 48 (S.1 57 a))
def s_ovS (S : sT) (V : Nat → Bool) (d a : Nat) : Bool := s_can S d a && ((!(S.1 60 a == 1) || S.1 48 (S.1 57 d) == S.1 48 (S.1 57 a)) || s_by S V d a)
def FO (μ μ' : ab_M) : Prop := SameC μ μ' ∧ μ'.1 62 = μ.1 62 ∧ μ'.1 63 = μ.1 63 ∧ μ'.1 65 = μ.1 65 ∧ μ'.1 43 22 = μ.1 43 22
theorem FO.rf {μ : ab_M} : FO μ μ := ⟨SameC.rf, rfl, rfl, rfl, rfl⟩
theorem FO.mi {μ μ' : ab_M} (h : FO μ μ') {j : Nat} {x : Int32} : FO μ (ab_mi μ' 64 j x) := by
  refine ⟨h.1.mi (by omega), ?_, ?_, ?_, ?_⟩
  · rw [← h.2.1]; funext b; simp [ab_mi]
  · rw [← h.2.2.1]; funext b; simp [ab_mi]
  · rw [← h.2.2.2.1]; funext b; simp [ab_mi]
  · rw [← h.2.2.2.2]; simp [ab_mi]
theorem ab_cnt_set {V V' : Nat → Bool} {i : Nat} (hi : V i = false) (h : ∀ j, V' j = if j = i then true else V j) : ∀ n, i < n → ab_cnt V' n = ab_cnt V n + 1
  | 0, h => by omega
  | n + 1, hin => by
    simp only [ab_cnt]
    by_cases e : i = n
    · subst e
      have : ab_cnt V' i = ab_cnt V i := ab_cnt_congr (fun j hj => by rw [h j, if_neg (by omega)])
      rw [this, h i, if_pos rfl, hi]
      simp
    · have e2 : V' n = V n := by rw [h n, if_neg (fun q => e q.symm)]
      rw [ab_cnt_set hi h n (by omega), e2]
      omega
theorem s_by_mono {S : sT} {V V' : Nat → Bool} (h : ∀ j, V j = true → V' j = true) {d a : Nat} (hb : s_by S V d a = true) : s_by S V' d a = true := by
  obtain ⟨b, h1, h2⟩ := ab_ex_iff.mp hb
  simp only [Bool.and_eq_true] at h2
  exact ab_ex_iff.mpr ⟨b, h1, by simp only [Bool.and_eq_true]; exact ⟨⟨h _ h2.1.1, h _ h2.1.2⟩, h2.2⟩⟩
def s_v1 (S : sT) (V : Nat → Bool) (d a j : Nat) : Bool := if j % 120 < s_nX S ∧ (j / 120 < d ∨ (j / 120 = d ∧ j % 120 < a)) then s_dir S (j / 120) (j % 120) else V j
theorem s_v1_s {S : sT} {V : Nat → Bool} {d a : Nat} (ha : a < s_nX S) (hX : s_nX S ≤ 120) (j : Nat) : s_v1 S V d (a + 1) j = if j = 120 * d + a then s_dir S d a else s_v1 S V d a j := by
  unfold s_v1
  by_cases e : j = 120 * d + a
  · subst e
    rw [if_pos rfl, if_pos (by omega), show (120 * d + a) / 120 = d by omega, show (120 * d + a) % 120 = a by omega]
  · rw [if_neg e]
    by_cases h : j % 120 < s_nX S ∧ (j / 120 < d ∨ (j / 120 = d ∧ j % 120 < a))
    · rw [if_pos h, if_pos (by omega)]
    · rw [if_neg h, if_neg (by omega)]
theorem s_v1_n {S : sT} {V : Nat → Bool} {d : Nat} (j : Nat) : s_v1 S V (d + 1) 0 j = s_v1 S V d (s_nX S) j := by
  unfold s_v1
  by_cases h : j % 120 < s_nX S ∧ (j / 120 < d ∨ (j / 120 = d ∧ j % 120 < s_nX S))
  · rw [if_pos h, if_pos (by omega)]
  · rw [if_neg h, if_neg (by omega)]
/-- supported, and with all that is direct -/
def s_IV (S : sT) (V : Nat → Bool) : Prop := ∀ d a, d < s_nX S → a < s_nX S → (s_dir S d a = true → V (120 * d + a) = true) ∧ (V (120 * d + a) = true → s_can S d a = true ∧ (s_dir S d a = true ∨ s_by S V d a = true))
def s_cl (S : sT) (V : Nat → Bool) (d a : Nat) : Prop := V (120 * d + a) = true ∨ s_can S d a = false ∨ s_by S V d a = false
theorem s_fix {S : sT} {V : Nat → Bool} (hI : s_IV S V) (hc : ∀ d a, d < s_nX S → a < s_nX S → s_cl S V d a) {d a : Nat} (hd : d < s_nX S) (ha : a < s_nX S) : V (120 * d + a) = s_ovS S V d a := by
  have h1 := hI d a hd ha
  have h2 := hc d a hd ha
  unfold s_dir at h1
  unfold s_cl at h2
  unfold s_ovS
  generalize s_can S d a = x at *
  generalize (!(S.1 60 a == 1) || S.1 48 (S.1 57 d) == S.1 48 (S.1 57 a)) = y at *
  generalize s_by S V d a = z at *
  generalize V (120 * d + a) = w at *
  cases x <;> cases y <;> cases z <;> cases w <;> simp_all
section R14
variable {l : Launch} {ω : ab_W} {S : sT} {μ : ab_M}
set_option maxHeartbeats 4000000 in
theorem r_findOvers {Q : ab_M → Prop} (hω : ω.2.2.2 = ab_SH) (R : RepR S μ) (hW : Wf S) (r64 : ∃ V : Nat → Bool, ∀ j, μ.1 64 j = ab_z (V j))
    (hQ : ∀ μ' V, RepR S μ' → FO μ μ' → (∀ j, μ'.1 64 j = ab_z (V j)) → (∀ d a, d < s_nX S → a < s_nX S → V (120 * d + a) = s_ovS S V d a) → Q μ') : ab_CV l ω mX11_findOvers [.ref 43] μ Q := by
  refine ab_intro (sh := ab_SH) (cd := kX11_findOvers) hω vX11_findOvers (by decide +kernel) rfl (Nat.le_of_ble_eq_true rfl) (fun j hj hw => ?_)
  have hjx : ∀ i ll st μ, i ∉ ([2, 8, 55, 61, 67] : List Nat) → _ → j i ll st μ := fun i ll st μ _ h => hj i ll st μ h
  have hT := hW.2.2.1.2
  have hX := hW.2.2.2.1
  have hP := hW.2.1.2
  obtain ⟨V0, r64⟩ := r64
  have fin : ∀ μ' V, RepR S μ' → FO μ μ' → (∀ j, μ'.1 64 j = ab_z (V j)) → s_IV S V → (∀ d a, d < s_nX S → a < s_nX S → s_cl S V d a) → ∀ v2 v3, j 55 [some (.ref 43), some (.int (ab_z false)), v2, v3] [] μ' := by
    intro μ' V R hF r64 hI hc v2 v3
    refine hj _ _ _ _ ?_
    obtain ⟨r44, r45, r46, r47, r48, r49, r50, r51, r52, r53, r54, r55, r56, r57, r58, r59, r60, r61, g0, g2, g6, g16⟩ := RepR_fs R
    repeat' (first | refine hjx _ _ _ _ (by decide) ?_ | (refine br_c (fun h => ?_) (fun h => ?_) <;> (try simp (disch := omega) only [nI_clamp, li_2, li_3, li_4, li_5, li_6, li_7, li_8, li_9, li_10, li_40, li_120, pk_mul, nI_add, nI_1, ix_eq, ix_lt, ix_le, ix_l0, ix_l1, ix_n0, ix_p0, ix_1lt, ix_lt1, ix_1le, ix_le1, ix_le0, ix_0lt, ab_z0, ab_z1, i_10, i_01, eq_self, ab_ozn, ab_ozp, ab_o_some, not_true_eq_false, not_false_eq_true, Bool.not_eq_false, Bool.not_eq_true, Bool.not_eq_false', Bool.not_eq_true', Bool.false_eq_true, Bool.true_eq_false, reduceCtorEq, Option.isSome_some, Option.isSome_none, r44, r45, r46, r47, r48, r49, r50, r51, r52, r53, r54, r55, r56, r57, r58, r59, r60, r61, g0, g2, g6, g16] at h) <;> (try omega)) | (refine br_n (fun h => ?_) (fun h => ?_) <;> (try simp (disch := omega) only [nI_clamp, li_2, li_3, li_4, li_5, li_6, li_7, li_8, li_9, li_10, li_40, li_120, pk_mul, nI_add, nI_1, ix_eq, ix_lt, ix_le, ix_l0, ix_l1, ix_n0, ix_p0, ix_1lt, ix_lt1, ix_1le, ix_le1, ix_le0, ix_0lt, ab_z0, ab_z1, i_10, i_01, eq_self, ab_ozn, ab_ozp, ab_o_some, not_true_eq_false, not_false_eq_true, Bool.not_eq_false, Bool.not_eq_true, Bool.not_eq_false', Bool.not_eq_true', Bool.false_eq_true, Bool.true_eq_false, reduceCtorEq, Option.isSome_some, Option.isSome_none, r44, r45, r46, r47, r48, r49, r50, r51, r52, r53, r54, r55, r56, r57, r58, r59, r60, r61, g0, g2, g6, g16] at h) <;> (try omega)) | refine ab_sd (by first | (with_reducible refine vp_in_nI ?_ ?_ <;> omega) | (simp (disch := omega) only [nI_clamp, li_2, li_3, li_4, li_5, li_6, li_7, li_8, li_9, li_10, li_40, li_120, pk_mul, nI_add, nI_1, ix_eq, ix_lt, ix_le, ix_l0, ix_l1, ix_n0, ix_p0, ix_1lt, ix_lt1, ix_1le, ix_le1, ix_le0, ix_0lt, ab_z0, ab_z1, i_10, i_01, eq_self, ab_ozn, ab_ozp, ab_o_some, not_true_eq_false, not_false_eq_true, Bool.not_eq_false, Bool.not_eq_true, Bool.not_eq_false', Bool.not_eq_true', Bool.false_eq_true, Bool.true_eq_false, reduceCtorEq, Option.isSome_some, Option.isSome_none, r44, r45, r46, r47, r48, r49, r50, r51, r52, r53, r54, r55, r56, r57, r58, r59, r60, r61, g0, g2, g6, g16]; with_reducible refine vp_in_nI ?_ ?_ <;> omega)) ?_ | refine ab_sd ?_ ?_ | refine ab_sz (Or.inl rfl) ?_ | refine ab_sz (Or.inr rfl) ?_ | refine ab_sz ?_ ?_)
    exact hQ μ' V R hF r64 (fun d a hd ha => s_fix hI hc hd ha)
  have main : ∀ N μ' V, 14400 < ab_cnt V 14400 + N → RepR S μ' → FO μ μ' → (∀ j, μ'.1 64 j = ab_z (V j)) → s_IV S V → ∀ v2 v3, j 55 [some (.ref 43), some (.int (ab_z true)), v2, v3] [] μ' := by
    intro N
    induction N with
    | zero => intro μ' V h; have := ab_cnt_le V 14400; omega
    | succ N ihN =>
      intro μ' V hN R hF r64 hI v2 v3
      refine hw _ _ [some (.ref 43), some (.int (ab_z true)), none, none] _ _ ⟨rfl, rfl, trivial⟩ ?_
      have loopD : ∀ n' d μ' V mo, s_nX S + 1 ≤ d + n' → d ≤ s_nX S → RepR S μ' → FO μ μ' → (∀ j, μ'.1 64 j = ab_z (V j)) → s_IV S V → (mo = true → 14400 < ab_cnt V 14400 + N) → (mo = false → ∀ d' a', d' < d → a' < s_nX S → s_cl S V d' a') → 14400 < ab_cnt V 14400 + (N + 1) → ∀ v3, j 61 [some (.ref 43), some (.int (ab_z mo)), some (.int (nI d)), v3] [] μ' := by
        intro n'
        induction n' with
        | zero => intro d μ' V mo h1 h2; omega
        | succ n' ihD =>
          intro d μ' V mo h1 h2 R hF r64 hI hm1 hm2 hN v3
          refine hw _ _ [some (.ref 43), some (.int (ab_z mo)), some (.int (nI d)), none] _ _ ⟨rfl, rfl, rfl, trivial⟩ ?_
          by_cases hd : d < s_nX S
          · have loopA : ∀ m' a μ' V mo, s_nX S + 1 ≤ a + m' → a ≤ s_nX S → RepR S μ' → FO μ μ' → (∀ j, μ'.1 64 j = ab_z (V j)) → s_IV S V → (mo = true → 14400 < ab_cnt V 14400 + N) → (mo = false → (∀ d' a', d' < d → a' < s_nX S → s_cl S V d' a') ∧ ∀ a', a' < a → s_cl S V d a') → 14400 < ab_cnt V 14400 + (N + 1) → j 67 [some (.ref 43), some (.int (ab_z mo)), some (.int (nI d)), some (.int (nI a))] [] μ' := by
              intro m'
              induction m' with
              | zero => intro a μ' V mo h1 h2; omega
              | succ m' ihA =>
                intro a μ' V mo h3 h4 R hF r64 hI hm1 hm2 hN
                obtain ⟨r44, r45, r46, r47, r48, r49, r50, r51, r52, r53, r54, r55, r56, r57, r58, r59, r60, r61, g0, g2, g6, g16⟩ := RepR_fs R
                by_cases ha : a < s_nX S
                · have keep : s_cl S V d a → j 67 [some (.ref 43), some (.int (ab_z mo)), some (.int (nI d)), some (.int (nI (a + 1)))] [] μ' := by
                    intro hc
                    refine ihA (a + 1) μ' V mo (by omega) (by omega) R hF r64 hI hm1 (fun q => ⟨(hm2 q).1, fun a' ha' => ?_⟩) hN
                    by_cases e : a' = a
                    · subst e; exact hc
                    · exact (hm2 q).2 a' (by omega)
                  refine hj _ _ _ _ ?_
                  repeat' (first | refine hjx _ _ _ _ (by decide) ?_ | (refine br_c (fun h => ?_) (fun h => ?_) <;> (try simp (disch := omega) only [nI_clamp, li_2, li_3, li_4, li_5, li_6, li_7, li_8, li_9, li_10, li_40, li_120, pk_mul, nI_add, nI_1, ix_eq, ix_lt, ix_le, ix_l0, ix_l1, ix_n0, ix_p0, ix_1lt, ix_lt1, ix_1le, ix_le1, ix_le0, ix_0lt, ab_z0, ab_z1, i_10, i_01, eq_self, ab_ozn, ab_ozp, ab_o_some, not_true_eq_false, not_false_eq_true, Bool.not_eq_false, Bool.not_eq_true, Bool.not_eq_false', Bool.not_eq_true', Bool.false_eq_true, Bool.true_eq_false, reduceCtorEq, Option.isSome_some, Option.isSome_none, r44, r45, r46, r47, r48, r49, r50, r51, r52, r53, r54, r55, r56, r57, r58, r59, r60, r61, g0, g2, g6, g16, r64] at h) <;> (try omega)) | (refine br_n (fun h => ?_) (fun h => ?_) <;> (try simp (disch := omega) only [nI_clamp, li_2, li_3, li_4, li_5, li_6, li_7, li_8, li_9, li_10, li_40, li_120, pk_mul, nI_add, nI_1, ix_eq, ix_lt, ix_le, ix_l0, ix_l1, ix_n0, ix_p0, ix_1lt, ix_lt1, ix_1le, ix_le1, ix_le0, ix_0lt, ab_z0, ab_z1, i_10, i_01, eq_self, ab_ozn, ab_ozp, ab_o_some, not_true_eq_false, not_false_eq_true, Bool.not_eq_false, Bool.not_eq_true, Bool.not_eq_false', Bool.not_eq_true', Bool.false_eq_true, Bool.true_eq_false, reduceCtorEq, Option.isSome_some, Option.isSome_none, r44, r45, r46, r47, r48, r49, r50, r51, r52, r53, r54, r55, r56, r57, r58, r59, r60, r61, g0, g2, g6, g16, r64] at h) <;> (try omega)) | refine ab_sd (by first | (with_reducible refine vp_in_nI ?_ ?_ <;> omega) | (simp (disch := omega) only [nI_clamp, li_2, li_3, li_4, li_5, li_6, li_7, li_8, li_9, li_10, li_40, li_120, pk_mul, nI_add, nI_1, ix_eq, ix_lt, ix_le, ix_l0, ix_l1, ix_n0, ix_p0, ix_1lt, ix_lt1, ix_1le, ix_le1, ix_le0, ix_0lt, ab_z0, ab_z1, i_10, i_01, eq_self, ab_ozn, ab_ozp, ab_o_some, not_true_eq_false, not_false_eq_true, Bool.not_eq_false, Bool.not_eq_true, Bool.not_eq_false', Bool.not_eq_true', Bool.false_eq_true, Bool.true_eq_false, reduceCtorEq, Option.isSome_some, Option.isSome_none, r44, r45, r46, r47, r48, r49, r50, r51, r52, r53, r54, r55, r56, r57, r58, r59, r60, r61, g0, g2, g6, g16, r64]; with_reducible refine vp_in_nI ?_ ?_ <;> omega)) ?_ | refine r_canOver hω R hW (d := d) (a := a) rfl rfl hd ha ?_ | refine r_isOverBy hω R hW r64 (d := d) (a := a) rfl rfl hd ha ?_ | refine ab_sd ?_ ?_ | refine ab_sz (Or.inl rfl) ?_ | refine ab_sz (Or.inr rfl) ?_ | refine ab_sz ?_ ?_)
                  · show j 67 _ _ _
                    simp (disch := omega) only [nI_clamp, li_2, li_3, li_4, li_5, li_6, li_7, li_8, li_9, li_10, li_40, li_120, pk_mul, nI_add, nI_1, ix_eq, ix_lt, ix_le, ix_l0, ix_l1, ix_n0, ix_p0, ix_1lt, ix_lt1, ix_1le, ix_le1, ix_le0, ix_0lt, ab_z0, ab_z1, i_10, i_01, eq_self, ab_ozn, ab_ozp, ab_o_some, not_true_eq_false, not_false_eq_true, Bool.not_eq_false, Bool.not_eq_true, Bool.not_eq_false', Bool.not_eq_true', Bool.false_eq_true, Bool.true_eq_false, reduceCtorEq, Option.isSome_some, Option.isSome_none, r44, r45, r46, r47, r48, r49, r50, r51, r52, r53, r54, r55, r56, r57, r58, r59, r60, r61, g0, g2, g6, g16]
                    exact keep (Or.inl h)
                  · show j 67 _ _ _
                    simp (disch := omega) only [nI_clamp, li_2, li_3, li_4, li_5, li_6, li_7, li_8, li_9, li_10, li_40, li_120, pk_mul, nI_add, nI_1, ix_eq, ix_lt, ix_le, ix_l0, ix_l1, ix_n0, ix_p0, ix_1lt, ix_lt1, ix_1le, ix_le1, ix_le0, ix_0lt, ab_z0, ab_z1, i_10, i_01, eq_self, ab_ozn, ab_ozp, ab_o_some, not_true_eq_false, not_false_eq_true, Bool.not_eq_false, Bool.not_eq_true, Bool.not_eq_false', Bool.not_eq_true', Bool.false_eq_true, Bool.true_eq_false, reduceCtorEq, Option.isSome_some, Option.isSome_none, r44, r45, r46, r47, r48, r49, r50, r51, r52, r53, r54, r55, r56, r57, r58, r59, r60, r61, g0, g2, g6, g16]
                    exact keep (Or.inr (Or.inl h))
                  · show j 67 _ _ _
                    simp (disch := omega) only [nI_clamp, li_2, li_3, li_4, li_5, li_6, li_7, li_8, li_9, li_10, li_40, li_120, pk_mul, nI_add, nI_1, ix_eq, ix_lt, ix_le, ix_l0, ix_l1, ix_n0, ix_p0, ix_1lt, ix_lt1, ix_1le, ix_le1, ix_le0, ix_0lt, ab_z0, ab_z1, i_10, i_01, eq_self, ab_ozn, ab_ozp, ab_o_some, not_true_eq_false, not_false_eq_true, Bool.not_eq_false, Bool.not_eq_true, Bool.not_eq_false', Bool.not_eq_true', Bool.false_eq_true, Bool.true_eq_false, reduceCtorEq, Option.isSome_some, Option.isSome_none, r44, r45, r46, r47, r48, r49, r50, r51, r52, r53, r54, r55, r56, r57, r58, r59, r60, r61, g0, g2, g6, g16]
                    exact keep (Or.inr (Or.inr h))
                  · rename_i hV hc
                    show j 67 _ _ _
                    simp (disch := omega) only [nI_clamp, li_2, li_3, li_4, li_5, li_6, li_7, li_8, li_9, li_10, li_40, li_120, pk_mul, nI_add, nI_1, ix_eq, ix_lt, ix_le, ix_l0, ix_l1, ix_n0, ix_p0, ix_1lt, ix_lt1, ix_1le, ix_le1, ix_le0, ix_0lt, ab_z0, ab_z1, i_10, i_01, eq_self, ab_ozn, ab_ozp, ab_o_some, not_true_eq_false, not_false_eq_true, Bool.not_eq_false, Bool.not_eq_true, Bool.not_eq_false', Bool.not_eq_true', Bool.false_eq_true, Bool.true_eq_false, reduceCtorEq, Option.isSome_some, Option.isSome_none, r44, r45, r46, r47, r48, r49, r50, r51, r52, r53, r54, r55, r56, r57, r58, r59, r60, r61, g0, g2, g6, g16]
                    have hup : ∀ j, V j = true → (fun j => if j = 120 * d + a then true else V j) j = true := by
                      intro j hjt
                      by_cases e : j = 120 * d + a
                      · simp [e]
                      · simp [e, hjt]
                    have hcnt := ab_cnt_set (V := V) (V' := fun j => if j = 120 * d + a then true else V j) (i := 120 * d + a) hV (fun j => rfl) 14400 (by omega)
                    refine ihA (a + 1) (ab_mi μ' 64 (120 * d + a) (ab_z true)) (fun j => if j = 120 * d + a then true else V j) true (by omega) (by omega) (rep_c R rfl rfl ⟨by decide, by decide⟩) hF.mi (bool_up r64 (fun j => rfl)) (fun d' a' hd' ha' => ?_) (fun _ => by omega) (fun q => by cases q) (by omega)
                    have h5 := hI d' a' hd' ha'
                    by_cases e : 120 * d' + a' = 120 * d + a
                    · have e1 : d' = d := by omega
                      have e2 : a' = a := by omega
                      subst e1 e2
                      exact ⟨fun _ => by simp, fun _ => ⟨hc, Or.inr (s_by_mono hup h)⟩⟩
                    · simp only [e, if_false]
                      refine ⟨h5.1, fun q => ⟨(h5.2 q).1, ?_⟩⟩
                      rcases (h5.2 q).2 with h6 | h6
                      · exact Or.inl h6
                      · exact Or.inr (s_by_mono hup h6)
                · have ha2 : a = s_nX S := by omega
                  refine hj _ _ _ _ ?_
                  repeat' (first | refine hjx _ _ _ _ (by decide) ?_ | (refine br_c (fun h => ?_) (fun h => ?_) <;> (try simp (disch := omega) only [nI_clamp, li_2, li_3, li_4, li_5, li_6, li_7, li_8, li_9, li_10, li_40, li_120, pk_mul, nI_add, nI_1, ix_eq, ix_lt, ix_le, ix_l0, ix_l1, ix_n0, ix_p0, ix_1lt, ix_lt1, ix_1le, ix_le1, ix_le0, ix_0lt, ab_z0, ab_z1, i_10, i_01, eq_self, ab_ozn, ab_ozp, ab_o_some, not_true_eq_false, not_false_eq_true, Bool.not_eq_false, Bool.not_eq_true, Bool.not_eq_false', Bool.not_eq_true', Bool.false_eq_true, Bool.true_eq_false, reduceCtorEq, Option.isSome_some, Option.isSome_none, r44, r45, r46, r47, r48, r49, r50, r51, r52, r53, r54, r55, r56, r57, r58, r59, r60, r61, g0, g2, g6, g16] at h) <;> (try omega)) | (refine br_n (fun h => ?_) (fun h => ?_) <;> (try simp (disch := omega) only [nI_clamp, li_2, li_3, li_4, li_5, li_6, li_7, li_8, li_9, li_10, li_40, li_120, pk_mul, nI_add, nI_1, ix_eq, ix_lt, ix_le, ix_l0, ix_l1, ix_n0, ix_p0, ix_1lt, ix_lt1, ix_1le, ix_le1, ix_le0, ix_0lt, ab_z0, ab_z1, i_10, i_01, eq_self, ab_ozn, ab_ozp, ab_o_some, not_true_eq_false, not_false_eq_true, Bool.not_eq_false, Bool.not_eq_true, Bool.not_eq_false', Bool.not_eq_true', Bool.false_eq_true, Bool.true_eq_false, reduceCtorEq, Option.isSome_some, Option.isSome_none, r44, r45, r46, r47, r48, r49, r50, r51, r52, r53, r54, r55, r56, r57, r58, r59, r60, r61, g0, g2, g6, g16] at h) <;> (try omega)) | refine ab_sd (by first | (with_reducible refine vp_in_nI ?_ ?_ <;> omega) | (simp (disch := omega) only [nI_clamp, li_2, li_3, li_4, li_5, li_6, li_7, li_8, li_9, li_10, li_40, li_120, pk_mul, nI_add, nI_1, ix_eq, ix_lt, ix_le, ix_l0, ix_l1, ix_n0, ix_p0, ix_1lt, ix_lt1, ix_1le, ix_le1, ix_le0, ix_0lt, ab_z0, ab_z1, i_10, i_01, eq_self, ab_ozn, ab_ozp, ab_o_some, not_true_eq_false, not_false_eq_true, Bool.not_eq_false, Bool.not_eq_true, Bool.not_eq_false', Bool.not_eq_true', Bool.false_eq_true, Bool.true_eq_false, reduceCtorEq, Option.isSome_some, Option.isSome_none, r44, r45, r46, r47, r48, r49, r50, r51, r52, r53, r54, r55, r56, r57, r58, r59, r60, r61, g0, g2, g6, g16]; with_reducible refine vp_in_nI ?_ ?_ <;> omega)) ?_ | refine ab_sd ?_ ?_ | refine ab_sz (Or.inl rfl) ?_ | refine ab_sz (Or.inr rfl) ?_ | refine ab_sz ?_ ?_)
                  show j 61 _ _ _
                  rw [nI_1]
                  refine ihD (d + 1) μ' V mo (by omega) (by omega) R hF r64 hI hm1 (fun q d' a' hd' ha' => ?_) hN _
                  by_cases e : d' = d
                  · subst e; exact (hm2 q).2 a' (by omega)
                  · exact (hm2 q).1 d' a' (by omega) ha'
            obtain ⟨r44, r45, r46, r47, r48, r49, r50, r51, r52, r53, r54, r55, r56, r57, r58, r59, r60, r61, g0, g2, g6, g16⟩ := RepR_fs R
            refine hj _ _ _ _ ?_
            repeat' (first | refine hjx _ _ _ _ (by decide) ?_ | (refine br_c (fun h => ?_) (fun h => ?_) <;> (try simp (disch := omega) only [nI_clamp, li_2, li_3, li_4, li_5, li_6, li_7, li_8, li_9, li_10, li_40, li_120, pk_mul, nI_add, nI_1, ix_eq, ix_lt, ix_le, ix_l0, ix_l1, ix_n0, ix_p0, ix_1lt, ix_lt1, ix_1le, ix_le1, ix_le0, ix_0lt, ab_z0, ab_z1, i_10, i_01, eq_self, ab_ozn, ab_ozp, ab_o_some, not_true_eq_false, not_false_eq_true, Bool.not_eq_false, Bool.not_eq_true, Bool.not_eq_false', Bool.not_eq_true', Bool.false_eq_true, Bool.true_eq_false, reduceCtorEq, Option.isSome_some, Option.isSome_none, r44, r45, r46, r47, r48, r49, r50, r51, r52, r53, r54, r55, r56, r57, r58, r59, r60, r61, g0, g2, g6, g16] at h) <;> (try omega)) | (refine br_n (fun h => ?_) (fun h => ?_) <;> (try simp (disch := omega) only [nI_clamp, li_2, li_3, li_4, li_5, li_6, li_7, li_8, li_9, li_10, li_40, li_120, pk_mul, nI_add, nI_1, ix_eq, ix_lt, ix_le, ix_l0, ix_l1, ix_n0, ix_p0, ix_1lt, ix_lt1, ix_1le, ix_le1, ix_le0, ix_0lt, ab_z0, ab_z1, i_10, i_01, eq_self, ab_ozn, ab_ozp, ab_o_some, not_true_eq_false, not_false_eq_true, Bool.not_eq_false, Bool.not_eq_true, Bool.not_eq_false', Bool.not_eq_true', Bool.false_eq_true, Bool.true_eq_false, reduceCtorEq, Option.isSome_some, Option.isSome_none, r44, r45, r46, r47, r48, r49, r50, r51, r52, r53, r54, r55, r56, r57, r58, r59, r60, r61, g0, g2, g6, g16] at h) <;> (try omega)) | refine ab_sd (by first | (with_reducible refine vp_in_nI ?_ ?_ <;> omega) | (simp (disch := omega) only [nI_clamp, li_2, li_3, li_4, li_5, li_6, li_7, li_8, li_9, li_10, li_40, li_120, pk_mul, nI_add, nI_1, ix_eq, ix_lt, ix_le, ix_l0, ix_l1, ix_n0, ix_p0, ix_1lt, ix_lt1, ix_1le, ix_le1, ix_le0, ix_0lt, ab_z0, ab_z1, i_10, i_01, eq_self, ab_ozn, ab_ozp, ab_o_some, not_true_eq_false, not_false_eq_true, Bool.not_eq_false, Bool.not_eq_true, Bool.not_eq_false', Bool.not_eq_true', Bool.false_eq_true, Bool.true_eq_false, reduceCtorEq, Option.isSome_some, Option.isSome_none, r44, r45, r46, r47, r48, r49, r50, r51, r52, r53, r54, r55, r56, r57, r58, r59, r60, r61, g0, g2, g6, g16]; with_reducible refine vp_in_nI ?_ ?_ <;> omega)) ?_ | refine ab_sd ?_ ?_ | refine ab_sz (Or.inl rfl) ?_ | refine ab_sz (Or.inr rfl) ?_ | refine ab_sz ?_ ?_)
            exact loopA (s_nX S + 1) 0 μ' V mo (by omega) (by omega) R hF r64 hI hm1 (fun q => ⟨hm2 q, fun a' h => by omega⟩) hN
          · have hd2 : d = s_nX S := by omega
            obtain ⟨r44, r45, r46, r47, r48, r49, r50, r51, r52, r53, r54, r55, r56, r57, r58, r59, r60, r61, g0, g2, g6, g16⟩ := RepR_fs R
            refine hj _ _ _ _ ?_
            repeat' (first | refine hjx _ _ _ _ (by decide) ?_ | (refine br_c (fun h => ?_) (fun h => ?_) <;> (try simp (disch := omega) only [nI_clamp, li_2, li_3, li_4, li_5, li_6, li_7, li_8, li_9, li_10, li_40, li_120, pk_mul, nI_add, nI_1, ix_eq, ix_lt, ix_le, ix_l0, ix_l1, ix_n0, ix_p0, ix_1lt, ix_lt1, ix_1le, ix_le1, ix_le0, ix_0lt, ab_z0, ab_z1, i_10, i_01, eq_self, ab_ozn, ab_ozp, ab_o_some, not_true_eq_false, not_false_eq_true, Bool.not_eq_false, Bool.not_eq_true, Bool.not_eq_false', Bool.not_eq_true', Bool.false_eq_true, Bool.true_eq_false, reduceCtorEq, Option.isSome_some, Option.isSome_none, r44, r45, r46, r47, r48, r49, r50, r51, r52, r53, r54, r55, r56, r57, r58, r59, r60, r61, g0, g2, g6, g16] at h) <;> (try omega)) | (refine br_n (fun h => ?_) (fun h => ?_) <;> (try simp (disch := omega) only [nI_clamp, li_2, li_3, li_4, li_5, li_6, li_7, li_8, li_9, li_10, li_40, li_120, pk_mul, nI_add, nI_1, ix_eq, ix_lt, ix_le, ix_l0, ix_l1, ix_n0, ix_p0, ix_1lt, ix_lt1, ix_1le, ix_le1, ix_le0, ix_0lt, ab_z0, ab_z1, i_10, i_01, eq_self, ab_ozn, ab_ozp, ab_o_some, not_true_eq_false, not_false_eq_true, Bool.not_eq_false, Bool.not_eq_true, Bool.not_eq_false', Bool.not_eq_true', Bool.false_eq_true, Bool.true_eq_false, reduceCtorEq, Option.isSome_some, Option.isSome_none, r44, r45, r46, r47, r48, r49, r50, r51, r52, r53, r54, r55, r56, r57, r58, r59, r60, r61, g0, g2, g6, g16] at h) <;> (try omega)) | refine ab_sd (by first | (with_reducible refine vp_in_nI ?_ ?_ <;> omega) | (simp (disch := omega) only [nI_clamp, li_2, li_3, li_4, li_5, li_6, li_7, li_8, li_9, li_10, li_40, li_120, pk_mul, nI_add, nI_1, ix_eq, ix_lt, ix_le, ix_l0, ix_l1, ix_n0, ix_p0, ix_1lt, ix_lt1, ix_1le, ix_le1, ix_le0, ix_0lt, ab_z0, ab_z1, i_10, i_01, eq_self, ab_ozn, ab_ozp, ab_o_some, not_true_eq_false, not_false_eq_true, Bool.not_eq_false, Bool.not_eq_true, Bool.not_eq_false', Bool.not_eq_true', Bool.false_eq_true, Bool.true_eq_false, reduceCtorEq, Option.isSome_some, Option.isSome_none, r44, r45, r46, r47, r48, r49, r50, r51, r52, r53, r54, r55, r56, r57, r58, r59, r60, r61, g0, g2, g6, g16]; with_reducible refine vp_in_nI ?_ ?_ <;> omega)) ?_ | refine ab_sd ?_ ?_ | refine ab_sz (Or.inl rfl) ?_ | refine ab_sz (Or.inr rfl) ?_ | refine ab_sz ?_ ?_)
            cases mo with
            | false => exact fin μ' V R hF r64 hI (fun d' a' hd' ha' => hm2 rfl d' a' (by omega) ha') _ _
            | true => exact ihN μ' V (hm1 rfl) R hF r64 hI _ _
      obtain ⟨r44, r45, r46, r47, r48, r49, r50, r51, r52, r53, r54, r55, r56, r57, r58, r59, r60, r61, g0, g2, g6, g16⟩ := RepR_fs R
      refine hj _ _ _ _ ?_
      repeat' (first | refine hjx _ _ _ _ (by decide) ?_ | (refine br_c (fun h => ?_) (fun h => ?_) <;> (try simp (disch := omega) only [nI_clamp, li_2, li_3, li_4, li_5, li_6, li_7, li_8, li_9, li_10, li_40, li_120, pk_mul, nI_add, nI_1, ix_eq, ix_lt, ix_le, ix_l0, ix_l1, ix_n0, ix_p0, ix_1lt, ix_lt1, ix_1le, ix_le1, ix_le0, ix_0lt, ab_z0, ab_z1, i_10, i_01, eq_self, ab_ozn, ab_ozp, ab_o_some, not_true_eq_false, not_false_eq_true, Bool.not_eq_false, Bool.not_eq_true, Bool.not_eq_false', Bool.not_eq_true', Bool.false_eq_true, Bool.true_eq_false, reduceCtorEq, Option.isSome_some, Option.isSome_none, r44, r45, r46, r47, r48, r49, r50, r51, r52, r53, r54, r55, r56, r57, r58, r59, r60, r61, g0, g2, g6, g16] at h) <;> (try omega)) | (refine br_n (fun h => ?_) (fun h => ?_) <;> (try simp (disch := omega) only [nI_clamp, li_2, li_3, li_4, li_5, li_6, li_7, li_8, li_9, li_10, li_40, li_120, pk_mul, nI_add, nI_1, ix_eq, ix_lt, ix_le, ix_l0, ix_l1, ix_n0, ix_p0, ix_1lt, ix_lt1, ix_1le, ix_le1, ix_le0, ix_0lt, ab_z0, ab_z1, i_10, i_01, eq_self, ab_ozn, ab_ozp, ab_o_some, not_true_eq_false, not_false_eq_true, Bool.not_eq_false, Bool.not_eq_true, Bool.not_eq_false', Bool.not_eq_true', Bool.false_eq_true, Bool.true_eq_false, reduceCtorEq, Option.isSome_some, Option.isSome_none, r44, r45, r46, r47, r48, r49, r50, r51, r52, r53, r54, r55, r56, r57, r58, r59, r60, r61, g0, g2, g6, g16] at h) <;> (try omega)) | refine ab_sd (by first | (with_reducible refine vp_in_nI ?_ ?_ <;> omega) | (simp (disch := omega) only [nI_clamp, li_2, li_3, li_4, li_5, li_6, li_7, li_8, li_9, li_10, li_40, li_120, pk_mul, nI_add, nI_1, ix_eq, ix_lt, ix_le, ix_l0, ix_l1, ix_n0, ix_p0, ix_1lt, ix_lt1, ix_1le, ix_le1, ix_le0, ix_0lt, ab_z0, ab_z1, i_10, i_01, eq_self, ab_ozn, ab_ozp, ab_o_some, not_true_eq_false, not_false_eq_true, Bool.not_eq_false, Bool.not_eq_true, Bool.not_eq_false', Bool.not_eq_true', Bool.false_eq_true, Bool.true_eq_false, reduceCtorEq, Option.isSome_some, Option.isSome_none, r44, r45, r46, r47, r48, r49, r50, r51, r52, r53, r54, r55, r56, r57, r58, r59, r60, r61, g0, g2, g6, g16]; with_reducible refine vp_in_nI ?_ ?_ <;> omega)) ?_ | refine ab_sd ?_ ?_ | refine ab_sz (Or.inl rfl) ?_ | refine ab_sz (Or.inr rfl) ?_ | refine ab_sz ?_ ?_)
      exact loopD (s_nX S + 1) 0 μ' V false (by omega) (by omega) R hF r64 hI (fun q => by cases q) (fun _ d' a' h => by omega) hN _
  have loop2 : ∀ n' d μ', s_nX S + 1 ≤ d + n' → d ≤ s_nX S → RepR S μ' → FO μ μ' → (∀ j, μ'.1 64 j = ab_z (s_v1 S V0 d 0 j)) → ∀ v2 v3, j 2 [some (.ref 43), some (.int (nI d)), v2, v3] [] μ' := by
    intro n'
    induction n' with
    | zero => intro d μ' h1 h2; omega
    | succ n' ihD =>
      intro d μ' h1 h2 R hF r64 v2 v3
      refine hw _ _ [some (.ref 43), some (.int (nI d)), none, none] _ _ ⟨rfl, rfl, trivial⟩ ?_
      by_cases hd : d < s_nX S
      · have loop8 : ∀ m' a μ', s_nX S + 1 ≤ a + m' → a ≤ s_nX S → RepR S μ' → FO μ μ' → (∀ j, μ'.1 64 j = ab_z (s_v1 S V0 d a j)) → ∀ v3, j 8 [some (.ref 43), some (.int (nI d)), some (.int (nI a)), v3] [] μ' := by
          intro m'
          induction m' with
          | zero => intro a μ' h1 h2; omega
          | succ m' ihA =>
            intro a μ' h3 h4 R hF r64 v3
            refine hw _ _ [some (.ref 43), some (.int (nI d)), some (.int (nI a)), none] _ _ ⟨rfl, rfl, rfl, trivial⟩ ?_
            obtain ⟨r44, r45, r46, r47, r48, r49, r50, r51, r52, r53, r54, r55, r56, r57, r58, r59, r60, r61, g0, g2, g6, g16⟩ := RepR_fs R
            by_cases ha : a < s_nX S
            · obtain ⟨a1, a2, a3, a4, a5⟩ := hW.2.2.2.2.2.2 a ha
              obtain ⟨d1, d2, d3, d4, d5⟩ := hW.2.2.2.2.2.2 d hd
              obtain ⟨e1, -⟩ := hW.2.2.2.2.2.1 _ a1
              obtain ⟨f1, -⟩ := hW.2.2.2.2.2.1 _ d1
              have ih : ∀ b : Bool, b = s_dir S d a → j 8 [some (.ref 43), some (.int (nI d)), some (.int (nI (a + 1))), none] [] (ab_mi μ' 64 (120 * d + a) (ab_z b)) := by
                intro b hb
                refine ihA (a + 1) _ (by omega) (by omega) (rep_c R rfl rfl ⟨by decide, by decide⟩) hF.mi ?_ _
                rw [hb]
                exact bool_up r64 (s_v1_s ha hX)
              refine hj _ _ _ _ ?_
              repeat' (first | refine hjx _ _ _ _ (by decide) ?_ | (refine br_c (fun h => ?_) (fun h => ?_) <;> (try simp (disch := omega) only [nI_clamp, li_2, li_3, li_4, li_5, li_6, li_7, li_8, li_9, li_10, li_40, li_120, pk_mul, nI_add, nI_1, ix_eq, ix_lt, ix_le, ix_l0, ix_l1, ix_n0, ix_p0, ix_1lt, ix_lt1, ix_1le, ix_le1, ix_le0, ix_0lt, ab_z0, ab_z1, i_10, i_01, eq_self, ab_ozn, ab_ozp, ab_o_some, not_true_eq_false, not_false_eq_true, Bool.not_eq_false, Bool.not_eq_true, Bool.not_eq_false', Bool.not_eq_true', Bool.false_eq_true, Bool.true_eq_false, reduceCtorEq, Option.isSome_some, Option.isSome_none, r44, r45, r46, r47, r48, r49, r50, r51, r52, r53, r54, r55, r56, r57, r58, r59, r60, r61, g0, g2, g6, g16, r64] at h) <;> (try omega)) | (refine br_n (fun h => ?_) (fun h => ?_) <;> (try simp (disch := omega) only [nI_clamp, li_2, li_3, li_4, li_5, li_6, li_7, li_8, li_9, li_10, li_40, li_120, pk_mul, nI_add, nI_1, ix_eq, ix_lt, ix_le, ix_l0, ix_l1, ix_n0, ix_p0, ix_1lt, ix_lt1, ix_1le, ix_le1, ix_le0, ix_0lt, ab_z0, ab_z1, i_10, i_01, eq_self, ab_ozn, ab_ozp, ab_o_some, not_true_eq_false, not_false_eq_true, Bool.not_eq_false, Bool.not_eq_true, Bool.not_eq_false', Bool.not_eq_true', Bool.false_eq_true, Bool.true_eq_false, reduceCtorEq, Option.isSome_some, Option.isSome_none, r44, r45, r46, r47, r48, r49, r50, r51, r52, r53, r54, r55, r56, r57, r58, r59, r60, r61, g0, g2, g6, g16, r64] at h) <;> (try omega)) | refine ab_sd (by first | (with_reducible refine vp_in_nI ?_ ?_ <;> omega) | (simp (disch := omega) only [nI_clamp, li_2, li_3, li_4, li_5, li_6, li_7, li_8, li_9, li_10, li_40, li_120, pk_mul, nI_add, nI_1, ix_eq, ix_lt, ix_le, ix_l0, ix_l1, ix_n0, ix_p0, ix_1lt, ix_lt1, ix_1le, ix_le1, ix_le0, ix_0lt, ab_z0, ab_z1, i_10, i_01, eq_self, ab_ozn, ab_ozp, ab_o_some, not_true_eq_false, not_false_eq_true, Bool.not_eq_false, Bool.not_eq_true, Bool.not_eq_false', Bool.not_eq_true', Bool.false_eq_true, Bool.true_eq_false, reduceCtorEq, Option.isSome_some, Option.isSome_none, r44, r45, r46, r47, r48, r49, r50, r51, r52, r53, r54, r55, r56, r57, r58, r59, r60, r61, g0, g2, g6, g16, r64]; with_reducible refine vp_in_nI ?_ ?_ <;> omega)) ?_ | refine r_canOver hω R hW (d := d) (a := a) rfl rfl hd ha ?_ | refine ab_sd ?_ ?_ | refine ab_sz (Or.inl rfl) ?_ | refine ab_sz (Or.inr rfl) ?_ | refine ab_sz ?_ ?_)
              all_goals (show j 8 _ _ _; simp (disch := omega) only [nI_clamp, li_2, li_3, li_4, li_5, li_6, li_7, li_8, li_9, li_10, li_40, li_120, pk_mul, nI_add, nI_1, ix_eq, ix_lt, ix_le, ix_l0, ix_l1, ix_n0, ix_p0, ix_1lt, ix_lt1, ix_1le, ix_le1, ix_le0, ix_0lt, ab_z0, ab_z1, i_10, i_01, eq_self, ab_ozn, ab_ozp, ab_o_some, not_true_eq_false, not_false_eq_true, Bool.not_eq_false, Bool.not_eq_true, Bool.not_eq_false', Bool.not_eq_true', Bool.false_eq_true, Bool.true_eq_false, reduceCtorEq, Option.isSome_some, Option.isSome_none, r44, r45, r46, r47, r48, r49, r50, r51, r52, r53, r54, r55, r56, r57, r58, r59, r60, r61, g0, g2, g6, g16]; first | exact ih true (by unfold s_dir; simp [*]) | exact ih false (by unfold s_dir; simp [*]))
            · have ha2 : a = s_nX S := by omega
              refine hj _ _ _ _ ?_
              repeat' (first | refine hjx _ _ _ _ (by decide) ?_ | (refine br_c (fun h => ?_) (fun h => ?_) <;> (try simp (disch := omega) only [nI_clamp, li_2, li_3, li_4, li_5, li_6, li_7, li_8, li_9, li_10, li_40, li_120, pk_mul, nI_add, nI_1, ix_eq, ix_lt, ix_le, ix_l0, ix_l1, ix_n0, ix_p0, ix_1lt, ix_lt1, ix_1le, ix_le1, ix_le0, ix_0lt, ab_z0, ab_z1, i_10, i_01, eq_self, ab_ozn, ab_ozp, ab_o_some, not_true_eq_false, not_false_eq_true, Bool.not_eq_false, Bool.not_eq_true, Bool.not_eq_false', Bool.not_eq_true', Bool.false_eq_true, Bool.true_eq_false, reduceCtorEq, Option.isSome_some, Option.isSome_none, r44, r45, r46, r47, r48, r49, r50, r51, r52, r53, r54, r55, r56, r57, r58, r59, r60, r61, g0, g2, g6, g16] at h) <;> (try omega)) | (refine br_n (fun h => ?_) (fun h => ?_) <;> (try simp (disch := omega) only [nI_clamp, li_2, li_3, li_4, li_5, li_6, li_7, li_8, li_9, li_10, li_40, li_120, pk_mul, nI_add, nI_1, ix_eq, ix_lt, ix_le, ix_l0, ix_l1, ix_n0, ix_p0, ix_1lt, ix_lt1, ix_1le, ix_le1, ix_le0, ix_0lt, ab_z0, ab_z1, i_10, i_01, eq_self, ab_ozn, ab_ozp, ab_o_some, not_true_eq_false, not_false_eq_true, Bool.not_eq_false, Bool.not_eq_true, Bool.not_eq_false', Bool.not_eq_true', Bool.false_eq_true, Bool.true_eq_false, reduceCtorEq, Option.isSome_some, Option.isSome_none, r44, r45, r46, r47, r48, r49, r50, r51, r52, r53, r54, r55, r56, r57, r58, r59, r60, r61, g0, g2, g6, g16] at h) <;> (try omega)) | refine ab_sd (by first | (with_reducible refine vp_in_nI ?_ ?_ <;> omega) | (simp (disch := omega) only [nI_clamp, li_2, li_3, li_4, li_5, li_6, li_7, li_8, li_9, li_10, li_40, li_120, pk_mul, nI_add, nI_1, ix_eq, ix_lt, ix_le, ix_l0, ix_l1, ix_n0, ix_p0, ix_1lt, ix_lt1, ix_1le, ix_le1, ix_le0, ix_0lt, ab_z0, ab_z1, i_10, i_01, eq_self, ab_ozn, ab_ozp, ab_o_some, not_true_eq_false, not_false_eq_true, Bool.not_eq_false, Bool.not_eq_true, Bool.not_eq_false', Bool.not_eq_true', Bool.false_eq_true, Bool.true_eq_false, reduceCtorEq, Option.isSome_some, Option.isSome_none, r44, r45, r46, r47, r48, r49, r50, r51, r52, r53, r54, r55, r56, r57, r58, r59, r60, r61, g0, g2, g6, g16]; with_reducible refine vp_in_nI ?_ ?_ <;> omega)) ?_ | refine ab_sd ?_ ?_ | refine ab_sz (Or.inl rfl) ?_ | refine ab_sz (Or.inr rfl) ?_ | refine ab_sz ?_ ?_)
              show j 2 _ _ _
              rw [nI_1]
              exact ihD (d + 1) μ' (by omega) (by omega) R hF (fun j => by rw [r64 j, s_v1_n, ha2]) _ _
        obtain ⟨r44, r45, r46, r47, r48, r49, r50, r51, r52, r53, r54, r55, r56, r57, r58, r59, r60, r61, g0, g2, g6, g16⟩ := RepR_fs R
        refine hj _ _ _ _ ?_
        repeat' (first | refine hjx _ _ _ _ (by decide) ?_ | (refine br_c (fun h => ?_) (fun h => ?_) <;> (try simp (disch := omega) only [nI_clamp, li_2, li_3, li_4, li_5, li_6, li_7, li_8, li_9, li_10, li_40, li_120, pk_mul, nI_add, nI_1, ix_eq, ix_lt, ix_le, ix_l0, ix_l1, ix_n0, ix_p0, ix_1lt, ix_lt1, ix_1le, ix_le1, ix_le0, ix_0lt, ab_z0, ab_z1, i_10, i_01, eq_self, ab_ozn, ab_ozp, ab_o_some, not_true_eq_false, not_false_eq_true, Bool.not_eq_false, Bool.not_eq_true, Bool.not_eq_false', Bool.not_eq_true', Bool.false_eq_true, Bool.true_eq_false, reduceCtorEq, Option.isSome_some, Option.isSome_none, r44, r45, r46, r47, r48, r49, r50, r51, r52, r53, r54, r55, r56, r57, r58, r59, r60, r61, g0, g2, g6, g16] at h) <;> (try omega)) | (refine br_n (fun h => ?_) (fun h => ?_) <;> (try simp (disch := omega) only [nI_clamp, li_2, li_3, li_4, li_5, li_6, li_7, li_8, li_9, li_10, li_40, li_120, pk_mul, nI_add, nI_1, ix_eq, ix_lt, ix_le, ix_l0, ix_l1, ix_n0, ix_p0, ix_1lt, ix_lt1, ix_1le, ix_le1, ix_le0, ix_0lt, ab_z0, ab_z1, i_10, i_01, eq_self, ab_ozn, ab_ozp, ab_o_some, not_true_eq_false, not_false_eq_true, Bool.not_eq_false, Bool.not_eq_true, Bool.not_eq_false', Bool.not_eq_true', Bool.false_eq_true, Bool.true_eq_false, reduceCtorEq, Option.isSome_some, Option.isSome_none, r44, r45, r46, r47, r48, r49, r50, r51, r52, r53, r54, r55, r56, r57, r58, r59, r60, r61, g0, g2, g6, g16] at h) <;> (try omega)) | refine ab_sd (by first | (with_reducible refine vp_in_nI ?_ ?_ <;> omega) | (simp (disch := omega) only [nI_clamp, li_2, li_3, li_4, li_5, li_6, li_7, li_8, li_9, li_10, li_40, li_120, pk_mul, nI_add, nI_1, ix_eq, ix_lt, ix_le, ix_l0, ix_l1, ix_n0, ix_p0, ix_1lt, ix_lt1, ix_1le, ix_le1, ix_le0, ix_0lt, ab_z0, ab_z1, i_10, i_01, eq_self, ab_ozn, ab_ozp, ab_o_some, not_true_eq_false, not_false_eq_true, Bool.not_eq_false, Bool.not_eq_true, Bool.not_eq_false', Bool.not_eq_true', Bool.false_eq_true, Bool.true_eq_false, reduceCtorEq, Option.isSome_some, Option.isSome_none, r44, r45, r46, r47, r48, r49, r50, r51, r52, r53, r54, r55, r56, r57, r58, r59, r60, r61, g0, g2, g6, g16]; with_reducible refine vp_in_nI ?_ ?_ <;> omega)) ?_ | refine ab_sd ?_ ?_ | refine ab_sz (Or.inl rfl) ?_ | refine ab_sz (Or.inr rfl) ?_ | refine ab_sz ?_ ?_)
        exact loop8 (s_nX S + 1) 0 μ' (by omega) (by omega) R hF r64 _
      · have hd2 : d = s_nX S := by omega
        obtain ⟨r44, r45, r46, r47, r48, r49, r50, r51, r52, r53, r54, r55, r56, r57, r58, r59, r60, r61, g0, g2, g6, g16⟩ := RepR_fs R
        refine hj _ _ _ _ ?_
        repeat' (first | refine hjx _ _ _ _ (by decide) ?_ | (refine br_c (fun h => ?_) (fun h => ?_) <;> (try simp (disch := omega) only [nI_clamp, li_2, li_3, li_4, li_5, li_6, li_7, li_8, li_9, li_10, li_40, li_120, pk_mul, nI_add, nI_1, ix_eq, ix_lt, ix_le, ix_l0, ix_l1, ix_n0, ix_p0, ix_1lt, ix_lt1, ix_1le, ix_le1, ix_le0, ix_0lt, ab_z0, ab_z1, i_10, i_01, eq_self, ab_ozn, ab_ozp, ab_o_some, not_true_eq_false, not_false_eq_true, Bool.not_eq_false, Bool.not_eq_true, Bool.not_eq_false', Bool.not_eq_true', Bool.false_eq_true, Bool.true_eq_false, reduceCtorEq, Option.isSome_some, Option.isSome_none, r44, r45, r46, r47, r48, r49, r50, r51, r52, r53, r54, r55, r56, r57, r58, r59, r60, r61, g0, g2, g6, g16] at h) <;> (try omega)) | (refine br_n (fun h => ?_) (fun h => ?_) <;> (try simp (disch := omega) only [nI_clamp, li_2, li_3, li_4, li_5, li_6, li_7, li_8, li_9, li_10, li_40, li_120, pk_mul, nI_add, nI_1, ix_eq, ix_lt, ix_le, ix_l0, ix_l1, ix_n0, ix_p0, ix_1lt, ix_lt1, ix_1le, ix_le1, ix_le0, ix_0lt, ab_z0, ab_z1, i_10, i_01, eq_self, ab_ozn, ab_ozp, ab_o_some, not_true_eq_false, not_false_eq_true, Bool.not_eq_false, Bool.not_eq_true, Bool.not_eq_false', Bool.not_eq_true', Bool.false_eq_true, Bool.true_eq_false, reduceCtorEq, Option.isSome_some, Option.isSome_none, r44, r45, r46, r47, r48, r49, r50, r51, r52, r53, r54, r55, r56, r57, r58, r59, r60, r61, g0, g2, g6, g16] at h) <;> (try omega)) | refine ab_sd (by first | (with_reducible refine vp_in_nI ?_ ?_ <;> omega) | (simp (disch := omega) only [nI_clamp, li_2, li_3, li_4, li_5, li_6, li_7, li_8, li_9, li_10, li_40, li_120, pk_mul, nI_add, nI_1, ix_eq, ix_lt, ix_le, ix_l0, ix_l1, ix_n0, ix_p0, ix_1lt, ix_lt1, ix_1le, ix_le1, ix_le0, ix_0lt, ab_z0, ab_z1, i_10, i_01, eq_self, ab_ozn, ab_ozp, ab_o_some, not_true_eq_false, not_false_eq_true, Bool.not_eq_false, Bool.not_eq_true, Bool.not_eq_false', Bool.not_eq_true', Bool.false_eq_true, Bool.true_eq_false, reduceCtorEq, Option.isSome_some, Option.isSome_none, r44, r45, r46, r47, r48, r49, r50, r51, r52, r53, r54, r55, r56, r57, r58, r59, r60, r61, g0, g2, g6, g16]; with_reducible refine vp_in_nI ?_ ?_ <;> omega)) ?_ | refine ab_sd ?_ ?_ | refine ab_sz (Or.inl rfl) ?_ | refine ab_sz (Or.inr rfl) ?_ | refine ab_sz ?_ ?_)
        have ev : ∀ d' a', d' < s_nX S → a' < s_nX S → s_v1 S V0 d 0 (120 * d' + a') = s_dir S d' a' := by
          intro d' a' h5 h6
          unfold s_v1
          rw [if_pos (by omega), show (120 * d' + a') / 120 = d' by omega, show (120 * d' + a') % 120 = a' by omega]
        refine main 14401 μ' (s_v1 S V0 d 0) (by omega) R hF r64 (fun d' a' h5 h6 => ?_) _ _
        rw [ev d' a' h5 h6]
        refine ⟨fun q => q, fun q => ⟨?_, Or.inl q⟩⟩
        unfold s_dir at q
        simp only [Bool.and_eq_true] at q
        exact q.1
  obtain ⟨r44, r45, r46, r47, r48, r49, r50, r51, r52, r53, r54, r55, r56, r57, r58, r59, r60, r61, g0, g2, g6, g16⟩ := RepR_fs R
  repeat' (first | refine hjx _ _ _ _ (by decide) ?_ | (refine br_c (fun h => ?_) (fun h => ?_) <;> (try simp (disch := omega) only [nI_clamp, li_2, li_3, li_4, li_5, li_6, li_7, li_8, li_9, li_10, li_40, li_120, pk_mul, nI_add, nI_1, ix_eq, ix_lt, ix_le, ix_l0, ix_l1, ix_n0, ix_p0, ix_1lt, ix_lt1, ix_1le, ix_le1, ix_le0, ix_0lt, ab_z0, ab_z1, i_10, i_01, eq_self, ab_ozn, ab_ozp, ab_o_some, not_true_eq_false, not_false_eq_true, Bool.not_eq_false, Bool.not_eq_true, Bool.not_eq_false', Bool.not_eq_true', Bool.false_eq_true, Bool.true_eq_false, reduceCtorEq, Option.isSome_some, Option.isSome_none, r44, r45, r46, r47, r48, r49, r50, r51, r52, r53, r54, r55, r56, r57, r58, r59, r60, r61, g0, g2, g6, g16] at h) <;> (try omega)) | (refine br_n (fun h => ?_) (fun h => ?_) <;> (try simp (disch := omega) only [nI_clamp, li_2, li_3, li_4, li_5, li_6, li_7, li_8, li_9, li_10, li_40, li_120, pk_mul, nI_add, nI_1, ix_eq, ix_lt, ix_le, ix_l0, ix_l1, ix_n0, ix_p0, ix_1lt, ix_lt1, ix_1le, ix_le1, ix_le0, ix_0lt, ab_z0, ab_z1, i_10, i_01, eq_self, ab_ozn, ab_ozp, ab_o_some, not_true_eq_false, not_false_eq_true, Bool.not_eq_false, Bool.not_eq_true, Bool.not_eq_false', Bool.not_eq_true', Bool.false_eq_true, Bool.true_eq_false, reduceCtorEq, Option.isSome_some, Option.isSome_none, r44, r45, r46, r47, r48, r49, r50, r51, r52, r53, r54, r55, r56, r57, r58, r59, r60, r61, g0, g2, g6, g16] at h) <;> (try omega)) | refine ab_sd (by first | (with_reducible refine vp_in_nI ?_ ?_ <;> omega) | (simp (disch := omega) only [nI_clamp, li_2, li_3, li_4, li_5, li_6, li_7, li_8, li_9, li_10, li_40, li_120, pk_mul, nI_add, nI_1, ix_eq, ix_lt, ix_le, ix_l0, ix_l1, ix_n0, ix_p0, ix_1lt, ix_lt1, ix_1le, ix_le1, ix_le0, ix_0lt, ab_z0, ab_z1, i_10, i_01, eq_self, ab_ozn, ab_ozp, ab_o_some, not_true_eq_false, not_false_eq_true, Bool.not_eq_false, Bool.not_eq_true, Bool.not_eq_false', Bool.not_eq_true', Bool.false_eq_true, Bool.true_eq_false, reduceCtorEq, Option.isSome_some, Option.isSome_none, r44, r45, r46, r47, r48, r49, r50, r51, r52, r53, r54, r55, r56, r57, r58, r59, r60, r61, g0, g2, g6, g16]; with_reducible refine vp_in_nI ?_ ?_ <;> omega)) ?_ | refine ab_sd ?_ ?_ | refine ab_sz (Or.inl rfl) ?_ | refine ab_sz (Or.inr rfl) ?_ | refine ab_sz ?_ ?_)
  exact loop2 (s_nX S + 1) 0 μ (by omega) (by omega) R FO.rf (fun j => by rw [r64 j]; unfold s_v1; rw [if_neg (by omega)]) _ _
end R14
end
section
/-! MEMBERS OF, OVERRIDES: the values -/
def Rk (S : sT) (ρ : Nat → Nat) : Prop := (∀ t, t < s_nT S → ρ t < 40 ∧ (∀ p, s_pa S t = some p → ρ p < ρ t) ∧ (∀ k, k < S.1 55 t → ρ (S.1 54 (4 * t + k)) < ρ t)) ∧ (∀ t u, t < s_nT S → u < s_nT S → s_ab S t u = true → ρ u < ρ t)
def s_ofF (S : sT) : Nat → Nat → Nat → Bool
  | 0, _, _ => false
  | n + 1, t, m => s_ofS S (fun j => s_ofF S n (j / 120) (j % 120)) t m
def s_of (S : sT) (t m : Nat) : Bool := s_ofF S 41 t m
def s_ovF (S : sT) : Nat → Nat → Nat → Bool
  | 0, _, _ => false
  | n + 1, d, a => s_ovS S (fun j => s_ovF S n (j / 120) (j % 120)) d a
def s_ov (S : sT) (d a : Nat) : Bool := s_ovF S 41 d a
theorem s_ofS_c {S : sT} (hX : s_nX S ≤ 120) {O O' : Nat → Bool} {t m : Nat} (hm : m < s_nX S) (hp : ∀ p, s_pa S t = some p → ∀ m, m < s_nX S → O (120 * p + m) = O' (120 * p + m)) (hf : ∀ k, k < S.1 55 t → ∀ m, m < s_nX S → O (120 * S.1 54 (4 * t + k) + m) = O' (120 * S.1 54 (4 * t + k) + m)) : s_ofS S O t m = s_ofS S O' t m := by
  have e1 : ∀ x, x < s_nX S → s_cfp S O t x = s_cfp S O' t x := by
    intro x hx
    unfold s_cfp
    cases e : s_pa S t with
    | none => rfl
    | some p => simp only [hp p e x hx]
  have e2 : ∀ x, x < s_nX S → s_ofp S O t x = s_ofp S O' t x := by
    intro x hx
    unfold s_ofp
    cases e : s_pa S t with
    | none => rfl
    | some p => simp only [hp p e x hx]
  have e3 : ∀ x, x < s_nX S → s_iof S O t x = s_iof S O' t x := by
    intro x hx
    unfold s_iof
    exact ab_ex_congr (fun k hk => hf k hk x hx)
  have e4 : s_bh S O t m = s_bh S O' t m := by
    unfold s_bh
    refine ab_ex_congr (fun x hx => ?_)
    unfold s_bh1
    rw [e1 x hx, e2 x hx, e3 x hx]
  unfold s_ofS
  rw [e1 m hm, e3 m hm, e4]
theorem s_dm (p m : Nat) (h : m < 120) : (120 * p + m) / 120 = p ∧ (120 * p + m) % 120 = m := by omega
theorem s_ofF_st {S : sT} {ρ : Nat → Nat} (hW : Wf S) (hR : Rk S ρ) : ∀ (n n' t m : Nat), t < s_nT S → m < s_nX S → ρ t < n → ρ t < n' → s_ofF S n t m = s_ofF S n' t m
  | 0, n', t, m, ht, hm, h1, h2 => by omega
  | n + 1, 0, t, m, ht, hm, h1, h2 => by omega
  | n + 1, n' + 1, t, m, ht, hm, h1, h2 => by
    have hX := hW.2.2.2.1
    obtain ⟨-, -, -, -, -, t6, -, t8⟩ := hW.2.2.2.2.2.1 t ht
    obtain ⟨-, r2, r3⟩ := hR.1 t ht
    simp only [s_ofF]
    refine s_ofS_c hX hm (fun p e x hx => ?_) (fun k hk x hx => ?_)
    · have := r2 p e
      simp only [(s_dm p x (by omega)).1, (s_dm p x (by omega)).2]
      exact s_ofF_st hW hR n n' p x (t8 p e) hx (by omega) (by omega)
    · have := r3 k hk
      simp only [(s_dm _ x (show x < 120 by omega)).1, (s_dm _ x (show x < 120 by omega)).2]
      exact s_ofF_st hW hR n n' _ x (t6 k hk) hx (by omega) (by omega)
/-- the equation, with any picture that is right at the PARENT and the FACES -/
theorem s_of_eq {S : sT} {ρ : Nat → Nat} (hW : Wf S) (hR : Rk S ρ) {t m : Nat} (ht : t < s_nT S) (hm : m < s_nX S) {O : Nat → Bool} (hp : ∀ p, s_pa S t = some p → ∀ m, m < s_nX S → O (120 * p + m) = s_of S p m) (hf : ∀ k, k < S.1 55 t → ∀ m, m < s_nX S → O (120 * S.1 54 (4 * t + k) + m) = s_of S (S.1 54 (4 * t + k)) m) : s_ofS S O t m = s_of S t m := by
  have hX := hW.2.2.2.1
  obtain ⟨-, -, -, -, -, t6, -, t8⟩ := hW.2.2.2.2.2.1 t ht
  obtain ⟨r1, r2, r3⟩ := hR.1 t ht
  show _ = s_ofS S (fun j => s_ofF S 40 (j / 120) (j % 120)) t m
  refine s_ofS_c hX hm (fun p e x hx => ?_) (fun k hk x hx => ?_)
  · have := r2 p e
    rw [hp p e x hx]
    simp only [(s_dm p x (by omega)).1, (s_dm p x (by omega)).2]
    exact s_ofF_st hW hR 41 40 p x (t8 p e) hx (by omega) (by omega)
  · have := r3 k hk
    rw [hf k hk x hx]
    simp only [(s_dm _ x (show x < 120 by omega)).1, (s_dm _ x (show x < 120 by omega)).2]
    exact s_ofF_st hW hR 41 40 _ x (t6 k hk) hx (by omega) (by omega)
theorem s_can_rk {S : sT} {ρ : Nat → Nat} (hW : Wf S) (hR : Rk S ρ) {d a : Nat} (hd : d < s_nX S) (ha : a < s_nX S) (h : s_can S d a = true) : ρ (S.1 57 a) < ρ (S.1 57 d) := by
  unfold s_can at h
  simp only [Bool.and_eq_true] at h
  exact hR.2 _ _ (hW.2.2.2.2.2.2 d hd).1 (hW.2.2.2.2.2.2 a ha).1 h.2
theorem s_ovF_can {S : sT} {n d a : Nat} (h : s_can S d a = false) : s_ovF S n d a = false := by
  cases n with
  | zero => rfl
  | succ n => simp [s_ovF, s_ovS, h]
theorem s_ov_un {S : sT} {ρ : Nat → Nat} (hW : Wf S) (hR : Rk S ρ) {V : Nat → Bool} (hV : ∀ d a, d < s_nX S → a < s_nX S → V (120 * d + a) = s_ovS S V d a) : ∀ (n d a : Nat), d < s_nX S → a < s_nX S → ρ (S.1 57 d) < ρ (S.1 57 a) + n → V (120 * d + a) = s_ovF S n d a
  | 0, d, a, hd, ha, h => by
    rw [hV d a hd ha]
    cases hc : s_can S d a with
    | false => simp [s_ovF, s_ovS, hc]
    | true => have := s_can_rk hW hR hd ha hc; omega
  | n + 1, d, a, hd, ha, h => by
    have hX := hW.2.2.2.1
    rw [hV d a hd ha]
    cases hc : s_can S d a with
    | false => simp [s_ovF, s_ovS, hc]
    | true =>
      have h0 := s_can_rk hW hR hd ha hc
      simp only [s_ovF, s_ovS]
      congr 2
      unfold s_by
      refine ab_ex_congr (fun b hb => ?_)
      simp only [(s_dm d b (by omega)).1, (s_dm d b (by omega)).2, (s_dm b a (by omega)).1, (s_dm b a (by omega)).2]
      congr 1
      cases c1 : s_can S d b with
      | false =>
        have e1 : V (120 * d + b) = false := by rw [hV d b hd hb]; simp [s_ovS, c1]
        rw [e1, s_ovF_can c1]; rfl
      | true =>
        cases c2 : s_can S b a with
        | false =>
          have e1 : V (120 * b + a) = false := by rw [hV b a hb ha]; simp [s_ovS, c2]
          rw [e1, s_ovF_can c2]; simp
        | true =>
          have h1 := s_can_rk hW hR hd hb c1
          have h2 := s_can_rk hW hR hb ha c2
          rw [s_ov_un hW hR hV n d b hd hb (by omega), s_ov_un hW hR hV n b a hb ha (by omega)]
def KB (μ : ab_M) : Prop := (∃ O : Nat → Bool, ∀ j, μ.1 62 j = ab_z (O j)) ∧ (∃ O : Nat → Bool, ∀ j, μ.1 63 j = ab_z (O j)) ∧ (∃ O : Nat → Bool, ∀ j, μ.1 64 j = ab_z (O j)) ∧ (∃ O : Nat → Bool, ∀ j, μ.1 65 j = ab_z (O j))
def CacheOK (S : sT) (μ : ab_M) : Prop := (∀ t m, t < s_nT S → m < s_nX S → μ.1 62 (120 * t + m) = ab_z (s_of S t m)) ∧ (∀ d a, d < s_nX S → a < s_nX S → μ.1 64 (120 * d + a) = ab_z (s_ov S d a))
def CacheR (S : sT) (μ : ab_M) : Prop := KB μ ∧ (μ.1 43 22 = 0 ∨ (μ.1 43 22 = 1 ∧ CacheOK S μ))
theorem s_exr {S : sT} {ρ : Nat → Nat} (hW : Wf S) (hR : Rk S ρ) {D : Nat → Bool} : ∀ (n u : Nat), ρ u < n → u < s_nT S → D u = false → ∃ v, v < s_nT S ∧ D v = false ∧ s_rdy S D v = true
  | 0, u, h, _, _ => by omega
  | n + 1, u, h, hu, hd => by
    obtain ⟨-, -, -, -, -, t6, -, t8⟩ := hW.2.2.2.2.2.1 u hu
    obtain ⟨-, r2, r3⟩ := hR.1 u hu
    cases hr : s_rdy S D u with
    | true => exact ⟨u, hu, hd, hr⟩
    | false =>
      unfold s_rdy at hr
      rw [Bool.and_eq_false_iff] at hr
      rcases hr with hr | hr
      · cases e : s_pa S u with
        | none => rw [e] at hr; cases hr
        | some p =>
          rw [e] at hr
          have := r2 p e
          exact s_exr hW hR n p (by omega) (t8 p e) hr
      · have : ¬ ∀ k, k < S.1 55 u → D (S.1 54 (4 * u + k)) = true := fun q => by rw [ab_al_iff.mpr q] at hr; cases hr
        have : ∃ k, k < S.1 55 u ∧ D (S.1 54 (4 * u + k)) = false := by
          apply Classical.byContradiction
          intro q
          refine this (fun k hk => ?_)
          cases hb : D (S.1 54 (4 * u + k)) with
          | true => rfl
          | false => exact absurd ⟨k, hk, hb⟩ q
        obtain ⟨k, hk, hb⟩ := this
        have := r3 k hk
        exact s_exr hW hR n _ (by omega) (t6 k hk) hb
theorem ab_cnt_full {f : Nat → Bool} : ∀ {n : Nat}, ab_cnt f n = n → ∀ i, i < n → f i = true
  | 0, _, i, hi => by omega
  | n + 1, h, i, hi => by
    have h1 := ab_cnt_le f n
    simp only [ab_cnt] at h
    cases hf : f n with
    | false => rw [hf] at h; simp at h; omega
    | true =>
      rw [hf] at h
      by_cases e : i = n
      · subst e; exact hf
      · exact ab_cnt_full (n := n) (by simpa using h) i (by omega)
theorem ab_cnt_not {f : Nat → Bool} : ∀ {n : Nat}, ab_cnt f n < n → ∃ i, i < n ∧ f i = false
  | 0, h => by omega
  | n + 1, h => by
    simp only [ab_cnt] at h
    cases hf : f n with
    | false => exact ⟨n, by omega, hf⟩
    | true =>
      rw [hf] at h
      simp at h
      obtain ⟨i, h1, h2⟩ := ab_cnt_not h
      exact ⟨i, by omega, h2⟩
theorem ab_cnt_zero {f : Nat → Bool} : ∀ {n : Nat}, (∀ i, i < n → f i = false) → ab_cnt f n = 0
  | 0, _ => rfl
  | n + 1, h => by
    simp only [ab_cnt]
    rw [ab_cnt_zero (fun i hi => h i (by omega)), h n (by omega)]
    rfl
end
