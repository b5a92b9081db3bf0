section
-- ===== PART A: goes FIRST, ahead of the names: the tables' words, and 'selects' of the private methods out of them =====
/-- a private method of a class that the tables say can be made, by its rows of tables_1 -/
def lw_okq (q : MethodName × Nat) : Prop := (q.1.cls ≠ "java/lang/invoke/MethodHandle" ∧ q.1.cls ≠ "java/lang/invoke/VarHandle") ∧ Cond.instantiable q.1.cls q.2 ∈ tables_1 ∧ Cond.privateMethod q.1 ∈ tables_1 ∧ Cond.instanceMethod q.1 ∈ tables_1
theorem lw_p0 : lw_okq (⟨"AccessJudge$Types", "putWithin", "(II)V"⟩, 16) := ⟨⟨by decide +kernel, by decide +kernel⟩, List.mem_of_getElem? (i := 50) (by decide +kernel), List.mem_of_getElem? (i := 444) (by decide +kernel), List.mem_of_getElem? (i := 445) (by decide +kernel)⟩
theorem lw_p1 : lw_okq (⟨"AccessJudge$Types", "putBelow", "(II)V"⟩, 16) := ⟨⟨by decide +kernel, by decide +kernel⟩, List.mem_of_getElem? (i := 50) (by decide +kernel), List.mem_of_getElem? (i := 452) (by decide +kernel), List.mem_of_getElem? (i := 453) (by decide +kernel)⟩
theorem lw_p2 : lw_okq (⟨"AccessJudge$Types", "putLastInOrder", "(J)V"⟩, 16) := ⟨⟨by decide +kernel, by decide +kernel⟩, List.mem_of_getElem? (i := 50) (by decide +kernel), List.mem_of_getElem? (i := 464) (by decide +kernel), List.mem_of_getElem? (i := 465) (by decide +kernel)⟩
theorem lw_p3 : lw_okq (⟨"AccessJudge", "forgetAnswers", "()V"⟩, 9) := ⟨⟨by decide +kernel, by decide +kernel⟩, List.mem_of_getElem? (i := 17) (by decide +kernel), List.mem_of_getElem? (i := 471) (by decide +kernel), List.mem_of_getElem? (i := 472) (by decide +kernel)⟩
theorem lw_p4 : lw_okq (⟨"AccessJudge$Members", "fitsInterface", "(III)Z"⟩, 12) := ⟨⟨by decide +kernel, by decide +kernel⟩, List.mem_of_getElem? (i := 146) (by decide +kernel), List.mem_of_getElem? (i := 521) (by decide +kernel), List.mem_of_getElem? (i := 522) (by decide +kernel)⟩
theorem lw_p5 : lw_okq (⟨"AccessJudge$Inheritance", "find", "(II)J"⟩, 4) := ⟨⟨by decide +kernel, by decide +kernel⟩, List.mem_of_getElem? (i := 215) (by decide +kernel), List.mem_of_getElem? (i := 558) (by decide +kernel), List.mem_of_getElem? (i := 559) (by decide +kernel)⟩
theorem lw_p6 : lw_okq (⟨"AccessJudge$Inheritance", "fromParent", "(IIJ)J"⟩, 4) := ⟨⟨by decide +kernel, by decide +kernel⟩, List.mem_of_getElem? (i := 215) (by decide +kernel), List.mem_of_getElem? (i := 563) (by decide +kernel), List.mem_of_getElem? (i := 564) (by decide +kernel)⟩
theorem lw_p7 : lw_okq (⟨"AccessJudge$Inheritance", "ofFaces", "(II)J"⟩, 4) := ⟨⟨by decide +kernel, by decide +kernel⟩, List.mem_of_getElem? (i := 215) (by decide +kernel), List.mem_of_getElem? (i := 572) (by decide +kernel), List.mem_of_getElem? (i := 573) (by decide +kernel)⟩
theorem lw_p8 : lw_okq (⟨"AccessJudge$Inheritance", "fromFaces", "(IJJJ)J"⟩, 4) := ⟨⟨by decide +kernel, by decide +kernel⟩, List.mem_of_getElem? (i := 215) (by decide +kernel), List.mem_of_getElem? (i := 580) (by decide +kernel), List.mem_of_getElem? (i := 581) (by decide +kernel)⟩
theorem lw_p9 : lw_okq (⟨"AccessJudge$Openness", "isOpenWithinOuter", "(II)Z"⟩, 3) := ⟨⟨by decide +kernel, by decide +kernel⟩, List.mem_of_getElem? (i := 256) (by decide +kernel), List.mem_of_getElem? (i := 616) (by decide +kernel), List.mem_of_getElem? (i := 617) (by decide +kernel)⟩
theorem lw_p10 : lw_okq (⟨"AccessJudge$Openness", "isMemberOpen", "(IIII)Z"⟩, 3) := ⟨⟨by decide +kernel, by decide +kernel⟩, List.mem_of_getElem? (i := 256) (by decide +kernel), List.mem_of_getElem? (i := 654) (by decide +kernel), List.mem_of_getElem? (i := 655) (by decide +kernel)⟩
theorem lw_p11 : lw_okq (⟨"AccessJudge$Openness", "isNearEnough", "(II)Z"⟩, 3) := ⟨⟨by decide +kernel, by decide +kernel⟩, List.mem_of_getElem? (i := 256) (by decide +kernel), List.mem_of_getElem? (i := 658) (by decide +kernel), List.mem_of_getElem? (i := 659) (by decide +kernel)⟩
theorem lw_p12 : lw_okq (⟨"AccessJudge$Openness", "isProtectedOpen", "(IIII)Z"⟩, 3) := ⟨⟨by decide +kernel, by decide +kernel⟩, List.mem_of_getElem? (i := 256) (by decide +kernel), List.mem_of_getElem? (i := 662) (by decide +kernel), List.mem_of_getElem? (i := 663) (by decide +kernel)⟩
theorem lw_p13 : lw_okq (⟨"AccessJudge$Uses", "preferred", "(JI)I"⟩, 4) := ⟨⟨by decide +kernel, by decide +kernel⟩, List.mem_of_getElem? (i := 272) (by decide +kernel), List.mem_of_getElem? (i := 674) (by decide +kernel), List.mem_of_getElem? (i := 675) (by decide +kernel)⟩
theorem lw_p14 : lw_okq (⟨"AccessJudge$Uses", "allowed", "(IIII)I"⟩, 4) := ⟨⟨by decide +kernel, by decide +kernel⟩, List.mem_of_getElem? (i := 272) (by decide +kernel), List.mem_of_getElem? (i := 679) (by decide +kernel), List.mem_of_getElem? (i := 680) (by decide +kernel)⟩
theorem lw_p15 : lw_okq (⟨"AccessJudge$Uses", "hasStaticAhead", "(II)Z"⟩, 4) := ⟨⟨by decide +kernel, by decide +kernel⟩, List.mem_of_getElem? (i := 272) (by decide +kernel), List.mem_of_getElem? (i := 684) (by decide +kernel), List.mem_of_getElem? (i := 685) (by decide +kernel)⟩
def lw_privs_1 : List (MethodName × Nat) := [(⟨"AccessJudge$Types", "putWithin", "(II)V"⟩, 16), (⟨"AccessJudge$Types", "putBelow", "(II)V"⟩, 16), (⟨"AccessJudge$Types", "putLastInOrder", "(J)V"⟩, 16), (⟨"AccessJudge", "forgetAnswers", "()V"⟩, 9), (⟨"AccessJudge$Members", "fitsInterface", "(III)Z"⟩, 12), (⟨"AccessJudge$Inheritance", "find", "(II)J"⟩, 4), (⟨"AccessJudge$Inheritance", "fromParent", "(IIJ)J"⟩, 4), (⟨"AccessJudge$Inheritance", "ofFaces", "(II)J"⟩, 4), (⟨"AccessJudge$Inheritance", "fromFaces", "(IJJJ)J"⟩, 4), (⟨"AccessJudge$Openness", "isOpenWithinOuter", "(II)Z"⟩, 3), (⟨"AccessJudge$Openness", "isMemberOpen", "(IIII)Z"⟩, 3), (⟨"AccessJudge$Openness", "isNearEnough", "(II)Z"⟩, 3), (⟨"AccessJudge$Openness", "isProtectedOpen", "(IIII)Z"⟩, 3), (⟨"AccessJudge$Uses", "preferred", "(JI)I"⟩, 4), (⟨"AccessJudge$Uses", "allowed", "(IIII)I"⟩, 4), (⟨"AccessJudge$Uses", "hasStaticAhead", "(II)Z"⟩, 4)]
theorem lw_r1 : ∀ q ∈ lw_privs_1, lw_okq q := List.forall_mem_cons.mpr ⟨lw_p0, List.forall_mem_cons.mpr ⟨lw_p1, List.forall_mem_cons.mpr ⟨lw_p2, List.forall_mem_cons.mpr ⟨lw_p3, List.forall_mem_cons.mpr ⟨lw_p4, List.forall_mem_cons.mpr ⟨lw_p5, List.forall_mem_cons.mpr ⟨lw_p6, List.forall_mem_cons.mpr ⟨lw_p7, List.forall_mem_cons.mpr ⟨lw_p8, List.forall_mem_cons.mpr ⟨lw_p9, List.forall_mem_cons.mpr ⟨lw_p10, List.forall_mem_cons.mpr ⟨lw_p11, List.forall_mem_cons.mpr ⟨lw_p12, List.forall_mem_cons.mpr ⟨lw_p13, List.forall_mem_cons.mpr ⟨lw_p14, List.forall_mem_cons.mpr ⟨lw_p15, fun _ h => absurd h List.not_mem_nil⟩⟩⟩⟩⟩⟩⟩⟩⟩⟩⟩⟩⟩⟩⟩⟩
theorem lw_p16 : lw_okq (⟨"AccessJudge$Overriding", "knownRow", "(I)I"⟩, 5) := ⟨⟨by decide +kernel, by decide +kernel⟩, List.mem_of_getElem? (i := 234) (by decide +kernel), List.mem_of_getElem? (i := 719) (by decide +kernel), List.mem_of_getElem? (i := 720) (by decide +kernel)⟩
theorem lw_p17 : lw_okq (⟨"AccessJudge$Overriding", "clear", "(I)V"⟩, 5) := ⟨⟨by decide +kernel, by decide +kernel⟩, List.mem_of_getElem? (i := 234) (by decide +kernel), List.mem_of_getElem? (i := 723) (by decide +kernel), List.mem_of_getElem? (i := 724) (by decide +kernel)⟩
theorem lw_p18 : lw_okq (⟨"AccessJudge$Overriding", "findOverridden", "(IJII)V"⟩, 5) := ⟨⟨by decide +kernel, by decide +kernel⟩, List.mem_of_getElem? (i := 234) (by decide +kernel), List.mem_of_getElem? (i := 728) (by decide +kernel), List.mem_of_getElem? (i := 729) (by decide +kernel)⟩
theorem lw_p19 : lw_okq (⟨"AccessJudge$Overriding", "reaches", "(IIII)Z"⟩, 5) := ⟨⟨by decide +kernel, by decide +kernel⟩, List.mem_of_getElem? (i := 234) (by decide +kernel), List.mem_of_getElem? (i := 733) (by decide +kernel), List.mem_of_getElem? (i := 734) (by decide +kernel)⟩
theorem lw_p20 : lw_okq (⟨"AccessJudge$Choice", "nearestClass", "(IJ)I"⟩, 3) := ⟨⟨by decide +kernel, by decide +kernel⟩, List.mem_of_getElem? (i := 291) (by decide +kernel), List.mem_of_getElem? (i := 755) (by decide +kernel), List.mem_of_getElem? (i := 756) (by decide +kernel)⟩
theorem lw_p21 : lw_okq (⟨"AccessJudge$Choice", "fromInterfaces", "(II)I"⟩, 3) := ⟨⟨by decide +kernel, by decide +kernel⟩, List.mem_of_getElem? (i := 291) (by decide +kernel), List.mem_of_getElem? (i := 760) (by decide +kernel), List.mem_of_getElem? (i := 761) (by decide +kernel)⟩
theorem lw_p22 : lw_okq (⟨"AccessJudge$Faults", "metBy", "(IIJ)J"⟩, 10) := ⟨⟨by decide +kernel, by decide +kernel⟩, List.mem_of_getElem? (i := 307) (by decide +kernel), List.mem_of_getElem? (i := 779) (by decide +kernel), List.mem_of_getElem? (i := 780) (by decide +kernel)⟩
theorem lw_p23 : lw_okq (⟨"AccessJudge$Faults", "findInTypesAbove", "(I)V"⟩, 10) := ⟨⟨by decide +kernel, by decide +kernel⟩, List.mem_of_getElem? (i := 307) (by decide +kernel), List.mem_of_getElem? (i := 785) (by decide +kernel), List.mem_of_getElem? (i := 786) (by decide +kernel)⟩
theorem lw_p24 : lw_okq (⟨"AccessJudge$Faults", "addIf", "(ZII)V"⟩, 10) := ⟨⟨by decide +kernel, by decide +kernel⟩, List.mem_of_getElem? (i := 307) (by decide +kernel), List.mem_of_getElem? (i := 790) (by decide +kernel), List.mem_of_getElem? (i := 791) (by decide +kernel)⟩
theorem lw_p25 : lw_okq (⟨"AccessJudge$Faults", "findInDeclared", "(I)V"⟩, 10) := ⟨⟨by decide +kernel, by decide +kernel⟩, List.mem_of_getElem? (i := 307) (by decide +kernel), List.mem_of_getElem? (i := 795) (by decide +kernel), List.mem_of_getElem? (i := 796) (by decide +kernel)⟩
theorem lw_p26 : lw_okq (⟨"AccessJudge$Faults", "clashes", "(II)Z"⟩, 10) := ⟨⟨by decide +kernel, by decide +kernel⟩, List.mem_of_getElem? (i := 307) (by decide +kernel), List.mem_of_getElem? (i := 800) (by decide +kernel), List.mem_of_getElem? (i := 801) (by decide +kernel)⟩
theorem lw_p27 : lw_okq (⟨"AccessJudge$Faults", "clashesWith", "(III)Z"⟩, 10) := ⟨⟨by decide +kernel, by decide +kernel⟩, List.mem_of_getElem? (i := 307) (by decide +kernel), List.mem_of_getElem? (i := 805) (by decide +kernel), List.mem_of_getElem? (i := 806) (by decide +kernel)⟩
theorem lw_p28 : lw_okq (⟨"AccessJudge$Faults", "findInMembers", "(I)V"⟩, 10) := ⟨⟨by decide +kernel, by decide +kernel⟩, List.mem_of_getElem? (i := 307) (by decide +kernel), List.mem_of_getElem? (i := 810) (by decide +kernel), List.mem_of_getElem? (i := 811) (by decide +kernel)⟩
theorem lw_p29 : lw_okq (⟨"AccessJudge$Faults", "isFound", "(I)Z"⟩, 10) := ⟨⟨by decide +kernel, by decide +kernel⟩, List.mem_of_getElem? (i := 307) (by decide +kernel), List.mem_of_getElem? (i := 815) (by decide +kernel), List.mem_of_getElem? (i := 816) (by decide +kernel)⟩
theorem lw_p30 : lw_okq (⟨"AccessJudge$Faults", "isRivalled", "(I)Z"⟩, 10) := ⟨⟨by decide +kernel, by decide +kernel⟩, List.mem_of_getElem? (i := 307) (by decide +kernel), List.mem_of_getElem? (i := 819) (by decide +kernel), List.mem_of_getElem? (i := 820) (by decide +kernel)⟩
theorem lw_p31 : lw_okq (⟨"AccessJudgeModel", "noModule", "(I)Z"⟩, 30) := ⟨⟨by decide +kernel, by decide +kernel⟩, List.mem_of_getElem? (i := 829) (by decide +kernel), List.mem_of_getElem? (i := 935) (by decide +kernel), List.mem_of_getElem? (i := 936) (by decide +kernel)⟩
def lw_privs_2 : List (MethodName × Nat) := [(⟨"AccessJudge$Overriding", "knownRow", "(I)I"⟩, 5), (⟨"AccessJudge$Overriding", "clear", "(I)V"⟩, 5), (⟨"AccessJudge$Overriding", "findOverridden", "(IJII)V"⟩, 5), (⟨"AccessJudge$Overriding", "reaches", "(IIII)Z"⟩, 5), (⟨"AccessJudge$Choice", "nearestClass", "(IJ)I"⟩, 3), (⟨"AccessJudge$Choice", "fromInterfaces", "(II)I"⟩, 3), (⟨"AccessJudge$Faults", "metBy", "(IIJ)J"⟩, 10), (⟨"AccessJudge$Faults", "findInTypesAbove", "(I)V"⟩, 10), (⟨"AccessJudge$Faults", "addIf", "(ZII)V"⟩, 10), (⟨"AccessJudge$Faults", "findInDeclared", "(I)V"⟩, 10), (⟨"AccessJudge$Faults", "clashes", "(II)Z"⟩, 10), (⟨"AccessJudge$Faults", "clashesWith", "(III)Z"⟩, 10), (⟨"AccessJudge$Faults", "findInMembers", "(I)V"⟩, 10), (⟨"AccessJudge$Faults", "isFound", "(I)Z"⟩, 10), (⟨"AccessJudge$Faults", "isRivalled", "(I)Z"⟩, 10), (⟨"AccessJudgeModel", "noModule", "(I)Z"⟩, 30)]
theorem lw_r2 : ∀ q ∈ lw_privs_2, lw_okq q := List.forall_mem_cons.mpr ⟨lw_p16, List.forall_mem_cons.mpr ⟨lw_p17, List.forall_mem_cons.mpr ⟨lw_p18, List.forall_mem_cons.mpr ⟨lw_p19, List.forall_mem_cons.mpr ⟨lw_p20, List.forall_mem_cons.mpr ⟨lw_p21, List.forall_mem_cons.mpr ⟨lw_p22, List.forall_mem_cons.mpr ⟨lw_p23, List.forall_mem_cons.mpr ⟨lw_p24, List.forall_mem_cons.mpr ⟨lw_p25, List.forall_mem_cons.mpr ⟨lw_p26, List.forall_mem_cons.mpr ⟨lw_p27, List.forall_mem_cons.mpr ⟨lw_p28, List.forall_mem_cons.mpr ⟨lw_p29, List.forall_mem_cons.mpr ⟨lw_p30, List.forall_mem_cons.mpr ⟨lw_p31, fun _ h => absurd h List.not_mem_nil⟩⟩⟩⟩⟩⟩⟩⟩⟩⟩⟩⟩⟩⟩⟩⟩
theorem lw_p32 : lw_okq (⟨"AccessJudgeModel", "noPack", "(I)Z"⟩, 30) := ⟨⟨by decide +kernel, by decide +kernel⟩, List.mem_of_getElem? (i := 829) (by decide +kernel), List.mem_of_getElem? (i := 947) (by decide +kernel), List.mem_of_getElem? (i := 948) (by decide +kernel)⟩
theorem lw_p33 : lw_okq (⟨"AccessJudgeModel", "noType", "(I)Z"⟩, 30) := ⟨⟨by decide +kernel, by decide +kernel⟩, List.mem_of_getElem? (i := 829) (by decide +kernel), List.mem_of_getElem? (i := 955) (by decide +kernel), List.mem_of_getElem? (i := 956) (by decide +kernel)⟩
theorem lw_p34 : lw_okq (⟨"AccessJudgeModel", "ruleOfType", "(IIIII)I"⟩, 30) := ⟨⟨by decide +kernel, by decide +kernel⟩, List.mem_of_getElem? (i := 829) (by decide +kernel), List.mem_of_getElem? (i := 962) (by decide +kernel), List.mem_of_getElem? (i := 963) (by decide +kernel)⟩
theorem lw_p35 : lw_okq (⟨"AccessJudgeModel", "isAt", "(II)Z"⟩, 30) := ⟨⟨by decide +kernel, by decide +kernel⟩, List.mem_of_getElem? (i := 829) (by decide +kernel), List.mem_of_getElem? (i := 973) (by decide +kernel), List.mem_of_getElem? (i := 974) (by decide +kernel)⟩
theorem lw_p36 : lw_okq (⟨"AccessJudgeModel", "isBelow", "(II)Z"⟩, 30) := ⟨⟨by decide +kernel, by decide +kernel⟩, List.mem_of_getElem? (i := 829) (by decide +kernel), List.mem_of_getElem? (i := 977) (by decide +kernel), List.mem_of_getElem? (i := 978) (by decide +kernel)⟩
theorem lw_p37 : lw_okq (⟨"AccessJudgeModel", "raise", "(II)V"⟩, 30) := ⟨⟨by decide +kernel, by decide +kernel⟩, List.mem_of_getElem? (i := 829) (by decide +kernel), List.mem_of_getElem? (i := 981) (by decide +kernel), List.mem_of_getElem? (i := 982) (by decide +kernel)⟩
theorem lw_p38 : lw_okq (⟨"AccessJudgeModel", "ruleOfMember", "(IIIII)I"⟩, 30) := ⟨⟨by decide +kernel, by decide +kernel⟩, List.mem_of_getElem? (i := 829) (by decide +kernel), List.mem_of_getElem? (i := 993) (by decide +kernel), List.mem_of_getElem? (i := 994) (by decide +kernel)⟩
theorem lw_p39 : lw_okq (⟨"AccessJudgeModel", "declared", "(III)I"⟩, 30) := ⟨⟨by decide +kernel, by decide +kernel⟩, List.mem_of_getElem? (i := 829) (by decide +kernel), List.mem_of_getElem? (i := 997) (by decide +kernel), List.mem_of_getElem? (i := 998) (by decide +kernel)⟩
theorem lw_p40 : lw_okq (⟨"AccessJudgeModel", "topOf", "(I)I"⟩, 30) := ⟨⟨by decide +kernel, by decide +kernel⟩, List.mem_of_getElem? (i := 829) (by decide +kernel), List.mem_of_getElem? (i := 1009) (by decide +kernel), List.mem_of_getElem? (i := 1010) (by decide +kernel)⟩
theorem lw_p41 : lw_okq (⟨"AccessJudgeModel", "find", "()V"⟩, 30) := ⟨⟨by decide +kernel, by decide +kernel⟩, List.mem_of_getElem? (i := 829) (by decide +kernel), List.mem_of_getElem? (i := 1013) (by decide +kernel), List.mem_of_getElem? (i := 1014) (by decide +kernel)⟩
theorem lw_p42 : lw_okq (⟨"AccessJudgeModel", "isReady", "(I)Z"⟩, 30) := ⟨⟨by decide +kernel, by decide +kernel⟩, List.mem_of_getElem? (i := 829) (by decide +kernel), List.mem_of_getElem? (i := 1017) (by decide +kernel), List.mem_of_getElem? (i := 1018) (by decide +kernel)⟩
theorem lw_p43 : lw_okq (⟨"AccessJudgeModel", "findMembers", "(I)V"⟩, 30) := ⟨⟨by decide +kernel, by decide +kernel⟩, List.mem_of_getElem? (i := 829) (by decide +kernel), List.mem_of_getElem? (i := 1021) (by decide +kernel), List.mem_of_getElem? (i := 1022) (by decide +kernel)⟩
theorem lw_p44 : lw_okq (⟨"AccessJudgeModel", "comesFromParent", "(II)Z"⟩, 30) := ⟨⟨by decide +kernel, by decide +kernel⟩, List.mem_of_getElem? (i := 829) (by decide +kernel), List.mem_of_getElem? (i := 1025) (by decide +kernel), List.mem_of_getElem? (i := 1026) (by decide +kernel)⟩
theorem lw_p45 : lw_okq (⟨"AccessJudgeModel", "isOfFace", "(II)Z"⟩, 30) := ⟨⟨by decide +kernel, by decide +kernel⟩, List.mem_of_getElem? (i := 829) (by decide +kernel), List.mem_of_getElem? (i := 1029) (by decide +kernel), List.mem_of_getElem? (i := 1030) (by decide +kernel)⟩
theorem lw_p46 : lw_okq (⟨"AccessJudgeModel", "isPlain", "(I)Z"⟩, 30) := ⟨⟨by decide +kernel, by decide +kernel⟩, List.mem_of_getElem? (i := 829) (by decide +kernel), List.mem_of_getElem? (i := 1033) (by decide +kernel), List.mem_of_getElem? (i := 1034) (by decide +kernel)⟩
theorem lw_p47 : lw_okq (⟨"AccessJudgeModel", "isBehind", "(II)Z"⟩, 30) := ⟨⟨by decide +kernel, by decide +kernel⟩, List.mem_of_getElem? (i := 829) (by decide +kernel), List.mem_of_getElem? (i := 1037) (by decide +kernel), List.mem_of_getElem? (i := 1038) (by decide +kernel)⟩
def lw_privs_3 : List (MethodName × Nat) := [(⟨"AccessJudgeModel", "noPack", "(I)Z"⟩, 30), (⟨"AccessJudgeModel", "noType", "(I)Z"⟩, 30), (⟨"AccessJudgeModel", "ruleOfType", "(IIIII)I"⟩, 30), (⟨"AccessJudgeModel", "isAt", "(II)Z"⟩, 30), (⟨"AccessJudgeModel", "isBelow", "(II)Z"⟩, 30), (⟨"AccessJudgeModel", "raise", "(II)V"⟩, 30), (⟨"AccessJudgeModel", "ruleOfMember", "(IIIII)I"⟩, 30), (⟨"AccessJudgeModel", "declared", "(III)I"⟩, 30), (⟨"AccessJudgeModel", "topOf", "(I)I"⟩, 30), (⟨"AccessJudgeModel", "find", "()V"⟩, 30), (⟨"AccessJudgeModel", "isReady", "(I)Z"⟩, 30), (⟨"AccessJudgeModel", "findMembers", "(I)V"⟩, 30), (⟨"AccessJudgeModel", "comesFromParent", "(II)Z"⟩, 30), (⟨"AccessJudgeModel", "isOfFace", "(II)Z"⟩, 30), (⟨"AccessJudgeModel", "isPlain", "(I)Z"⟩, 30), (⟨"AccessJudgeModel", "isBehind", "(II)Z"⟩, 30)]
theorem lw_r3 : ∀ q ∈ lw_privs_3, lw_okq q := List.forall_mem_cons.mpr ⟨lw_p32, List.forall_mem_cons.mpr ⟨lw_p33, List.forall_mem_cons.mpr ⟨lw_p34, List.forall_mem_cons.mpr ⟨lw_p35, List.forall_mem_cons.mpr ⟨lw_p36, List.forall_mem_cons.mpr ⟨lw_p37, List.forall_mem_cons.mpr ⟨lw_p38, List.forall_mem_cons.mpr ⟨lw_p39, List.forall_mem_cons.mpr ⟨lw_p40, List.forall_mem_cons.mpr ⟨lw_p41, List.forall_mem_cons.mpr ⟨lw_p42, List.forall_mem_cons.mpr ⟨lw_p43, List.forall_mem_cons.mpr ⟨lw_p44, List.forall_mem_cons.mpr ⟨lw_p45, List.forall_mem_cons.mpr ⟨lw_p46, List.forall_mem_cons.mpr ⟨lw_p47, fun _ h => absurd h List.not_mem_nil⟩⟩⟩⟩⟩⟩⟩⟩⟩⟩⟩⟩⟩⟩⟩⟩
theorem lw_p48 : lw_okq (⟨"AccessJudgeModel", "findOvers", "()V"⟩, 30) := ⟨⟨by decide +kernel, by decide +kernel⟩, List.mem_of_getElem? (i := 829) (by decide +kernel), List.mem_of_getElem? (i := 1041) (by decide +kernel), List.mem_of_getElem? (i := 1042) (by decide +kernel)⟩
theorem lw_p49 : lw_okq (⟨"AccessJudgeModel", "canOver", "(II)Z"⟩, 30) := ⟨⟨by decide +kernel, by decide +kernel⟩, List.mem_of_getElem? (i := 829) (by decide +kernel), List.mem_of_getElem? (i := 1045) (by decide +kernel), List.mem_of_getElem? (i := 1046) (by decide +kernel)⟩
theorem lw_p50 : lw_okq (⟨"AccessJudgeModel", "isOverBy", "(II)Z"⟩, 30) := ⟨⟨by decide +kernel, by decide +kernel⟩, List.mem_of_getElem? (i := 829) (by decide +kernel), List.mem_of_getElem? (i := 1049) (by decide +kernel), List.mem_of_getElem? (i := 1050) (by decide +kernel)⟩
theorem lw_p51 : lw_okq (⟨"AccessJudgeModel", "isOpen", "(II)Z"⟩, 30) := ⟨⟨by decide +kernel, by decide +kernel⟩, List.mem_of_getElem? (i := 829) (by decide +kernel), List.mem_of_getElem? (i := 1061) (by decide +kernel), List.mem_of_getElem? (i := 1062) (by decide +kernel)⟩
theorem lw_p52 : lw_okq (⟨"AccessJudgeModel", "isAround", "(II)Z"⟩, 30) := ⟨⟨by decide +kernel, by decide +kernel⟩, List.mem_of_getElem? (i := 829) (by decide +kernel), List.mem_of_getElem? (i := 1065) (by decide +kernel), List.mem_of_getElem? (i := 1066) (by decide +kernel)⟩
theorem lw_p53 : lw_okq (⟨"AccessJudgeModel", "noMember", "(I)Z"⟩, 30) := ⟨⟨by decide +kernel, by decide +kernel⟩, List.mem_of_getElem? (i := 829) (by decide +kernel), List.mem_of_getElem? (i := 1073) (by decide +kernel), List.mem_of_getElem? (i := 1074) (by decide +kernel)⟩
theorem lw_p54 : lw_okq (⟨"AccessJudgeModel", "looked", "(IIIII)I"⟩, 30) := ⟨⟨by decide +kernel, by decide +kernel⟩, List.mem_of_getElem? (i := 829) (by decide +kernel), List.mem_of_getElem? (i := 1081) (by decide +kernel), List.mem_of_getElem? (i := 1082) (by decide +kernel)⟩
theorem lw_p55 : lw_okq (⟨"AccessJudgeModel", "hasOne", "(III)Z"⟩, 30) := ⟨⟨by decide +kernel, by decide +kernel⟩, List.mem_of_getElem? (i := 829) (by decide +kernel), List.mem_of_getElem? (i := 1085) (by decide +kernel), List.mem_of_getElem? (i := 1086) (by decide +kernel)⟩
theorem lw_p56 : lw_okq (⟨"AccessJudgeModel", "isOpenMember", "(IIII)Z"⟩, 30) := ⟨⟨by decide +kernel, by decide +kernel⟩, List.mem_of_getElem? (i := 829) (by decide +kernel), List.mem_of_getElem? (i := 1089) (by decide +kernel), List.mem_of_getElem? (i := 1090) (by decide +kernel)⟩
theorem lw_p57 : lw_okq (⟨"AccessJudgeModel", "isCut", "(II)Z"⟩, 30) := ⟨⟨by decide +kernel, by decide +kernel⟩, List.mem_of_getElem? (i := 829) (by decide +kernel), List.mem_of_getElem? (i := 1093) (by decide +kernel), List.mem_of_getElem? (i := 1094) (by decide +kernel)⟩
theorem lw_p58 : lw_okq (⟨"AccessJudgeModel", "noMethod", "(I)Z"⟩, 30) := ⟨⟨by decide +kernel, by decide +kernel⟩, List.mem_of_getElem? (i := 829) (by decide +kernel), List.mem_of_getElem? (i := 1105) (by decide +kernel), List.mem_of_getElem? (i := 1106) (by decide +kernel)⟩
theorem lw_p59 : lw_okq (⟨"AccessJudgeModel", "isFaced", "(III)Z"⟩, 30) := ⟨⟨by decide +kernel, by decide +kernel⟩, List.mem_of_getElem? (i := 829) (by decide +kernel), List.mem_of_getElem? (i := 1113) (by decide +kernel), List.mem_of_getElem? (i := 1114) (by decide +kernel)⟩
theorem lw_p60 : lw_okq (⟨"AccessJudgeModel", "isUnder", "(II)Z"⟩, 30) := ⟨⟨by decide +kernel, by decide +kernel⟩, List.mem_of_getElem? (i := 829) (by decide +kernel), List.mem_of_getElem? (i := 1117) (by decide +kernel), List.mem_of_getElem? (i := 1118) (by decide +kernel)⟩
theorem lw_p61 : lw_okq (⟨"AccessJudgeModel", "look", "(I)V"⟩, 30) := ⟨⟨by decide +kernel, by decide +kernel⟩, List.mem_of_getElem? (i := 829) (by decide +kernel), List.mem_of_getElem? (i := 1125) (by decide +kernel), List.mem_of_getElem? (i := 1126) (by decide +kernel)⟩
theorem lw_p62 : lw_okq (⟨"AccessJudgeModel", "tell", "(II)V"⟩, 30) := ⟨⟨by decide +kernel, by decide +kernel⟩, List.mem_of_getElem? (i := 829) (by decide +kernel), List.mem_of_getElem? (i := 1129) (by decide +kernel), List.mem_of_getElem? (i := 1130) (by decide +kernel)⟩
theorem lw_p63 : lw_okq (⟨"AccessJudgeModel", "isMet", "(III)Z"⟩, 30) := ⟨⟨by decide +kernel, by decide +kernel⟩, List.mem_of_getElem? (i := 829) (by decide +kernel), List.mem_of_getElem? (i := 1133) (by decide +kernel), List.mem_of_getElem? (i := 1134) (by decide +kernel)⟩
def lw_privs_4 : List (MethodName × Nat) := [(⟨"AccessJudgeModel", "findOvers", "()V"⟩, 30), (⟨"AccessJudgeModel", "canOver", "(II)Z"⟩, 30), (⟨"AccessJudgeModel", "isOverBy", "(II)Z"⟩, 30), (⟨"AccessJudgeModel", "isOpen", "(II)Z"⟩, 30), (⟨"AccessJudgeModel", "isAround", "(II)Z"⟩, 30), (⟨"AccessJudgeModel", "noMember", "(I)Z"⟩, 30), (⟨"AccessJudgeModel", "looked", "(IIIII)I"⟩, 30), (⟨"AccessJudgeModel", "hasOne", "(III)Z"⟩, 30), (⟨"AccessJudgeModel", "isOpenMember", "(IIII)Z"⟩, 30), (⟨"AccessJudgeModel", "isCut", "(II)Z"⟩, 30), (⟨"AccessJudgeModel", "noMethod", "(I)Z"⟩, 30), (⟨"AccessJudgeModel", "isFaced", "(III)Z"⟩, 30), (⟨"AccessJudgeModel", "isUnder", "(II)Z"⟩, 30), (⟨"AccessJudgeModel", "look", "(I)V"⟩, 30), (⟨"AccessJudgeModel", "tell", "(II)V"⟩, 30), (⟨"AccessJudgeModel", "isMet", "(III)Z"⟩, 30)]
theorem lw_r4 : ∀ q ∈ lw_privs_4, lw_okq q := List.forall_mem_cons.mpr ⟨lw_p48, List.forall_mem_cons.mpr ⟨lw_p49, List.forall_mem_cons.mpr ⟨lw_p50, List.forall_mem_cons.mpr ⟨lw_p51, List.forall_mem_cons.mpr ⟨lw_p52, List.forall_mem_cons.mpr ⟨lw_p53, List.forall_mem_cons.mpr ⟨lw_p54, List.forall_mem_cons.mpr ⟨lw_p55, List.forall_mem_cons.mpr ⟨lw_p56, List.forall_mem_cons.mpr ⟨lw_p57, List.forall_mem_cons.mpr ⟨lw_p58, List.forall_mem_cons.mpr ⟨lw_p59, List.forall_mem_cons.mpr ⟨lw_p60, List.forall_mem_cons.mpr ⟨lw_p61, List.forall_mem_cons.mpr ⟨lw_p62, List.forall_mem_cons.mpr ⟨lw_p63, fun _ h => absurd h List.not_mem_nil⟩⟩⟩⟩⟩⟩⟩⟩⟩⟩⟩⟩⟩⟩⟩⟩
theorem lw_p64 : lw_okq (⟨"AccessJudgeModel", "isWrong", "(III)Z"⟩, 30) := ⟨⟨by decide +kernel, by decide +kernel⟩, List.mem_of_getElem? (i := 829) (by decide +kernel), List.mem_of_getElem? (i := 1137) (by decide +kernel), List.mem_of_getElem? (i := 1138) (by decide +kernel)⟩
theorem lw_p65 : lw_okq (⟨"AccessJudgeModel", "hasOther", "(II)Z"⟩, 30) := ⟨⟨by decide +kernel, by decide +kernel⟩, List.mem_of_getElem? (i := 829) (by decide +kernel), List.mem_of_getElem? (i := 1141) (by decide +kernel), List.mem_of_getElem? (i := 1142) (by decide +kernel)⟩
def lw_privs_5 : List (MethodName × Nat) := [(⟨"AccessJudgeModel", "isWrong", "(III)Z"⟩, 30), (⟨"AccessJudgeModel", "hasOther", "(II)Z"⟩, 30)]
theorem lw_r5 : ∀ q ∈ lw_privs_5, lw_okq q := List.forall_mem_cons.mpr ⟨lw_p64, List.forall_mem_cons.mpr ⟨lw_p65, fun _ h => absurd h List.not_mem_nil⟩⟩
def lw_privs : List (MethodName × Nat) := lw_privs_1 ++ (lw_privs_2 ++ (lw_privs_3 ++ (lw_privs_4 ++ (lw_privs_5))))
def lw_tbl : List Cond := k2_sels lw_privs ++ tables_1
theorem lw_privs_ok : ∀ q ∈ lw_privs, lw_okq q := by
  show ∀ q ∈ lw_privs_1 ++ (lw_privs_2 ++ (lw_privs_3 ++ (lw_privs_4 ++ (lw_privs_5)))), lw_okq q
  exact List.forall_mem_append.mpr ⟨lw_r1, List.forall_mem_append.mpr ⟨lw_r2, List.forall_mem_append.mpr ⟨lw_r3, List.forall_mem_append.mpr ⟨lw_r4, lw_r5⟩⟩⟩⟩

theorem goodIn_r {big : List Cond} (ws : List Cond) (ps : List Nat) (hp : ws = ps.filterMap (fun i => big[i]?)) (h : ws.all goodWord = true) : GoodIn big ws := by
  intro w hw
  have h1 := List.all_eq_true.mp h w hw
  rw [hp] at hw
  obtain ⟨i, -, hi⟩ := List.mem_filterMap.mp hw
  have hm : w ∈ big := by first | exact List.mem_of_getElem? hi | exact List.getElem?_mem hi
  exact ⟨hm, good_of_word h1⟩
theorem goodIn_app {big a b : List Cond} (ha : GoodIn big a) (hb : GoodIn big b) : GoodIn big (a ++ b) := fun w h => (List.mem_append.mp h).elim (ha w) (hb w)
theorem goodIn_ca {big a b : List Cond} {c : Cond} (ha : GoodIn big (c :: a)) (hb : GoodIn big b) : GoodIn big (c :: (a ++ b)) := fun w h => (List.mem_cons.mp h).elim (fun e => ha w (List.mem_cons.mpr (Or.inl e))) (fun h => (List.mem_append.mp h).elim (fun h => ha w (List.mem_cons.mpr (Or.inr h))) (hb w))
theorem goodIn_sub {big ws : List Cond} (hm : ∀ w ∈ ws, w ∈ big) (h : ws.all goodWord = true) : GoodIn big ws := fun w hw => ⟨hm w hw, good_of_word (List.all_eq_true.mp h w hw)⟩
def RX0 : String := "AccessJudge$Choice"
def TX0 : u_T := fun k => match k with
  | 0 => ("AccessJudge$Choice", "types", "LAccessJudge$Types;", true)
  | 1 => ("AccessJudge$Choice", "members", "LAccessJudge$Members;", true)
  | _ => ("AccessJudge$Choice", "overriding", "LAccessJudge$Overriding;", true)
def tyX0 : Nat → FieldType := fun k => match k with
  | 0 => .object "AccessJudge$Types"
  | 1 => .object "AccessJudge$Members"
  | _ => .object "AccessJudge$Overriding"
theorem nmX0 : ∀ a, a < 3 → ∀ b, b < 3 → a ≠ b → (TX0 a).2.1 ≠ (TX0 b).2.1 := by decide +kernel
theorem tyX0_ok : ∀ k, k < 3 → parseFieldDescriptor (TX0 k).2.2.1 = some (tyX0 k) := by decide +kernel
abbrev cX0_init : ByteArray := prog_2_method_1_code
def yX0_init : MethodName := ⟨RX0, "<init>", "(LAccessJudge$Types;LAccessJudge$Members;LAccessJudge$Overriding;)V"⟩
abbrev cX0_chosen : ByteArray := prog_2_method_2_code
def yX0_chosen : MethodName := ⟨RX0, "chosen", "(II)I"⟩
abbrev cX0_nearestClass : ByteArray := prog_2_method_3_code
def yX0_nearestClass : MethodName := ⟨RX0, "nearestClass", "(IJ)I"⟩
abbrev cX0_fromInterfaces : ByteArray := prog_2_method_4_code
def yX0_fromInterfaces : MethodName := ⟨RX0, "fromInterfaces", "(II)I"⟩
def RX1 : String := "AccessJudge$Faults"
def TX1 : u_T := fun k => match k with
  | 0 => ("AccessJudge$Faults", "types", "LAccessJudge$Types;", true)
  | 1 => ("AccessJudge$Faults", "members", "LAccessJudge$Members;", true)
  | 2 => ("AccessJudge$Faults", "inheritance", "LAccessJudge$Inheritance;", true)
  | 3 => ("AccessJudge$Faults", "overriding", "LAccessJudge$Overriding;", true)
  | 4 => ("AccessJudge$Faults", "openness", "LAccessJudge$Openness;", true)
  | 5 => ("AccessJudge$Faults", "size", "I", false)
  | 6 => ("AccessJudge$Faults", "codes", "[I", true)
  | 7 => ("AccessJudge$Faults", "numbers", "[I", true)
  | 8 => ("AccessJudge$Faults", "methodsOf", "[J", true)
  | _ => ("AccessJudge$Faults", "met", "[J", true)
def tyX1 : Nat → FieldType := fun k => match k with
  | 0 => .object "AccessJudge$Types"
  | 1 => .object "AccessJudge$Members"
  | 2 => .object "AccessJudge$Inheritance"
  | 3 => .object "AccessJudge$Overriding"
  | 4 => .object "AccessJudge$Openness"
  | 5 => .int
  | 6 => .array .int
  | 7 => .array .int
  | 8 => .array .long
  | _ => .array .long
theorem nmX1 : ∀ a, a < 10 → ∀ b, b < 10 → a ≠ b → (TX1 a).2.1 ≠ (TX1 b).2.1 := by decide +kernel
theorem tyX1_ok : ∀ k, k < 10 → parseFieldDescriptor (TX1 k).2.2.1 = some (tyX1 k) := by decide +kernel
abbrev cX1_init : ByteArray := prog_3_method_1_code
def yX1_init : MethodName := ⟨RX1, "<init>", "(LAccessJudge$Types;LAccessJudge$Members;LAccessJudge$Inheritance;LAccessJudge$Overriding;LAccessJudge$Openness;)V"⟩
abbrev cX1_find : ByteArray := prog_3_method_2_code
def yX1_find : MethodName := ⟨RX1, "find", "(I)V"⟩
abbrev cX1_metBy : ByteArray := prog_3_method_3_code
def yX1_metBy : MethodName := ⟨RX1, "metBy", "(IIJ)J"⟩
abbrev cX1_addIf : ByteArray := prog_3_method_4_code
def yX1_addIf : MethodName := ⟨RX1, "addIf", "(ZII)V"⟩
abbrev cX1_findInTypesAbove : ByteArray := prog_3_method_5_code
def yX1_findInTypesAbove : MethodName := ⟨RX1, "findInTypesAbove", "(I)V"⟩
abbrev cX1_findInDeclared : ByteArray := prog_3_method_6_code
def yX1_findInDeclared : MethodName := ⟨RX1, "findInDeclared", "(I)V"⟩
abbrev cX1_clashes : ByteArray := prog_3_method_7_code
def yX1_clashes : MethodName := ⟨RX1, "clashes", "(II)Z"⟩
abbrev cX1_clashesWith : ByteArray := prog_3_method_8_code
def yX1_clashesWith : MethodName := ⟨RX1, "clashesWith", "(III)Z"⟩
abbrev cX1_findInMembers : ByteArray := prog_3_method_9_code
def yX1_findInMembers : MethodName := ⟨RX1, "findInMembers", "(I)V"⟩
abbrev cX1_isFound : ByteArray := prog_3_method_10_code
def yX1_isFound : MethodName := ⟨RX1, "isFound", "(I)Z"⟩
abbrev cX1_isRivalled : ByteArray := prog_3_method_11_code
def yX1_isRivalled : MethodName := ⟨RX1, "isRivalled", "(I)Z"⟩
def RX2 : String := "AccessJudge$Inheritance"
def TX2 : u_T := fun k => match k with
  | 0 => ("AccessJudge$Inheritance", "types", "LAccessJudge$Types;", true)
  | 1 => ("AccessJudge$Inheritance", "members", "LAccessJudge$Members;", true)
  | 2 => ("AccessJudge$Inheritance", "found", "[J", true)
  | _ => ("AccessJudge$Inheritance", "known", "I", false)
def tyX2 : Nat → FieldType := fun k => match k with
  | 0 => .object "AccessJudge$Types"
  | 1 => .object "AccessJudge$Members"
  | 2 => .array .long
  | _ => .int
theorem nmX2 : ∀ a, a < 4 → ∀ b, b < 4 → a ≠ b → (TX2 a).2.1 ≠ (TX2 b).2.1 := by decide +kernel
theorem tyX2_ok : ∀ k, k < 4 → parseFieldDescriptor (TX2 k).2.2.1 = some (tyX2 k) := by decide +kernel
abbrev cX2_init : ByteArray := prog_4_method_1_code
def yX2_init : MethodName := ⟨RX2, "<init>", "(LAccessJudge$Types;LAccessJudge$Members;)V"⟩
abbrev cX2_forget : ByteArray := prog_4_method_2_code
def yX2_forget : MethodName := ⟨RX2, "forget", "()V"⟩
abbrev cX2_howMany : ByteArray := prog_4_method_3_code
def yX2_howMany : MethodName := ⟨RX2, "howMany", "(I)I"⟩
abbrev cX2_membersOf : ByteArray := prog_4_method_4_code
def yX2_membersOf : MethodName := ⟨RX2, "membersOf", "(II)J"⟩
abbrev cX2_find : ByteArray := prog_4_method_5_code
def yX2_find : MethodName := ⟨RX2, "find", "(II)J"⟩
abbrev cX2_fromParent : ByteArray := prog_4_method_6_code
def yX2_fromParent : MethodName := ⟨RX2, "fromParent", "(IIJ)J"⟩
abbrev cX2_fromFaces : ByteArray := prog_4_method_7_code
def yX2_fromFaces : MethodName := ⟨RX2, "fromFaces", "(IJJJ)J"⟩
abbrev cX2_ofFaces : ByteArray := prog_4_method_8_code
def yX2_ofFaces : MethodName := ⟨RX2, "ofFaces", "(II)J"⟩
def RX3 : String := "AccessJudge$Members"
def TX3 : u_T := fun k => match k with
  | 0 => ("AccessJudge$Members", "types", "LAccessJudge$Types;", true)
  | 1 => ("AccessJudge$Members", "count", "I", false)
  | 2 => ("AccessJudge$Members", "declarer", "[I", true)
  | 3 => ("AccessJudge$Members", "group", "[I", true)
  | 4 => ("AccessJudge$Members", "access", "[I", true)
  | 5 => ("AccessJudge$Members", "flags", "[I", true)
  | 6 => ("AccessJudge$Members", "numbers", "[I", true)
  | 7 => ("AccessJudge$Members", "declarers", "[J", true)
  | 8 => ("AccessJudge$Members", "privates", "[J", true)
  | 9 => ("AccessJudge$Members", "packageOnes", "[J", true)
  | 10 => ("AccessJudge$Members", "statics", "[J", true)
  | _ => ("AccessJudge$Members", "abstracts", "[J", true)
def tyX3 : Nat → FieldType := fun k => match k with
  | 0 => .object "AccessJudge$Types"
  | 1 => .int
  | 2 => .array .int
  | 3 => .array .int
  | 4 => .array .int
  | 5 => .array .int
  | 6 => .array .int
  | 7 => .array .long
  | 8 => .array .long
  | 9 => .array .long
  | 10 => .array .long
  | _ => .array .long
theorem nmX3 : ∀ a, a < 12 → ∀ b, b < 12 → a ≠ b → (TX3 a).2.1 ≠ (TX3 b).2.1 := by decide +kernel
theorem tyX3_ok : ∀ k, k < 12 → parseFieldDescriptor (TX3 k).2.2.1 = some (tyX3 k) := by decide +kernel
abbrev cX3_init : ByteArray := prog_5_method_1_code
def yX3_init : MethodName := ⟨RX3, "<init>", "(LAccessJudge$Types;)V"⟩
abbrev cX3_exists : ByteArray := prog_5_method_2_code
def yX3_exists : MethodName := ⟨RX3, "exists", "(I)Z"⟩
abbrev cX3_isMethod : ByteArray := prog_5_method_3_code
def yX3_isMethod : MethodName := ⟨RX3, "isMethod", "(I)Z"⟩
abbrev cX3_isMethodGroup : ByteArray := prog_5_method_4_code
def yX3_isMethodGroup : MethodName := ⟨RX3, "isMethodGroup", "(I)Z"⟩
abbrev cX3_hasFlag : ByteArray := prog_5_method_5_code
def yX3_hasFlag : MethodName := ⟨RX3, "hasFlag", "(II)Z"⟩
abbrev cX3_declared : ByteArray := prog_5_method_6_code
def yX3_declared : MethodName := ⟨RX3, "declared", "(II)I"⟩
abbrev cX3_overridable : ByteArray := prog_5_method_7_code
def yX3_overridable : MethodName := ⟨RX3, "overridable", "(I)J"⟩
abbrev cX3_brokenRule : ByteArray := prog_5_method_8_code
def yX3_brokenRule : MethodName := ⟨RX3, "brokenRule", "(IIIII)I"⟩
abbrev cX3_fitsInterface : ByteArray := prog_5_method_9_code
def yX3_fitsInterface : MethodName := ⟨RX3, "fitsInterface", "(III)Z"⟩
abbrev cX3_add : ByteArray := prog_5_method_10_code
def yX3_add : MethodName := ⟨RX3, "add", "(IIIII)I"⟩
def RX4 : String := "AccessJudge$Modules"
def TX4 : u_T := fun k => match k with
  | 0 => ("AccessJudge$Modules", "modules", "I", false)
  | 1 => ("AccessJudge$Modules", "packs", "I", false)
  | 2 => ("AccessJudge$Modules", "readOnes", "[I", true)
  | 3 => ("AccessJudge$Modules", "home", "[I", true)
  | _ => ("AccessJudge$Modules", "exportedTo", "[I", true)
def tyX4 : Nat → FieldType := fun k => match k with
  | 0 => .int
  | 1 => .int
  | 2 => .array .int
  | 3 => .array .int
  | _ => .array .int
theorem nmX4 : ∀ a, a < 5 → ∀ b, b < 5 → a ≠ b → (TX4 a).2.1 ≠ (TX4 b).2.1 := by decide +kernel
theorem tyX4_ok : ∀ k, k < 5 → parseFieldDescriptor (TX4 k).2.2.1 = some (tyX4 k) := by decide +kernel
abbrev cX4_init : ByteArray := prog_6_method_1_code
def yX4_init : MethodName := ⟨RX4, "<init>", "()V"⟩
abbrev cX4_hasModule : ByteArray := prog_6_method_2_code
def yX4_hasModule : MethodName := ⟨RX4, "hasModule", "(I)Z"⟩
abbrev cX4_hasPack : ByteArray := prog_6_method_3_code
def yX4_hasPack : MethodName := ⟨RX4, "hasPack", "(I)Z"⟩
abbrev cX4_addModule : ByteArray := prog_6_method_4_code
def yX4_addModule : MethodName := ⟨RX4, "addModule", "()I"⟩
abbrev cX4_addReading : ByteArray := prog_6_method_5_code
def yX4_addReading : MethodName := ⟨RX4, "addReading", "(II)I"⟩
abbrev cX4_addPack : ByteArray := prog_6_method_6_code
def yX4_addPack : MethodName := ⟨RX4, "addPack", "(I)I"⟩
abbrev cX4_addExport : ByteArray := prog_6_method_7_code
def yX4_addExport : MethodName := ⟨RX4, "addExport", "(II)I"⟩
abbrev cX4_isPublicSeen : ByteArray := prog_6_method_8_code
def yX4_isPublicSeen : MethodName := ⟨RX4, "isPublicSeen", "(II)Z"⟩
def RX5 : String := "AccessJudge$Openness"
def TX5 : u_T := fun k => match k with
  | 0 => ("AccessJudge$Openness", "modules", "LAccessJudge$Modules;", true)
  | 1 => ("AccessJudge$Openness", "types", "LAccessJudge$Types;", true)
  | _ => ("AccessJudge$Openness", "members", "LAccessJudge$Members;", true)
def tyX5 : Nat → FieldType := fun k => match k with
  | 0 => .object "AccessJudge$Modules"
  | 1 => .object "AccessJudge$Types"
  | _ => .object "AccessJudge$Members"
theorem nmX5 : ∀ a, a < 3 → ∀ b, b < 3 → a ≠ b → (TX5 a).2.1 ≠ (TX5 b).2.1 := by decide +kernel
theorem tyX5_ok : ∀ k, k < 3 → parseFieldDescriptor (TX5 k).2.2.1 = some (tyX5 k) := by decide +kernel
abbrev cX5_init : ByteArray := prog_7_method_1_code
def yX5_init : MethodName := ⟨RX5, "<init>", "(LAccessJudge$Modules;LAccessJudge$Types;LAccessJudge$Members;)V"⟩
abbrev cX5_isTypeOpen : ByteArray := prog_7_method_2_code
def yX5_isTypeOpen : MethodName := ⟨RX5, "isTypeOpen", "(II)Z"⟩
abbrev cX5_isOpenWithinOuter : ByteArray := prog_7_method_3_code
def yX5_isOpenWithinOuter : MethodName := ⟨RX5, "isOpenWithinOuter", "(II)Z"⟩
abbrev cX5_openOnes : ByteArray := prog_7_method_4_code
def yX5_openOnes : MethodName := ⟨RX5, "openOnes", "(JIIII)J"⟩
abbrev cX5_isMemberOpen : ByteArray := prog_7_method_5_code
def yX5_isMemberOpen : MethodName := ⟨RX5, "isMemberOpen", "(IIII)Z"⟩
abbrev cX5_isNearEnough : ByteArray := prog_7_method_6_code
def yX5_isNearEnough : MethodName := ⟨RX5, "isNearEnough", "(II)Z"⟩
abbrev cX5_isProtectedOpen : ByteArray := prog_7_method_7_code
def yX5_isProtectedOpen : MethodName := ⟨RX5, "isProtectedOpen", "(IIII)Z"⟩
abbrev cX5_isMakerOpen : ByteArray := prog_7_method_8_code
def yX5_isMakerOpen : MethodName := ⟨RX5, "isMakerOpen", "(III)Z"⟩
def RX6 : String := "AccessJudge$Overriding"
def TX6 : u_T := fun k => match k with
  | 0 => ("AccessJudge$Overriding", "types", "LAccessJudge$Types;", true)
  | 1 => ("AccessJudge$Overriding", "members", "LAccessJudge$Members;", true)
  | 2 => ("AccessJudge$Overriding", "overridden", "[J", true)
  | 3 => ("AccessJudge$Overriding", "overriders", "[J", true)
  | _ => ("AccessJudge$Overriding", "known", "I", false)
def tyX6 : Nat → FieldType := fun k => match k with
  | 0 => .object "AccessJudge$Types"
  | 1 => .object "AccessJudge$Members"
  | 2 => .array .long
  | 3 => .array .long
  | _ => .int
theorem nmX6 : ∀ a, a < 5 → ∀ b, b < 5 → a ≠ b → (TX6 a).2.1 ≠ (TX6 b).2.1 := by decide +kernel
theorem tyX6_ok : ∀ k, k < 5 → parseFieldDescriptor (TX6 k).2.2.1 = some (tyX6 k) := by decide +kernel
abbrev cX6_init : ByteArray := prog_8_method_1_code
def yX6_init : MethodName := ⟨RX6, "<init>", "(LAccessJudge$Types;LAccessJudge$Members;)V"⟩
abbrev cX6_forget : ByteArray := prog_8_method_2_code
def yX6_forget : MethodName := ⟨RX6, "forget", "()V"⟩
abbrev cX6_holds : ByteArray := prog_8_method_3_code
def yX6_holds : MethodName := ⟨RX6, "holds", "(II)Z"⟩
abbrev cX6_overriddenBy : ByteArray := prog_8_method_4_code
def yX6_overriddenBy : MethodName := ⟨RX6, "overriddenBy", "(II)J"⟩
abbrev cX6_overridersOf : ByteArray := prog_8_method_5_code
def yX6_overridersOf : MethodName := ⟨RX6, "overridersOf", "(II)J"⟩
abbrev cX6_knownRow : ByteArray := prog_8_method_6_code
def yX6_knownRow : MethodName := ⟨RX6, "knownRow", "(I)I"⟩
abbrev cX6_clear : ByteArray := prog_8_method_7_code
def yX6_clear : MethodName := ⟨RX6, "clear", "(I)V"⟩
abbrev cX6_findOverridden : ByteArray := prog_8_method_8_code
def yX6_findOverridden : MethodName := ⟨RX6, "findOverridden", "(IJII)V"⟩
abbrev cX6_reaches : ByteArray := prog_8_method_9_code
def yX6_reaches : MethodName := ⟨RX6, "reaches", "(IIII)Z"⟩
def RX7 : String := "AccessJudge$Sets"
def TX7 : u_T := fun k => match k with
  | _ => ("", "", "", false)
def tyX7 : Nat → FieldType := fun k => match k with
  | _ => .int
theorem nmX7 : ∀ a, a < 0 → ∀ b, b < 0 → a ≠ b → (TX7 a).2.1 ≠ (TX7 b).2.1 := by decide +kernel
theorem tyX7_ok : ∀ k, k < 0 → parseFieldDescriptor (TX7 k).2.2.1 = some (tyX7 k) := by decide +kernel
abbrev cX7_one : ByteArray := prog_9_method_2_code
def yX7_one : MethodName := ⟨RX7, "one", "(I)J"⟩
abbrev cX7_has : ByteArray := prog_9_method_3_code
def yX7_has : MethodName := ⟨RX7, "has", "(JI)Z"⟩
abbrev cX7_least : ByteArray := prog_9_method_4_code
def yX7_least : MethodName := ⟨RX7, "least", "(J)I"⟩
def RX8 : String := "AccessJudge$Types"
def TX8 : u_T := fun k => match k with
  | 0 => ("AccessJudge$Types", "count", "I", false)
  | 1 => ("AccessJudge$Types", "classes", "J", false)
  | 2 => ("AccessJudge$Types", "statics", "J", false)
  | 3 => ("AccessJudge$Types", "pack", "[I", true)
  | 4 => ("AccessJudge$Types", "outer", "[I", true)
  | 5 => ("AccessJudge$Types", "top", "[I", true)
  | 6 => ("AccessJudge$Types", "access", "[I", true)
  | 7 => ("AccessJudge$Types", "parent", "[I", true)
  | 8 => ("AccessJudge$Types", "flags", "[I", true)
  | 9 => ("AccessJudge$Types", "faces", "[J", true)
  | 10 => ("AccessJudge$Types", "above", "[J", true)
  | 11 => ("AccessJudge$Types", "below", "[J", true)
  | 12 => ("AccessJudge$Types", "around", "[J", true)
  | 13 => ("AccessJudge$Types", "order", "[I", true)
  | 14 => ("AccessJudge$Types", "nextOrder", "[I", true)
  | _ => ("AccessJudge$Types", "ofPack", "[J", true)
def tyX8 : Nat → FieldType := fun k => match k with
  | 0 => .int
  | 1 => .long
  | 2 => .long
  | 3 => .array .int
  | 4 => .array .int
  | 5 => .array .int
  | 6 => .array .int
  | 7 => .array .int
  | 8 => .array .int
  | 9 => .array .long
  | 10 => .array .long
  | 11 => .array .long
  | 12 => .array .long
  | 13 => .array .int
  | 14 => .array .int
  | _ => .array .long
theorem nmX8 : ∀ a, a < 16 → ∀ b, b < 16 → a ≠ b → (TX8 a).2.1 ≠ (TX8 b).2.1 := by decide +kernel
theorem tyX8_ok : ∀ k, k < 16 → parseFieldDescriptor (TX8 k).2.2.1 = some (tyX8 k) := by decide +kernel
abbrev cX8_init : ByteArray := prog_10_method_1_code
def yX8_init : MethodName := ⟨RX8, "<init>", "()V"⟩
abbrev cX8_exists : ByteArray := prog_10_method_2_code
def yX8_exists : MethodName := ⟨RX8, "exists", "(I)Z"⟩
abbrev cX8_isClass : ByteArray := prog_10_method_3_code
def yX8_isClass : MethodName := ⟨RX8, "isClass", "(I)Z"⟩
abbrev cX8_hasFlag : ByteArray := prog_10_method_4_code
def yX8_hasFlag : MethodName := ⟨RX8, "hasFlag", "(II)Z"⟩
abbrev cX8_faceCount : ByteArray := prog_10_method_5_code
def yX8_faceCount : MethodName := ⟨RX8, "faceCount", "(I)I"⟩
abbrev cX8_isSameOrBelow : ByteArray := prog_10_method_6_code
def yX8_isSameOrBelow : MethodName := ⟨RX8, "isSameOrBelow", "(II)Z"⟩
abbrev cX8_sameOrBelow : ByteArray := prog_10_method_7_code
def yX8_sameOrBelow : MethodName := ⟨RX8, "sameOrBelow", "(I)J"⟩
abbrev cX8_sameOrAbove : ByteArray := prog_10_method_8_code
def yX8_sameOrAbove : MethodName := ⟨RX8, "sameOrAbove", "(I)J"⟩
abbrev cX8_neighbours : ByteArray := prog_10_method_9_code
def yX8_neighbours : MethodName := ⟨RX8, "neighbours", "(I)J"⟩
abbrev cX8_brokenRule : ByteArray := prog_10_method_10_code
def yX8_brokenRule : MethodName := ⟨RX8, "brokenRule", "(IIIII)I"⟩
abbrev cX8_add : ByteArray := prog_10_method_11_code
def yX8_add : MethodName := ⟨RX8, "add", "(IIIII)I"⟩
abbrev cX8_putWithin : ByteArray := prog_10_method_12_code
def yX8_putWithin : MethodName := ⟨RX8, "putWithin", "(II)V"⟩
abbrev cX8_setParent : ByteArray := prog_10_method_13_code
def yX8_setParent : MethodName := ⟨RX8, "setParent", "(II)V"⟩
abbrev cX8_addFace : ByteArray := prog_10_method_14_code
def yX8_addFace : MethodName := ⟨RX8, "addFace", "(II)V"⟩
abbrev cX8_putBelow : ByteArray := prog_10_method_15_code
def yX8_putBelow : MethodName := ⟨RX8, "putBelow", "(II)V"⟩
abbrev cX8_putLastInOrder : ByteArray := prog_10_method_16_code
def yX8_putLastInOrder : MethodName := ⟨RX8, "putLastInOrder", "(J)V"⟩
abbrev cX8_withoutAnyBelow : ByteArray := prog_10_method_17_code
def yX8_withoutAnyBelow : MethodName := ⟨RX8, "withoutAnyBelow", "(JJ)J"⟩
def RX9 : String := "AccessJudge$Uses"
def TX9 : u_T := fun k => match k with
  | 0 => ("AccessJudge$Uses", "types", "LAccessJudge$Types;", true)
  | 1 => ("AccessJudge$Uses", "members", "LAccessJudge$Members;", true)
  | 2 => ("AccessJudge$Uses", "inheritance", "LAccessJudge$Inheritance;", true)
  | _ => ("AccessJudge$Uses", "openness", "LAccessJudge$Openness;", true)
def tyX9 : Nat → FieldType := fun k => match k with
  | 0 => .object "AccessJudge$Types"
  | 1 => .object "AccessJudge$Members"
  | 2 => .object "AccessJudge$Inheritance"
  | _ => .object "AccessJudge$Openness"
theorem nmX9 : ∀ a, a < 4 → ∀ b, b < 4 → a ≠ b → (TX9 a).2.1 ≠ (TX9 b).2.1 := by decide +kernel
theorem tyX9_ok : ∀ k, k < 4 → parseFieldDescriptor (TX9 k).2.2.1 = some (tyX9 k) := by decide +kernel
abbrev cX9_init : ByteArray := prog_11_method_1_code
def yX9_init : MethodName := ⟨RX9, "<init>", "(LAccessJudge$Types;LAccessJudge$Members;LAccessJudge$Inheritance;LAccessJudge$Openness;)V"⟩
abbrev cX9_usedType : ByteArray := prog_11_method_2_code
def yX9_usedType : MethodName := ⟨RX9, "usedType", "(IIII)I"⟩
abbrev cX9_meant : ByteArray := prog_11_method_3_code
def yX9_meant : MethodName := ⟨RX9, "meant", "(IIII)I"⟩
abbrev cX9_preferred : ByteArray := prog_11_method_4_code
def yX9_preferred : MethodName := ⟨RX9, "preferred", "(JI)I"⟩
abbrev cX9_allowed : ByteArray := prog_11_method_5_code
def yX9_allowed : MethodName := ⟨RX9, "allowed", "(IIII)I"⟩
abbrev cX9_hasStaticAhead : ByteArray := prog_11_method_6_code
def yX9_hasStaticAhead : MethodName := ⟨RX9, "hasStaticAhead", "(II)Z"⟩
abbrev cX9_maker : ByteArray := prog_11_method_7_code
def yX9_maker : MethodName := ⟨RX9, "maker", "(IIII)I"⟩
def RX10 : String := "AccessJudge"
def TX10 : u_T := fun k => match k with
  | 0 => ("AccessJudge", "modules", "LAccessJudge$Modules;", true)
  | 1 => ("AccessJudge", "types", "LAccessJudge$Types;", true)
  | 2 => ("AccessJudge", "members", "LAccessJudge$Members;", true)
  | 3 => ("AccessJudge", "inheritance", "LAccessJudge$Inheritance;", true)
  | 4 => ("AccessJudge", "overriding", "LAccessJudge$Overriding;", true)
  | 5 => ("AccessJudge", "openness", "LAccessJudge$Openness;", true)
  | 6 => ("AccessJudge", "uses", "LAccessJudge$Uses;", true)
  | 7 => ("AccessJudge", "choice", "LAccessJudge$Choice;", true)
  | _ => ("AccessJudge", "faults", "LAccessJudge$Faults;", true)
def tyX10 : Nat → FieldType := fun k => match k with
  | 0 => .object "AccessJudge$Modules"
  | 1 => .object "AccessJudge$Types"
  | 2 => .object "AccessJudge$Members"
  | 3 => .object "AccessJudge$Inheritance"
  | 4 => .object "AccessJudge$Overriding"
  | 5 => .object "AccessJudge$Openness"
  | 6 => .object "AccessJudge$Uses"
  | 7 => .object "AccessJudge$Choice"
  | _ => .object "AccessJudge$Faults"
theorem nmX10 : ∀ a, a < 9 → ∀ b, b < 9 → a ≠ b → (TX10 a).2.1 ≠ (TX10 b).2.1 := by decide +kernel
theorem tyX10_ok : ∀ k, k < 9 → parseFieldDescriptor (TX10 k).2.2.1 = some (tyX10 k) := by decide +kernel
abbrev cX10_init : ByteArray := prog_1_method_1_code
def yX10_init : MethodName := ⟨RX10, "<init>", "()V"⟩
abbrev cX10_module : ByteArray := prog_1_method_2_code
def yX10_module : MethodName := ⟨RX10, "module", "()I"⟩
abbrev cX10_reads : ByteArray := prog_1_method_3_code
def yX10_reads : MethodName := ⟨RX10, "reads", "(II)I"⟩
abbrev cX10_pack : ByteArray := prog_1_method_4_code
def yX10_pack : MethodName := ⟨RX10, "pack", "(I)I"⟩
abbrev cX10_export : ByteArray := prog_1_method_5_code
def yX10_export : MethodName := ⟨RX10, "export", "(II)I"⟩
abbrev cX10_type : ByteArray := prog_1_method_6_code
def yX10_type : MethodName := ⟨RX10, "type", "(IIIII)I"⟩
abbrev cX10_parent : ByteArray := prog_1_method_7_code
def yX10_parent : MethodName := ⟨RX10, "parent", "(II)I"⟩
abbrev cX10_face : ByteArray := prog_1_method_8_code
def yX10_face : MethodName := ⟨RX10, "face", "(II)I"⟩
abbrev cX10_member : ByteArray := prog_1_method_9_code
def yX10_member : MethodName := ⟨RX10, "member", "(IIIII)I"⟩
abbrev cX10_count : ByteArray := prog_1_method_10_code
def yX10_count : MethodName := ⟨RX10, "count", "(I)I"⟩
abbrev cX10_about : ByteArray := prog_1_method_11_code
def yX10_about : MethodName := ⟨RX10, "about", "(II)I"⟩
abbrev cX10_below : ByteArray := prog_1_method_12_code
def yX10_below : MethodName := ⟨RX10, "below", "(II)I"⟩
abbrev cX10_open : ByteArray := prog_1_method_13_code
def yX10_open : MethodName := ⟨RX10, "open", "(II)I"⟩
abbrev cX10_of : ByteArray := prog_1_method_14_code
def yX10_of : MethodName := ⟨RX10, "of", "(II)I"⟩
abbrev cX10_use : ByteArray := prog_1_method_15_code
def yX10_use : MethodName := ⟨RX10, "use", "(IIIII)I"⟩
abbrev cX10_make : ByteArray := prog_1_method_16_code
def yX10_make : MethodName := ⟨RX10, "make", "(IIII)I"⟩
abbrev cX10_overrides : ByteArray := prog_1_method_17_code
def yX10_overrides : MethodName := ⟨RX10, "overrides", "(II)I"⟩
abbrev cX10_choose : ByteArray := prog_1_method_18_code
def yX10_choose : MethodName := ⟨RX10, "choose", "(II)I"⟩
abbrev cX10_check : ByteArray := prog_1_method_19_code
def yX10_check : MethodName := ⟨RX10, "check", "(I)I"⟩
abbrev cX10_fault : ByteArray := prog_1_method_20_code
def yX10_fault : MethodName := ⟨RX10, "fault", "(III)I"⟩
abbrev cX10_forgetAnswers : ByteArray := prog_1_method_21_code
def yX10_forgetAnswers : MethodName := ⟨RX10, "forgetAnswers", "()V"⟩
abbrev cX10_isWithin : ByteArray := prog_1_method_22_code
def yX10_isWithin : MethodName := ⟨RX10, "isWithin", "(II)Z"⟩
abbrev cX10_areFlags : ByteArray := prog_1_method_23_code
def yX10_areFlags : MethodName := ⟨RX10, "areFlags", "(I)Z"⟩
abbrev cX10_typeOrNone : ByteArray := prog_1_method_24_code
def yX10_typeOrNone : MethodName := ⟨RX10, "typeOrNone", "(I)I"⟩
abbrev cX10_yesOrNo : ByteArray := prog_1_method_25_code
def yX10_yesOrNo : MethodName := ⟨RX10, "yesOrNo", "(Z)I"⟩
def RX11 : String := "AccessJudgeModel"
def TX11 : u_T := fun k => match k with
  | 0 => ("AccessJudgeModel", "modules", "I", false)
  | 1 => ("AccessJudgeModel", "doesRead", "[Z", true)
  | 2 => ("AccessJudgeModel", "packs", "I", false)
  | 3 => ("AccessJudgeModel", "moduleOf", "[I", true)
  | 4 => ("AccessJudgeModel", "isOut", "[Z", true)
  | 5 => ("AccessJudgeModel", "isOutToAll", "[Z", true)
  | 6 => ("AccessJudgeModel", "types", "I", false)
  | 7 => ("AccessJudgeModel", "packOf", "[I", true)
  | 8 => ("AccessJudgeModel", "outerOf", "[I", true)
  | 9 => ("AccessJudgeModel", "sortOf", "[I", true)
  | 10 => ("AccessJudgeModel", "accessOf", "[I", true)
  | 11 => ("AccessJudgeModel", "flagsOf", "[I", true)
  | 12 => ("AccessJudgeModel", "parentOf", "[I", true)
  | 13 => ("AccessJudgeModel", "faces", "[I", true)
  | 14 => ("AccessJudgeModel", "faceCount", "[I", true)
  | 15 => ("AccessJudgeModel", "isAbove", "[Z", true)
  | 16 => ("AccessJudgeModel", "members", "I", false)
  | 17 => ("AccessJudgeModel", "mType", "[I", true)
  | 18 => ("AccessJudgeModel", "mKind", "[I", true)
  | 19 => ("AccessJudgeModel", "mName", "[I", true)
  | 20 => ("AccessJudgeModel", "mAccess", "[I", true)
  | 21 => ("AccessJudgeModel", "mFlags", "[I", true)
  | 22 => ("AccessJudgeModel", "isFound", "Z", false)
  | 23 => ("AccessJudgeModel", "isOf", "[Z", true)
  | 24 => ("AccessJudgeModel", "isDone", "[Z", true)
  | 25 => ("AccessJudgeModel", "isOver", "[Z", true)
  | 26 => ("AccessJudgeModel", "comes", "[Z", true)
  | 27 => ("AccessJudgeModel", "faultCode", "[I", true)
  | 28 => ("AccessJudgeModel", "faultOf", "[I", true)
  | _ => ("AccessJudgeModel", "faults", "I", false)
def tyX11 : Nat → FieldType := fun k => match k with
  | 0 => .int
  | 1 => .array .boolean
  | 2 => .int
  | 3 => .array .int
  | 4 => .array .boolean
  | 5 => .array .boolean
  | 6 => .int
  | 7 => .array .int
  | 8 => .array .int
  | 9 => .array .int
  | 10 => .array .int
  | 11 => .array .int
  | 12 => .array .int
  | 13 => .array .int
  | 14 => .array .int
  | 15 => .array .boolean
  | 16 => .int
  | 17 => .array .int
  | 18 => .array .int
  | 19 => .array .int
  | 20 => .array .int
  | 21 => .array .int
  | 22 => .boolean
  | 23 => .array .boolean
  | 24 => .array .boolean
  | 25 => .array .boolean
  | 26 => .array .boolean
  | 27 => .array .int
  | 28 => .array .int
  | _ => .int
theorem nmX11 : ∀ a, a < 30 → ∀ b, b < 30 → a ≠ b → (TX11 a).2.1 ≠ (TX11 b).2.1 := by decide +kernel
theorem tyX11_ok : ∀ k, k < 30 → parseFieldDescriptor (TX11 k).2.2.1 = some (tyX11 k) := by decide +kernel
abbrev cX11_init : ByteArray := prog_13_method_1_code
def yX11_init : MethodName := ⟨RX11, "<init>", "()V"⟩
abbrev cX11_module : ByteArray := prog_13_method_2_code
def yX11_module : MethodName := ⟨RX11, "module", "()I"⟩
abbrev cX11_noModule : ByteArray := prog_13_method_3_code
def yX11_noModule : MethodName := ⟨RX11, "noModule", "(I)Z"⟩
abbrev cX11_noPack : ByteArray := prog_13_method_4_code
def yX11_noPack : MethodName := ⟨RX11, "noPack", "(I)Z"⟩
abbrev cX11_noType : ByteArray := prog_13_method_5_code
def yX11_noType : MethodName := ⟨RX11, "noType", "(I)Z"⟩
abbrev cX11_noMember : ByteArray := prog_13_method_6_code
def yX11_noMember : MethodName := ⟨RX11, "noMember", "(I)Z"⟩
abbrev cX11_reads : ByteArray := prog_13_method_7_code
def yX11_reads : MethodName := ⟨RX11, "reads", "(II)I"⟩
abbrev cX11_pack : ByteArray := prog_13_method_8_code
def yX11_pack : MethodName := ⟨RX11, "pack", "(I)I"⟩
abbrev cX11_export : ByteArray := prog_13_method_9_code
def yX11_export : MethodName := ⟨RX11, "export", "(II)I"⟩
abbrev cX11_has : ByteArray := prog_13_method_10_code
def yX11_has : MethodName := ⟨RX11, "has", "(II)Z"⟩
abbrev cX11_ruleOfType : ByteArray := prog_13_method_11_code
def yX11_ruleOfType : MethodName := ⟨RX11, "ruleOfType", "(IIIII)I"⟩
abbrev cX11_noForm : ByteArray := prog_13_method_12_code
def yX11_noForm : MethodName := ⟨RX11, "noForm", "(II)Z"⟩
abbrev cX11_type : ByteArray := prog_13_method_13_code
def yX11_type : MethodName := ⟨RX11, "type", "(IIIII)I"⟩
abbrev cX11_raise : ByteArray := prog_13_method_14_code
def yX11_raise : MethodName := ⟨RX11, "raise", "(II)V"⟩
abbrev cX11_isBelow : ByteArray := prog_13_method_15_code
def yX11_isBelow : MethodName := ⟨RX11, "isBelow", "(II)Z"⟩
abbrev cX11_isAt : ByteArray := prog_13_method_16_code
def yX11_isAt : MethodName := ⟨RX11, "isAt", "(II)Z"⟩
abbrev cX11_parent : ByteArray := prog_13_method_17_code
def yX11_parent : MethodName := ⟨RX11, "parent", "(II)I"⟩
abbrev cX11_face : ByteArray := prog_13_method_18_code
def yX11_face : MethodName := ⟨RX11, "face", "(II)I"⟩
abbrev cX11_declared : ByteArray := prog_13_method_19_code
def yX11_declared : MethodName := ⟨RX11, "declared", "(III)I"⟩
abbrev cX11_ruleOfMember : ByteArray := prog_13_method_20_code
def yX11_ruleOfMember : MethodName := ⟨RX11, "ruleOfMember", "(IIIII)I"⟩
abbrev cX11_member : ByteArray := prog_13_method_21_code
def yX11_member : MethodName := ⟨RX11, "member", "(IIIII)I"⟩
abbrev cX11_count : ByteArray := prog_13_method_22_code
def yX11_count : MethodName := ⟨RX11, "count", "(I)I"⟩
abbrev cX11_topOf : ByteArray := prog_13_method_23_code
def yX11_topOf : MethodName := ⟨RX11, "topOf", "(I)I"⟩
abbrev cX11_about : ByteArray := prog_13_method_24_code
def yX11_about : MethodName := ⟨RX11, "about", "(II)I"⟩
abbrev cX11_isPlain : ByteArray := prog_13_method_25_code
def yX11_isPlain : MethodName := ⟨RX11, "isPlain", "(I)Z"⟩
abbrev cX11_find : ByteArray := prog_13_method_26_code
def yX11_find : MethodName := ⟨RX11, "find", "()V"⟩
abbrev cX11_isReady : ByteArray := prog_13_method_27_code
def yX11_isReady : MethodName := ⟨RX11, "isReady", "(I)Z"⟩
abbrev cX11_findMembers : ByteArray := prog_13_method_28_code
def yX11_findMembers : MethodName := ⟨RX11, "findMembers", "(I)V"⟩
abbrev cX11_comesFromParent : ByteArray := prog_13_method_29_code
def yX11_comesFromParent : MethodName := ⟨RX11, "comesFromParent", "(II)Z"⟩
abbrev cX11_isOfFace : ByteArray := prog_13_method_30_code
def yX11_isOfFace : MethodName := ⟨RX11, "isOfFace", "(II)Z"⟩
abbrev cX11_isBehind : ByteArray := prog_13_method_31_code
def yX11_isBehind : MethodName := ⟨RX11, "isBehind", "(II)Z"⟩
abbrev cX11_canOver : ByteArray := prog_13_method_32_code
def yX11_canOver : MethodName := ⟨RX11, "canOver", "(II)Z"⟩
abbrev cX11_findOvers : ByteArray := prog_13_method_33_code
def yX11_findOvers : MethodName := ⟨RX11, "findOvers", "()V"⟩
abbrev cX11_isOverBy : ByteArray := prog_13_method_34_code
def yX11_isOverBy : MethodName := ⟨RX11, "isOverBy", "(II)Z"⟩
abbrev cX11_below : ByteArray := prog_13_method_35_code
def yX11_below : MethodName := ⟨RX11, "below", "(II)I"⟩
abbrev cX11_isAround : ByteArray := prog_13_method_36_code
def yX11_isAround : MethodName := ⟨RX11, "isAround", "(II)Z"⟩
abbrev cX11_isOpen : ByteArray := prog_13_method_37_code
def yX11_isOpen : MethodName := ⟨RX11, "isOpen", "(II)Z"⟩
abbrev cX11_open : ByteArray := prog_13_method_38_code
def yX11_open : MethodName := ⟨RX11, "open", "(II)I"⟩
abbrev cX11_of : ByteArray := prog_13_method_39_code
def yX11_of : MethodName := ⟨RX11, "of", "(II)I"⟩
abbrev cX11_isOpenMember : ByteArray := prog_13_method_40_code
def yX11_isOpenMember : MethodName := ⟨RX11, "isOpenMember", "(IIII)Z"⟩
abbrev cX11_hasOne : ByteArray := prog_13_method_41_code
def yX11_hasOne : MethodName := ⟨RX11, "hasOne", "(III)Z"⟩
abbrev cX11_looked : ByteArray := prog_13_method_42_code
def yX11_looked : MethodName := ⟨RX11, "looked", "(IIIII)I"⟩
abbrev cX11_use : ByteArray := prog_13_method_43_code
def yX11_use : MethodName := ⟨RX11, "use", "(IIIII)I"⟩
abbrev cX11_isCut : ByteArray := prog_13_method_44_code
def yX11_isCut : MethodName := ⟨RX11, "isCut", "(II)Z"⟩
abbrev cX11_make : ByteArray := prog_13_method_45_code
def yX11_make : MethodName := ⟨RX11, "make", "(IIII)I"⟩
abbrev cX11_noMethod : ByteArray := prog_13_method_46_code
def yX11_noMethod : MethodName := ⟨RX11, "noMethod", "(I)Z"⟩
abbrev cX11_overrides : ByteArray := prog_13_method_47_code
def yX11_overrides : MethodName := ⟨RX11, "overrides", "(II)I"⟩
abbrev cX11_choose : ByteArray := prog_13_method_48_code
def yX11_choose : MethodName := ⟨RX11, "choose", "(II)I"⟩
abbrev cX11_isFaced : ByteArray := prog_13_method_49_code
def yX11_isFaced : MethodName := ⟨RX11, "isFaced", "(III)Z"⟩
abbrev cX11_isUnder : ByteArray := prog_13_method_50_code
def yX11_isUnder : MethodName := ⟨RX11, "isUnder", "(II)Z"⟩
abbrev cX11_tell : ByteArray := prog_13_method_51_code
def yX11_tell : MethodName := ⟨RX11, "tell", "(II)V"⟩
abbrev cX11_isMet : ByteArray := prog_13_method_52_code
def yX11_isMet : MethodName := ⟨RX11, "isMet", "(III)Z"⟩
abbrev cX11_isWrong : ByteArray := prog_13_method_53_code
def yX11_isWrong : MethodName := ⟨RX11, "isWrong", "(III)Z"⟩
abbrev cX11_look : ByteArray := prog_13_method_54_code
def yX11_look : MethodName := ⟨RX11, "look", "(I)V"⟩
abbrev cX11_hasOther : ByteArray := prog_13_method_55_code
def yX11_hasOther : MethodName := ⟨RX11, "hasOther", "(II)Z"⟩
abbrev cX11_check : ByteArray := prog_13_method_56_code
def yX11_check : MethodName := ⟨RX11, "check", "(I)I"⟩
abbrev cX11_fault : ByteArray := prog_13_method_57_code
def yX11_fault : MethodName := ⟨RX11, "fault", "(III)I"⟩
def RJ13 : String := "java/lang/Long"
def TJ13 : u_T := fun k => match k with
  | _ => ("", "", "", false)
def tyJ13 : Nat → FieldType := fun k => match k with
  | _ => .int
theorem nmJ13 : ∀ a, a < 0 → ∀ b, b < 0 → a ≠ b → (TJ13 a).2.1 ≠ (TJ13 b).2.1 := by decide +kernel
theorem tyJ13_ok : ∀ k, k < 0 → parseFieldDescriptor (TJ13 k).2.2.1 = some (tyJ13 k) := by decide +kernel
abbrev cJ13_bitCount_95d88 : ByteArray := prog_14_method_50_code
def yJ13_bitCount_95d88 : MethodName := ⟨RJ13, "bitCount", "(J)I"⟩
def RJ10 : String := "java/lang/System"
def TJ10 : u_T := fun k => match k with
  | _ => ("", "", "", false)
def tyJ10 : Nat → FieldType := fun k => match k with
  | _ => .int
theorem nmJ10 : ∀ a, a < 0 → ∀ b, b < 0 → a ≠ b → (TJ10 a).2.1 ≠ (TJ10 b).2.1 := by decide +kernel
theorem tyJ10_ok : ∀ k, k < 0 → parseFieldDescriptor (TJ10 k).2.2.1 = some (tyJ10 k) := by decide +kernel
def RJ7 : String := "java/util/Arrays"
def TJ7 : u_T := fun k => match k with
  | _ => ("", "", "", false)
def tyJ7 : Nat → FieldType := fun k => match k with
  | _ => .int
theorem nmJ7 : ∀ a, a < 0 → ∀ b, b < 0 → a ≠ b → (TJ7 a).2.1 ≠ (TJ7 b).2.1 := by decide +kernel
theorem tyJ7_ok : ∀ k, k < 0 → parseFieldDescriptor (TJ7 k).2.2.1 = some (tyJ7 k) := by decide +kernel
abbrev cJ7_fill_53178 : ByteArray := prog_16_method_103_code
def yJ7_fill_53178 : MethodName := ⟨RJ7, "fill", "([II)V"⟩
def RL : String := "AccessJudgeLaw"
abbrev cL_law : ByteArray := code
def yL_law : MethodName := ⟨RL, "law", "([I)Z"⟩
abbrev vwCl : List vw_C := [(RX0, TX0, 3), (RX1, TX1, 10), (RX2, TX2, 4), (RX3, TX3, 12), (RX4, TX4, 5), (RX5, TX5, 3), (RX6, TX6, 5), (RX8, TX8, 16), (RX9, TX9, 4), (RX10, TX10, 9), (RX11, TX11, 30)]
end
section
/-! THE ABSTRACT MACHINE. A fixed world of cells; memory = ints (and booleans) and longs by place and index; a reference is a place. -/
abbrev ab_M : Type := (Nat → Nat → Int32) × (Nat → Nat → Int64)
def ab_mi (μ : ab_M) (k j : Nat) (x : Int32) : ab_M := (fun a b => if a = k ∧ b = j then x else μ.1 a b, μ.2)
def ab_mj (μ : ab_M) (k j : Nat) (x : Int64) : ab_M := (μ.1, fun a b => if a = k ∧ b = j then x else μ.2 a b)
def ab_mr (μ : ab_M) (k : Nat) (f : Nat → Int32) : ab_M := (fun a b => if a = k then f b else μ.1 a b, μ.2)
/-- a slot of an object: a place, or a number (0 int, 1 long, 2 boolean) -/
abbrev ab_Sl : Type := Nat ⊕ Nat
/-- a cell: an array (0 int, 1 long, 2 boolean; its length), or an object (its class, its slots) -/
abbrev ab_Sh : Type := (Nat × Nat) ⊕ (Nat × List ab_Sl)
abbrev ab_W : Type := (Nat → Nat) × (ClassId × ClassId × ClassId) × va_G × List ab_Sh
abbrev ab_L : Type := List (Option Value)
/-- a method: name, code, locals, answer, room -/
abbrev ab_Md : Type := MethodName × ByteArray × Nat × Option FieldType × Room
/-- an instruction: place in the code, length, itself; targets or hints; class, slot, hint; constants; the method that it calls and how many arguments -/
abbrev ab_En : Type := Nat × Nat × Instr × List Nat × (Nat × Nat × Nat) × Int32 × Int64 × Option (ab_Md × Nat)
def ab_nth {α : Type} : List α → Nat → Option α
  | [], _ => none
  | a :: _, 0 => some a
  | _ :: l, n + 1 => ab_nth l n
theorem ab_nth_eq {α : Type} : ∀ (l : List α) (n : Nat), ab_nth l n = l[n]?
  | [], n => by simp [ab_nth]
  | a :: l, 0 => by simp [ab_nth]
  | a :: l, n + 1 => by simp [ab_nth, ab_nth_eq l n]
def ab_cv (ad : Nat → Nat) : Value → Value
  | .ref k => .ref (ad k)
  | v => v
theorem ab_cv_cat (ad : Nat → Nat) (v : Value) : (ab_cv ad v).category = v.category := by cases v <;> rfl
def ab_sv (ω : ab_W) (μ : ab_M) (k j : Nat) : ab_Sl → Value
  | .inl p => .ref (ω.1 p)
  | .inr 1 => .long (μ.2 k j)
  | .inr _ => .int (μ.1 k j)
def ab_ct (ω : ab_W) (μ : ab_M) (k : Nat) : ab_Sh → va_E
  | .inl (0, n) => .inl (ω.2.1.1, n, .inl (μ.1 k))
  | .inl (1, n) => .inl (ω.2.1.2.1, n, .inr (.inl (μ.2 k)))
  | .inl (_, n) => .inl (ω.2.1.2.2, n, .inl (μ.1 k))
  | .inr (ci, sl) => .inr (ci, sl.mapIdx (fun j z => ab_sv ω μ k j z))
def ab_wl (ω : ab_W) (μ : ab_M) : va_W := ω.2.2.2.mapIdx (fun k h => (ω.1 k, ab_ct ω μ k h))
abbrev ab_tys (ω : ab_W) : List (ClassId × FieldType) := [(ω.2.1.1, .int), (ω.2.1.2.1, .long), (ω.2.1.2.2, .boolean)]
theorem ab_wl_at {ω : ab_W} {μ : ab_M} {k : Nat} {h : ab_Sh} (e : ω.2.2.2[k]? = some h) : (ab_wl ω μ)[k]? = some (ω.1 k, ab_ct ω μ k h) := by
  simp [ab_wl, List.getElem?_mapIdx, e]
theorem ab_wl_of {ω : ab_W} {μ : ab_M} {k : Nat} {q : Nat × va_E} (e : (ab_wl ω μ)[k]? = some q) : ∃ h, ω.2.2.2[k]? = some h ∧ q = (ω.1 k, ab_ct ω μ k h) := by
  simp only [ab_wl, List.getElem?_mapIdx, Option.map_eq_some_iff] at e
  obtain ⟨h, h1, h2⟩ := e
  exact ⟨h, h1, h2.symm⟩
/-- the world behind a change of one place -/
theorem ab_wl_set {ω : ab_W} {μ μ' : ab_M} {k : Nat} {h : ab_Sh} (e : ω.2.2.2[k]? = some h) (h1 : ∀ a, a ≠ k → μ'.1 a = μ.1 a) (h2 : ∀ a, a ≠ k → μ'.2 a = μ.2 a) :
    (ab_wl ω μ).set k (ω.1 k, ab_ct ω μ' k h) = ab_wl ω μ' := by
  apply List.ext_getElem?
  intro a
  rw [List.getElem?_set]
  by_cases hak : k = a
  · subst hak
    have hl : k < (ab_wl ω μ).length := by
      have := (List.getElem?_eq_some_iff.mp (ab_wl_at (μ := μ) e)).1
      exact this
    simp [hl, ab_wl_at e]
  · rw [if_neg hak]
    simp only [ab_wl, List.getElem?_mapIdx]
    cases hs : ω.2.2.2[a]? with
    | none => rfl
    | some h3 =>
      have e1 := h1 a (Ne.symm hak)
      have e2 := h2 a (Ne.symm hak)
      have e3 : ab_ct ω μ a h3 = ab_ct ω μ' a h3 := by
        match h3 with
        | .inl (0, n) => simp [ab_ct, e1]
        | .inl (1, n) => simp [ab_ct, e2]
        | .inl (n + 2, _) => simp [ab_ct, e1]
        | .inr (ci, sl) =>
          have e4 : (fun j z => ab_sv ω μ a j z) = (fun j z => ab_sv ω μ' a j z) := by
            funext j z
            unfold ab_sv
            rw [e1, e2]
          simp only [ab_ct]
          rw [e4]
      simp [e3]
theorem ab_mi_ne {μ : ab_M} {k j : Nat} {x : Int32} : ∀ a, a ≠ k → (ab_mi μ k j x).1 a = μ.1 a := by
  intro a h
  funext b
  simp [ab_mi, h]
theorem ab_mj_ne {μ : ab_M} {k j : Nat} {x : Int64} : ∀ a, a ≠ k → (ab_mj μ k j x).2 a = μ.2 a := by
  intro a h
  funext b
  simp [ab_mj, h]
theorem ab_mr_ne {μ : ab_M} {k : Nat} {f : Nat → Int32} : ∀ a, a ≠ k → (ab_mr μ k f).1 a = μ.1 a := by
  intro a h
  funext b
  simp [ab_mr, h]
/-! locals -/
def ab_lv (ad : Nat → Nat) : Nat → ab_L → List (Nat × Value)
  | _, [] => []
  | i, none :: r => ab_lv ad (i + 1) r
  | i, some v :: r => (i, ab_cv ad v) :: ab_lv ad (i + 1) r
theorem ab_lv_in {ad : Nat → Nat} {j : Nat} {w : Value} : ∀ (ll : ab_L) (n : Nat), (j, w) ∈ ab_lv ad n ll ↔ ∃ (k : Nat) (v : Value), j = n + k ∧ ll[k]? = some (some v) ∧ w = ab_cv ad v := by
  intro ll
  induction ll with
  | nil => intro n; simp [ab_lv]
  | cons a r ih =>
    intro n
    cases a with
    | none =>
      simp only [ab_lv, ih]
      constructor
      · rintro ⟨k, v, h1, h2, h3⟩
        exact ⟨k + 1, v, by omega, by simpa using h2, h3⟩
      · rintro ⟨k, v, h1, h2, h3⟩
        cases k with
        | zero => simp at h2
        | succ k => exact ⟨k, v, by omega, by simpa using h2, h3⟩
    | some x =>
      simp only [ab_lv, List.mem_cons, ih, Prod.mk.injEq]
      constructor
      · rintro (⟨h1, h2⟩ | ⟨k, v, h1, h2, h3⟩)
        · exact ⟨0, x, by omega, by simp, h2⟩
        · exact ⟨k + 1, v, by omega, by simpa using h2, h3⟩
      · rintro ⟨k, v, h1, h2, h3⟩
        cases k with
        | zero =>
          simp only [List.getElem?_cons_zero, Option.some.injEq] at h2
          subst h2
          exact Or.inl ⟨by omega, h3⟩
        | succ k => exact Or.inr ⟨k, v, by omega, by simpa using h2, h3⟩
theorem ab_lv_0 {ad : Nat → Nat} {j : Nat} {w : Value} {ll : ab_L} : (j, w) ∈ ab_lv ad 0 ll ↔ ∃ v : Value, ll[j]? = some (some v) ∧ w = ab_cv ad v := by
  rw [ab_lv_in]
  constructor
  · rintro ⟨k, v, h1, h2, h3⟩
    obtain rfl : j = k := by omega
    exact ⟨v, h2, h3⟩
  · rintro ⟨v, h2, h3⟩
    exact ⟨j, v, by omega, h2, h3⟩
theorem ab_lv_at {ad : Nat → Nat} {ls : Array Slot} {nL : Nat} {ll : ab_L} (h : lv_has ls nL (ab_lv ad 0 ll)) {k : Nat} {v : Value} (e : ab_nth ll k = some (some v)) : ls[k]? = some (.val (ab_cv ad v)) :=
  h.2.2 (k, ab_cv ad v) (ab_lv_0.mpr ⟨v, by rw [← ab_nth_eq]; exact e, rfl⟩)
/-- the local ahead isn't a long -/
def ab_pv (ll : ab_L) : Nat → Bool
  | 0 => true
  | k + 1 => match ab_nth ll k with
    | some (some (.long _)) => false
    | some (some (.double _)) => false
    | _ => true
theorem ab_pv_of {ll : ab_L} {k j : Nat} {v : Value} (h : ab_pv ll k = true) (hj : j + 1 = k) (e : ll[j]? = some (some v)) : ¬ v.category = 2 := by
  subst hj
  simp only [ab_pv, ab_nth_eq, e] at h
  cases v <;> simp_all [Value.category]
theorem ab_lv_set {ad : Nat → Nat} {ls : Array Slot} {nL k : Nat} {ll : ab_L} {v : Value} (hp : ab_pv ll k = true)
    (h : lv_has ls nL ((k, ab_cv ad v) :: (ab_lv ad 0 ll).filter (fun q => !(q.1 == k) && !(q.1 + 1 == k && q.2.category == 2)))) : lv_has ls nL (ab_lv ad 0 (ll.set k (some v))) := by
  refine ⟨h.1, h.2.1, fun q hq => ?_⟩
  obtain ⟨j, w⟩ := q
  obtain ⟨u, h1, h2⟩ := ab_lv_0.mp hq
  rw [List.getElem?_set] at h1
  by_cases hk : k = j
  · subst hk
    rw [if_pos rfl] at h1
    split at h1
    · simp only [Option.some.injEq] at h1
      subst h1
      exact h.2.2 (k, w) (by rw [h2]; exact List.mem_cons_self)
    · cases h1
  · rw [if_neg hk] at h1
    refine h.2.2 (j, w) (List.mem_cons_of_mem _ (List.mem_filter.mpr ⟨ab_lv_0.mpr ⟨u, h1, h2⟩, ?_⟩))
    have hk' : ¬ j = k := fun q => hk q.symm
    by_cases hj : j + 1 = k
    · have := ab_pv_of hp hj h1
      simp [hk', h2, ab_cv_cat, this]
    · simp [hk', hj]
theorem ab_lv_setL {ad : Nat → Nat} {ls : Array Slot} {nL k : Nat} {ll : ab_L} {v : Value} (hp : ab_pv ll k = true)
    (h : lv_has ls nL ((k, ab_cv ad v) :: (ab_lv ad 0 ll).filter (fun q => !(q.1 == k) && (!(q.1 == k + 1) && !(q.1 + 1 == k && q.2.category == 2))))) : lv_has ls nL (ab_lv ad 0 ((ll.set k (some v)).set (k + 1) none)) := by
  refine ⟨h.1, h.2.1, fun q hq => ?_⟩
  obtain ⟨j, w⟩ := q
  obtain ⟨u, h1, h2⟩ := ab_lv_0.mp hq
  rw [List.getElem?_set] at h1
  by_cases hk1 : k + 1 = j
  · subst hk1
    rw [if_pos rfl] at h1
    split at h1 <;> cases h1
  · rw [if_neg hk1, List.getElem?_set] at h1
    by_cases hk : k = j
    · subst hk
      rw [if_pos rfl] at h1
      split at h1
      · simp only [Option.some.injEq] at h1
        subst h1
        exact h.2.2 (k, w) (by rw [h2]; exact List.mem_cons_self)
      · cases h1
    · rw [if_neg hk] at h1
      refine h.2.2 (j, w) (List.mem_cons_of_mem _ (List.mem_filter.mpr ⟨ab_lv_0.mpr ⟨u, h1, h2⟩, ?_⟩))
      have hk' : ¬ j = k := fun q => hk q.symm
      have hk1' : ¬ j = k + 1 := fun q => hk1 q.symm
      by_cases hj : j + 1 = k
      · have := ab_pv_of hp hj h1
        simp [hk', hk1', h2, ab_cv_cat, this]
      · simp [hk', hk1', hj]
/-- locals of which less is known -/
def ab_le : ab_L → ab_L → Prop
  | [], [] => True
  | none :: r, _ :: r' => ab_le r r'
  | some v :: r, some v' :: r' => v = v' ∧ ab_le r r'
  | _, _ => False
theorem ab_le_at : ∀ {l l' : ab_L}, ab_le l l' → l.length = l'.length ∧ ∀ (j : Nat) (v : Value), l[j]? = some (some v) → l'[j]? = some (some v)
  | [], [], _ => ⟨rfl, fun j v h => by simp at h⟩
  | none :: r, a :: r', h => by
    obtain ⟨h1, h2⟩ := ab_le_at (l := r) (l' := r') h
    refine ⟨by simp [h1], fun j v e => ?_⟩
    cases j with
    | zero => simp at e
    | succ j => simpa using h2 j v (by simpa using e)
  | some v :: r, some v' :: r', h => by
    obtain ⟨h0, h⟩ := h
    obtain ⟨h1, h2⟩ := ab_le_at (l := r) (l' := r') h
    refine ⟨by simp [h1], fun j v e => ?_⟩
    cases j with
    | zero => subst h0; simpa using e
    | succ j => simpa using h2 j v (by simpa using e)
  | [], _ :: _, h => h.elim
  | none :: _, [], h => h.elim
  | some _ :: _, [], h => h.elim
  | some _ :: _, none :: _, h => h.elim
/-- arguments off the stack: n of them, last one first -/
def ab_pop : Nat → List Value → List Value → Option (List Value × List Value)
  | 0, acc, st => some (acc, st)
  | n + 1, acc, v :: st => ab_pop n (v :: acc) st
  | _ + 1, _, [] => none
theorem ab_pop_eq : ∀ (n : Nat) (acc st as rest : List Value), ab_pop n acc st = some (as, rest) → ∃ xs : List Value, xs.length = n ∧ as = xs.reverse ++ acc ∧ st = xs ++ rest
  | 0, acc, st, as, rest, h => by
    simp only [ab_pop, Option.some.injEq, Prod.mk.injEq] at h
    exact ⟨[], rfl, by simp [h.1], by simp [h.2]⟩
  | n + 1, acc, v :: st, as, rest, h => by
    obtain ⟨xs, h1, h2, h3⟩ := ab_pop_eq n (v :: acc) st as rest h
    exact ⟨v :: xs, by simp [h1], by simp [h2], by simp [h3]⟩
  | _ + 1, _, [], _, _, h => by simp [ab_pop] at h
def ab_small : List Value → Nat → Bool
  | [], _ => true
  | .int _ :: r, n + 1 => ab_small r n
  | .ref _ :: r, n + 1 => ab_small r n
  | .long _ :: r, n + 2 => ab_small r n
  | _, _ => false
theorem ab_small_sum (ad : Nat → Nat) : ∀ (st : List Value) (n : Nat), ab_small st n = true → ((st.map (ab_cv ad)).map fun v => v.category).sum ≤ n
  | [], n, _ => by simp
  | .int _ :: r, n + 1, h => by
    have := ab_small_sum ad r n h
    simp only [List.map_cons, List.sum_cons, ab_cv]
    show 1 + _ ≤ _
    omega
  | .ref _ :: r, n + 1, h => by
    have := ab_small_sum ad r n h
    simp only [List.map_cons, List.sum_cons, ab_cv]
    show 1 + _ ≤ _
    omega
  | .long _ :: r, n + 2, h => by
    have := ab_small_sum ad r n h
    simp only [List.map_cons, List.sum_cons, ab_cv]
    show 2 + _ ≤ _
    omega
  | .int _ :: _, 0, h => by simp [ab_small] at h
  | .ref _ :: _, 0, h => by simp [ab_small] at h
  | .long _ :: _, 0, h => by simp [ab_small] at h
  | .long _ :: _, 1, h => by simp [ab_small] at h
  | .float _ :: _, _, h => by simp [ab_small] at h
  | .double _ :: _, _, h => by simp [ab_small] at h
  | .null :: _, _, h => by simp [ab_small] at h
  | .retAddr _ :: _, _, h => by simp [ab_small] at h
end
section
/-! calls by contract, in the abstract machine's words -/
def ab_T : List Cond := lw_tbl.filter goodWord
abbrev ab_ws (md : ab_Md) : List Cond := .code md.1 md.2.1 md.2.2.1 md.2.2.2.1 :: ab_T
def ab_B (ω : ab_W) (A : Nat → Prop) (μ : ab_M) (t : State) : Prop := va_P ω.2.2.1 vwCl (ab_wl ω μ) t.heap ∧ va_K ω.2.2.1 vwCl (ab_tys ω) t ∧ va_D A (ab_wl ω μ)
def ab_Qc (ω : ab_W) (A : Nat → Prop) (ret : Option FieldType) (QI : Int32 → ab_M → Prop) (QL : Int64 → ab_M → Prop) (QV : ab_M → Prop) : Array Value → State → Outcome → State → Prop := match ret with
  | none => va_Qv QV (ab_B ω A) A
  | some .long => va_Ql QL (ab_B ω A) A
  | some _ => va_Qi QI (ab_B ω A) A
def ab_Pr (ω : ab_W) (as : List Value) (μ : ab_M) (sz : Nat) : Array Value → State → Prop := va_Pc (as.map (ab_cv ω.1)) (fun U => U.heap.size = sz ∧ va_P ω.2.2.1 vwCl (ab_wl ω μ) U.heap ∧ va_K ω.2.2.1 vwCl (ab_tys ω) U ∧ va_D (fun _ => True) (ab_wl ω μ))
/-- md, called with as in the memory μ, returns with QI (an int), QL (a long), QV (nothing) -/
def ab_Call (l : Launch) (ω : ab_W) (md : ab_Md) (as : List Value) (μ : ab_M) (QI : Int32 → ab_M → Prop) (QL : Int64 → ab_M → Prop) (QV : ab_M → Prop) : Prop :=
  ∀ sz : Nat, Met l md.1 (ab_ws md) md.2.2.2.2 (ab_Pr ω as μ sz) (ab_Qc ω (va_A (ab_wl ω μ) sz) md.2.2.2.1 QI QL QV) 0 0 (va_A (ab_wl ω μ) sz)
abbrev ab_CI (l : Launch) (ω : ab_W) (md : ab_Md) (as : List Value) (μ : ab_M) (Q : Int32 → ab_M → Prop) : Prop := ab_Call l ω md as μ Q (fun _ _ => False) (fun _ => False)
abbrev ab_CL (l : Launch) (ω : ab_W) (md : ab_Md) (as : List Value) (μ : ab_M) (Q : Int64 → ab_M → Prop) : Prop := ab_Call l ω md as μ (fun _ _ => False) Q (fun _ => False)
abbrev ab_CV (l : Launch) (ω : ab_W) (md : ab_Md) (as : List Value) (μ : ab_M) (Q : ab_M → Prop) : Prop := ab_Call l ω md as μ (fun _ _ => False) (fun _ _ => False) Q
/-! one step -/
def ab_gi (ll : ab_L) (k : Nat) (F : Int32 → Prop) : Prop := match ab_nth ll k with
  | some (some (.int x)) => F x
  | _ => False
def ab_gl (ll : ab_L) (k : Nat) (F : Int64 → Prop) : Prop := match ab_nth ll k with
  | some (some (.long x)) => F x
  | _ => False
def ab_ga (ll : ab_L) (k : Nat) (F : Nat → Prop) : Prop := match ab_nth ll k with
  | some (some (.ref x)) => F x
  | _ => False
def ab_is (ll : ab_L) (k : Nat) (st : List Value) (F : ab_L → List Value → Prop) : Prop := match st with
  | .int x :: st' => match ab_pv ll k with
    | true => F (ll.set k (some (.int x))) st'
    | false => False
  | _ => False
def ab_lt (ll : ab_L) (k : Nat) (st : List Value) (F : ab_L → List Value → Prop) : Prop := match st with
  | .long x :: st' => match ab_pv ll k with
    | true => F ((ll.set k (some (.long x))).set (k + 1) none) st'
    | false => False
  | _ => False
def ab_i2 (st : List Value) (F : Int32 → Int32 → List Value → Prop) : Prop := match st with
  | .int y :: .int x :: st' => F x y st'
  | _ => False
def ab_l2 (st : List Value) (F : Int64 → Int64 → List Value → Prop) : Prop := match st with
  | .long y :: .long x :: st' => F x y st'
  | _ => False
def ab_ci (cond : Jvm.ClassFile.Cond) (x y : Int32) (A B : Prop) : Prop := match cond with
  | .eq => (x = y → A) ∧ (¬ x = y → B)
  | .ne => (¬ x = y → A) ∧ (x = y → B)
  | .lt => (x < y → A) ∧ (¬ x < y → B)
  | .ge => (y ≤ x → A) ∧ (¬ y ≤ x → B)
  | .gt => (y < x → A) ∧ (¬ y < x → B)
  | .le => (x ≤ y → A) ∧ (¬ x ≤ y → B)
def ab_tsw (F : Nat → Prop) (x : Int32) (d : Nat) : Int → List Nat → Prop
  | _, [] => F d
  | lo, t :: ts => (x.toInt = lo → F t) ∧ (¬ x.toInt = lo → ab_tsw F x d (lo + 1) ts)
def ab_lsw (F : Nat → Prop) (x : Int32) (d : Nat) : List (Int × Int) → List Nat → Prop
  | [], _ => F d
  | (k, _) :: r, t :: ts => (x.toInt = k → F t) ∧ (¬ x.toInt = k → ab_lsw F x d r ts)
  | _ :: _, [] => False
def ab_call (l : Launch) (ω : ab_W) (md : ab_Md) (as : List Value) (μ : ab_M) (rest : List Value) (F : List Value → ab_M → Prop) : Prop := match md.2.2.2.1 with
  | none => ab_CV l ω md as μ (fun μ' => F rest μ')
  | some .long => ab_CL l ω md as μ (fun x μ' => F (.long x :: rest) μ')
  | some .int => ab_CI l ω md as μ (fun x μ' => F (.int x :: rest) μ')
  | some .boolean => ab_CI l ω md as μ (fun x μ' => F (.int x :: rest) μ')
  | some _ => False
def ab_in (l : Launch) (ω : ab_W) (sh : List ab_Sh) (ret : Option FieldType) (QI : Int32 → ab_M → Prop) (QL : Int64 → ab_M → Prop) (QV : ab_M → Prop) (K : Nat → ab_L → List Value → ab_M → Prop) (i : Nat) (ll : ab_L) (st : List Value) (μ : ab_M) (ts : List Nat) (fx : Nat × Nat × Nat) (k32 : Int32) (k64 : Int64) (cx : Option (ab_Md × Nat)) : Instr → Prop
  | .iconst _ => K (i + 1) ll (.int k32 :: st) μ
  | .bipush _ => K (i + 1) ll (.int k32 :: st) μ
  | .sipush _ => K (i + 1) ll (.int k32 :: st) μ
  | .lconst _ => K (i + 1) ll (.long k64 :: st) μ
  | .ldc2_w _ => K (i + 1) ll (.long k64 :: st) μ
  | .iload_n n => ab_gi ll n.val (fun x => K (i + 1) ll (.int x :: st) μ)
  | .iload n => ab_gi ll n (fun x => K (i + 1) ll (.int x :: st) μ)
  | .lload_n n => ab_gl ll n.val (fun x => K (i + 1) ll (.long x :: st) μ)
  | .lload n => ab_gl ll n (fun x => K (i + 1) ll (.long x :: st) μ)
  | .aload_n n => ab_ga ll n.val (fun x => K (i + 1) ll (.ref x :: st) μ)
  | .aload n => ab_ga ll n (fun x => K (i + 1) ll (.ref x :: st) μ)
  | .istore_n n => ab_is ll n.val st (fun ll' st' => K (i + 1) ll' st' μ)
  | .istore n => ab_is ll n st (fun ll' st' => K (i + 1) ll' st' μ)
  | .lstore_n n => ab_lt ll n.val st (fun ll' st' => K (i + 1) ll' st' μ)
  | .lstore n => ab_lt ll n st (fun ll' st' => K (i + 1) ll' st' μ)
  | .iinc n _ => ab_gi ll n (fun x => match ab_pv ll n with
    | true => K (i + 1) (ll.set n (some (.int (x + k32)))) st μ
    | false => False)
  | .iadd => ab_i2 st (fun x y st' => K (i + 1) ll (.int (x + y) :: st') μ)
  | .isub => ab_i2 st (fun x y st' => K (i + 1) ll (.int (x - y) :: st') μ)
  | .imul => ab_i2 st (fun x y st' => K (i + 1) ll (.int (x * y) :: st') μ)
  | .iand => ab_i2 st (fun x y st' => K (i + 1) ll (.int (x &&& y) :: st') μ)
  | .ior => ab_i2 st (fun x y st' => K (i + 1) ll (.int (x ||| y) :: st') μ)
  | .ishl => ab_i2 st (fun x y st' => K (i + 1) ll (.int (x <<< (y &&& 31)) :: st') μ)
  | .ishr => ab_i2 st (fun x y st' => K (i + 1) ll (.int (x >>> (y &&& 31)) :: st') μ)
  | .ladd => ab_l2 st (fun x y st' => K (i + 1) ll (.long (x + y) :: st') μ)
  | .lsub => ab_l2 st (fun x y st' => K (i + 1) ll (.long (x - y) :: st') μ)
  | .land => ab_l2 st (fun x y st' => K (i + 1) ll (.long (x &&& y) :: st') μ)
  | .lor => ab_l2 st (fun x y st' => K (i + 1) ll (.long (x ||| y) :: st') μ)
  | .lxor => ab_l2 st (fun x y st' => K (i + 1) ll (.long (x ^^^ y) :: st') μ)
  | .lcmp => ab_l2 st (fun x y st' => K (i + 1) ll (.int (lg_cmp x y) :: st') μ)
  | .lneg => match st with
    | .long x :: st' => K (i + 1) ll (.long (-x) :: st') μ
    | _ => False
  | .lushr => match st with
    | .int y :: .long x :: st' => K (i + 1) ll (.long ((x.toUInt64 >>> (y.toInt64.toUInt64 &&& Int64.toUInt64 63)).toInt64) :: st') μ
    | _ => False
  | .lshl => match st with
    | .int y :: .long x :: st' => K (i + 1) ll (.long (x <<< (y.toInt64 &&& 63)) :: st') μ
    | _ => False
  | .l2i => match st with
    | .long x :: st' => K (i + 1) ll (.int x.toInt32 :: st') μ
    | _ => False
  | .dup => match st with
    | .ref x :: st' => K (i + 1) ll (.ref x :: .ref x :: st') μ
    | .int x :: st' => K (i + 1) ll (.int x :: .int x :: st') μ
    | _ => False
  | .dup_x1 => match st with
    | .int x :: .ref y :: st' => K (i + 1) ll (.int x :: .ref y :: .int x :: st') μ
    | _ => False
  | .dup2 => match st with
    | .int x :: .ref y :: st' => K (i + 1) ll (.int x :: .ref y :: .int x :: .ref y :: st') μ
    | _ => False
  | .if_icmp cond _ => match ts with
    | t :: _ => ab_i2 st (fun x y st' => ab_ci cond x y (K t ll st' μ) (K (i + 1) ll st' μ))
    | _ => False
  | .ifCond cond _ => match ts with
    | t :: _ => match st with
      | .int x :: st' => ab_ci cond x 0 (K t ll st' μ) (K (i + 1) ll st' μ)
      | _ => False
    | _ => False
  | .goto _ => match ts with
    | t :: _ => K t ll st μ
    | _ => False
  | .iaload => match st with
    | .int j :: .ref a :: st' => match ab_nth sh a with
      | some (.inl (0, n)) => vp_in j n ∧ K (i + 1) ll (.int (μ.1 a j.toNatClampNeg) :: st') μ
      | _ => False
    | _ => False
  | .laload => match st with
    | .int j :: .ref a :: st' => match ab_nth sh a with
      | some (.inl (1, n)) => vp_in j n ∧ K (i + 1) ll (.long (μ.2 a j.toNatClampNeg) :: st') μ
      | _ => False
    | _ => False
  | .baload => match st with
    | .int j :: .ref a :: st' => match ab_nth sh a with
      | some (.inl (2, n)) => vp_in j n ∧ K (i + 1) ll (.int (μ.1 a j.toNatClampNeg) :: st') μ
      | _ => False
    | _ => False
  | .iastore => match st with
    | .int x :: .int j :: .ref a :: st' => match ab_nth sh a with
      | some (.inl (0, n)) => vp_in j n ∧ K (i + 1) ll st' (ab_mi μ a j.toNatClampNeg x)
      | _ => False
    | _ => False
  | .lastore => match st with
    | .long x :: .int j :: .ref a :: st' => match ab_nth sh a with
      | some (.inl (1, n)) => vp_in j n ∧ K (i + 1) ll st' (ab_mj μ a j.toNatClampNeg x)
      | _ => False
    | _ => False
  | .bastore => match st with
    | .int x :: .int j :: .ref a :: st' => match ab_nth sh a with
      | some (.inl (2, n)) => vp_in j n ∧ (x = 0 ∨ x = 1) ∧ K (i + 1) ll st' (ab_mi μ a j.toNatClampNeg x)
      | _ => False
    | _ => False
  | .getfield _ => match st with
    | .ref a :: st' => match ab_nth sh a with
      | some (.inr (ci, sl)) => match Nat.beq ci fx.1, ab_nth sl fx.2.1 with
        | true, some (.inl q) => K (i + 1) ll (.ref q :: st') μ
        | true, some (.inr 0) => K (i + 1) ll (.int (μ.1 a fx.2.1) :: st') μ
        | true, some (.inr 1) => K (i + 1) ll (.long (μ.2 a fx.2.1) :: st') μ
        | true, some (.inr 2) => K (i + 1) ll (.int (μ.1 a fx.2.1) :: st') μ
        | _, _ => False
      | _ => False
    | _ => False
  | .putfield _ => match st with
    | .int x :: .ref a :: st' => match ab_nth sh a with
      | some (.inr (ci, sl)) => match Nat.beq ci fx.1, ab_nth sl fx.2.1, ts with
        | true, some (.inr 0), [0] => K (i + 1) ll st' (ab_mi μ a fx.2.1 x)
        | true, some (.inr 2), [2] => (x = 0 ∨ x = 1) ∧ K (i + 1) ll st' (ab_mi μ a fx.2.1 x)
        | _, _, _ => False
      | _ => False
    | .long x :: .ref a :: st' => match ab_nth sh a with
      | some (.inr (ci, sl)) => match Nat.beq ci fx.1, ab_nth sl fx.2.1, ts with
        | true, some (.inr 1), [1] => K (i + 1) ll st' (ab_mj μ a fx.2.1 x)
        | _, _, _ => False
      | _ => False
    | _ => False
  | .invokevirtual _ => match cx with
    | some (md, n) => match ab_pop n [] st with
      | some (as, .ref a :: rest) => match ab_nth sh a, ab_small rest 8 with
        | some (.inr (ci, _)), true => match Nat.beq ci fx.1 with
          | true => ab_call l ω md (.ref a :: as) μ rest (fun st' μ' => K (i + 1) ll st' μ')
          | false => False
        | _, _ => False
      | _ => False
    | none => False
  | .invokestatic _ => match cx with
    | some (md, n) => match ab_pop n [] st with
      | some (as, rest) => match ab_small rest 8 with
        | true => ab_call l ω md as μ rest (fun st' μ' => K (i + 1) ll st' μ')
        | false => False
      | _ => False
    | none => match st with
      | .int n :: .int dp :: .ref b :: .int sp :: .ref a :: rest => match ab_nth sh a, ab_nth sh b, ab_small rest 8 with
        | some (.inl (0, n0)), some (.inl (0, n1)), true => (¬ sp < 0) ∧ (¬ dp < 0) ∧ (¬ n < 0) ∧ sp.toNatClampNeg + n.toNatClampNeg ≤ n0 ∧ dp.toNatClampNeg + n.toNatClampNeg ≤ n1 ∧ K (i + 1) ll rest (ab_mr μ b (va_cpy (μ.1 a) (μ.1 b) sp.toNatClampNeg dp.toNatClampNeg n.toNatClampNeg))
        | _, _, _ => False
      | _ => False
  | .tableswitch _ lo _ _ => match ts, st with
    | d :: ts', .int x :: st' => ab_tsw (fun t => K t ll st' μ) x d lo ts'
    | _, _ => False
  | .lookupswitch _ ps => match ts, st with
    | d :: ts', .int x :: st' => ab_lsw (fun t => K t ll st' μ) x d ps.toList ts'
    | _, _ => False
  | .ireturn => match st, ret with
    | [.int x], some .int => QI x μ
    | [.int x], some .boolean => (x = 0 ∨ x = 1) ∧ QI x μ
    | _, _ => False
  | .lreturn => match st, ret with
    | [.long x], some .long => QL x μ
    | _, _ => False
  | .return_ => match st, ret with
    | [], none => QV μ
    | _, _ => False
  | _ => False
def ab_wp (l : Launch) (ω : ab_W) (sh : List ab_Sh) (ret : Option FieldType) (cd : List ab_En) (QI : Int32 → ab_M → Prop) (QL : Int64 → ab_M → Prop) (QV : ab_M → Prop) (K : Nat → ab_L → List Value → ab_M → Prop) (i : Nat) (ll : ab_L) (st : List Value) (μ : ab_M) : Prop :=
  match ab_nth cd i with
  | none => False
  | some (_, _, ins, ts, fx, k32, k64, cx) => ab_in l ω sh ret QI QL QV K i ll st μ ts fx k32 k64 cx ins
/-! what a program decides of a method's code -/
def ab_bp (cd : List ab_En) (i : Nat) : Nat := match ab_nth cd i with
  | some e => e.1
  | none => 0
def ab_tb (h : Nat) (w : Cond) : Bool := decide (lw_tbl[h]? = some w) && goodWord w
def ab_cks (own : String) (index : Nat) (R : Room) (ts : List Nat) (md : ab_Md) (n : Nat) : Bool := match ts with
  | [h0, h1, h2, h3] => ab_tb h0 (.methodLink own index md.1) && ab_tb h1 (.initialized md.1.cls) && ab_tb h2 (.code md.1 md.2.1 md.2.2.1 md.2.2.2.1) && decide (md.1.cls ≠ "java/lang/invoke/MethodHandle") && decide (md.1.cls ≠ "java/lang/invoke/VarHandle") && decide ((parseMethodDescriptor md.1.desc).map (fun d => d.parameters.length) = some n) && decide (md.2.2.2.2.frames + 1 ≤ R.frames) && decide (8 + (md.2.2.1 + 11) + md.2.2.2.2.locals ≤ R.locals) && decide (md.2.2.2.2.cells = 0) && decide (md.2.2.2.2.slots = 0) && decide (h3 = 0)
  | _ => false
def ab_ck (own : String) (cc : ByteArray) (nL : Nat) (R : Room) (cd : List ab_En) (i : Nat) (pc len : Nat) (ts : List Nat) (fx : Nat × Nat × Nat) (k32 : Int32) (k64 : Int64) (cx : Option (ab_Md × Nat)) (ins : Instr) : Bool :=
  decide (decode cc pc = .ok (ins, len)) && (match ins with
  | .iconst n => decide (len = 1) && decide (ab_bp cd (i + 1) = pc + 1) && decide (Int32.ofInt n = k32)
  | .bipush n => decide (len = 2) && decide (ab_bp cd (i + 1) = pc + 2) && decide ((Int8.ofInt n).toInt32 = k32)
  | .sipush n => decide (len = 3) && decide (ab_bp cd (i + 1) = pc + 3) && decide ((Int16.ofInt n).toInt32 = k32)
  | .lconst n => decide (len = 1) && decide (ab_bp cd (i + 1) = pc + 1) && decide (Int64.ofNat (n : Nat) = k64)
  | .ldc2_w n => decide (len = 3) && decide (ab_bp cd (i + 1) = pc + 3) && ab_tb fx.2.2 (.constantLong own n k64)
  | .iload_n _ | .lload_n _ | .aload_n _ => decide (len = 1) && decide (ab_bp cd (i + 1) = pc + 1)
  | .iload _ | .lload _ | .aload _ => decide (len = 2) && decide (ab_bp cd (i + 1) = pc + 2)
  | .istore_n n => decide (len = 1) && decide (ab_bp cd (i + 1) = pc + 1) && decide (n.val < nL)
  | .istore n => decide (len = 2) && decide (ab_bp cd (i + 1) = pc + 2) && decide (n < nL)
  | .lstore_n n => decide (len = 1) && decide (ab_bp cd (i + 1) = pc + 1) && decide (n.val + 1 < nL)
  | .lstore n => decide (len = 2) && decide (ab_bp cd (i + 1) = pc + 2) && decide (n + 1 < nL)
  | .iinc n k => decide (len = 3) && decide (ab_bp cd (i + 1) = pc + 3) && decide (n < nL) && decide (Int32.ofInt k = k32)
  | .iadd | .isub | .imul | .iand | .ior | .ishl | .ishr | .ladd | .lsub | .land | .lor | .lxor | .lcmp | .lneg | .lushr | .lshl | .l2i | .dup | .dup_x1 | .dup2 | .iaload | .laload | .baload | .iastore | .lastore | .bastore => decide (len = 1) && decide (ab_bp cd (i + 1) = pc + 1)
  | .if_icmp _ off | .ifCond _ off => decide (len = 3) && decide (ab_bp cd (i + 1) = pc + 3) && (match ts with
    | t :: _ => decide ((pc : Int) + off = (ab_bp cd t : Int))
    | [] => false)
  | .goto off => decide (len = 3) && (match ts with
    | t :: _ => decide ((pc : Int) + off = (ab_bp cd t : Int))
    | [] => false)
  | .getfield n => decide (len = 3) && decide (ab_bp cd (i + 1) = pc + 3) && (match vwCl[fx.1]? with
    | some r => decide (fx.2.1 < r.2.2) && ab_tb fx.2.2 (.fieldLink own n (r.2.1 fx.2.1).1 (r.2.1 fx.2.1).2.1 (r.2.1 fx.2.1).2.2.1)
    | none => false)
  | .putfield n => decide (len = 3) && decide (ab_bp cd (i + 1) = pc + 3) && (match vwCl[fx.1]? with
    | some r => decide (fx.2.1 < r.2.2) && ab_tb fx.2.2 (.fieldLink own n (r.2.1 fx.2.1).1 (r.2.1 fx.2.1).2.1 (r.2.1 fx.2.1).2.2.1) && decide ((r.2.1 fx.2.1).2.2.2 = false) && (match ts with
      | [0] => decide (parseFieldDescriptor (r.2.1 fx.2.1).2.2.1 = some .int)
      | [1] => decide (parseFieldDescriptor (r.2.1 fx.2.1).2.2.1 = some .long)
      | [2] => decide (parseFieldDescriptor (r.2.1 fx.2.1).2.2.1 = some .boolean)
      | _ => false)
    | none => false)
  | .invokevirtual n => decide (len = 3) && decide (ab_bp cd (i + 1) = pc + 3) && (match ts, cx with
    | h0 :: h1 :: h2 :: h4 :: h5 :: [], some (md, k) => ab_cks own n R [h0, h1, h2, 0] md k && ab_tb h4 (.instanceMethod md.1) && ab_tb h5 (.selects md.1.cls md.1 md.1) && decide ((vwCl[fx.1]?).map (fun r => r.1) = some md.1.cls)
    | _, _ => false)
  | .invokestatic n => decide (len = 3) && decide (ab_bp cd (i + 1) = pc + 3) && (match ts, cx with
    | h0 :: h1 :: h2 :: h4 :: [], some (md, k) => ab_cks own n R [h0, h1, h2, 0] md k && ab_tb h4 (.static md.1)
    | h0 :: h1 :: h2 :: h4 :: [], none => ab_tb h0 (.methodLink own n arraycopyName) && ab_tb h1 (.native arraycopyName) && ab_tb h2 (.static arraycopyName) && ab_tb h4 (.initialized "java/lang/System") && decide (1 ≤ R.frames) && decide (8 + (nativeFrameWords "java/lang/System" "arraycopy" 5 + 11) ≤ R.locals)
    | _, _ => false)
  | .tableswitch df lo hi offs => match ts with
    | d :: ts' => decide ((pc : Int) + df = (ab_bp cd d : Int)) && decide (offs.toList.length = ts'.length) && decide (hi = lo + (ts'.length : Int) - 1) && (offs.toList.zip ts').all (fun q => decide ((pc : Int) + q.1 = (ab_bp cd q.2 : Int)))
    | [] => false
  | .lookupswitch df ps => match ts with
    | d :: ts' => decide ((pc : Int) + df = (ab_bp cd d : Int)) && decide (ps.toList.length = ts'.length) && (ps.toList.zip (ps.toList.drop 1)).all (fun (a, next) => a.1 < next.1) && (ps.toList.zip ts').all (fun q => decide ((pc : Int) + q.1.2 = (ab_bp cd q.2 : Int)))
    | [] => false
  | .ireturn | .lreturn | .return_ => decide (len = 1)
  | _ => false)
def ab_chk (own : String) (md : ab_Md) (cd : List ab_En) : Bool := (List.range cd.length).all (fun i => match ab_nth cd i with
  | some (pc, len, ins, ts, fx, k32, k64, cx) => ab_ck own md.2.1 md.2.2.1 md.2.2.2.2 cd i pc len ts fx k32 k64 cx ins
  | none => false)
theorem ab_goodT : GoodIn ab_T ab_T := fun w h => ⟨h, good_of_word (List.mem_filter.mp h).2⟩
theorem ab_tb_in {h : Nat} {w : Cond} (e : ab_tb h w = true) : w ∈ ab_T := by
  simp only [ab_tb, Bool.and_eq_true, decide_eq_true_eq] at e
  exact List.mem_filter.mpr ⟨List.mem_of_getElem? e.1, e.2⟩
theorem ab_uws : ∀ r ∈ vwCl, ∀ w ∈ u_ws r.1 r.2.1 r.2.2, w ∈ ab_T := by decide +kernel
end
section
/-! the abstract machine's steps are the machine's -/
section AbS
variable {p : Program} {l : Launch} {e : Env} {R : Room} {s : State} {m : MethodId} {args : Array Value} {below : List Frame} {meth : Method} {c : Code}
def ab_J (p : Program) (l : Launch) (e : Env) (R : Room) (s : State) (m : MethodId) (args : Array Value) (below : List Frame) (meth : Method) (c : Code) (ω : ab_W) (A : Nat → Prop) (nL : Nat) (cd : List ab_En) (Qt : State → Prop) (i : Nat) (ll : ab_L) (st : List Value) (μ : ab_M) : Prop :=
  ll.length = nL → ∀ (H : Heap) (locs : List Loc) (ls : Array Slot), va_P ω.2.2.1 vwCl (ab_wl ω μ) H → va_D A (ab_wl ω μ) → va_S A s.heap H locs → lv_has ls nL (ab_lv ω.1 0 ll) → W p l e R s m args below meth c H locs 0 0 Qt (F0 m (ab_bp cd i) ls (st.map (ab_cv ω.1)))
theorem ab_tsw_sp {F : Nat → Prop} {x : Int32} {d : Nat} : ∀ (ts : List Nat) (lo : Int), ab_tsw F x d lo ts → (∀ (j : Nat) (t : Nat), ts[j]? = some t → x.toInt = lo + j → F t) ∧ ((x.toInt < lo ∨ lo + ts.length ≤ x.toInt) → F d)
  | [], lo, h => ⟨fun j t e => by simp at e, fun _ => h⟩
  | t0 :: ts, lo, h => by
    by_cases hx : x.toInt = lo
    · refine ⟨fun j t e hj => ?_, fun hh => ?_⟩
      · have : j = 0 := by omega
        subst this
        simp only [List.getElem?_cons_zero, Option.some.injEq] at e
        subst e
        exact h.1 hx
      · simp only [List.length_cons] at hh
        omega
    · obtain ⟨h1, h2⟩ := ab_tsw_sp ts (lo + 1) (h.2 hx)
      refine ⟨fun j t e hj => ?_, fun hh => h2 ?_⟩
      · cases j with
        | zero => exact absurd (by omega) hx
        | succ j => exact h1 j t (by simpa using e) (by omega)
      · simp only [List.length_cons] at hh
        omega
theorem ab_lsw_sp {F : Nat → Prop} {x : Int32} {d : Nat} {df : Int} {pc : Int} {bp : Nat → Nat} (hd : pc + df = (bp d : Int)) : ∀ (ps : List (Int × Int)) (ts : List Nat), ps.length = ts.length → (ps.zip ts).all (fun q => decide (pc + q.1.2 = (bp q.2 : Int))) = true → ab_lsw F x d ps ts → ∃ t, F t ∧ pc + Op.lookupswitch.offset ps df x.toInt = (bp t : Int)
  | [], ts, _, _, h => ⟨d, h, hd⟩
  | (k, o) :: r, [], hl, _, _ => by simp at hl
  | (k, o) :: r, t :: ts, hl, ha, h => by
    simp only [List.zip_cons_cons, List.all_cons, Bool.and_eq_true, decide_eq_true_eq] at ha
    rw [Op.lookupswitch.offset_cons]
    by_cases hx : x.toInt = k
    · exact ⟨t, h.1 hx, by rw [if_pos (by first | exact hx | exact hx.symm)]; exact ha.1⟩
    · rw [if_neg (by first | exact hx | exact fun q => hx q.symm)]
      exact ab_lsw_sp hd r ts (by simpa using hl) ha.2 (h.2 hx)
end AbS
end
section
theorem ab_range {α : Type} (w : List α) : (List.range w.length).map (fun i => w[i]?) = w.map some := by
  apply List.ext_getElem?
  intro k
  by_cases hk : k < w.length
  · simp [hk]
  · simp [hk]
theorem ab_u1 {μ : ab_M} {a j : Nat} {x : Int32} : (ab_mi μ a j x).1 a = upd (μ.1 a) j x := by funext b; simp [ab_mi, upd]
theorem ab_u2 {μ : ab_M} {a j : Nat} {x : Int64} : (ab_mj μ a j x).2 a = vp_updL (μ.2 a) j x := by funext b; simp [ab_mj, vp_updL]
theorem ab_e0 {ω : ab_W} {μ : ab_M} {a j n : Nat} {x : Int32} : ab_ct ω (ab_mi μ a j x) a (.inl (0, n)) = .inl (ω.2.1.1, n, .inl (upd (μ.1 a) j x)) := by
  simp [ab_ct, ab_u1]
theorem ab_e1 {ω : ab_W} {μ : ab_M} {a j n : Nat} {x : Int64} : ab_ct ω (ab_mj μ a j x) a (.inl (1, n)) = .inl (ω.2.1.2.1, n, .inr (.inl (vp_updL (μ.2 a) j x))) := by
  simp [ab_ct, ab_u2]
theorem ab_e2 {ω : ab_W} {μ : ab_M} {a j n : Nat} {x : Int32} : ab_ct ω (ab_mi μ a j x) a (.inl (2, n)) = .inl (ω.2.1.2.2, n, .inl (upd (μ.1 a) j x)) := by
  simp [ab_ct, ab_u1]
theorem ab_mr_upd {ω : ab_W} {μ : ab_M} {a n : Nat} {f : Nat → Int32} : ab_ct ω (ab_mr μ a f) a (.inl (0, n)) = .inl (ω.2.1.1, n, .inl f) := by
  have : (ab_mr μ a f).1 a = f := by funext b; simp [ab_mr]
  simp [ab_ct, this]
theorem ab_put_ab_mi {ω : ab_W} {μ : ab_M} {a j ci t : Nat} {sl : List ab_Sl} {x : Int32} (h : sl[j]? = some (.inr t)) (ht : t ≠ 1 := by decide) : ab_ct ω (ab_mi μ a j x) a (.inr (ci, sl)) = .inr (ci, (sl.mapIdx (fun j z => ab_sv ω μ a j z)).set j (.int x)) := by
  have e : sl.mapIdx (fun j z => ab_sv ω (ab_mi μ a j x) a j z) = sl.mapIdx (fun j z => ab_sv ω (ab_mi μ a j x) a j z) := rfl
  simp only [ab_ct, Sum.inr.injEq, Prod.mk.injEq, true_and]
  apply List.ext_getElem?
  intro k
  rw [List.getElem?_set, List.getElem?_mapIdx, List.length_mapIdx, List.getElem?_mapIdx]
  by_cases hk : j = k
  · subst hk
    have hl := (List.getElem?_eq_some_iff.mp h).1
    rw [if_pos rfl, if_pos hl, h]
    simp only [Option.map_some, Option.some.injEq]
    unfold ab_sv
    split
    · rename_i q; cases q
    · rename_i q; cases q; exact absurd rfl ht
    · simp [ab_mi]
  · rw [if_neg hk]
    cases hs : sl[k]? with
    | none => rfl
    | some z =>
      simp only [Option.map_some, Option.some.injEq]
      unfold ab_sv
      have hk' : ¬ k = j := fun q => hk q.symm
      split <;> simp [ab_mi, hk']
theorem ab_put_ab_mj {ω : ab_W} {μ : ab_M} {a j ci : Nat} {sl : List ab_Sl} {x : Int64} (h : sl[j]? = some (.inr 1)) : ab_ct ω (ab_mj μ a j x) a (.inr (ci, sl)) = .inr (ci, (sl.mapIdx (fun j z => ab_sv ω μ a j z)).set j (.long x)) := by
  simp only [ab_ct, Sum.inr.injEq, Prod.mk.injEq, true_and]
  apply List.ext_getElem?
  intro k
  rw [List.getElem?_set, List.getElem?_mapIdx, List.length_mapIdx, List.getElem?_mapIdx]
  by_cases hk : j = k
  · subst hk
    have hl := (List.getElem?_eq_some_iff.mp h).1
    rw [if_pos rfl, if_pos hl, h]
    simp [ab_sv, ab_mj]
  · rw [if_neg hk]
    cases hs : sl[k]? with
    | none => rfl
    | some z =>
      simp only [Option.map_some, Option.some.injEq]
      unfold ab_sv
      have hk' : ¬ k = j := fun q => hk q.symm
      split <;> simp [ab_mj, hk']
theorem ab_tys_ok : ∀ (k : Nat) (r : vw_C), vwCl[k]? = some r → ∃ ty0 : Nat → FieldType, (∀ k, k < r.2.2 → parseFieldDescriptor (r.2.1 k).2.2.1 = some (ty0 k)) ∧ (∀ a, a < r.2.2 → ∀ b, b < r.2.2 → a ≠ b → (r.2.1 a).2.1 ≠ (r.2.1 b).2.1)
  | 0, r, h => by cases h; exact ⟨tyX0, tyX0_ok, nmX0⟩
  | 1, r, h => by cases h; exact ⟨tyX1, tyX1_ok, nmX1⟩
  | 2, r, h => by cases h; exact ⟨tyX2, tyX2_ok, nmX2⟩
  | 3, r, h => by cases h; exact ⟨tyX3, tyX3_ok, nmX3⟩
  | 4, r, h => by cases h; exact ⟨tyX4, tyX4_ok, nmX4⟩
  | 5, r, h => by cases h; exact ⟨tyX5, tyX5_ok, nmX5⟩
  | 6, r, h => by cases h; exact ⟨tyX6, tyX6_ok, nmX6⟩
  | 7, r, h => by cases h; exact ⟨tyX8, tyX8_ok, nmX8⟩
  | 8, r, h => by cases h; exact ⟨tyX9, tyX9_ok, nmX9⟩
  | 9, r, h => by cases h; exact ⟨tyX10, tyX10_ok, nmX10⟩
  | 10, r, h => by cases h; exact ⟨tyX11, tyX11_ok, nmX11⟩
  | k + 11, r, h => by simp [vwCl] at h
theorem ab_goodM {md : ab_Md} (h : Cond.code md.1 md.2.1 md.2.2.1 md.2.2.2.1 ∈ ab_T) : GoodIn ab_T (ab_ws md) := by
  intro w hw
  rcases List.mem_cons.mp hw with rfl | hw
  · exact ab_goodT _ h
  · exact ab_goodT _ hw
theorem ab_cb {R : Room} {s : State} {args : Array Value} {own : String} {index g0 g1 g2 k : Nat} {md : ab_Md} (hts : ∀ w ∈ ab_T, w.before args s = true) (h : ab_cks own index R [g0, g1, g2, 0] md k = true) :
    CallB R s args own index md.1 md.2.1 md.2.2.1 md.2.2.2.1 (ab_ws md) md.2.2.2.2 0 0 k := by
  simp only [ab_cks, Bool.and_eq_true] at h
  obtain ⟨⟨⟨⟨⟨⟨⟨⟨⟨⟨a1, a2⟩, a3⟩, a4⟩, a5⟩, a6⟩, a7⟩, a8⟩, a9⟩, a10⟩, -⟩ := h
  exact callB_of (Ts := ab_T) k hts (ab_goodM (ab_tb_in a3)) rfl (of_decide_eq_true a9) (of_decide_eq_true a10) (hts _ (ab_tb_in a2)) (hts _ (ab_tb_in a1)) ⟨of_decide_eq_true a4, of_decide_eq_true a5, of_decide_eq_true a6⟩ ⟨of_decide_eq_true a7, of_decide_eq_true a8⟩
theorem ab_cw {R : Room} {s : State} {args : Array Value} {own : String} {index g0 g1 g2 g4 g5 k : Nat} {md : ab_Md} (hts : ∀ w ∈ ab_T, w.before args s = true) (h : ab_cks own index R [g0, g1, g2, 0] md k = true) (h4 : ab_tb g4 (.instanceMethod md.1) = true) (h5 : ab_tb g5 (.selects md.1.cls md.1 md.1) = true) :
    CallW R s args own md.1.cls index md.1 md.2.1 md.2.2.1 md.2.2.2.1 (ab_ws md) md.2.2.2.2 0 0 k := ⟨ab_cb hts h, hts _ (ab_tb_in h4), hts _ (ab_tb_in h5)⟩
theorem ab_cwS {R : Room} {s : State} {args : Array Value} {own : String} {index g0 g1 g2 g4 k : Nat} {md : ab_Md} (hts : ∀ w ∈ ab_T, w.before args s = true) (h : ab_cks own index R [g0, g1, g2, 0] md k = true) (h4 : ab_tb g4 (.static md.1) = true) :
    CallB R s args own index md.1 md.2.1 md.2.2.1 md.2.2.2.1 (ab_ws md) md.2.2.2.2 0 0 k ∧ (Cond.static md.1).before args s = true := ⟨ab_cb hts h, hts _ (ab_tb_in h4)⟩
section AbT
variable {p : Program} {l : Launch} {e : Env} {R : Room} {s : State} {m : MethodId} {args : Array Value} {below : List Frame} {meth : Method} {c : Code}
set_option maxHeartbeats 4000000 in
set_option maxRecDepth 100000 in
theorem ab_sound {ω : ab_W} {A : Nat → Prop} {own : String} {cc : ByteArray} {nL : Nat} {ret : Option FieldType} {cd : List ab_En} {sh : List ab_Sh} {QI : Int32 → ab_M → Prop} {QL : Int64 → ab_M → Prop} {QV : ab_M → Prop}
    (hx : p.tables.exec = Jvm.exec) (hb : c.code = cc) (hml : c.maxLocals = nL) (hr : meth.sig.returnType = ret) (hown : s.vm.findClass own = some m.cls) (hts : ∀ w ∈ ab_T, w.before args s = true) (hK : va_K ω.2.2.1 vwCl (ab_tys ω) s) (hA : ∀ q, s.heap.size ≤ q → A q) (hlocks : meth.locks = false) (hsh : ω.2.2.2 = sh)
    {i : Nat} {ll : ab_L} {st : List Value} {μ : ab_M} (hck : ∀ pc len ins ts fx k32 k64 cx, ab_nth cd i = some (pc, len, ins, ts, fx, k32, k64, cx) → ab_ck own cc nL R cd i pc len ts fx k32 k64 cx ins = true)
    (h : ab_wp l ω sh ret cd QI QL QV (ab_J p l e R s m args below meth c ω A nL cd (MQ below (ab_Qc ω A ret QI QL QV) args s 0 0 A)) i ll st μ) : ab_J p l e R s m args below meth c ω A nL cd (MQ below (ab_Qc ω A ret QI QL QV) args s 0 0 A) i ll st μ := by
  intro hll H locs ls hP hD hS hl
  unfold ab_wp at h
  split at h
  · exact h.elim
  rename_i u0 pc len ins ts fx k32 k64 cx hn
  have hc := hck pc len ins ts fx k32 k64 cx hn
  have hbp : ab_bp cd i = pc := by simp [ab_bp, hn]
  rw [hbp]
  unfold ab_ck at hc
  rw [Bool.and_eq_true] at hc
  obtain ⟨hd, hc⟩ := hc
  replace hd := of_decide_eq_true hd
  clear hn hck
  have go : ∀ (n : Nat) (ll' : ab_L) (st' : List Value) (μ' : ab_M) (H' : Heap) (locs' : List Loc) (ls' : Array Slot), ab_bp cd (i + 1) = pc + n → ab_J p l e R s m args below meth c ω A nL cd (MQ below (ab_Qc ω A ret QI QL QV) args s 0 0 A) (i + 1) ll' st' μ' → ll'.length = nL → va_P ω.2.2.1 vwCl (ab_wl ω μ') H' → va_D A (ab_wl ω μ') → va_S A s.heap H' locs' → lv_has ls' nL (ab_lv ω.1 0 ll') → W p l e R s m args below meth c H' locs' 0 0 (MQ below (ab_Qc ω A ret QI QL QV) args s 0 0 A) (F0 m (pc + n) ls' (st'.map (ab_cv ω.1))) := by
    intro n ll' st' μ' H' locs' ls' e1 hj h1 h2 h3 h4 h5
    rw [← e1]
    exact hj h1 H' locs' ls' h2 h3 h4 h5
  have gt : ∀ (t : Nat) (st' : List Value), ab_J p l e R s m args below meth c ω A nL cd (MQ below (ab_Qc ω A ret QI QL QV) args s 0 0 A) t ll st' μ → W p l e R s m args below meth c H locs 0 0 (MQ below (ab_Qc ω A ret QI QL QV) args s 0 0 A) (F0 m (ab_bp cd t) ls (st'.map (ab_cv ω.1))) := fun t st' hj => hj hll H locs ls hP hD hS hl
  unfold ab_in at h
  split at h
  · simp only [Bool.and_eq_true, decide_eq_true_eq] at hc
    obtain ⟨⟨rfl, h2⟩, h3⟩ := hc
    exact lv_iconst hx hb hd h3 (go 1 _ _ _ _ _ _ h2 h hll hP hD hS hl)
  · simp only [Bool.and_eq_true, decide_eq_true_eq] at hc
    obtain ⟨⟨rfl, h2⟩, h3⟩ := hc
    exact lv_bipush hx hb hd h3 (go 2 _ _ _ _ _ _ h2 h hll hP hD hS hl)
  · simp only [Bool.and_eq_true, decide_eq_true_eq] at hc
    obtain ⟨⟨rfl, h2⟩, h3⟩ := hc
    exact lv_sipush hx hb hd h3 (go 3 _ _ _ _ _ _ h2 h hll hP hD hS hl)
  · simp only [Bool.and_eq_true, decide_eq_true_eq] at hc
    obtain ⟨⟨rfl, h2⟩, h3⟩ := hc
    exact lv_lconst hx hb hd h3 (go 1 _ _ _ _ _ _ h2 h hll hP hD hS hl)
  · simp only [Bool.and_eq_true, decide_eq_true_eq] at hc
    obtain ⟨⟨rfl, h2⟩, h3⟩ := hc
    exact lv_ldc2 hx hb hown (hts _ (ab_tb_in h3)) hd (go 3 _ _ _ _ _ _ h2 h hll hP hD hS hl)
  · simp only [Bool.and_eq_true, decide_eq_true_eq] at hc
    obtain ⟨rfl, h2⟩ := hc
    unfold ab_gi at h
    split at h
    · rename_i hq
      exact lv_iload_n hx hb hd rfl (ab_lv_at hl hq) (go 1 _ _ _ _ _ _ h2 h hll hP hD hS hl)
    · exact h.elim
  · simp only [Bool.and_eq_true, decide_eq_true_eq] at hc
    obtain ⟨rfl, h2⟩ := hc
    unfold ab_gi at h
    split at h
    · rename_i hq
      exact lv_iload hx hb hd (ab_lv_at hl hq) (go 2 _ _ _ _ _ _ h2 h hll hP hD hS hl)
    · exact h.elim
  · simp only [Bool.and_eq_true, decide_eq_true_eq] at hc
    obtain ⟨rfl, h2⟩ := hc
    unfold ab_gl at h
    split at h
    · rename_i hq
      exact lv_lload_n hx hb hd rfl (ab_lv_at hl hq) (go 1 _ _ _ _ _ _ h2 h hll hP hD hS hl)
    · exact h.elim
  · simp only [Bool.and_eq_true, decide_eq_true_eq] at hc
    obtain ⟨rfl, h2⟩ := hc
    unfold ab_gl at h
    split at h
    · rename_i hq
      exact lv_lload hx hb hd (ab_lv_at hl hq) (go 2 _ _ _ _ _ _ h2 h hll hP hD hS hl)
    · exact h.elim
  · simp only [Bool.and_eq_true, decide_eq_true_eq] at hc
    obtain ⟨rfl, h2⟩ := hc
    unfold ab_ga at h
    split at h
    · rename_i hq
      exact lv_aload_n hx hb hd rfl (ab_lv_at hl hq) (go 1 _ _ _ _ _ _ h2 h hll hP hD hS hl)
    · exact h.elim
  · simp only [Bool.and_eq_true, decide_eq_true_eq] at hc
    obtain ⟨rfl, h2⟩ := hc
    unfold ab_ga at h
    split at h
    · rename_i hq
      exact lv_aload hx hb hd (ab_lv_at hl hq) (go 2 _ _ _ _ _ _ h2 h hll hP hD hS hl)
    · exact h.elim
  · simp only [Bool.and_eq_true, decide_eq_true_eq] at hc
    obtain ⟨⟨rfl, h2⟩, h3⟩ := hc
    unfold ab_is at h
    split at h
    · rename_i x st'
      split at h
      · rename_i hp
        exact lv_istore_n hx hb hd rfl hl h3 rfl (fun ls' hl' => go 1 _ _ _ _ _ _ h2 h (by simp [hll]) hP hD hS (ab_lv_set (v := .int x) hp hl'))
      · exact h.elim
    · exact h.elim
  · simp only [Bool.and_eq_true, decide_eq_true_eq] at hc
    obtain ⟨⟨rfl, h2⟩, h3⟩ := hc
    unfold ab_is at h
    split at h
    · rename_i x st'
      split at h
      · rename_i hp
        exact lv_istore hx hb hd hl h3 rfl (fun ls' hl' => go 2 _ _ _ _ _ _ h2 h (by simp [hll]) hP hD hS (ab_lv_set (v := .int x) hp hl'))
      · exact h.elim
    · exact h.elim
  · simp only [Bool.and_eq_true, decide_eq_true_eq] at hc
    obtain ⟨⟨rfl, h2⟩, h3⟩ := hc
    unfold ab_lt at h
    split at h
    · rename_i x st'
      split at h
      · rename_i hp
        exact lv_lstore_n hx hb hd rfl hl h3 rfl (fun ls' hl' => go 1 _ _ _ _ _ _ h2 h (by simp [hll]) hP hD hS (ab_lv_setL (v := .long x) hp hl'))
      · exact h.elim
    · exact h.elim
  · simp only [Bool.and_eq_true, decide_eq_true_eq] at hc
    obtain ⟨⟨rfl, h2⟩, h3⟩ := hc
    unfold ab_lt at h
    split at h
    · rename_i x st'
      split at h
      · rename_i hp
        exact lv_lstore hx hb hd hl h3 rfl (fun ls' hl' => go 2 _ _ _ _ _ _ h2 h (by simp [hll]) hP hD hS (ab_lv_setL (v := .long x) hp hl'))
      · exact h.elim
    · exact h.elim
  · simp only [Bool.and_eq_true, decide_eq_true_eq] at hc
    obtain ⟨⟨⟨rfl, h2⟩, h3⟩, h4⟩ := hc
    unfold ab_gi at h
    split at h
    · rename_i x hq
      split at h
      · rename_i hp
        obtain ⟨k, hk⟩ := List.getElem?_of_mem (ab_lv_0 (ad := ω.1) (ll := ll) (j := _) (w := .int x) |>.mpr ⟨.int x, by rw [← ab_nth_eq]; exact hq, rfl⟩)
        exact lv_iinc hx hb hd hl hk (by rw [h4]) h3 rfl (fun ls' hl' => go 3 _ _ _ _ _ _ h2 h (by simp [hll]) hP hD hS (ab_lv_set (v := .int (x + k32)) hp hl'))
      · exact h.elim
    · exact h.elim
  · simp only [Bool.and_eq_true, decide_eq_true_eq] at hc
    obtain ⟨rfl, h2⟩ := hc
    unfold ab_i2 at h
    split at h
    · exact lv_iadd hx hb hd (go 1 _ _ _ _ _ _ h2 h hll hP hD hS hl)
    · exact h.elim
  · simp only [Bool.and_eq_true, decide_eq_true_eq] at hc
    obtain ⟨rfl, h2⟩ := hc
    unfold ab_i2 at h
    split at h
    · exact lv_isub hx hb hd (go 1 _ _ _ _ _ _ h2 h hll hP hD hS hl)
    · exact h.elim
  · simp only [Bool.and_eq_true, decide_eq_true_eq] at hc
    obtain ⟨rfl, h2⟩ := hc
    unfold ab_i2 at h
    split at h
    · exact lv_imul hx hb hd (go 1 _ _ _ _ _ _ h2 h hll hP hD hS hl)
    · exact h.elim
  · simp only [Bool.and_eq_true, decide_eq_true_eq] at hc
    obtain ⟨rfl, h2⟩ := hc
    unfold ab_i2 at h
    split at h
    · exact lv_iand hx hb hd (go 1 _ _ _ _ _ _ h2 h hll hP hD hS hl)
    · exact h.elim
  · simp only [Bool.and_eq_true, decide_eq_true_eq] at hc
    obtain ⟨rfl, h2⟩ := hc
    unfold ab_i2 at h
    split at h
    · exact lv_ior hx hb hd (go 1 _ _ _ _ _ _ h2 h hll hP hD hS hl)
    · exact h.elim
  · simp only [Bool.and_eq_true, decide_eq_true_eq] at hc
    obtain ⟨rfl, h2⟩ := hc
    unfold ab_i2 at h
    split at h
    · exact lv_ishl hx hb hd (go 1 _ _ _ _ _ _ h2 h hll hP hD hS hl)
    · exact h.elim
  · simp only [Bool.and_eq_true, decide_eq_true_eq] at hc
    obtain ⟨rfl, h2⟩ := hc
    unfold ab_i2 at h
    split at h
    · exact lv_ishr hx hb hd (go 1 _ _ _ _ _ _ h2 h hll hP hD hS hl)
    · exact h.elim
  · simp only [Bool.and_eq_true, decide_eq_true_eq] at hc
    obtain ⟨rfl, h2⟩ := hc
    unfold ab_l2 at h
    split at h
    · exact lv_ladd hx hb hd (go 1 _ _ _ _ _ _ h2 h hll hP hD hS hl)
    · exact h.elim
  · simp only [Bool.and_eq_true, decide_eq_true_eq] at hc
    obtain ⟨rfl, h2⟩ := hc
    unfold ab_l2 at h
    split at h
    · exact lv_lsub hx hb hd (go 1 _ _ _ _ _ _ h2 h hll hP hD hS hl)
    · exact h.elim
  · simp only [Bool.and_eq_true, decide_eq_true_eq] at hc
    obtain ⟨rfl, h2⟩ := hc
    unfold ab_l2 at h
    split at h
    · exact lv_land hx hb hd (go 1 _ _ _ _ _ _ h2 h hll hP hD hS hl)
    · exact h.elim
  · simp only [Bool.and_eq_true, decide_eq_true_eq] at hc
    obtain ⟨rfl, h2⟩ := hc
    unfold ab_l2 at h
    split at h
    · exact lv_lor hx hb hd (go 1 _ _ _ _ _ _ h2 h hll hP hD hS hl)
    · exact h.elim
  · simp only [Bool.and_eq_true, decide_eq_true_eq] at hc
    obtain ⟨rfl, h2⟩ := hc
    unfold ab_l2 at h
    split at h
    · exact lv_lxor hx hb hd (go 1 _ _ _ _ _ _ h2 h hll hP hD hS hl)
    · exact h.elim
  · simp only [Bool.and_eq_true, decide_eq_true_eq] at hc
    obtain ⟨rfl, h2⟩ := hc
    unfold ab_l2 at h
    split at h
    · exact W.lcmp hx hb hd (go 1 _ _ _ _ _ _ h2 h hll hP hD hS hl)
    · exact h.elim
  · simp only [Bool.and_eq_true, decide_eq_true_eq] at hc
    obtain ⟨rfl, h2⟩ := hc
    split at h
    · exact lv_lneg hx hb hd (go 1 _ _ _ _ _ _ h2 h hll hP hD hS hl)
    · exact h.elim
  · simp only [Bool.and_eq_true, decide_eq_true_eq] at hc
    obtain ⟨rfl, h2⟩ := hc
    split at h
    · exact lv_lushr hx hb hd rfl (go 1 _ _ _ _ _ _ h2 h hll hP hD hS hl)
    · exact h.elim
  · simp only [Bool.and_eq_true, decide_eq_true_eq] at hc
    obtain ⟨rfl, h2⟩ := hc
    split at h
    · exact lv_lshl hx hb hd rfl (go 1 _ _ _ _ _ _ h2 h hll hP hD hS hl)
    · exact h.elim
  · simp only [Bool.and_eq_true, decide_eq_true_eq] at hc
    obtain ⟨rfl, h2⟩ := hc
    split at h
    · exact lv_l2i hx hb hd rfl (go 1 _ _ _ _ _ _ h2 h hll hP hD hS hl)
    · exact h.elim
  · simp only [Bool.and_eq_true, decide_eq_true_eq] at hc
    obtain ⟨rfl, h2⟩ := hc
    split at h
    · exact lv_dup hx hb hd rfl (go 1 _ _ _ _ _ _ h2 h hll hP hD hS hl)
    · exact lv_dup hx hb hd rfl (go 1 _ _ _ _ _ _ h2 h hll hP hD hS hl)
    · exact h.elim
  · simp only [Bool.and_eq_true, decide_eq_true_eq] at hc
    obtain ⟨rfl, h2⟩ := hc
    split at h
    · exact lv_dup_x1 hx hb hd rfl rfl (go 1 _ _ _ _ _ _ h2 h hll hP hD hS hl)
    · exact h.elim
  · simp only [Bool.and_eq_true, decide_eq_true_eq] at hc
    obtain ⟨rfl, h2⟩ := hc
    split at h
    · exact lv_dup2_11 hx hb hd rfl rfl (go 1 _ _ _ _ _ _ h2 h hll hP hD hS hl)
    · exact h.elim
  · rename_i cond off
    split at h
    · rename_i t tr
      simp only [Bool.and_eq_true, decide_eq_true_eq] at hc
      obtain ⟨⟨rfl, h2⟩, h4⟩ := hc
      unfold ab_i2 at h
      split at h
      · unfold ab_ci at h
        cases cond with
        | eq => exact lv_icmp_eq hx hb hd h4 (fun q => gt _ _ (h.1 q)) (fun q => go 3 _ _ _ _ _ _ h2 (h.2 q) hll hP hD hS hl)
        | ne => exact lv_icmp_ne hx hb hd h4 (fun q => gt _ _ (h.1 q)) (fun q => go 3 _ _ _ _ _ _ h2 (h.2 q) hll hP hD hS hl)
        | lt => exact lv_icmp_lt hx hb hd h4 (fun q => gt _ _ (h.1 q)) (fun q => go 3 _ _ _ _ _ _ h2 (h.2 q) hll hP hD hS hl)
        | ge => exact lv_icmp_ge hx hb hd h4 (fun q => gt _ _ (h.1 q)) (fun q => go 3 _ _ _ _ _ _ h2 (h.2 q) hll hP hD hS hl)
        | gt => exact lv_icmp_gt hx hb hd h4 (fun q => gt _ _ (h.1 q)) (fun q => go 3 _ _ _ _ _ _ h2 (h.2 q) hll hP hD hS hl)
        | le => exact lv_icmp_le hx hb hd h4 (fun q => gt _ _ (h.1 q)) (fun q => go 3 _ _ _ _ _ _ h2 (h.2 q) hll hP hD hS hl)
      · exact h.elim
    · exact h.elim
  · rename_i cond off
    split at h
    · rename_i t tr
      simp only [Bool.and_eq_true, decide_eq_true_eq] at hc
      obtain ⟨⟨rfl, h2⟩, h4⟩ := hc
      split at h
      · unfold ab_ci at h
        cases cond with
        | eq => exact lv_if_eq hx hb hd h4 (fun q => gt _ _ (h.1 q)) (fun q => go 3 _ _ _ _ _ _ h2 (h.2 q) hll hP hD hS hl)
        | ne => exact lv_if_ne hx hb hd h4 (fun q => gt _ _ (h.1 q)) (fun q => go 3 _ _ _ _ _ _ h2 (h.2 q) hll hP hD hS hl)
        | lt => exact lv_if_lt hx hb hd h4 (fun q => gt _ _ (h.1 q)) (fun q => go 3 _ _ _ _ _ _ h2 (h.2 q) hll hP hD hS hl)
        | ge => exact lv_if_ge hx hb hd h4 (fun q => gt _ _ (h.1 q)) (fun q => go 3 _ _ _ _ _ _ h2 (h.2 q) hll hP hD hS hl)
        | gt => exact lv_if_gt hx hb hd h4 (fun q => gt _ _ (h.1 q)) (fun q => go 3 _ _ _ _ _ _ h2 (h.2 q) hll hP hD hS hl)
        | le => exact lv_if_le hx hb hd h4 (fun q => gt _ _ (h.1 q)) (fun q => go 3 _ _ _ _ _ _ h2 (h.2 q) hll hP hD hS hl)
      · exact h.elim
    · exact h.elim
  · split at h
    · simp only [Bool.and_eq_true, decide_eq_true_eq] at hc
      obtain ⟨rfl, h4⟩ := hc
      exact lv_goto hx hb hd h4 (gt _ _ h)
    · exact h.elim
  · simp only [Bool.and_eq_true, decide_eq_true_eq] at hc
    obtain ⟨rfl, h2⟩ := hc
    split at h
    · rename_i j a st'
      split at h
      · rename_i n hs
        have he := ab_wl_at (ω := ω) (μ := μ) (k := a) (by rw [hsh, ← ab_nth_eq]; exact hs)
        exact va_iald hx hb hK hP a 0 he rfl h.1 hd (go 1 _ _ _ _ _ _ h2 h.2 hll hP hD hS hl)
      · exact h.elim
    · exact h.elim
  · simp only [Bool.and_eq_true, decide_eq_true_eq] at hc
    obtain ⟨rfl, h2⟩ := hc
    split at h
    · rename_i j a st'
      split at h
      · rename_i n hs
        have he := ab_wl_at (ω := ω) (μ := μ) (k := a) (by rw [hsh, ← ab_nth_eq]; exact hs)
        exact va_lald hx hb hK hP a 1 he rfl h.1 hd (go 1 _ _ _ _ _ _ h2 h.2 hll hP hD hS hl)
      · exact h.elim
    · exact h.elim
  · simp only [Bool.and_eq_true, decide_eq_true_eq] at hc
    obtain ⟨rfl, h2⟩ := hc
    split at h
    · rename_i j a st'
      split at h
      · rename_i n hs
        have he := ab_wl_at (ω := ω) (μ := μ) (k := a) (by rw [hsh, ← ab_nth_eq]; exact hs)
        exact va_zald hx hb hK hP a 2 he rfl h.1 hd (go 1 _ _ _ _ _ _ h2 h.2 hll hP hD hS hl)
      · exact h.elim
    · exact h.elim
  · simp only [Bool.and_eq_true, decide_eq_true_eq] at hc
    obtain ⟨rfl, h2⟩ := hc
    split at h
    · rename_i x j a st'
      split at h
      · rename_i n hs
        have hs2 : ω.2.2.2[a]? = some (.inl (0, n)) := by rw [hsh, ← ab_nth_eq]; exact hs
        have he := ab_wl_at (ω := ω) (μ := μ) (k := a) hs2
        have hw := ab_wl_set (ω := ω) (μ := μ) (μ' := ab_mi μ a j.toNatClampNeg x) hs2 ab_mi_ne (fun _ _ => rfl)
        refine va_iast hx hb hK hP hD hS a 0 he rfl h.1 hd (fun H1 locs1 hP1 hD1 hS1 => ?_)
        · rw [ab_e0] at hw
          exact go 1 _ _ _ _ _ _ h2 h.2 hll (hw ▸ hP1) (hw ▸ hD1) hS1 hl
      · exact h.elim
    · exact h.elim
  · simp only [Bool.and_eq_true, decide_eq_true_eq] at hc
    obtain ⟨rfl, h2⟩ := hc
    split at h
    · rename_i x j a st'
      split at h
      · rename_i n hs
        have hs2 : ω.2.2.2[a]? = some (.inl (1, n)) := by rw [hsh, ← ab_nth_eq]; exact hs
        have he := ab_wl_at (ω := ω) (μ := μ) (k := a) hs2
        have hw := ab_wl_set (ω := ω) (μ := μ) (μ' := ab_mj μ a j.toNatClampNeg x) hs2 (fun _ _ => rfl) ab_mj_ne
        refine va_last hx hb hK hP hD hS a 1 he rfl h.1 hd (fun H1 locs1 hP1 hD1 hS1 => ?_)
        · rw [ab_e1] at hw
          exact go 1 _ _ _ _ _ _ h2 h.2 hll (hw ▸ hP1) (hw ▸ hD1) hS1 hl
      · exact h.elim
    · exact h.elim
  · simp only [Bool.and_eq_true, decide_eq_true_eq] at hc
    obtain ⟨rfl, h2⟩ := hc
    split at h
    · rename_i x j a st'
      split at h
      · rename_i n hs
        have hs2 : ω.2.2.2[a]? = some (.inl (2, n)) := by rw [hsh, ← ab_nth_eq]; exact hs
        have he := ab_wl_at (ω := ω) (μ := μ) (k := a) hs2
        have hz : vp_nar .boolean x = x := by rcases h.2.1 with h0 | h0 <;> subst h0 <;> rfl
        have hw := ab_wl_set (ω := ω) (μ := μ) (μ' := ab_mi μ a j.toNatClampNeg x) hs2 ab_mi_ne (fun _ _ => rfl)
        refine va_zast hx hb hK hP hD hS a 2 he rfl h.1 hd (fun H1 locs1 hP1 hD1 hS1 => ?_)
        · rw [hz] at hP1 hD1
          rw [ab_e2] at hw
          exact go 1 _ _ _ _ _ _ h2 h.2.2 hll (hw ▸ hP1) (hw ▸ hD1) hS1 hl
      · exact h.elim
    · exact h.elim
  · split at h
    · rename_i a st'
      split at h
      · rename_i ci sl hs
        have hs2 : ω.2.2.2[a]? = some (.inr (ci, sl)) := by rw [hsh, ← ab_nth_eq]; exact hs
        have he := ab_wl_at (ω := ω) (μ := μ) (k := a) hs2
        rw [Bool.and_eq_true, Bool.and_eq_true] at hc
        obtain ⟨⟨h1, h2⟩, h3⟩ := hc
        have h1 := of_decide_eq_true h1
        have h2 := of_decide_eq_true h2
        subst h1
        split at h3
        · rename_i r hr2
          obtain ⟨C, T, N⟩ := r
          rw [Bool.and_eq_true] at h3
          obtain ⟨h4, h5⟩ := h3
          have h4 := of_decide_eq_true h4
          split at h
          · rename_i q hci hsl
            have hci := Nat.eq_of_beq_eq_true hci
            subst hci
            exact va_get (D := ω.2.2.1) (C := C) (T := T) (N := N) hx hb hts (ab_uws (C, T, N) (List.mem_of_getElem? hr2)) hown hK hP a he hr2 fx.2.1 h4 (hts _ (ab_tb_in h5)) (fun _ h9 => h9) (v := .ref (ω.1 q)) (by rw [List.getElem?_mapIdx, ← ab_nth_eq, hsl]; rfl) hd (go 3 _ _ _ _ _ _ h2 h hll hP hD hS hl)
          · rename_i hci hsl
            have hci := Nat.eq_of_beq_eq_true hci
            subst hci
            exact va_get (D := ω.2.2.1) (C := C) (T := T) (N := N) hx hb hts (ab_uws (C, T, N) (List.mem_of_getElem? hr2)) hown hK hP a he hr2 fx.2.1 h4 (hts _ (ab_tb_in h5)) (fun _ h9 => h9) (v := .int (μ.1 a fx.2.1)) (by rw [List.getElem?_mapIdx, ← ab_nth_eq, hsl]; rfl) hd (go 3 _ _ _ _ _ _ h2 h hll hP hD hS hl)
          · rename_i hci hsl
            have hci := Nat.eq_of_beq_eq_true hci
            subst hci
            exact va_get (D := ω.2.2.1) (C := C) (T := T) (N := N) hx hb hts (ab_uws (C, T, N) (List.mem_of_getElem? hr2)) hown hK hP a he hr2 fx.2.1 h4 (hts _ (ab_tb_in h5)) (fun _ h9 => h9) (v := .long (μ.2 a fx.2.1)) (by rw [List.getElem?_mapIdx, ← ab_nth_eq, hsl]; rfl) hd (go 3 _ _ _ _ _ _ h2 h hll hP hD hS hl)
          · rename_i hci hsl
            have hci := Nat.eq_of_beq_eq_true hci
            subst hci
            exact va_get (D := ω.2.2.1) (C := C) (T := T) (N := N) hx hb hts (ab_uws (C, T, N) (List.mem_of_getElem? hr2)) hown hK hP a he hr2 fx.2.1 h4 (hts _ (ab_tb_in h5)) (fun _ h9 => h9) (v := .int (μ.1 a fx.2.1)) (by rw [List.getElem?_mapIdx, ← ab_nth_eq, hsl]; rfl) hd (go 3 _ _ _ _ _ _ h2 h hll hP hD hS hl)
          · exact h.elim
        · cases h3
      · exact h.elim
    · exact h.elim
  · split at h
    · rename_i x a st'
      split at h
      · rename_i ci sl hs
        have hs2 : ω.2.2.2[a]? = some (.inr (ci, sl)) := by rw [hsh, ← ab_nth_eq]; exact hs
        have he := ab_wl_at (ω := ω) (μ := μ) (k := a) hs2
        rw [Bool.and_eq_true, Bool.and_eq_true] at hc
        obtain ⟨⟨h1, h2⟩, h3⟩ := hc
        have h1 := of_decide_eq_true h1
        have h2 := of_decide_eq_true h2
        subst h1
        split at h3
        · rename_i r hr2
          obtain ⟨C, T, N⟩ := r
          rw [Bool.and_eq_true, Bool.and_eq_true, Bool.and_eq_true] at h3
          obtain ⟨⟨⟨h4, h5⟩, h6⟩, h7⟩ := h3
          have h4 := of_decide_eq_true h4
          have h6 := of_decide_eq_true h6
          obtain ⟨ty0, hty, hnm⟩ := ab_tys_ok fx.1 (C, T, N) hr2
          have hlen : ∀ z, ab_nth sl fx.2.1 = some z → fx.2.1 < sl.length := fun z hz => by rw [ab_nth_eq] at hz; exact (List.getElem?_eq_some_iff.mp hz).1
          split at h
          · rename_i hci hsl
            have hci := Nat.eq_of_beq_eq_true hci
            subst hci
            have h7 := of_decide_eq_true h7
            have hw := ab_wl_set (ω := ω) (μ := μ) (μ' := ab_mi μ a fx.2.1 x) hs2 ab_mi_ne (fun _ _ => rfl)
            refine va_put (D := ω.2.2.1) (C := C) (T := T) (N := N) (ty := .int) (v := .int x) hx hb hts (ab_uws (C, T, N) (List.mem_of_getElem? hr2)) ty0 hty hnm hown hK hP hD hS a he hr2 fx.2.1 h4 (hts _ (ab_tb_in h5)) (fun _ h9 => h9) h6 h7 rfl rfl (by rw [List.length_mapIdx]; exact hlen _ hsl) hd (fun H1 locs1 hP1 hD1 hS1 => ?_)
            rw [ab_put_ab_mi (by rw [← ab_nth_eq]; exact hsl)] at hw
            exact go 3 _ _ _ _ _ _ h2 h hll (hw ▸ hP1) (hw ▸ hD1) hS1 hl
          · rename_i hci hsl
            have hci := Nat.eq_of_beq_eq_true hci
            subst hci
            have h7 := of_decide_eq_true h7
            have hw := ab_wl_set (ω := ω) (μ := μ) (μ' := ab_mi μ a fx.2.1 x) hs2 ab_mi_ne (fun _ _ => rfl)
            refine va_put (D := ω.2.2.1) (C := C) (T := T) (N := N) (ty := .boolean) (v := .int x) hx hb hts (ab_uws (C, T, N) (List.mem_of_getElem? hr2)) ty0 hty hnm hown hK hP hD hS a he hr2 fx.2.1 h4 (hts _ (ab_tb_in h5)) (fun _ h9 => h9) h6 h7 (by rcases h.1 with h0 | h0 <;> subst h0 <;> rfl) (by rcases h.1 with h0 | h0 <;> subst h0 <;> rfl) (by rw [List.length_mapIdx]; exact hlen _ hsl) hd (fun H1 locs1 hP1 hD1 hS1 => ?_)
            rw [ab_put_ab_mi (by rw [← ab_nth_eq]; exact hsl)] at hw
            exact go 3 _ _ _ _ _ _ h2 h.2 hll (hw ▸ hP1) (hw ▸ hD1) hS1 hl
          · exact h.elim
        · cases h3
      · exact h.elim
    · rename_i x a st'
      split at h
      · rename_i ci sl hs
        have hs2 : ω.2.2.2[a]? = some (.inr (ci, sl)) := by rw [hsh, ← ab_nth_eq]; exact hs
        have he := ab_wl_at (ω := ω) (μ := μ) (k := a) hs2
        rw [Bool.and_eq_true, Bool.and_eq_true] at hc
        obtain ⟨⟨h1, h2⟩, h3⟩ := hc
        have h1 := of_decide_eq_true h1
        have h2 := of_decide_eq_true h2
        subst h1
        split at h3
        · rename_i r hr2
          obtain ⟨C, T, N⟩ := r
          rw [Bool.and_eq_true, Bool.and_eq_true, Bool.and_eq_true] at h3
          obtain ⟨⟨⟨h4, h5⟩, h6⟩, h7⟩ := h3
          have h4 := of_decide_eq_true h4
          have h6 := of_decide_eq_true h6
          obtain ⟨ty0, hty, hnm⟩ := ab_tys_ok fx.1 (C, T, N) hr2
          have hlen : ∀ z, ab_nth sl fx.2.1 = some z → fx.2.1 < sl.length := fun z hz => by rw [ab_nth_eq] at hz; exact (List.getElem?_eq_some_iff.mp hz).1
          split at h
          · rename_i hci hsl
            have hci := Nat.eq_of_beq_eq_true hci
            subst hci
            have h7 := of_decide_eq_true h7
            have hw := ab_wl_set (ω := ω) (μ := μ) (μ' := ab_mj μ a fx.2.1 x) hs2 (fun _ _ => rfl) ab_mj_ne
            refine va_put (D := ω.2.2.1) (C := C) (T := T) (N := N) (ty := .long) (v := .long x) hx hb hts (ab_uws (C, T, N) (List.mem_of_getElem? hr2)) ty0 hty hnm hown hK hP hD hS a he hr2 fx.2.1 h4 (hts _ (ab_tb_in h5)) (fun _ h9 => h9) h6 h7 rfl rfl (by rw [List.length_mapIdx]; exact hlen _ hsl) hd (fun H1 locs1 hP1 hD1 hS1 => ?_)
            rw [ab_put_ab_mj (by rw [← ab_nth_eq]; exact hsl)] at hw
            exact go 3 _ _ _ _ _ _ h2 h hll (hw ▸ hP1) (hw ▸ hD1) hS1 hl
          · exact h.elim
        · cases h3
      · exact h.elim
    · exact h.elim
  · rw [Bool.and_eq_true, Bool.and_eq_true] at hc
    obtain ⟨⟨h1, h2⟩, h3⟩ := hc
    have h1 := of_decide_eq_true h1
    have h2 := of_decide_eq_true h2
    subst h1
    split at h
    · rename_i md n
      split at h3
      · rename_i g0 g1 g2 g4 g5 md2 n2 hcx
        cases hcx
        rw [Bool.and_eq_true, Bool.and_eq_true, Bool.and_eq_true] at h3
        obtain ⟨⟨⟨h4, h5⟩, h6⟩, h7⟩ := h3
        have h7 := of_decide_eq_true h7
        split at h
        · rename_i As a rest hpop
          split at h
          · rename_i ci sl hs hsm
            split at h
            · rename_i hci
              have hci := Nat.eq_of_beq_eq_true hci
              subst hci
              have hs2 : ω.2.2.2[a]? = some (.inr (fx.1, sl)) := by rw [hsh, ← ab_nth_eq]; exact hs
              have he := ab_wl_at (ω := ω) (μ := μ) (k := a) hs2
              obtain ⟨rr, hcl, hcn⟩ := Option.map_eq_some_iff.mp h7
              obtain ⟨xs, hx1, hx2, hx3⟩ := ab_pop_eq _ _ _ _ _ hpop
              have hxs : True := trivial
              subst hx3
              have hlen : (As.map (ab_cv ω.1)).length = n := by simp [hx2, hx1]
              have hstk : (F0 m pc ls ((xs ++ Value.ref a :: rest).map (ab_cv ω.1))).stack = (As.map (ab_cv ω.1)).reverse ++ .ref (ω.1 a) :: rest.map (ab_cv ω.1) := by simp [hx2, ab_cv]
              have cw := ab_cw (args := args) hts h4 h5 h6
              have hcn2 : rr.1 = md.1.cls := hcn
              have hcl : vwCl[fx.1]? = some (md.1.cls, rr.2) := by rw [hcl, ← hcn2]
              have hFc : ∀ q, va_A (ab_wl ω μ) H.size q → A q := va_free (wc := ab_wl ω μ) hD hS hA (List.range (ab_wl ω μ).length) (ab_range _)
              have hbl : FrameBlind (ab_Pr ω (.ref a :: As) μ H.size) := fun a U g mk q => by obtain ⟨q0, q1, qP, qK, qD⟩ := q; exact ⟨q0, q1, qP, va_K.moved (u := U) (U := U.calling g mk a) (Vm.Alike.refl U.vm) qK, qD⟩
              have hpre : ∀ U : State, U.heap = H → s.WarmedH U.vm → ab_Pr ω (.ref a :: As) μ H.size (Value.ref (ω.1 a) :: As.map (ab_cv ω.1)).toArray U := fun U hU hW => ⟨by simp [hxs, ab_cv], by rw [hU], by rw [hU]; exact hP, va_K.moved hW.alike hK, hD.weaken (fun _ _ _ _ => trivial)⟩
              unfold ab_call at h
              split at h
              · rename_i hret
                have hM := h H.size
                unfold ab_Qc at hM
                rw [hret] at hM
                dsimp only at hM
                refine va_callv (va_runV (As := As.map (ab_cv ω.1)) (rest := rest.map (ab_cv ω.1)) (C := md.1.cls) ⟨hx, hb, hml, hown, hts⟩ hM cw ⟨hbl, va_recv hK hP (ci := fx.1) hcl he, hpre⟩ rfl hlen hl.1 hstk (lv_room (ab_small_sum ω.1 rest 8 hsm)) hd ⟨Nat.zero_le _, Nat.zero_le _⟩) hS (fun q _ hq => hFc q hq) hFc (fun u t H1 locs1 ht hvm hw hB hz1 hk1 hS1 => ?_)
                obtain ⟨hP1, hK1, hD1⟩ := hB
                rw [ht] at hP1
                exact go 3 _ _ _ _ _ _ h2 hw hll hP1 (hD1.weaken (fun k q _ hq => hFc q.1 hq)) hS1 hl
              · rename_i hret
                have hM := h H.size
                unfold ab_Qc at hM
                rw [hret] at hM
                dsimp only at hM
                refine va_calll (va_runV (As := As.map (ab_cv ω.1)) (rest := rest.map (ab_cv ω.1)) (C := md.1.cls) ⟨hx, hb, hml, hown, hts⟩ hM cw ⟨hbl, va_recv hK hP (ci := fx.1) hcl he, hpre⟩ rfl hlen hl.1 hstk (lv_room (ab_small_sum ω.1 rest 8 hsm)) hd ⟨Nat.zero_le _, Nat.zero_le _⟩) hS (fun q _ hq => hFc q hq) hFc (fun r u t H1 locs1 ht hvm hw hB hz1 hk1 hS1 => ?_)
                obtain ⟨hP1, hK1, hD1⟩ := hB
                rw [ht] at hP1
                exact go 3 _ _ _ _ _ _ h2 hw hll hP1 (hD1.weaken (fun k q _ hq => hFc q.1 hq)) hS1 hl
              · rename_i hret
                have hM := h H.size
                unfold ab_Qc at hM
                rw [hret] at hM
                dsimp only at hM
                refine va_calli (va_runV (As := As.map (ab_cv ω.1)) (rest := rest.map (ab_cv ω.1)) (C := md.1.cls) ⟨hx, hb, hml, hown, hts⟩ hM cw ⟨hbl, va_recv hK hP (ci := fx.1) hcl he, hpre⟩ rfl hlen hl.1 hstk (lv_room (ab_small_sum ω.1 rest 8 hsm)) hd ⟨Nat.zero_le _, Nat.zero_le _⟩) hS (fun q _ hq => hFc q hq) hFc (fun r u t H1 locs1 ht hvm hw hB hz1 hk1 hS1 => ?_)
                obtain ⟨hP1, hK1, hD1⟩ := hB
                rw [ht] at hP1
                exact go 3 _ _ _ _ _ _ h2 hw hll hP1 (hD1.weaken (fun k q _ hq => hFc q.1 hq)) hS1 hl
              · rename_i hret
                have hM := h H.size
                unfold ab_Qc at hM
                rw [hret] at hM
                dsimp only at hM
                refine va_calli (va_runV (As := As.map (ab_cv ω.1)) (rest := rest.map (ab_cv ω.1)) (C := md.1.cls) ⟨hx, hb, hml, hown, hts⟩ hM cw ⟨hbl, va_recv hK hP (ci := fx.1) hcl he, hpre⟩ rfl hlen hl.1 hstk (lv_room (ab_small_sum ω.1 rest 8 hsm)) hd ⟨Nat.zero_le _, Nat.zero_le _⟩) hS (fun q _ hq => hFc q hq) hFc (fun r u t H1 locs1 ht hvm hw hB hz1 hk1 hS1 => ?_)
                obtain ⟨hP1, hK1, hD1⟩ := hB
                rw [ht] at hP1
                exact go 3 _ _ _ _ _ _ h2 hw hll hP1 (hD1.weaken (fun k q _ hq => hFc q.1 hq)) hS1 hl
              · exact h.elim
            · exact h.elim
          · exact h.elim
        · exact h.elim
      · cases h3
    · exact h.elim
  · rw [Bool.and_eq_true, Bool.and_eq_true] at hc
    obtain ⟨⟨h1, h2⟩, h3⟩ := hc
    have h1 := of_decide_eq_true h1
    have h2 := of_decide_eq_true h2
    subst h1
    split at h
    · rename_i md n
      split at h3
      · rename_i g0 g1 g2 g4 md2 n2 hcx
        cases hcx
        rw [Bool.and_eq_true] at h3
        obtain ⟨h4, h5⟩ := h3
        split at h
        · rename_i As rest hpop
          split at h
          · rename_i hsm
            obtain ⟨xs, hx1, hx2, hx3⟩ := ab_pop_eq _ _ _ _ _ hpop
            have hxs : True := trivial
            subst hx3
            have hlen : (As.map (ab_cv ω.1)).length = n := by simp [hx2, hx1]
            have hstk : (F0 m pc ls ((xs ++ rest).map (ab_cv ω.1))).stack = (As.map (ab_cv ω.1)).reverse ++ rest.map (ab_cv ω.1) := by simp [hx2]
            have cw := ab_cwS (args := args) hts h4 h5
            have hFc : ∀ q, va_A (ab_wl ω μ) H.size q → A q := va_free (wc := ab_wl ω μ) hD hS hA (List.range (ab_wl ω μ).length) (ab_range _)
            have hbl : FrameBlind (ab_Pr ω As μ H.size) := fun a U g mk q => by obtain ⟨q0, q1, qP, qK, qD⟩ := q; exact ⟨q0, q1, qP, va_K.moved (u := U) (U := U.calling g mk a) (Vm.Alike.refl U.vm) qK, qD⟩
            have hpre : ∀ U : State, U.heap = H → s.WarmedH U.vm → ab_Pr ω As μ H.size (As.map (ab_cv ω.1)).toArray U := fun U hU hW => ⟨by simp [hxs, ab_cv], by rw [hU], by rw [hU]; exact hP, va_K.moved hW.alike hK, hD.weaken (fun _ _ _ _ => trivial)⟩
            unfold ab_call at h
            split at h
            · rename_i hret
              have hM := h H.size
              unfold ab_Qc at hM
              rw [hret] at hM
              dsimp only at hM
              refine va_callv (va_runS (As := As.map (ab_cv ω.1)) (rest := rest.map (ab_cv ω.1)) ⟨hx, hb, hml, hown, hts⟩ hM cw ⟨hbl, hpre⟩ rfl hlen hl.1 hstk (lv_room (ab_small_sum ω.1 rest 8 hsm)) hd ⟨Nat.zero_le _, Nat.zero_le _⟩) hS (fun q _ hq => hFc q hq) hFc (fun u t H1 locs1 ht hvm hw hB hz1 hk1 hS1 => ?_)
              obtain ⟨hP1, hK1, hD1⟩ := hB
              rw [ht] at hP1
              exact go 3 _ _ _ _ _ _ h2 hw hll hP1 (hD1.weaken (fun k q _ hq => hFc q.1 hq)) hS1 hl
            · rename_i hret
              have hM := h H.size
              unfold ab_Qc at hM
              rw [hret] at hM
              dsimp only at hM
              refine va_calll (va_runS (As := As.map (ab_cv ω.1)) (rest := rest.map (ab_cv ω.1)) ⟨hx, hb, hml, hown, hts⟩ hM cw ⟨hbl, hpre⟩ rfl hlen hl.1 hstk (lv_room (ab_small_sum ω.1 rest 8 hsm)) hd ⟨Nat.zero_le _, Nat.zero_le _⟩) hS (fun q _ hq => hFc q hq) hFc (fun r u t H1 locs1 ht hvm hw hB hz1 hk1 hS1 => ?_)
              obtain ⟨hP1, hK1, hD1⟩ := hB
              rw [ht] at hP1
              exact go 3 _ _ _ _ _ _ h2 hw hll hP1 (hD1.weaken (fun k q _ hq => hFc q.1 hq)) hS1 hl
            · rename_i hret
              have hM := h H.size
              unfold ab_Qc at hM
              rw [hret] at hM
              dsimp only at hM
              refine va_calli (va_runS (As := As.map (ab_cv ω.1)) (rest := rest.map (ab_cv ω.1)) ⟨hx, hb, hml, hown, hts⟩ hM cw ⟨hbl, hpre⟩ rfl hlen hl.1 hstk (lv_room (ab_small_sum ω.1 rest 8 hsm)) hd ⟨Nat.zero_le _, Nat.zero_le _⟩) hS (fun q _ hq => hFc q hq) hFc (fun r u t H1 locs1 ht hvm hw hB hz1 hk1 hS1 => ?_)
              obtain ⟨hP1, hK1, hD1⟩ := hB
              rw [ht] at hP1
              exact go 3 _ _ _ _ _ _ h2 hw hll hP1 (hD1.weaken (fun k q _ hq => hFc q.1 hq)) hS1 hl
            · rename_i hret
              have hM := h H.size
              unfold ab_Qc at hM
              rw [hret] at hM
              dsimp only at hM
              refine va_calli (va_runS (As := As.map (ab_cv ω.1)) (rest := rest.map (ab_cv ω.1)) ⟨hx, hb, hml, hown, hts⟩ hM cw ⟨hbl, hpre⟩ rfl hlen hl.1 hstk (lv_room (ab_small_sum ω.1 rest 8 hsm)) hd ⟨Nat.zero_le _, Nat.zero_le _⟩) hS (fun q _ hq => hFc q hq) hFc (fun r u t H1 locs1 ht hvm hw hB hz1 hk1 hS1 => ?_)
              obtain ⟨hP1, hK1, hD1⟩ := hB
              rw [ht] at hP1
              exact go 3 _ _ _ _ _ _ h2 hw hll hP1 (hD1.weaken (fun k q _ hq => hFc q.1 hq)) hS1 hl
            · exact h.elim
          · exact h.elim
        · exact h.elim
      · rename_i hcx
        cases hcx
      · cases h3
    · split at h3
      · rename_i hcx
        cases hcx
      · rename_i g0 g1 g2 g4 _
        rw [Bool.and_eq_true, Bool.and_eq_true, Bool.and_eq_true, Bool.and_eq_true, Bool.and_eq_true] at h3
        obtain ⟨⟨⟨⟨⟨h4, h5⟩, h6⟩, h7⟩, h8⟩, h9⟩ := h3
        have h8 := of_decide_eq_true h8
        have h9 := of_decide_eq_true h9
        split at h
        · rename_i n dp b sp a rest
          split at h
          · rename_i n0 n1 hs0 hs1 hsm
            have ha2 : ω.2.2.2[a]? = some (.inl (0, n0)) := by rw [hsh, ← ab_nth_eq]; exact hs0
            have hb2 : ω.2.2.2[b]? = some (.inl (0, n1)) := by rw [hsh, ← ab_nth_eq]; exact hs1
            have ea := ab_wl_at (ω := ω) (μ := μ) (k := a) ha2
            have eb := ab_wl_at (ω := ω) (μ := μ) (k := b) hb2
            obtain ⟨q1, q2, q3, q4, q5, hj⟩ := h
            have hw := ab_wl_set (ω := ω) (μ := μ) (μ' := ab_mr μ b (va_cpy (μ.1 a) (μ.1 b) sp.toNatClampNeg dp.toNatClampNeg n.toNatClampNeg)) hb2 ab_mr_ne (fun _ _ => rfl)
            refine va_copyi hx hb (by rw [hml]; exact hl.1.symm) hown (hts _ (ab_tb_in h4)) (hts _ (ab_tb_in h5)) (hts _ (ab_tb_in h6)) (hts _ (ab_tb_in h7)) hK hP hD hS a b 0 0 ea eb rfl rfl rfl q1 q2 q3 q4 q5 (fun _ _ => rfl) h8 (Nat.le_trans (Nat.add_le_add_right (ab_small_sum ω.1 rest 8 hsm) _) h9) hd (fun H1 locs1 hP1 hD1 hS1 => ?_)
            rw [ab_mr_upd] at hw
            exact go 3 _ _ _ _ _ _ h2 hj hll (hw ▸ hP1) (hw ▸ hD1) hS1 hl
          · exact h.elim
        · exact h.elim
      · cases h3
  · rename_i df lo hi offs
    split at h
    · rename_i d ts' x st'
      rw [Bool.and_eq_true, Bool.and_eq_true, Bool.and_eq_true] at hc
      obtain ⟨⟨⟨h1, h2⟩, h3⟩, h4⟩ := hc
      have h1 := of_decide_eq_true h1
      have h2 := of_decide_eq_true h2
      have h3 := of_decide_eq_true h3
      obtain ⟨g1, g2⟩ := ab_tsw_sp ts' lo h
      by_cases ho : x.toInt < lo ∨ hi < x.toInt
      · exact lv_tableOut hx hb hd ho h1 (gt _ _ (g2 (by omega)))
      · have hj : (x.toInt - lo).toNat < ts'.length := by omega
        obtain ⟨t, ht⟩ : ∃ t, ts'[(x.toInt - lo).toNat]? = some t := ⟨_, List.getElem?_eq_getElem hj⟩
        obtain ⟨f, hf⟩ : ∃ f, offs.toList[(x.toInt - lo).toNat]? = some f := ⟨_, List.getElem?_eq_getElem (by rw [h2]; exact hj)⟩
        have hz : (f, t) ∈ offs.toList.zip ts' := List.mem_of_getElem? (i := (x.toInt - lo).toNat) (by rw [List.getElem?_zip_eq_some]; exact ⟨hf, ht⟩)
        have h5 := of_decide_eq_true (List.all_eq_true.mp h4 (f, t) hz)
        exact lv_tableIn hx hb hd (by omega) (by omega) (off := f) (by rw [← Array.getElem?_toList]; exact hf) h5 (gt _ _ (g1 _ _ ht (by omega)))
    · exact h.elim
  · rename_i df ps
    split at h
    · rename_i d ts' x st'
      rw [Bool.and_eq_true, Bool.and_eq_true, Bool.and_eq_true] at hc
      obtain ⟨⟨⟨h1, h2⟩, h3⟩, h4⟩ := hc
      have h1 := of_decide_eq_true h1
      have h2 := of_decide_eq_true h2
      obtain ⟨t, g1, g2⟩ := ab_lsw_sp (bp := ab_bp cd) h1 ps.toList ts' h2 h4 h
      exact lv_lookup hx hb hd h3 rfl g2 (gt _ _ g1)
    · exact h.elim
  · simp only [Bool.and_eq_true, decide_eq_true_eq] at hc
    subst hc
    split at h
    · exact W.iret hx hb hr (fun t ht hW => ⟨⟨_, _, rfl, h, by rw [ht]; exact hP, va_K.moved hW.alike hK, hD⟩, hS.F ht⟩) hS.2.2 hd hlocks
    · exact W.zret hx hb hr (by rcases h.1 with h0 | h0 <;> subst h0 <;> rfl) (fun t ht hW => ⟨⟨_, _, rfl, h.2, by rw [ht]; exact hP, va_K.moved hW.alike hK, hD⟩, hS.F ht⟩) hS.2.2 hd hlocks
    · exact h.elim
  · simp only [Bool.and_eq_true, decide_eq_true_eq] at hc
    subst hc
    split at h
    · exact W.lret hx hb hr (fun t ht hW => ⟨⟨_, _, rfl, h, by rw [ht]; exact hP, va_K.moved hW.alike hK, hD⟩, hS.F ht⟩) hS.2.2 hd hlocks
    · exact h.elim
  · simp only [Bool.and_eq_true, decide_eq_true_eq] at hc
    subst hc
    split at h
    · exact W.vret hx hb hr (fun t ht hW => ⟨⟨_, rfl, h, by rw [ht]; exact hP, va_K.moved hW.alike hK, hD⟩, hS.F ht⟩) hS.2.2 hd hlocks
    · exact h.elim
  · exact h.elim
end AbT
end
