/-! the tables' words (the skeleton's PART A), names, fields (printed of the program) -/
-- ===== PART A: goes FIRST, ahead of the names: the tables' words, and 'selects' of the private methods out of them =====
/-- a private method of a class that the tables say can be made, by its rows of tables_1 -/
def lw_okq (q : MethodName × Nat) : Prop := (q.1.cls ≠ "java/lang/invoke/MethodHandle" ∧ q.1.cls ≠ "java/lang/invoke/VarHandle") ∧ Cond.instantiable q.1.cls q.2 ∈ tables_1 ∧ Cond.privateMethod q.1 ∈ tables_1 ∧ Cond.instanceMethod q.1 ∈ tables_1
theorem lw_p0 : lw_okq (⟨"RootedCuts$Trees", "measure", "()V"⟩, 8) := ⟨⟨by decide +kernel, by decide +kernel⟩, List.mem_of_getElem? (i := 26) (by decide +kernel), List.mem_of_getElem? (i := 34) (by decide +kernel), List.mem_of_getElem? (i := 35) (by decide +kernel)⟩
theorem lw_p1 : lw_okq (⟨"RootedCuts$Trees", "findDensities", "()V"⟩, 8) := ⟨⟨by decide +kernel, by decide +kernel⟩, List.mem_of_getElem? (i := 26) (by decide +kernel), List.mem_of_getElem? (i := 45) (by decide +kernel), List.mem_of_getElem? (i := 46) (by decide +kernel)⟩
theorem lw_p2 : lw_okq (⟨"RootedCuts$Trees", "graftAtTheHead", "()V"⟩, 8) := ⟨⟨by decide +kernel, by decide +kernel⟩, List.mem_of_getElem? (i := 26) (by decide +kernel), List.mem_of_getElem? (i := 55) (by decide +kernel), List.mem_of_getElem? (i := 56) (by decide +kernel)⟩
theorem lw_p3 : lw_okq (⟨"RootedCuts$Trees", "graftFurtherOn", "()V"⟩, 8) := ⟨⟨by decide +kernel, by decide +kernel⟩, List.mem_of_getElem? (i := 26) (by decide +kernel), List.mem_of_getElem? (i := 62) (by decide +kernel), List.mem_of_getElem? (i := 63) (by decide +kernel)⟩
theorem lw_p4 : lw_okq (⟨"RootedCuts$Cuts", "countPlaces", "()I"⟩, 5) := ⟨⟨by decide +kernel, by decide +kernel⟩, List.mem_of_getElem? (i := 108) (by decide +kernel), List.mem_of_getElem? (i := 114) (by decide +kernel), List.mem_of_getElem? (i := 115) (by decide +kernel)⟩
theorem lw_p5 : lw_okq (⟨"RootedCuts$Cuts", "cutTree", "(ILRootedCuts$Trees;)V"⟩, 5) := ⟨⟨by decide +kernel, by decide +kernel⟩, List.mem_of_getElem? (i := 108) (by decide +kernel), List.mem_of_getElem? (i := 120) (by decide +kernel), List.mem_of_getElem? (i := 121) (by decide +kernel)⟩
theorem lw_p6 : lw_okq (⟨"RootedCuts$Cuts", "prune", "(II)V"⟩, 5) := ⟨⟨by decide +kernel, by decide +kernel⟩, List.mem_of_getElem? (i := 108) (by decide +kernel), List.mem_of_getElem? (i := 124) (by decide +kernel), List.mem_of_getElem? (i := 125) (by decide +kernel)⟩
theorem lw_p7 : lw_okq (⟨"RootedCuts$Cuts", "pruneLikewise", "(II)V"⟩, 5) := ⟨⟨by decide +kernel, by decide +kernel⟩, List.mem_of_getElem? (i := 108) (by decide +kernel), List.mem_of_getElem? (i := 128) (by decide +kernel), List.mem_of_getElem? (i := 129) (by decide +kernel)⟩
theorem lw_p8 : lw_okq (⟨"RootedCuts$TreeReader", "takes", "(I)Z"⟩, 5) := ⟨⟨by decide +kernel, by decide +kernel⟩, List.mem_of_getElem? (i := 183) (by decide +kernel), List.mem_of_getElem? (i := 393) (by decide +kernel), List.mem_of_getElem? (i := 394) (by decide +kernel)⟩
theorem lw_p9 : lw_okq (⟨"RootedCuts$TreeReader", "isWhole", "()Z"⟩, 5) := ⟨⟨by decide +kernel, by decide +kernel⟩, List.mem_of_getElem? (i := 183) (by decide +kernel), List.mem_of_getElem? (i := 397) (by decide +kernel), List.mem_of_getElem? (i := 398) (by decide +kernel)⟩
theorem lw_p10 : lw_okq (⟨"RootedCuts$Tokens", "takeFigures", "()V"⟩, 5) := ⟨⟨by decide +kernel, by decide +kernel⟩, List.mem_of_getElem? (i := 230) (by decide +kernel), List.mem_of_getElem? (i := 427) (by decide +kernel), List.mem_of_getElem? (i := 428) (by decide +kernel)⟩
theorem lw_p11 : lw_okq (⟨"RootedCuts$MethodReader", "takesItem", "()Z"⟩, 5) := ⟨⟨by decide +kernel, by decide +kernel⟩, List.mem_of_getElem? (i := 205) (by decide +kernel), List.mem_of_getElem? (i := 437) (by decide +kernel), List.mem_of_getElem? (i := 438) (by decide +kernel)⟩
theorem lw_p12 : lw_okq (⟨"RootedCuts$MethodReader", "takesStages", "()Z"⟩, 5) := ⟨⟨by decide +kernel, by decide +kernel⟩, List.mem_of_getElem? (i := 205) (by decide +kernel), List.mem_of_getElem? (i := 441) (by decide +kernel), List.mem_of_getElem? (i := 442) (by decide +kernel)⟩
theorem lw_p13 : lw_okq (⟨"RootedCuts$MethodReader", "isSize", "(II)Z"⟩, 5) := ⟨⟨by decide +kernel, by decide +kernel⟩, List.mem_of_getElem? (i := 205) (by decide +kernel), List.mem_of_getElem? (i := 446) (by decide +kernel), List.mem_of_getElem? (i := 447) (by decide +kernel)⟩
theorem lw_p14 : lw_okq (⟨"RootedCuts$MethodReader", "takesEnd", "()Z"⟩, 5) := ⟨⟨by decide +kernel, by decide +kernel⟩, List.mem_of_getElem? (i := 205) (by decide +kernel), List.mem_of_getElem? (i := 450) (by decide +kernel), List.mem_of_getElem? (i := 451) (by decide +kernel)⟩
theorem lw_p15 : lw_okq (⟨"RootedCuts$MethodReader", "takesRow", "()Z"⟩, 5) := ⟨⟨by decide +kernel, by decide +kernel⟩, List.mem_of_getElem? (i := 205) (by decide +kernel), List.mem_of_getElem? (i := 454) (by decide +kernel), List.mem_of_getElem? (i := 455) (by decide +kernel)⟩
def lw_privs_1 : List (MethodName × Nat) := [(⟨"RootedCuts$Trees", "measure", "()V"⟩, 8), (⟨"RootedCuts$Trees", "findDensities", "()V"⟩, 8), (⟨"RootedCuts$Trees", "graftAtTheHead", "()V"⟩, 8), (⟨"RootedCuts$Trees", "graftFurtherOn", "()V"⟩, 8), (⟨"RootedCuts$Cuts", "countPlaces", "()I"⟩, 5), (⟨"RootedCuts$Cuts", "cutTree", "(ILRootedCuts$Trees;)V"⟩, 5), (⟨"RootedCuts$Cuts", "prune", "(II)V"⟩, 5), (⟨"RootedCuts$Cuts", "pruneLikewise", "(II)V"⟩, 5), (⟨"RootedCuts$TreeReader", "takes", "(I)Z"⟩, 5), (⟨"RootedCuts$TreeReader", "isWhole", "()Z"⟩, 5), (⟨"RootedCuts$Tokens", "takeFigures", "()V"⟩, 5), (⟨"RootedCuts$MethodReader", "takesItem", "()Z"⟩, 5), (⟨"RootedCuts$MethodReader", "takesStages", "()Z"⟩, 5), (⟨"RootedCuts$MethodReader", "isSize", "(II)Z"⟩, 5), (⟨"RootedCuts$MethodReader", "takesEnd", "()Z"⟩, 5), (⟨"RootedCuts$MethodReader", "takesRow", "()Z"⟩, 5)]
theorem lw_r1 : ∀ q ∈ lw_privs_1, lw_okq q := List.forall_mem_cons.mpr ⟨lw_p0, List.forall_mem_cons.mpr ⟨lw_p1, List.forall_mem_cons.mpr ⟨lw_p2, List.forall_mem_cons.mpr ⟨lw_p3, List.forall_mem_cons.mpr ⟨lw_p4, List.forall_mem_cons.mpr ⟨lw_p5, List.forall_mem_cons.mpr ⟨lw_p6, List.forall_mem_cons.mpr ⟨lw_p7, List.forall_mem_cons.mpr ⟨lw_p8, List.forall_mem_cons.mpr ⟨lw_p9, List.forall_mem_cons.mpr ⟨lw_p10, List.forall_mem_cons.mpr ⟨lw_p11, List.forall_mem_cons.mpr ⟨lw_p12, List.forall_mem_cons.mpr ⟨lw_p13, List.forall_mem_cons.mpr ⟨lw_p14, List.forall_mem_cons.mpr ⟨lw_p15, fun _ h => absurd h List.not_mem_nil⟩⟩⟩⟩⟩⟩⟩⟩⟩⟩⟩⟩⟩⟩⟩⟩
theorem lw_p16 : lw_okq (⟨"RootedCuts$MethodReader", "takesColumn", "()Z"⟩, 5) := ⟨⟨by decide +kernel, by decide +kernel⟩, List.mem_of_getElem? (i := 205) (by decide +kernel), List.mem_of_getElem? (i := 458) (by decide +kernel), List.mem_of_getElem? (i := 459) (by decide +kernel)⟩
theorem lw_p17 : lw_okq (⟨"RootedCuts$MethodReader", "takesNumber", "()Z"⟩, 5) := ⟨⟨by decide +kernel, by decide +kernel⟩, List.mem_of_getElem? (i := 205) (by decide +kernel), List.mem_of_getElem? (i := 462) (by decide +kernel), List.mem_of_getElem? (i := 463) (by decide +kernel)⟩
theorem lw_p18 : lw_okq (⟨"RootedCuts$Weights", "giveAsChild", "(LRootedCuts$StepMethod;I)V"⟩, 2) := ⟨⟨by decide +kernel, by decide +kernel⟩, List.mem_of_getElem? (i := 152) (by decide +kernel), List.mem_of_getElem? (i := 516) (by decide +kernel), List.mem_of_getElem? (i := 517) (by decide +kernel)⟩
theorem lw_p19 : lw_okq (⟨"RootedCuts", "storeMade", "(I)I"⟩, 12) := ⟨⟨by decide +kernel, by decide +kernel⟩, List.mem_of_getElem? (i := 18) (by decide +kernel), List.mem_of_getElem? (i := 520) (by decide +kernel), List.mem_of_getElem? (i := 521) (by decide +kernel)⟩
theorem lw_p20 : lw_okq (⟨"RootedCuts$Cuts", "together", "([J[JII)J"⟩, 5) := ⟨⟨by decide +kernel, by decide +kernel⟩, List.mem_of_getElem? (i := 108) (by decide +kernel), List.mem_of_getElem? (i := 546) (by decide +kernel), List.mem_of_getElem? (i := 547) (by decide +kernel)⟩
theorem lw_p21 : lw_okq (⟨"RootedCuts$Cuts", "ofForest", "([JI)J"⟩, 5) := ⟨⟨by decide +kernel, by decide +kernel⟩, List.mem_of_getElem? (i := 108) (by decide +kernel), List.mem_of_getElem? (i := 550) (by decide +kernel), List.mem_of_getElem? (i := 551) (by decide +kernel)⟩
theorem lw_p22 : lw_okq (⟨"RootedCutsModel", "addTree", "(IIIII)V"⟩, 36) := ⟨⟨by decide +kernel, by decide +kernel⟩, List.mem_of_getElem? (i := 684) (by decide +kernel), List.mem_of_getElem? (i := 690) (by decide +kernel), List.mem_of_getElem? (i := 691) (by decide +kernel)⟩
theorem lw_p23 : lw_okq (⟨"RootedCutsModel", "addCuts", "(I)V"⟩, 36) := ⟨⟨by decide +kernel, by decide +kernel⟩, List.mem_of_getElem? (i := 684) (by decide +kernel), List.mem_of_getElem? (i := 694) (by decide +kernel), List.mem_of_getElem? (i := 695) (by decide +kernel)⟩
theorem lw_p24 : lw_okq (⟨"RootedCutsModel", "cutsOf", "(I)I"⟩, 36) := ⟨⟨by decide +kernel, by decide +kernel⟩, List.mem_of_getElem? (i := 684) (by decide +kernel), List.mem_of_getElem? (i := 698) (by decide +kernel), List.mem_of_getElem? (i := 699) (by decide +kernel)⟩
theorem lw_p25 : lw_okq (⟨"RootedCutsModel", "addCut", "(II)V"⟩, 36) := ⟨⟨by decide +kernel, by decide +kernel⟩, List.mem_of_getElem? (i := 684) (by decide +kernel), List.mem_of_getElem? (i := 702) (by decide +kernel), List.mem_of_getElem? (i := 703) (by decide +kernel)⟩
theorem lw_p26 : lw_okq (⟨"RootedCutsModel", "putInRow", "(I)V"⟩, 36) := ⟨⟨by decide +kernel, by decide +kernel⟩, List.mem_of_getElem? (i := 684) (by decide +kernel), List.mem_of_getElem? (i := 706) (by decide +kernel), List.mem_of_getElem? (i := 707) (by decide +kernel)⟩
theorem lw_p27 : lw_okq (⟨"RootedCutsModel", "treeOfRow", "()I"⟩, 36) := ⟨⟨by decide +kernel, by decide +kernel⟩, List.mem_of_getElem? (i := 684) (by decide +kernel), List.mem_of_getElem? (i := 710) (by decide +kernel), List.mem_of_getElem? (i := 711) (by decide +kernel)⟩
theorem lw_p28 : lw_okq (⟨"RootedCutsModel", "graft", "(II)I"⟩, 36) := ⟨⟨by decide +kernel, by decide +kernel⟩, List.mem_of_getElem? (i := 684) (by decide +kernel), List.mem_of_getElem? (i := 849) (by decide +kernel), List.mem_of_getElem? (i := 850) (by decide +kernel)⟩
theorem lw_p29 : lw_okq (⟨"RootedCutsModel", "readMethod", "()I"⟩, 36) := ⟨⟨by decide +kernel, by decide +kernel⟩, List.mem_of_getElem? (i := 684) (by decide +kernel), List.mem_of_getElem? (i := 874) (by decide +kernel), List.mem_of_getElem? (i := 875) (by decide +kernel)⟩
theorem lw_p30 : lw_okq (⟨"RootedCutsModel", "scan", "()V"⟩, 36) := ⟨⟨by decide +kernel, by decide +kernel⟩, List.mem_of_getElem? (i := 684) (by decide +kernel), List.mem_of_getElem? (i := 878) (by decide +kernel), List.mem_of_getElem? (i := 879) (by decide +kernel)⟩
theorem lw_p31 : lw_okq (⟨"RootedCutsModel", "readItem", "()Z"⟩, 36) := ⟨⟨by decide +kernel, by decide +kernel⟩, List.mem_of_getElem? (i := 684) (by decide +kernel), List.mem_of_getElem? (i := 884) (by decide +kernel), List.mem_of_getElem? (i := 885) (by decide +kernel)⟩
def lw_privs_2 : List (MethodName × Nat) := [(⟨"RootedCuts$MethodReader", "takesColumn", "()Z"⟩, 5), (⟨"RootedCuts$MethodReader", "takesNumber", "()Z"⟩, 5), (⟨"RootedCuts$Weights", "giveAsChild", "(LRootedCuts$StepMethod;I)V"⟩, 2), (⟨"RootedCuts", "storeMade", "(I)I"⟩, 12), (⟨"RootedCuts$Cuts", "together", "([J[JII)J"⟩, 5), (⟨"RootedCuts$Cuts", "ofForest", "([JI)J"⟩, 5), (⟨"RootedCutsModel", "addTree", "(IIIII)V"⟩, 36), (⟨"RootedCutsModel", "addCuts", "(I)V"⟩, 36), (⟨"RootedCutsModel", "cutsOf", "(I)I"⟩, 36), (⟨"RootedCutsModel", "addCut", "(II)V"⟩, 36), (⟨"RootedCutsModel", "putInRow", "(I)V"⟩, 36), (⟨"RootedCutsModel", "treeOfRow", "()I"⟩, 36), (⟨"RootedCutsModel", "graft", "(II)I"⟩, 36), (⟨"RootedCutsModel", "readMethod", "()I"⟩, 36), (⟨"RootedCutsModel", "scan", "()V"⟩, 36), (⟨"RootedCutsModel", "readItem", "()Z"⟩, 36)]
theorem lw_r2 : ∀ q ∈ lw_privs_2, lw_okq q := List.forall_mem_cons.mpr ⟨lw_p16, List.forall_mem_cons.mpr ⟨lw_p17, List.forall_mem_cons.mpr ⟨lw_p18, List.forall_mem_cons.mpr ⟨lw_p19, List.forall_mem_cons.mpr ⟨lw_p20, List.forall_mem_cons.mpr ⟨lw_p21, List.forall_mem_cons.mpr ⟨lw_p22, List.forall_mem_cons.mpr ⟨lw_p23, List.forall_mem_cons.mpr ⟨lw_p24, List.forall_mem_cons.mpr ⟨lw_p25, List.forall_mem_cons.mpr ⟨lw_p26, List.forall_mem_cons.mpr ⟨lw_p27, List.forall_mem_cons.mpr ⟨lw_p28, List.forall_mem_cons.mpr ⟨lw_p29, List.forall_mem_cons.mpr ⟨lw_p30, List.forall_mem_cons.mpr ⟨lw_p31, fun _ h => absurd h List.not_mem_nil⟩⟩⟩⟩⟩⟩⟩⟩⟩⟩⟩⟩⟩⟩⟩⟩
theorem lw_p32 : lw_okq (⟨"RootedCutsModel", "scanNumber", "(II)Z"⟩, 36) := ⟨⟨by decide +kernel, by decide +kernel⟩, List.mem_of_getElem? (i := 684) (by decide +kernel), List.mem_of_getElem? (i := 888) (by decide +kernel), List.mem_of_getElem? (i := 889) (by decide +kernel)⟩
theorem lw_p33 : lw_okq (⟨"RootedCutsModel", "note", "()V"⟩, 36) := ⟨⟨by decide +kernel, by decide +kernel⟩, List.mem_of_getElem? (i := 684) (by decide +kernel), List.mem_of_getElem? (i := 892) (by decide +kernel), List.mem_of_getElem? (i := 893) (by decide +kernel)⟩
theorem lw_p34 : lw_okq (⟨"RootedCutsModel", "placeOf", "(II)I"⟩, 36) := ⟨⟨by decide +kernel, by decide +kernel⟩, List.mem_of_getElem? (i := 684) (by decide +kernel), List.mem_of_getElem? (i := 904) (by decide +kernel), List.mem_of_getElem? (i := 905) (by decide +kernel)⟩
theorem lw_p35 : lw_okq (⟨"RootedCutsModel", "makeWeight", "()V"⟩, 36) := ⟨⟨by decide +kernel, by decide +kernel⟩, List.mem_of_getElem? (i := 684) (by decide +kernel), List.mem_of_getElem? (i := 923) (by decide +kernel), List.mem_of_getElem? (i := 924) (by decide +kernel)⟩
theorem lw_p36 : lw_okq (⟨"RootedCutsModel", "putMade", "(I)I"⟩, 36) := ⟨⟨by decide +kernel, by decide +kernel⟩, List.mem_of_getElem? (i := 684) (by decide +kernel), List.mem_of_getElem? (i := 927) (by decide +kernel), List.mem_of_getElem? (i := 928) (by decide +kernel)⟩
theorem lw_p37 : lw_okq (⟨"RootedCutsModel", "orderOf", "(I)I"⟩, 36) := ⟨⟨by decide +kernel, by decide +kernel⟩, List.mem_of_getElem? (i := 684) (by decide +kernel), List.mem_of_getElem? (i := 931) (by decide +kernel), List.mem_of_getElem? (i := 932) (by decide +kernel)⟩
theorem lw_p38 : lw_okq (⟨"RootedCutsModel", "flowOf", "(I)J"⟩, 36) := ⟨⟨by decide +kernel, by decide +kernel⟩, List.mem_of_getElem? (i := 684) (by decide +kernel), List.mem_of_getElem? (i := 935) (by decide +kernel), List.mem_of_getElem? (i := 936) (by decide +kernel)⟩
theorem lw_p39 : lw_okq (⟨"RootedCutsModel", "makeProduct", "(II)V"⟩, 36) := ⟨⟨by decide +kernel, by decide +kernel⟩, List.mem_of_getElem? (i := 684) (by decide +kernel), List.mem_of_getElem? (i := 951) (by decide +kernel), List.mem_of_getElem? (i := 952) (by decide +kernel)⟩
theorem lw_p40 : lw_okq (⟨"RootedCutsModel", "forestOf", "(II)J"⟩, 36) := ⟨⟨by decide +kernel, by decide +kernel⟩, List.mem_of_getElem? (i := 684) (by decide +kernel), List.mem_of_getElem? (i := 955) (by decide +kernel), List.mem_of_getElem? (i := 956) (by decide +kernel)⟩
theorem lw_p41 : lw_okq (⟨"RootedCutsModel", "makeInverse", "(I)V"⟩, 36) := ⟨⟨by decide +kernel, by decide +kernel⟩, List.mem_of_getElem? (i := 684) (by decide +kernel), List.mem_of_getElem? (i := 963) (by decide +kernel), List.mem_of_getElem? (i := 964) (by decide +kernel)⟩
theorem lw_p42 : lw_okq (⟨"RootedCutsModel", "makeLike", "(I)V"⟩, 36) := ⟨⟨by decide +kernel, by decide +kernel⟩, List.mem_of_getElem? (i := 684) (by decide +kernel), List.mem_of_getElem? (i := 973) (by decide +kernel), List.mem_of_getElem? (i := 974) (by decide +kernel)⟩
theorem lw_p43 : lw_okq (⟨"RootedCutsModel", "makeLonger", "(J)V"⟩, 36) := ⟨⟨by decide +kernel, by decide +kernel⟩, List.mem_of_getElem? (i := 684) (by decide +kernel), List.mem_of_getElem? (i := 977) (by decide +kernel), List.mem_of_getElem? (i := 978) (by decide +kernel)⟩
theorem lw_p44 : lw_okq (⟨"RootedCutsModel", "firstFail", "(I)I"⟩, 36) := ⟨⟨by decide +kernel, by decide +kernel⟩, List.mem_of_getElem? (i := 684) (by decide +kernel), List.mem_of_getElem? (i := 999) (by decide +kernel), List.mem_of_getElem? (i := 1000) (by decide +kernel)⟩
theorem lw_p45 : lw_okq (⟨"RootedCutsModel", "firstBreak", "(I)I"⟩, 36) := ⟨⟨by decide +kernel, by decide +kernel⟩, List.mem_of_getElem? (i := 684) (by decide +kernel), List.mem_of_getElem? (i := 1003) (by decide +kernel), List.mem_of_getElem? (i := 1004) (by decide +kernel)⟩
def lw_privs_3 : List (MethodName × Nat) := [(⟨"RootedCutsModel", "scanNumber", "(II)Z"⟩, 36), (⟨"RootedCutsModel", "note", "()V"⟩, 36), (⟨"RootedCutsModel", "placeOf", "(II)I"⟩, 36), (⟨"RootedCutsModel", "makeWeight", "()V"⟩, 36), (⟨"RootedCutsModel", "putMade", "(I)I"⟩, 36), (⟨"RootedCutsModel", "orderOf", "(I)I"⟩, 36), (⟨"RootedCutsModel", "flowOf", "(I)J"⟩, 36), (⟨"RootedCutsModel", "makeProduct", "(II)V"⟩, 36), (⟨"RootedCutsModel", "forestOf", "(II)J"⟩, 36), (⟨"RootedCutsModel", "makeInverse", "(I)V"⟩, 36), (⟨"RootedCutsModel", "makeLike", "(I)V"⟩, 36), (⟨"RootedCutsModel", "makeLonger", "(J)V"⟩, 36), (⟨"RootedCutsModel", "firstFail", "(I)I"⟩, 36), (⟨"RootedCutsModel", "firstBreak", "(I)I"⟩, 36)]
theorem lw_r3 : ∀ q ∈ lw_privs_3, lw_okq q := List.forall_mem_cons.mpr ⟨lw_p32, List.forall_mem_cons.mpr ⟨lw_p33, List.forall_mem_cons.mpr ⟨lw_p34, List.forall_mem_cons.mpr ⟨lw_p35, List.forall_mem_cons.mpr ⟨lw_p36, List.forall_mem_cons.mpr ⟨lw_p37, List.forall_mem_cons.mpr ⟨lw_p38, List.forall_mem_cons.mpr ⟨lw_p39, List.forall_mem_cons.mpr ⟨lw_p40, List.forall_mem_cons.mpr ⟨lw_p41, List.forall_mem_cons.mpr ⟨lw_p42, List.forall_mem_cons.mpr ⟨lw_p43, List.forall_mem_cons.mpr ⟨lw_p44, List.forall_mem_cons.mpr ⟨lw_p45, fun _ h => absurd h List.not_mem_nil⟩⟩⟩⟩⟩⟩⟩⟩⟩⟩⟩⟩⟩⟩
def lw_privs : List (MethodName × Nat) := lw_privs_1 ++ (lw_privs_2 ++ (lw_privs_3))
def lw_tbl : List Cond := k2_sels lw_privs ++ tables_1
theorem lw_privs_ok : ∀ q ∈ lw_privs, lw_okq q := by
  show ∀ q ∈ lw_privs_1 ++ (lw_privs_2 ++ (lw_privs_3)), lw_okq q
  exact List.forall_mem_append.mpr ⟨lw_r1, List.forall_mem_append.mpr ⟨lw_r2, lw_r3⟩⟩
def RX0 : String := "RootedCuts$Cuts"
def TX0 : u_T := fun k => match k with
  | 0 => ("RootedCuts$Cuts", "start", "[I", true)
  | 1 => ("RootedCuts$Cuts", "many", "[I", true)
  | 2 => ("RootedCuts$Cuts", "left", "[I", true)
  | 3 => ("RootedCuts$Cuts", "pruned", "[I", true)
  | _ => ("RootedCuts$Cuts", "forest", "[I", true)
def tyX0 : Nat → FieldType := fun k => match k with
  | 0 => .array .int
  | 1 => .array .int
  | 2 => .array .int
  | 3 => .array .int
  | _ => .array .int
abbrev wsX00 : List Cond := u_ws RX0 TX0 5
theorem nmX0 : ∀ a, a < 5 → ∀ b, b < 5 → a ≠ b → (TX0 a).2.1 ≠ (TX0 b).2.1 := by decide +kernel
theorem tyX0_ok : ∀ k, k < 5 → parseFieldDescriptor (TX0 k).2.2.1 = some (tyX0 k) := by decide +kernel
abbrev cX0_init : ByteArray := prog_2_method_1_code
def yX0_init : MethodName := ⟨RX0, "<init>", "(LRootedCuts$Trees;)V"⟩
abbrev cX0_countPlaces : ByteArray := prog_2_method_2_code
def yX0_countPlaces : MethodName := ⟨RX0, "countPlaces", "()I"⟩
abbrev cX0_cutTree : ByteArray := prog_2_method_3_code
def yX0_cutTree : MethodName := ⟨RX0, "cutTree", "(ILRootedCuts$Trees;)V"⟩
abbrev cX0_prune : ByteArray := prog_2_method_4_code
def yX0_prune : MethodName := ⟨RX0, "prune", "(II)V"⟩
abbrev cX0_pruneLikewise : ByteArray := prog_2_method_5_code
def yX0_pruneLikewise : MethodName := ⟨RX0, "pruneLikewise", "(II)V"⟩
abbrev cX0_prunedAt : ByteArray := prog_2_method_6_code
def yX0_prunedAt : MethodName := ⟨RX0, "prunedAt", "(II)I"⟩
abbrev cX0_howManyLeave : ByteArray := prog_2_method_7_code
def yX0_howManyLeave : MethodName := ⟨RX0, "howManyLeave", "(II)I"⟩
abbrev cX0_ofForest : ByteArray := prog_2_method_8_code
def yX0_ofForest : MethodName := ⟨RX0, "ofForest", "([JI)J"⟩
abbrev cX0_together : ByteArray := prog_2_method_9_code
def yX0_together : MethodName := ⟨RX0, "together", "([J[JII)J"⟩
abbrev cX0_multiply : ByteArray := prog_2_method_10_code
def yX0_multiply : MethodName := ⟨RX0, "multiply", "([J[J[J)V"⟩
abbrev cX0_invert : ByteArray := prog_2_method_11_code
def yX0_invert : MethodName := ⟨RX0, "invert", "([J[J)V"⟩
def RX1 : String := "RootedCuts$MethodReader"
def TX1 : u_T := fun k => match k with
  | 0 => ("RootedCuts$MethodReader", "told", "LRootedCuts$StepMethod;", true)
  | 1 => ("RootedCuts$MethodReader", "tokens", "LRootedCuts$Tokens;", true)
  | 2 => ("RootedCuts$MethodReader", "items", "I", false)
  | 3 => ("RootedCuts$MethodReader", "row", "I", false)
  | _ => ("RootedCuts$MethodReader", "column", "I", false)
def tyX1 : Nat → FieldType := fun k => match k with
  | 0 => .object "RootedCuts$StepMethod"
  | 1 => .object "RootedCuts$Tokens"
  | 2 => .int
  | 3 => .int
  | _ => .int
abbrev wsX10 : List Cond := u_ws RX1 TX1 5
theorem nmX1 : ∀ a, a < 5 → ∀ b, b < 5 → a ≠ b → (TX1 a).2.1 ≠ (TX1 b).2.1 := by decide +kernel
theorem tyX1_ok : ∀ k, k < 5 → parseFieldDescriptor (TX1 k).2.2.1 = some (tyX1 k) := by decide +kernel
abbrev cX1_init : ByteArray := prog_3_method_1_code
def yX1_init : MethodName := ⟨RX1, "<init>", "(LRootedCuts$Text;)V"⟩
abbrev cX1_read : ByteArray := prog_3_method_2_code
def yX1_read : MethodName := ⟨RX1, "read", "()I"⟩
abbrev cX1_takesItem : ByteArray := prog_3_method_3_code
def yX1_takesItem : MethodName := ⟨RX1, "takesItem", "()Z"⟩
abbrev cX1_takesStages : ByteArray := prog_3_method_4_code
def yX1_takesStages : MethodName := ⟨RX1, "takesStages", "()Z"⟩
abbrev cX1_takesRow : ByteArray := prog_3_method_5_code
def yX1_takesRow : MethodName := ⟨RX1, "takesRow", "()Z"⟩
abbrev cX1_takesColumn : ByteArray := prog_3_method_6_code
def yX1_takesColumn : MethodName := ⟨RX1, "takesColumn", "()Z"⟩
abbrev cX1_takesNumber : ByteArray := prog_3_method_7_code
def yX1_takesNumber : MethodName := ⟨RX1, "takesNumber", "()Z"⟩
abbrev cX1_takesEnd : ByteArray := prog_3_method_8_code
def yX1_takesEnd : MethodName := ⟨RX1, "takesEnd", "()Z"⟩
abbrev cX1_isSize : ByteArray := prog_3_method_9_code
def yX1_isSize : MethodName := ⟨RX1, "isSize", "(II)Z"⟩
def RX2 : String := "RootedCuts$Past"
def TX2 : u_T := fun k => match k with
  | 0 => ("RootedCuts$Past", "known", "[LRootedCuts$State;", true)
  | 1 => ("RootedCuts$Past", "next", "I", false)
  | _ => ("RootedCuts$Past", "size", "I", false)
def tyX2 : Nat → FieldType := fun k => match k with
  | 0 => .array (.object "RootedCuts$State")
  | 1 => .int
  | _ => .int
abbrev wsX20 : List Cond := u_ws RX2 TX2 3
theorem nmX2 : ∀ a, a < 3 → ∀ b, b < 3 → a ≠ b → (TX2 a).2.1 ≠ (TX2 b).2.1 := by decide +kernel
theorem tyX2_ok : ∀ k, k < 3 → parseFieldDescriptor (TX2 k).2.2.1 = some (tyX2 k) := by decide +kernel
abbrev cX2_init : ByteArray := prog_4_method_1_code
def yX2_init : MethodName := ⟨RX2, "<init>", "()V"⟩
abbrev cX2_remember : ByteArray := prog_4_method_2_code
def yX2_remember : MethodName := ⟨RX2, "remember", "(LRootedCuts$State;)V"⟩
abbrev cX2_recall : ByteArray := prog_4_method_3_code
def yX2_recall : MethodName := ⟨RX2, "recall", "(LRootedCuts$State;)Z"⟩
abbrev cX2_empty : ByteArray := prog_4_method_4_code
def yX2_empty : MethodName := ⟨RX2, "empty", "()V"⟩
def RX3 : String := "RootedCuts$Sights"
def TX3 : u_T := fun k => match k with
  | 0 => ("RootedCuts$Sights", "seenTrees", "[I", true)
  | 1 => ("RootedCuts$Sights", "seenNumbers", "[J", true)
  | _ => ("RootedCuts$Sights", "size", "I", false)
def tyX3 : Nat → FieldType := fun k => match k with
  | 0 => .array .int
  | 1 => .array .long
  | _ => .int
abbrev wsX30 : List Cond := u_ws RX3 TX3 3
theorem nmX3 : ∀ a, a < 3 → ∀ b, b < 3 → a ≠ b → (TX3 a).2.1 ≠ (TX3 b).2.1 := by decide +kernel
theorem tyX3_ok : ∀ k, k < 3 → parseFieldDescriptor (TX3 k).2.2.1 = some (tyX3 k) := by decide +kernel
abbrev cX3_init : ByteArray := prog_5_method_1_code
def yX3_init : MethodName := ⟨RX3, "<init>", "()V"⟩
abbrev cX3_add : ByteArray := prog_5_method_2_code
def yX3_add : MethodName := ⟨RX3, "add", "(IJ)Z"⟩
abbrev cX3_empty : ByteArray := prog_5_method_3_code
def yX3_empty : MethodName := ⟨RX3, "empty", "()I"⟩
abbrev cX3_fit : ByteArray := prog_5_method_4_code
def yX3_fit : MethodName := ⟨RX3, "fit", "([J)Z"⟩
def RX4 : String := "RootedCuts$State"
def TX4 : u_T := fun k => match k with
  | 0 => ("RootedCuts$State", "method", "LRootedCuts$StepMethod;", true)
  | _ => ("RootedCuts$State", "registers", "[[J", true)
def tyX4 : Nat → FieldType := fun k => match k with
  | 0 => .object "RootedCuts$StepMethod"
  | _ => .array (.array .long)
abbrev wsX40 : List Cond := u_ws RX4 TX4 2
theorem nmX4 : ∀ a, a < 2 → ∀ b, b < 2 → a ≠ b → (TX4 a).2.1 ≠ (TX4 b).2.1 := by decide +kernel
theorem tyX4_ok : ∀ k, k < 2 → parseFieldDescriptor (TX4 k).2.2.1 = some (tyX4 k) := by decide +kernel
abbrev cX4_init : ByteArray := prog_6_method_1_code
def yX4_init : MethodName := ⟨RX4, "<init>", "()V"⟩
abbrev cX4_become : ByteArray := prog_6_method_2_code
def yX4_become : MethodName := ⟨RX4, "become", "(LRootedCuts$State;)V"⟩
def RX5 : String := "RootedCuts$StepMethod"
def TX5 : u_T := fun k => match k with
  | 0 => ("RootedCuts$StepMethod", "stages", "I", false)
  | 1 => ("RootedCuts$StepMethod", "a", "[I", true)
  | _ => ("RootedCuts$StepMethod", "b", "[I", true)
def tyX5 : Nat → FieldType := fun k => match k with
  | 0 => .int
  | 1 => .array .int
  | _ => .array .int
abbrev wsX50 : List Cond := u_ws RX5 TX5 3
theorem nmX5 : ∀ a, a < 3 → ∀ b, b < 3 → a ≠ b → (TX5 a).2.1 ≠ (TX5 b).2.1 := by decide +kernel
theorem tyX5_ok : ∀ k, k < 3 → parseFieldDescriptor (TX5 k).2.2.1 = some (tyX5 k) := by decide +kernel
abbrev cX5_init : ByteArray := prog_7_method_1_code
def yX5_init : MethodName := ⟨RX5, "<init>", "()V"⟩
abbrev cX5_reset : ByteArray := prog_7_method_2_code
def yX5_reset : MethodName := ⟨RX5, "reset", "()V"⟩
abbrev cX5_become : ByteArray := prog_7_method_3_code
def yX5_become : MethodName := ⟨RX5, "become", "(LRootedCuts$StepMethod;)V"⟩
abbrev cX5_has : ByteArray := prog_7_method_4_code
def yX5_has : MethodName := ⟨RX5, "has", "(II)Z"⟩
abbrev cX5_get : ByteArray := prog_7_method_5_code
def yX5_get : MethodName := ⟨RX5, "get", "(II)I"⟩
abbrev cX5_set : ByteArray := prog_7_method_6_code
def yX5_set : MethodName := ⟨RX5, "set", "(III)V"⟩
def RX6 : String := "RootedCuts$Text"
def TX6 : u_T := fun k => match k with
  | 0 => ("RootedCuts$Text", "letters", "[I", true)
  | _ => ("RootedCuts$Text", "length", "I", false)
def tyX6 : Nat → FieldType := fun k => match k with
  | 0 => .array .int
  | _ => .int
abbrev wsX60 : List Cond := u_ws RX6 TX6 2
theorem nmX6 : ∀ a, a < 2 → ∀ b, b < 2 → a ≠ b → (TX6 a).2.1 ≠ (TX6 b).2.1 := by decide +kernel
theorem tyX6_ok : ∀ k, k < 2 → parseFieldDescriptor (TX6 k).2.2.1 = some (tyX6 k) := by decide +kernel
abbrev cX6_init : ByteArray := prog_8_method_1_code
def yX6_init : MethodName := ⟨RX6, "<init>", "()V"⟩
abbrev cX6_append : ByteArray := prog_8_method_2_code
def yX6_append : MethodName := ⟨RX6, "append", "(I)Z"⟩
abbrev cX6_empty : ByteArray := prog_8_method_3_code
def yX6_empty : MethodName := ⟨RX6, "empty", "()I"⟩
abbrev cX6_letterAt : ByteArray := prog_8_method_4_code
def yX6_letterAt : MethodName := ⟨RX6, "letterAt", "(I)I"⟩
def RX7 : String := "RootedCuts$Tokens"
def TX7 : u_T := fun k => match k with
  | 0 => ("RootedCuts$Tokens", "text", "LRootedCuts$Text;", true)
  | 1 => ("RootedCuts$Tokens", "next", "I", false)
  | 2 => ("RootedCuts$Tokens", "kind", "I", false)
  | 3 => ("RootedCuts$Tokens", "place", "I", false)
  | _ => ("RootedCuts$Tokens", "size", "I", false)
def tyX7 : Nat → FieldType := fun k => match k with
  | 0 => .object "RootedCuts$Text"
  | 1 => .int
  | 2 => .int
  | 3 => .int
  | _ => .int
abbrev wsX70 : List Cond := u_ws RX7 TX7 5
theorem nmX7 : ∀ a, a < 5 → ∀ b, b < 5 → a ≠ b → (TX7 a).2.1 ≠ (TX7 b).2.1 := by decide +kernel
theorem tyX7_ok : ∀ k, k < 5 → parseFieldDescriptor (TX7 k).2.2.1 = some (tyX7 k) := by decide +kernel
abbrev cX7_init : ByteArray := prog_9_method_1_code
def yX7_init : MethodName := ⟨RX7, "<init>", "(LRootedCuts$Text;)V"⟩
abbrev cX7_restart : ByteArray := prog_9_method_2_code
def yX7_restart : MethodName := ⟨RX7, "restart", "()V"⟩
abbrev cX7_advance : ByteArray := prog_9_method_3_code
def yX7_advance : MethodName := ⟨RX7, "advance", "()V"⟩
abbrev cX7_takeFigures : ByteArray := prog_9_method_4_code
def yX7_takeFigures : MethodName := ⟨RX7, "takeFigures", "()V"⟩
abbrev cX7_isFigure : ByteArray := prog_9_method_5_code
def yX7_isFigure : MethodName := ⟨RX7, "isFigure", "(I)Z"⟩
abbrev cX7_kindOf : ByteArray := prog_9_method_6_code
def yX7_kindOf : MethodName := ⟨RX7, "kindOf", "(I)I"⟩
def RX8 : String := "RootedCuts$TreeReader"
def TX8 : u_T := fun k => match k with
  | 0 => ("RootedCuts$TreeReader", "trees", "LRootedCuts$Trees;", true)
  | 1 => ("RootedCuts$TreeReader", "text", "LRootedCuts$Text;", true)
  | 2 => ("RootedCuts$TreeReader", "open", "[I", true)
  | 3 => ("RootedCuts$TreeReader", "depth", "I", false)
  | _ => ("RootedCuts$TreeReader", "nodes", "I", false)
def tyX8 : Nat → FieldType := fun k => match k with
  | 0 => .object "RootedCuts$Trees"
  | 1 => .object "RootedCuts$Text"
  | 2 => .array .int
  | 3 => .int
  | _ => .int
abbrev wsX80 : List Cond := u_ws RX8 TX8 5
theorem nmX8 : ∀ a, a < 5 → ∀ b, b < 5 → a ≠ b → (TX8 a).2.1 ≠ (TX8 b).2.1 := by decide +kernel
theorem tyX8_ok : ∀ k, k < 5 → parseFieldDescriptor (TX8 k).2.2.1 = some (tyX8 k) := by decide +kernel
abbrev cX8_init : ByteArray := prog_10_method_1_code
def yX8_init : MethodName := ⟨RX8, "<init>", "(LRootedCuts$Trees;LRootedCuts$Text;)V"⟩
abbrev cX8_read : ByteArray := prog_10_method_2_code
def yX8_read : MethodName := ⟨RX8, "read", "()I"⟩
abbrev cX8_isWhole : ByteArray := prog_10_method_3_code
def yX8_isWhole : MethodName := ⟨RX8, "isWhole", "()Z"⟩
abbrev cX8_takes : ByteArray := prog_10_method_4_code
def yX8_takes : MethodName := ⟨RX8, "takes", "(I)Z"⟩
def RX9 : String := "RootedCuts$Trees"
def TX9 : u_T := fun k => match k with
  | 0 => ("RootedCuts$Trees", "nodes", "[I", true)
  | 1 => ("RootedCuts$Trees", "width", "[I", true)
  | 2 => ("RootedCuts$Trees", "density", "[I", true)
  | 3 => ("RootedCuts$Trees", "symmetry", "[I", true)
  | 4 => ("RootedCuts$Trees", "height", "[I", true)
  | 5 => ("RootedCuts$Trees", "ways", "[I", true)
  | 6 => ("RootedCuts$Trees", "flow", "[J", true)
  | _ => ("RootedCuts$Trees", "graft", "[[I", true)
def tyX9 : Nat → FieldType := fun k => match k with
  | 0 => .array .int
  | 1 => .array .int
  | 2 => .array .int
  | 3 => .array .int
  | 4 => .array .int
  | 5 => .array .int
  | 6 => .array .long
  | _ => .array (.array .int)
abbrev wsX90 : List Cond := u_ws RX9 TX9 8
theorem nmX9 : ∀ a, a < 8 → ∀ b, b < 8 → a ≠ b → (TX9 a).2.1 ≠ (TX9 b).2.1 := by decide +kernel
theorem tyX9_ok : ∀ k, k < 8 → parseFieldDescriptor (TX9 k).2.2.1 = some (tyX9 k) := by decide +kernel
abbrev cX9_init : ByteArray := prog_11_method_1_code
def yX9_init : MethodName := ⟨RX9, "<init>", "()V"⟩
abbrev cX9_measure : ByteArray := prog_11_method_2_code
def yX9_measure : MethodName := ⟨RX9, "measure", "()V"⟩
abbrev cX9_findDensities : ByteArray := prog_11_method_3_code
def yX9_findDensities : MethodName := ⟨RX9, "findDensities", "()V"⟩
abbrev cX9_graftAtTheHead : ByteArray := prog_11_method_4_code
def yX9_graftAtTheHead : MethodName := ⟨RX9, "graftAtTheHead", "()V"⟩
abbrev cX9_graftFurtherOn : ByteArray := prog_11_method_5_code
def yX9_graftFurtherOn : MethodName := ⟨RX9, "graftFurtherOn", "()V"⟩
abbrev cX9_graftOrNone : ByteArray := prog_11_method_6_code
def yX9_graftOrNone : MethodName := ⟨RX9, "graftOrNone", "(II)I"⟩
abbrev cX9_childAt : ByteArray := prog_11_method_7_code
def yX9_childAt : MethodName := ⟨RX9, "childAt", "(II)I"⟩
abbrev cX9_stretch : ByteArray := prog_11_method_8_code
def yX9_stretch : MethodName := ⟨RX9, "stretch", "([JI[J)V"⟩
abbrev cX9_firstUnlike : ByteArray := prog_11_method_9_code
def yX9_firstUnlike : MethodName := ⟨RX9, "firstUnlike", "([J[J)I"⟩
abbrev cX9_likeness : ByteArray := prog_11_method_10_code
def yX9_likeness : MethodName := ⟨RX9, "likeness", "([J[J)I"⟩
abbrev cX9_firstBreak : ByteArray := prog_11_method_11_code
def yX9_firstBreak : MethodName := ⟨RX9, "firstBreak", "([J)I"⟩
abbrev cX9_power : ByteArray := prog_11_method_12_code
def yX9_power : MethodName := ⟨RX9, "power", "(JI)J"⟩
def RX10 : String := "RootedCuts$Weights"
def TX10 : u_T := fun k => match k with
  | 0 => ("RootedCuts$Weights", "ofStage", "[[J", true)
  | _ => ("RootedCuts$Weights", "asChild", "[[J", true)
def tyX10 : Nat → FieldType := fun k => match k with
  | 0 => .array (.array .long)
  | _ => .array (.array .long)
abbrev wsX100 : List Cond := u_ws RX10 TX10 2
theorem nmX10 : ∀ a, a < 2 → ∀ b, b < 2 → a ≠ b → (TX10 a).2.1 ≠ (TX10 b).2.1 := by decide +kernel
theorem tyX10_ok : ∀ k, k < 2 → parseFieldDescriptor (TX10 k).2.2.1 = some (tyX10 k) := by decide +kernel
abbrev cX10_init : ByteArray := prog_12_method_1_code
def yX10_init : MethodName := ⟨RX10, "<init>", "()V"⟩
abbrev cX10_weigh : ByteArray := prog_12_method_2_code
def yX10_weigh : MethodName := ⟨RX10, "weigh", "(LRootedCuts$StepMethod;[J)V"⟩
abbrev cX10_giveAsChild : ByteArray := prog_12_method_3_code
def yX10_giveAsChild : MethodName := ⟨RX10, "giveAsChild", "(LRootedCuts$StepMethod;I)V"⟩
def RX11 : String := "RootedCuts"
def TX11 : u_T := fun k => match k with
  | 0 => ("RootedCuts", "trees", "LRootedCuts$Trees;", true)
  | 1 => ("RootedCuts", "cuts", "LRootedCuts$Cuts;", true)
  | 2 => ("RootedCuts", "weights", "LRootedCuts$Weights;", true)
  | 3 => ("RootedCuts", "text", "LRootedCuts$Text;", true)
  | 4 => ("RootedCuts", "treeReader", "LRootedCuts$TreeReader;", true)
  | 5 => ("RootedCuts", "methodReader", "LRootedCuts$MethodReader;", true)
  | 6 => ("RootedCuts", "now", "LRootedCuts$State;", true)
  | 7 => ("RootedCuts", "past", "LRootedCuts$Past;", true)
  | 8 => ("RootedCuts", "images", "[LRootedCuts$State;", true)
  | 9 => ("RootedCuts", "kept", "[Z", true)
  | 10 => ("RootedCuts", "sights", "LRootedCuts$Sights;", true)
  | _ => ("RootedCuts", "made", "[J", true)
def tyX11 : Nat → FieldType := fun k => match k with
  | 0 => .object "RootedCuts$Trees"
  | 1 => .object "RootedCuts$Cuts"
  | 2 => .object "RootedCuts$Weights"
  | 3 => .object "RootedCuts$Text"
  | 4 => .object "RootedCuts$TreeReader"
  | 5 => .object "RootedCuts$MethodReader"
  | 6 => .object "RootedCuts$State"
  | 7 => .object "RootedCuts$Past"
  | 8 => .array (.object "RootedCuts$State")
  | 9 => .array .boolean
  | 10 => .object "RootedCuts$Sights"
  | _ => .array .long
abbrev wsX110 : List Cond := u_ws RX11 TX11 12
theorem nmX11 : ∀ a, a < 12 → ∀ b, b < 12 → a ≠ b → (TX11 a).2.1 ≠ (TX11 b).2.1 := by decide +kernel
theorem tyX11_ok : ∀ k, k < 12 → parseFieldDescriptor (TX11 k).2.2.1 = some (tyX11 k) := by decide +kernel
abbrev cX11_init : ByteArray := prog_1_method_1_code
def yX11_init : MethodName := ⟨RX11, "<init>", "()V"⟩
abbrev cX11_type : ByteArray := prog_1_method_2_code
def yX11_type : MethodName := ⟨RX11, "type", "(I)I"⟩
abbrev cX11_clear : ByteArray := prog_1_method_3_code
def yX11_clear : MethodName := ⟨RX11, "clear", "()I"⟩
abbrev cX11_tree : ByteArray := prog_1_method_4_code
def yX11_tree : MethodName := ⟨RX11, "tree", "()I"⟩
abbrev cX11_method : ByteArray := prog_1_method_5_code
def yX11_method : MethodName := ⟨RX11, "method", "()I"⟩
abbrev cX11_tells : ByteArray := prog_1_method_6_code
def yX11_tells : MethodName := ⟨RX11, "tells", "(III)I"⟩
abbrev cX11_loads : ByteArray := prog_1_method_7_code
def yX11_loads : MethodName := ⟨RX11, "loads", "(I)I"⟩
abbrev cX11_flows : ByteArray := prog_1_method_8_code
def yX11_flows : MethodName := ⟨RX11, "flows", "(I)I"⟩
abbrev cX11_composes : ByteArray := prog_1_method_9_code
def yX11_composes : MethodName := ⟨RX11, "composes", "(III)I"⟩
abbrev cX11_inverts : ByteArray := prog_1_method_10_code
def yX11_inverts : MethodName := ⟨RX11, "inverts", "(II)I"⟩
abbrev cX11_stretches : ByteArray := prog_1_method_11_code
def yX11_stretches : MethodName := ⟨RX11, "stretches", "(III)I"⟩
abbrev cX11_reverses : ByteArray := prog_1_method_12_code
def yX11_reverses : MethodName := ⟨RX11, "reverses", "(II)I"⟩
abbrev cX11_puts : ByteArray := prog_1_method_13_code
def yX11_puts : MethodName := ⟨RX11, "puts", "(III)I"⟩
abbrev cX11_undo : ByteArray := prog_1_method_14_code
def yX11_undo : MethodName := ⟨RX11, "undo", "()I"⟩
abbrev cX11_value : ByteArray := prog_1_method_15_code
def yX11_value : MethodName := ⟨RX11, "value", "(II)J"⟩
abbrev cX11_number : ByteArray := prog_1_method_16_code
def yX11_number : MethodName := ⟨RX11, "number", "(II)I"⟩
abbrev cX11_about : ByteArray := prog_1_method_17_code
def yX11_about : MethodName := ⟨RX11, "about", "(II)I"⟩
abbrev cX11_child : ByteArray := prog_1_method_18_code
def yX11_child : MethodName := ⟨RX11, "child", "(II)I"⟩
abbrev cX11_cut : ByteArray := prog_1_method_19_code
def yX11_cut : MethodName := ⟨RX11, "cut", "(III)I"⟩
abbrev cX11_grafted : ByteArray := prog_1_method_20_code
def yX11_grafted : MethodName := ⟨RX11, "grafted", "(II)I"⟩
abbrev cX11_leaves : ByteArray := prog_1_method_21_code
def yX11_leaves : MethodName := ⟨RX11, "leaves", "(II)I"⟩
abbrev cX11_order : ByteArray := prog_1_method_22_code
def yX11_order : MethodName := ⟨RX11, "order", "(II)I"⟩
abbrev cX11_like : ByteArray := prog_1_method_23_code
def yX11_like : MethodName := ⟨RX11, "like", "(II)I"⟩
abbrev cX11_sees : ByteArray := prog_1_method_24_code
def yX11_sees : MethodName := ⟨RX11, "sees", "(IJ)I"⟩
abbrev cX11_forget : ByteArray := prog_1_method_25_code
def yX11_forget : MethodName := ⟨RX11, "forget", "()I"⟩
abbrev cX11_which : ByteArray := prog_1_method_26_code
def yX11_which : MethodName := ⟨RX11, "which", "()I"⟩
abbrev cX11_keep : ByteArray := prog_1_method_27_code
def yX11_keep : MethodName := ⟨RX11, "keep", "(I)I"⟩
abbrev cX11_back : ByteArray := prog_1_method_28_code
def yX11_back : MethodName := ⟨RX11, "back", "(I)I"⟩
abbrev cX11_count : ByteArray := prog_1_method_29_code
def yX11_count : MethodName := ⟨RX11, "count", "(I)I"⟩
abbrev cX11_isTree : ByteArray := prog_1_method_30_code
def yX11_isTree : MethodName := ⟨RX11, "isTree", "(I)Z"⟩
abbrev cX11_isRegister : ByteArray := prog_1_method_31_code
def yX11_isRegister : MethodName := ⟨RX11, "isRegister", "(I)Z"⟩
abbrev cX11_isImage : ByteArray := prog_1_method_32_code
def yX11_isImage : MethodName := ⟨RX11, "isImage", "(I)Z"⟩
abbrev cX11_storeMade : ByteArray := prog_1_method_33_code
def yX11_storeMade : MethodName := ⟨RX11, "storeMade", "(I)I"⟩
def RX12 : String := "RootedCutsModel"
def TX12 : u_T := fun k => match k with
  | 0 => ("RootedCutsModel", "childAt", "[I", true)
  | 1 => ("RootedCutsModel", "childMany", "[I", true)
  | 2 => ("RootedCutsModel", "nodes", "[I", true)
  | 3 => ("RootedCutsModel", "density", "[I", true)
  | 4 => ("RootedCutsModel", "symmetry", "[I", true)
  | 5 => ("RootedCutsModel", "height", "[I", true)
  | 6 => ("RootedCutsModel", "trees", "I", false)
  | 7 => ("RootedCutsModel", "cutFrom", "[I", true)
  | 8 => ("RootedCutsModel", "cutLeft", "[I", true)
  | 9 => ("RootedCutsModel", "forestAt", "[I", true)
  | 10 => ("RootedCutsModel", "forestMany", "[I", true)
  | 11 => ("RootedCutsModel", "text", "[I", true)
  | 12 => ("RootedCutsModel", "letters", "I", false)
  | 13 => ("RootedCutsModel", "told", "[I", true)
  | 14 => ("RootedCutsModel", "held", "[J", true)
  | 15 => ("RootedCutsModel", "pastTold", "[I", true)
  | 16 => ("RootedCutsModel", "pastHeld", "[J", true)
  | 17 => ("RootedCutsModel", "deeds", "I", false)
  | 18 => ("RootedCutsModel", "imageTold", "[I", true)
  | 19 => ("RootedCutsModel", "imageHeld", "[J", true)
  | 20 => ("RootedCutsModel", "isKept", "[Z", true)
  | 21 => ("RootedCutsModel", "seenTree", "[I", true)
  | 22 => ("RootedCutsModel", "seenValue", "[J", true)
  | 23 => ("RootedCutsModel", "seen", "I", false)
  | 24 => ("RootedCutsModel", "row", "[I", true)
  | 25 => ("RootedCutsModel", "rowMany", "I", false)
  | 26 => ("RootedCutsModel", "open", "[I", true)
  | 27 => ("RootedCutsModel", "openMany", "[I", true)
  | 28 => ("RootedCutsModel", "at", "I", false)
  | 29 => ("RootedCutsModel", "tokenAt", "I", false)
  | 30 => ("RootedCutsModel", "tokenSort", "I", false)
  | 31 => ("RootedCutsModel", "tokenValue", "I", false)
  | 32 => ("RootedCutsModel", "read", "[I", true)
  | 33 => ("RootedCutsModel", "items", "I", false)
  | 34 => ("RootedCutsModel", "made", "[J", true)
  | _ => ("RootedCutsModel", "stageWeight", "[J", true)
def tyX12 : Nat → FieldType := fun k => match k with
  | 0 => .array .int
  | 1 => .array .int
  | 2 => .array .int
  | 3 => .array .int
  | 4 => .array .int
  | 5 => .array .int
  | 6 => .int
  | 7 => .array .int
  | 8 => .array .int
  | 9 => .array .int
  | 10 => .array .int
  | 11 => .array .int
  | 12 => .int
  | 13 => .array .int
  | 14 => .array .long
  | 15 => .array .int
  | 16 => .array .long
  | 17 => .int
  | 18 => .array .int
  | 19 => .array .long
  | 20 => .array .boolean
  | 21 => .array .int
  | 22 => .array .long
  | 23 => .int
  | 24 => .array .int
  | 25 => .int
  | 26 => .array .int
  | 27 => .array .int
  | 28 => .int
  | 29 => .int
  | 30 => .int
  | 31 => .int
  | 32 => .array .int
  | 33 => .int
  | 34 => .array .long
  | _ => .array .long
abbrev wsX120 : List Cond := u_ws RX12 TX12 36
theorem nmX12 : ∀ a, a < 36 → ∀ b, b < 36 → a ≠ b → (TX12 a).2.1 ≠ (TX12 b).2.1 := by decide +kernel
theorem tyX12_ok : ∀ k, k < 36 → parseFieldDescriptor (TX12 k).2.2.1 = some (tyX12 k) := by decide +kernel
abbrev cX12_init : ByteArray := prog_14_method_1_code
def yX12_init : MethodName := ⟨RX12, "<init>", "()V"⟩
abbrev cX12_in : ByteArray := prog_14_method_2_code
def yX12_in : MethodName := ⟨RX12, "in", "(JJJ)Z"⟩
abbrev cX12_isTree : ByteArray := prog_14_method_3_code
def yX12_isTree : MethodName := ⟨RX12, "isTree", "(I)Z"⟩
abbrev cX12_isRegister : ByteArray := prog_14_method_4_code
def yX12_isRegister : MethodName := ⟨RX12, "isRegister", "(I)Z"⟩
abbrev cX12_addTree : ByteArray := prog_14_method_5_code
def yX12_addTree : MethodName := ⟨RX12, "addTree", "(IIIII)V"⟩
abbrev cX12_putInRow : ByteArray := prog_14_method_6_code
def yX12_putInRow : MethodName := ⟨RX12, "putInRow", "(I)V"⟩
abbrev cX12_treeOfRow : ByteArray := prog_14_method_7_code
def yX12_treeOfRow : MethodName := ⟨RX12, "treeOfRow", "()I"⟩
abbrev cX12_cutsOf : ByteArray := prog_14_method_8_code
def yX12_cutsOf : MethodName := ⟨RX12, "cutsOf", "(I)I"⟩
abbrev cX12_addCut : ByteArray := prog_14_method_9_code
def yX12_addCut : MethodName := ⟨RX12, "addCut", "(II)V"⟩
abbrev cX12_addCuts : ByteArray := prog_14_method_10_code
def yX12_addCuts : MethodName := ⟨RX12, "addCuts", "(I)V"⟩
abbrev cX12_graft : ByteArray := prog_14_method_11_code
def yX12_graft : MethodName := ⟨RX12, "graft", "(II)I"⟩
abbrev cX12_factorial : ByteArray := prog_14_method_12_code
def yX12_factorial : MethodName := ⟨RX12, "factorial", "(I)I"⟩
abbrev cX12_about : ByteArray := prog_14_method_13_code
def yX12_about : MethodName := ⟨RX12, "about", "(II)I"⟩
abbrev cX12_child : ByteArray := prog_14_method_14_code
def yX12_child : MethodName := ⟨RX12, "child", "(II)I"⟩
abbrev cX12_cut : ByteArray := prog_14_method_15_code
def yX12_cut : MethodName := ⟨RX12, "cut", "(III)I"⟩
abbrev cX12_grafted : ByteArray := prog_14_method_16_code
def yX12_grafted : MethodName := ⟨RX12, "grafted", "(II)I"⟩
abbrev cX12_leaves : ByteArray := prog_14_method_17_code
def yX12_leaves : MethodName := ⟨RX12, "leaves", "(II)I"⟩
abbrev cX12_type : ByteArray := prog_14_method_18_code
def yX12_type : MethodName := ⟨RX12, "type", "(I)I"⟩
abbrev cX12_clear : ByteArray := prog_14_method_19_code
def yX12_clear : MethodName := ⟨RX12, "clear", "()I"⟩
abbrev cX12_tree : ByteArray := prog_14_method_20_code
def yX12_tree : MethodName := ⟨RX12, "tree", "()I"⟩
abbrev cX12_scan : ByteArray := prog_14_method_21_code
def yX12_scan : MethodName := ⟨RX12, "scan", "()V"⟩
abbrev cX12_scanNumber : ByteArray := prog_14_method_22_code
def yX12_scanNumber : MethodName := ⟨RX12, "scanNumber", "(II)Z"⟩
abbrev cX12_readItem : ByteArray := prog_14_method_23_code
def yX12_readItem : MethodName := ⟨RX12, "readItem", "()Z"⟩
abbrev cX12_readMethod : ByteArray := prog_14_method_24_code
def yX12_readMethod : MethodName := ⟨RX12, "readMethod", "()I"⟩
abbrev cX12_method : ByteArray := prog_14_method_25_code
def yX12_method : MethodName := ⟨RX12, "method", "()I"⟩
abbrev cX12_note : ByteArray := prog_14_method_26_code
def yX12_note : MethodName := ⟨RX12, "note", "()V"⟩
abbrev cX12_undo : ByteArray := prog_14_method_27_code
def yX12_undo : MethodName := ⟨RX12, "undo", "()I"⟩
abbrev cX12_placeOf : ByteArray := prog_14_method_28_code
def yX12_placeOf : MethodName := ⟨RX12, "placeOf", "(II)I"⟩
abbrev cX12_tells : ByteArray := prog_14_method_29_code
def yX12_tells : MethodName := ⟨RX12, "tells", "(III)I"⟩
abbrev cX12_number : ByteArray := prog_14_method_30_code
def yX12_number : MethodName := ⟨RX12, "number", "(II)I"⟩
abbrev cX12_power : ByteArray := prog_14_method_31_code
def yX12_power : MethodName := ⟨RX12, "power", "(JI)J"⟩
abbrev cX12_flowOf : ByteArray := prog_14_method_32_code
def yX12_flowOf : MethodName := ⟨RX12, "flowOf", "(I)J"⟩
abbrev cX12_makeWeight : ByteArray := prog_14_method_33_code
def yX12_makeWeight : MethodName := ⟨RX12, "makeWeight", "()V"⟩
abbrev cX12_forestOf : ByteArray := prog_14_method_34_code
def yX12_forestOf : MethodName := ⟨RX12, "forestOf", "(II)J"⟩
abbrev cX12_makeProduct : ByteArray := prog_14_method_35_code
def yX12_makeProduct : MethodName := ⟨RX12, "makeProduct", "(II)V"⟩
abbrev cX12_makeInverse : ByteArray := prog_14_method_36_code
def yX12_makeInverse : MethodName := ⟨RX12, "makeInverse", "(I)V"⟩
abbrev cX12_makeLonger : ByteArray := prog_14_method_37_code
def yX12_makeLonger : MethodName := ⟨RX12, "makeLonger", "(J)V"⟩
abbrev cX12_makeLike : ByteArray := prog_14_method_38_code
def yX12_makeLike : MethodName := ⟨RX12, "makeLike", "(I)V"⟩
abbrev cX12_orderOf : ByteArray := prog_14_method_39_code
def yX12_orderOf : MethodName := ⟨RX12, "orderOf", "(I)I"⟩
abbrev cX12_putMade : ByteArray := prog_14_method_40_code
def yX12_putMade : MethodName := ⟨RX12, "putMade", "(I)I"⟩
abbrev cX12_loads : ByteArray := prog_14_method_41_code
def yX12_loads : MethodName := ⟨RX12, "loads", "(I)I"⟩
abbrev cX12_flows : ByteArray := prog_14_method_42_code
def yX12_flows : MethodName := ⟨RX12, "flows", "(I)I"⟩
abbrev cX12_composes : ByteArray := prog_14_method_43_code
def yX12_composes : MethodName := ⟨RX12, "composes", "(III)I"⟩
abbrev cX12_inverts : ByteArray := prog_14_method_44_code
def yX12_inverts : MethodName := ⟨RX12, "inverts", "(II)I"⟩
abbrev cX12_stretches : ByteArray := prog_14_method_45_code
def yX12_stretches : MethodName := ⟨RX12, "stretches", "(III)I"⟩
abbrev cX12_reverses : ByteArray := prog_14_method_46_code
def yX12_reverses : MethodName := ⟨RX12, "reverses", "(II)I"⟩
abbrev cX12_puts : ByteArray := prog_14_method_47_code
def yX12_puts : MethodName := ⟨RX12, "puts", "(III)I"⟩
abbrev cX12_value : ByteArray := prog_14_method_48_code
def yX12_value : MethodName := ⟨RX12, "value", "(II)J"⟩
abbrev cX12_firstFail : ByteArray := prog_14_method_49_code
def yX12_firstFail : MethodName := ⟨RX12, "firstFail", "(I)I"⟩
abbrev cX12_firstBreak : ByteArray := prog_14_method_50_code
def yX12_firstBreak : MethodName := ⟨RX12, "firstBreak", "(I)I"⟩
abbrev cX12_order : ByteArray := prog_14_method_51_code
def yX12_order : MethodName := ⟨RX12, "order", "(II)I"⟩
abbrev cX12_like : ByteArray := prog_14_method_52_code
def yX12_like : MethodName := ⟨RX12, "like", "(II)I"⟩
abbrev cX12_sees : ByteArray := prog_14_method_53_code
def yX12_sees : MethodName := ⟨RX12, "sees", "(IJ)I"⟩
abbrev cX12_forget : ByteArray := prog_14_method_54_code
def yX12_forget : MethodName := ⟨RX12, "forget", "()I"⟩
abbrev cX12_which : ByteArray := prog_14_method_55_code
def yX12_which : MethodName := ⟨RX12, "which", "()I"⟩
abbrev cX12_keep : ByteArray := prog_14_method_56_code
def yX12_keep : MethodName := ⟨RX12, "keep", "(I)I"⟩
abbrev cX12_back : ByteArray := prog_14_method_57_code
def yX12_back : MethodName := ⟨RX12, "back", "(I)I"⟩
abbrev cX12_count : ByteArray := prog_14_method_58_code
def yX12_count : MethodName := ⟨RX12, "count", "(I)I"⟩
def RJ9 : String := "java/lang/Math"
abbrev cJ9_max_7cf53 : ByteArray := prog_15_method_65_code
def yJ9_max_7cf53 : MethodName := ⟨RJ9, "max", "(II)I"⟩
abbrev cJ9_min_7cf53 : ByteArray := prog_15_method_69_code
def yJ9_min_7cf53 : MethodName := ⟨RJ9, "min", "(II)I"⟩
def RJ10 : String := "java/lang/System"
def RJ7 : String := "java/util/Arrays"
abbrev cJ7_fill_53178 : ByteArray := prog_17_method_103_code
def yJ7_fill_53178 : MethodName := ⟨RJ7, "fill", "([II)V"⟩
