section
-- ===== PART A: goes FIRST, ahead of the names: the tables' words, and 'selects' of the private methods out of them =====
/-- a private method of a class that the tables say can be made, by its rows of tables_1 -/
def lw_okq (q : MethodName × Nat) : Prop := (q.1.cls ≠ "java/lang/invoke/MethodHandle" ∧ q.1.cls ≠ "java/lang/invoke/VarHandle") ∧ Cond.instantiable q.1.cls q.2 ∈ tables_1 ∧ Cond.privateMethod q.1 ∈ tables_1 ∧ Cond.instanceMethod q.1 ∈ tables_1
theorem lw_p0 : lw_okq (⟨"DanceFigures$Plan", "growthByCalls", "(LDanceFigures$Figures;I)I"⟩, 6) := ⟨⟨by decide +kernel, by decide +kernel⟩, List.mem_of_getElem? (i := 135) (by decide +kernel), List.mem_of_getElem? (i := 237) (by decide +kernel), List.mem_of_getElem? (i := 238) (by decide +kernel)⟩
theorem lw_p1 : lw_okq (⟨"DanceFigures$Plan", "include", "(II)V"⟩, 6) := ⟨⟨by decide +kernel, by decide +kernel⟩, List.mem_of_getElem? (i := 135) (by decide +kernel), List.mem_of_getElem? (i := 300) (by decide +kernel), List.mem_of_getElem? (i := 301) (by decide +kernel)⟩
theorem lw_p2 : lw_okq (⟨"DanceFigures$Plan", "includeCall", "(II)V"⟩, 6) := ⟨⟨by decide +kernel, by decide +kernel⟩, List.mem_of_getElem? (i := 135) (by decide +kernel), List.mem_of_getElem? (i := 304) (by decide +kernel), List.mem_of_getElem? (i := 305) (by decide +kernel)⟩
theorem lw_p3 : lw_okq (⟨"DanceFigures$Plan", "putStep", "(II)V"⟩, 6) := ⟨⟨by decide +kernel, by decide +kernel⟩, List.mem_of_getElem? (i := 135) (by decide +kernel), List.mem_of_getElem? (i := 309) (by decide +kernel), List.mem_of_getElem? (i := 310) (by decide +kernel)⟩
theorem lw_p4 : lw_okq (⟨"DanceFigures$Ring", "remember", "()V"⟩, 4) := ⟨⟨by decide +kernel, by decide +kernel⟩, List.mem_of_getElem? (i := 28) (by decide +kernel), List.mem_of_getElem? (i := 323) (by decide +kernel), List.mem_of_getElem? (i := 324) (by decide +kernel)⟩
theorem lw_p5 : lw_okq (⟨"DanceFigures$Ring", "exchange", "(II)V"⟩, 4) := ⟨⟨by decide +kernel, by decide +kernel⟩, List.mem_of_getElem? (i := 28) (by decide +kernel), List.mem_of_getElem? (i := 341) (by decide +kernel), List.mem_of_getElem? (i := 342) (by decide +kernel)⟩
theorem lw_p6 : lw_okq (⟨"DanceFigures$Ring", "turn", "(II)V"⟩, 4) := ⟨⟨by decide +kernel, by decide +kernel⟩, List.mem_of_getElem? (i := 28) (by decide +kernel), List.mem_of_getElem? (i := 346) (by decide +kernel), List.mem_of_getElem? (i := 347) (by decide +kernel)⟩
theorem lw_p7 : lw_okq (⟨"DanceFigures$Ring", "shift", "(I)V"⟩, 4) := ⟨⟨by decide +kernel, by decide +kernel⟩, List.mem_of_getElem? (i := 28) (by decide +kernel), List.mem_of_getElem? (i := 350) (by decide +kernel), List.mem_of_getElem? (i := 351) (by decide +kernel)⟩
theorem lw_p8 : lw_okq (⟨"DanceFigures$Ring", "mirror", "(II)V"⟩, 4) := ⟨⟨by decide +kernel, by decide +kernel⟩, List.mem_of_getElem? (i := 28) (by decide +kernel), List.mem_of_getElem? (i := 354) (by decide +kernel), List.mem_of_getElem? (i := 355) (by decide +kernel)⟩
theorem lw_p9 : lw_okq (⟨"DanceFigures", "tryOut", "(IIZ)I"⟩, 9) := ⟨⟨by decide +kernel, by decide +kernel⟩, List.mem_of_getElem? (i := 14) (by decide +kernel), List.mem_of_getElem? (i := 406) (by decide +kernel), List.mem_of_getElem? (i := 407) (by decide +kernel)⟩
theorem lw_p10 : lw_okq (⟨"DanceFigures$Holds", "isKeptAt", "(LDanceFigures$Ring;I)Z"⟩, 2) := ⟨⟨by decide +kernel, by decide +kernel⟩, List.mem_of_getElem? (i := 52) (by decide +kernel), List.mem_of_getElem? (i := 426) (by decide +kernel), List.mem_of_getElem? (i := 427) (by decide +kernel)⟩
theorem lw_p11 : lw_okq (⟨"DanceFigures", "carryOut", "(II)I"⟩, 9) := ⟨⟨by decide +kernel, by decide +kernel⟩, List.mem_of_getElem? (i := 14) (by decide +kernel), List.mem_of_getElem? (i := 435) (by decide +kernel), List.mem_of_getElem? (i := 436) (by decide +kernel)⟩
theorem lw_p12 : lw_okq (⟨"DanceFigures", "carryOutScript", "()I"⟩, 9) := ⟨⟨by decide +kernel, by decide +kernel⟩, List.mem_of_getElem? (i := 14) (by decide +kernel), List.mem_of_getElem? (i := 494) (by decide +kernel), List.mem_of_getElem? (i := 495) (by decide +kernel)⟩
theorem lw_p13 : lw_okq (⟨"DanceFigures", "orderOf", "(LDanceFigures$Ring;)I"⟩, 9) := ⟨⟨by decide +kernel, by decide +kernel⟩, List.mem_of_getElem? (i := 14) (by decide +kernel), List.mem_of_getElem? (i := 547) (by decide +kernel), List.mem_of_getElem? (i := 548) (by decide +kernel)⟩
theorem lw_p14 : lw_okq (⟨"DanceFiguresModel", "atHome", "(Z)I"⟩, 22) := ⟨⟨by decide +kernel, by decide +kernel⟩, List.mem_of_getElem? (i := 648) (by decide +kernel), List.mem_of_getElem? (i := 730) (by decide +kernel), List.mem_of_getElem? (i := 731) (by decide +kernel)⟩
theorem lw_p15 : lw_okq (⟨"DanceFiguresModel", "record", "()V"⟩, 22) := ⟨⟨by decide +kernel, by decide +kernel⟩, List.mem_of_getElem? (i := 648) (by decide +kernel), List.mem_of_getElem? (i := 738) (by decide +kernel), List.mem_of_getElem? (i := 739) (by decide +kernel)⟩
def lw_privs_1 : List (MethodName × Nat) := [(⟨"DanceFigures$Plan", "growthByCalls", "(LDanceFigures$Figures;I)I"⟩, 6), (⟨"DanceFigures$Plan", "include", "(II)V"⟩, 6), (⟨"DanceFigures$Plan", "includeCall", "(II)V"⟩, 6), (⟨"DanceFigures$Plan", "putStep", "(II)V"⟩, 6), (⟨"DanceFigures$Ring", "remember", "()V"⟩, 4), (⟨"DanceFigures$Ring", "exchange", "(II)V"⟩, 4), (⟨"DanceFigures$Ring", "turn", "(II)V"⟩, 4), (⟨"DanceFigures$Ring", "shift", "(I)V"⟩, 4), (⟨"DanceFigures$Ring", "mirror", "(II)V"⟩, 4), (⟨"DanceFigures", "tryOut", "(IIZ)I"⟩, 9), (⟨"DanceFigures$Holds", "isKeptAt", "(LDanceFigures$Ring;I)Z"⟩, 2), (⟨"DanceFigures", "carryOut", "(II)I"⟩, 9), (⟨"DanceFigures", "carryOutScript", "()I"⟩, 9), (⟨"DanceFigures", "orderOf", "(LDanceFigures$Ring;)I"⟩, 9), (⟨"DanceFiguresModel", "atHome", "(Z)I"⟩, 22), (⟨"DanceFiguresModel", "record", "()V"⟩, 22)]
theorem lw_r1 : ∀ q ∈ lw_privs_1, lw_okq q := List.forall_mem_cons.mpr ⟨lw_p0, List.forall_mem_cons.mpr ⟨lw_p1, List.forall_mem_cons.mpr ⟨lw_p2, List.forall_mem_cons.mpr ⟨lw_p3, List.forall_mem_cons.mpr ⟨lw_p4, List.forall_mem_cons.mpr ⟨lw_p5, List.forall_mem_cons.mpr ⟨lw_p6, List.forall_mem_cons.mpr ⟨lw_p7, List.forall_mem_cons.mpr ⟨lw_p8, List.forall_mem_cons.mpr ⟨lw_p9, List.forall_mem_cons.mpr ⟨lw_p10, List.forall_mem_cons.mpr ⟨lw_p11, List.forall_mem_cons.mpr ⟨lw_p12, List.forall_mem_cons.mpr ⟨lw_p13, List.forall_mem_cons.mpr ⟨lw_p14, List.forall_mem_cons.mpr ⟨lw_p15, fun _ h => absurd h List.not_mem_nil⟩⟩⟩⟩⟩⟩⟩⟩⟩⟩⟩⟩⟩⟩⟩⟩
theorem lw_p16 : lw_okq (⟨"DanceFiguresModel", "moves", "(I)I"⟩, 22) := ⟨⟨by decide +kernel, by decide +kernel⟩, List.mem_of_getElem? (i := 648) (by decide +kernel), List.mem_of_getElem? (i := 755) (by decide +kernel), List.mem_of_getElem? (i := 756) (by decide +kernel)⟩
theorem lw_p17 : lw_okq (⟨"DanceFiguresModel", "stepsOf", "(I)I"⟩, 22) := ⟨⟨by decide +kernel, by decide +kernel⟩, List.mem_of_getElem? (i := 648) (by decide +kernel), List.mem_of_getElem? (i := 759) (by decide +kernel), List.mem_of_getElem? (i := 760) (by decide +kernel)⟩
theorem lw_p18 : lw_okq (⟨"DanceFiguresModel", "unroll", "()V"⟩, 22) := ⟨⟨by decide +kernel, by decide +kernel⟩, List.mem_of_getElem? (i := 648) (by decide +kernel), List.mem_of_getElem? (i := 763) (by decide +kernel), List.mem_of_getElem? (i := 764) (by decide +kernel)⟩
theorem lw_p19 : lw_okq (⟨"DanceFiguresModel", "ofMove", "(III)I"⟩, 22) := ⟨⟨by decide +kernel, by decide +kernel⟩, List.mem_of_getElem? (i := 648) (by decide +kernel), List.mem_of_getElem? (i := 767) (by decide +kernel), List.mem_of_getElem? (i := 768) (by decide +kernel)⟩
theorem lw_p20 : lw_okq (⟨"DanceFiguresModel", "addAll", "(II)V"⟩, 22) := ⟨⟨by decide +kernel, by decide +kernel⟩, List.mem_of_getElem? (i := 648) (by decide +kernel), List.mem_of_getElem? (i := 771) (by decide +kernel), List.mem_of_getElem? (i := 772) (by decide +kernel)⟩
theorem lw_p21 : lw_okq (⟨"DanceFiguresModel", "addStep", "(IIII)V"⟩, 22) := ⟨⟨by decide +kernel, by decide +kernel⟩, List.mem_of_getElem? (i := 648) (by decide +kernel), List.mem_of_getElem? (i := 775) (by decide +kernel), List.mem_of_getElem? (i := 776) (by decide +kernel)⟩
theorem lw_p22 : lw_okq (⟨"DanceFiguresModel", "isRoom", "(II)Z"⟩, 22) := ⟨⟨by decide +kernel, by decide +kernel⟩, List.mem_of_getElem? (i := 648) (by decide +kernel), List.mem_of_getElem? (i := 779) (by decide +kernel), List.mem_of_getElem? (i := 780) (by decide +kernel)⟩
theorem lw_p23 : lw_okq (⟨"DanceFiguresModel", "placeOf", "(I)I"⟩, 22) := ⟨⟨by decide +kernel, by decide +kernel⟩, List.mem_of_getElem? (i := 648) (by decide +kernel), List.mem_of_getElem? (i := 794) (by decide +kernel), List.mem_of_getElem? (i := 795) (by decide +kernel)⟩
theorem lw_p24 : lw_okq (⟨"DanceFiguresModel", "pairs", "()I"⟩, 22) := ⟨⟨by decide +kernel, by decide +kernel⟩, List.mem_of_getElem? (i := 648) (by decide +kernel), List.mem_of_getElem? (i := 804) (by decide +kernel), List.mem_of_getElem? (i := 805) (by decide +kernel)⟩
theorem lw_p25 : lw_okq (⟨"DanceFiguresModel", "go", "(IIZ)I"⟩, 22) := ⟨⟨by decide +kernel, by decide +kernel⟩, List.mem_of_getElem? (i := 648) (by decide +kernel), List.mem_of_getElem? (i := 816) (by decide +kernel), List.mem_of_getElem? (i := 817) (by decide +kernel)⟩
theorem lw_p26 : lw_okq (⟨"DanceFiguresModel", "layStep", "(IIZ)V"⟩, 22) := ⟨⟨by decide +kernel, by decide +kernel⟩, List.mem_of_getElem? (i := 648) (by decide +kernel), List.mem_of_getElem? (i := 820) (by decide +kernel), List.mem_of_getElem? (i := 821) (by decide +kernel)⟩
theorem lw_p27 : lw_okq (⟨"DanceFiguresModel", "lay", "(III)V"⟩, 22) := ⟨⟨by decide +kernel, by decide +kernel⟩, List.mem_of_getElem? (i := 648) (by decide +kernel), List.mem_of_getElem? (i := 824) (by decide +kernel), List.mem_of_getElem? (i := 825) (by decide +kernel)⟩
theorem lw_p28 : lw_okq (⟨"DanceFiguresModel", "isAllowed", "()Z"⟩, 22) := ⟨⟨by decide +kernel, by decide +kernel⟩, List.mem_of_getElem? (i := 648) (by decide +kernel), List.mem_of_getElem? (i := 828) (by decide +kernel), List.mem_of_getElem? (i := 829) (by decide +kernel)⟩
theorem lw_p29 : lw_okq (⟨"DanceFiguresModel", "make", "()V"⟩, 22) := ⟨⟨by decide +kernel, by decide +kernel⟩, List.mem_of_getElem? (i := 648) (by decide +kernel), List.mem_of_getElem? (i := 832) (by decide +kernel), List.mem_of_getElem? (i := 833) (by decide +kernel)⟩
theorem lw_p30 : lw_okq (⟨"DanceFiguresModel", "goBack", "()V"⟩, 22) := ⟨⟨by decide +kernel, by decide +kernel⟩, List.mem_of_getElem? (i := 648) (by decide +kernel), List.mem_of_getElem? (i := 836) (by decide +kernel), List.mem_of_getElem? (i := 837) (by decide +kernel)⟩
theorem lw_p31 : lw_okq (⟨"DanceFiguresModel", "danceNow", "(IIZ)I"⟩, 22) := ⟨⟨by decide +kernel, by decide +kernel⟩, List.mem_of_getElem? (i := 648) (by decide +kernel), List.mem_of_getElem? (i := 840) (by decide +kernel), List.mem_of_getElem? (i := 841) (by decide +kernel)⟩
def lw_privs_2 : List (MethodName × Nat) := [(⟨"DanceFiguresModel", "moves", "(I)I"⟩, 22), (⟨"DanceFiguresModel", "stepsOf", "(I)I"⟩, 22), (⟨"DanceFiguresModel", "unroll", "()V"⟩, 22), (⟨"DanceFiguresModel", "ofMove", "(III)I"⟩, 22), (⟨"DanceFiguresModel", "addAll", "(II)V"⟩, 22), (⟨"DanceFiguresModel", "addStep", "(IIII)V"⟩, 22), (⟨"DanceFiguresModel", "isRoom", "(II)Z"⟩, 22), (⟨"DanceFiguresModel", "placeOf", "(I)I"⟩, 22), (⟨"DanceFiguresModel", "pairs", "()I"⟩, 22), (⟨"DanceFiguresModel", "go", "(IIZ)I"⟩, 22), (⟨"DanceFiguresModel", "layStep", "(IIZ)V"⟩, 22), (⟨"DanceFiguresModel", "lay", "(III)V"⟩, 22), (⟨"DanceFiguresModel", "isAllowed", "()Z"⟩, 22), (⟨"DanceFiguresModel", "make", "()V"⟩, 22), (⟨"DanceFiguresModel", "goBack", "()V"⟩, 22), (⟨"DanceFiguresModel", "danceNow", "(IIZ)I"⟩, 22)]
theorem lw_r2 : ∀ q ∈ lw_privs_2, lw_okq q := List.forall_mem_cons.mpr ⟨lw_p16, List.forall_mem_cons.mpr ⟨lw_p17, List.forall_mem_cons.mpr ⟨lw_p18, List.forall_mem_cons.mpr ⟨lw_p19, List.forall_mem_cons.mpr ⟨lw_p20, List.forall_mem_cons.mpr ⟨lw_p21, List.forall_mem_cons.mpr ⟨lw_p22, List.forall_mem_cons.mpr ⟨lw_p23, List.forall_mem_cons.mpr ⟨lw_p24, List.forall_mem_cons.mpr ⟨lw_p25, List.forall_mem_cons.mpr ⟨lw_p26, List.forall_mem_cons.mpr ⟨lw_p27, List.forall_mem_cons.mpr ⟨lw_p28, List.forall_mem_cons.mpr ⟨lw_p29, List.forall_mem_cons.mpr ⟨lw_p30, List.forall_mem_cons.mpr ⟨lw_p31, fun _ h => absurd h List.not_mem_nil⟩⟩⟩⟩⟩⟩⟩⟩⟩⟩⟩⟩⟩⟩⟩⟩
theorem lw_p32 : lw_okq (⟨"DanceFiguresModel", "isScript", "()Z"⟩, 22) := ⟨⟨by decide +kernel, by decide +kernel⟩, List.mem_of_getElem? (i := 648) (by decide +kernel), List.mem_of_getElem? (i := 860) (by decide +kernel), List.mem_of_getElem? (i := 861) (by decide +kernel)⟩
theorem lw_p33 : lw_okq (⟨"DanceFiguresModel", "readCall", "()Z"⟩, 22) := ⟨⟨by decide +kernel, by decide +kernel⟩, List.mem_of_getElem? (i := 648) (by decide +kernel), List.mem_of_getElem? (i := 864) (by decide +kernel), List.mem_of_getElem? (i := 865) (by decide +kernel)⟩
theorem lw_p34 : lw_okq (⟨"DanceFiguresModel", "takes", "(II)Z"⟩, 22) := ⟨⟨by decide +kernel, by decide +kernel⟩, List.mem_of_getElem? (i := 648) (by decide +kernel), List.mem_of_getElem? (i := 868) (by decide +kernel), List.mem_of_getElem? (i := 869) (by decide +kernel)⟩
theorem lw_p35 : lw_okq (⟨"DanceFiguresModel", "ofFigure", "(II)I"⟩, 22) := ⟨⟨by decide +kernel, by decide +kernel⟩, List.mem_of_getElem? (i := 648) (by decide +kernel), List.mem_of_getElem? (i := 892) (by decide +kernel), List.mem_of_getElem? (i := 893) (by decide +kernel)⟩
theorem lw_p36 : lw_okq (⟨"DanceFiguresModel", "followAll", "()V"⟩, 22) := ⟨⟨by decide +kernel, by decide +kernel⟩, List.mem_of_getElem? (i := 648) (by decide +kernel), List.mem_of_getElem? (i := 896) (by decide +kernel), List.mem_of_getElem? (i := 897) (by decide +kernel)⟩
theorem lw_p37 : lw_okq (⟨"DanceFiguresModel", "follow", "(I)V"⟩, 22) := ⟨⟨by decide +kernel, by decide +kernel⟩, List.mem_of_getElem? (i := 648) (by decide +kernel), List.mem_of_getElem? (i := 900) (by decide +kernel), List.mem_of_getElem? (i := 901) (by decide +kernel)⟩
theorem lw_p38 : lw_okq (⟨"DanceFiguresModel", "order", "(I)I"⟩, 22) := ⟨⟨by decide +kernel, by decide +kernel⟩, List.mem_of_getElem? (i := 648) (by decide +kernel), List.mem_of_getElem? (i := 904) (by decide +kernel), List.mem_of_getElem? (i := 905) (by decide +kernel)⟩
theorem lw_p39 : lw_okq (⟨"DanceFiguresModel", "back", "(II)I"⟩, 22) := ⟨⟨by decide +kernel, by decide +kernel⟩, List.mem_of_getElem? (i := 648) (by decide +kernel), List.mem_of_getElem? (i := 908) (by decide +kernel), List.mem_of_getElem? (i := 909) (by decide +kernel)⟩
theorem lw_p40 : lw_okq (⟨"DanceFiguresModel", "moved", "(IZ)I"⟩, 22) := ⟨⟨by decide +kernel, by decide +kernel⟩, List.mem_of_getElem? (i := 648) (by decide +kernel), List.mem_of_getElem? (i := 915) (by decide +kernel), List.mem_of_getElem? (i := 916) (by decide +kernel)⟩
theorem lw_p41 : lw_okq (⟨"DanceFiguresModel", "odd", "(I)I"⟩, 22) := ⟨⟨by decide +kernel, by decide +kernel⟩, List.mem_of_getElem? (i := 648) (by decide +kernel), List.mem_of_getElem? (i := 919) (by decide +kernel), List.mem_of_getElem? (i := 920) (by decide +kernel)⟩
theorem lw_p42 : lw_okq (⟨"DanceFiguresModel", "calledBy", "(I)I"⟩, 22) := ⟨⟨by decide +kernel, by decide +kernel⟩, List.mem_of_getElem? (i := 648) (by decide +kernel), List.mem_of_getElem? (i := 923) (by decide +kernel), List.mem_of_getElem? (i := 924) (by decide +kernel)⟩
theorem lw_p43 : lw_okq (⟨"DanceFiguresModel", "callers", "(I)I"⟩, 22) := ⟨⟨by decide +kernel, by decide +kernel⟩, List.mem_of_getElem? (i := 648) (by decide +kernel), List.mem_of_getElem? (i := 927) (by decide +kernel), List.mem_of_getElem? (i := 928) (by decide +kernel)⟩
theorem lw_p44 : lw_okq (⟨"DanceFiguresModel", "figuresWithMoves", "()I"⟩, 22) := ⟨⟨by decide +kernel, by decide +kernel⟩, List.mem_of_getElem? (i := 648) (by decide +kernel), List.mem_of_getElem? (i := 947) (by decide +kernel), List.mem_of_getElem? (i := 948) (by decide +kernel)⟩
theorem lw_p45 : lw_okq (⟨"DanceFiguresModel", "begin", "()V"⟩, 22) := ⟨⟨by decide +kernel, by decide +kernel⟩, List.mem_of_getElem? (i := 648) (by decide +kernel), List.mem_of_getElem? (i := 963) (by decide +kernel), List.mem_of_getElem? (i := 964) (by decide +kernel)⟩
theorem lw_p46 : lw_okq (⟨"DanceFiguresModel", "isHome", "()Z"⟩, 22) := ⟨⟨by decide +kernel, by decide +kernel⟩, List.mem_of_getElem? (i := 648) (by decide +kernel), List.mem_of_getElem? (i := 967) (by decide +kernel), List.mem_of_getElem? (i := 968) (by decide +kernel)⟩
theorem lw_p47 : lw_okq (⟨"DanceFiguresModel", "apply", "(I)V"⟩, 22) := ⟨⟨by decide +kernel, by decide +kernel⟩, List.mem_of_getElem? (i := 648) (by decide +kernel), List.mem_of_getElem? (i := 971) (by decide +kernel), List.mem_of_getElem? (i := 972) (by decide +kernel)⟩
def lw_privs_3 : List (MethodName × Nat) := [(⟨"DanceFiguresModel", "isScript", "()Z"⟩, 22), (⟨"DanceFiguresModel", "readCall", "()Z"⟩, 22), (⟨"DanceFiguresModel", "takes", "(II)Z"⟩, 22), (⟨"DanceFiguresModel", "ofFigure", "(II)I"⟩, 22), (⟨"DanceFiguresModel", "followAll", "()V"⟩, 22), (⟨"DanceFiguresModel", "follow", "(I)V"⟩, 22), (⟨"DanceFiguresModel", "order", "(I)I"⟩, 22), (⟨"DanceFiguresModel", "back", "(II)I"⟩, 22), (⟨"DanceFiguresModel", "moved", "(IZ)I"⟩, 22), (⟨"DanceFiguresModel", "odd", "(I)I"⟩, 22), (⟨"DanceFiguresModel", "calledBy", "(I)I"⟩, 22), (⟨"DanceFiguresModel", "callers", "(I)I"⟩, 22), (⟨"DanceFiguresModel", "figuresWithMoves", "()I"⟩, 22), (⟨"DanceFiguresModel", "begin", "()V"⟩, 22), (⟨"DanceFiguresModel", "isHome", "()Z"⟩, 22), (⟨"DanceFiguresModel", "apply", "(I)V"⟩, 22)]
theorem lw_r3 : ∀ q ∈ lw_privs_3, lw_okq q := List.forall_mem_cons.mpr ⟨lw_p32, List.forall_mem_cons.mpr ⟨lw_p33, List.forall_mem_cons.mpr ⟨lw_p34, List.forall_mem_cons.mpr ⟨lw_p35, List.forall_mem_cons.mpr ⟨lw_p36, List.forall_mem_cons.mpr ⟨lw_p37, List.forall_mem_cons.mpr ⟨lw_p38, List.forall_mem_cons.mpr ⟨lw_p39, List.forall_mem_cons.mpr ⟨lw_p40, List.forall_mem_cons.mpr ⟨lw_p41, List.forall_mem_cons.mpr ⟨lw_p42, List.forall_mem_cons.mpr ⟨lw_p43, List.forall_mem_cons.mpr ⟨lw_p44, List.forall_mem_cons.mpr ⟨lw_p45, List.forall_mem_cons.mpr ⟨lw_p46, List.forall_mem_cons.mpr ⟨lw_p47, fun _ h => absurd h List.not_mem_nil⟩⟩⟩⟩⟩⟩⟩⟩⟩⟩⟩⟩⟩⟩⟩⟩
theorem lw_p48 : lw_okq (⟨"DanceFiguresModel", "shortest", "()I"⟩, 22) := ⟨⟨by decide +kernel, by decide +kernel⟩, List.mem_of_getElem? (i := 648) (by decide +kernel), List.mem_of_getElem? (i := 979) (by decide +kernel), List.mem_of_getElem? (i := 980) (by decide +kernel)⟩
def lw_privs_4 : List (MethodName × Nat) := [(⟨"DanceFiguresModel", "shortest", "()I"⟩, 22)]
theorem lw_r4 : ∀ q ∈ lw_privs_4, lw_okq q := List.forall_mem_cons.mpr ⟨lw_p48, fun _ h => absurd h List.not_mem_nil⟩
def lw_privs : List (MethodName × Nat) := lw_privs_1 ++ (lw_privs_2 ++ (lw_privs_3 ++ (lw_privs_4)))
def lw_tbl : List Cond := k2_sels lw_privs ++ tables_1
theorem lw_privs_ok : ∀ q ∈ lw_privs, lw_okq q := by
  show ∀ q ∈ lw_privs_1 ++ (lw_privs_2 ++ (lw_privs_3 ++ (lw_privs_4))), lw_okq q
  exact List.forall_mem_append.mpr ⟨lw_r1, List.forall_mem_append.mpr ⟨lw_r2, List.forall_mem_append.mpr ⟨lw_r3, lw_r4⟩⟩⟩
/-- the streams that the claim lets the run draw from -/
abbrev lw_cs : List Choice := [Jvm.Choice.named "NaN.bits"]
theorem lw_bits : nanBits ∈ lw_cs := by first | decide | exact List.mem_cons_self | simp [lw_cs, nanBits]
end
section
def RX0 : String := "DanceFigures$Figures"
def TX0 : u_T := fun k => match k with
  | 0 => ("DanceFigures$Figures", "sizes", "[I", true)
  | _ => ("DanceFigures$Figures", "codes", "[I", true)
def tyX0 : Nat → FieldType := fun k => match k with
  | 0 => .array .int
  | _ => .array .int
theorem nmX0 : ∀ a, a < 2 → ∀ b, b < 2 → a ≠ b → (TX0 a).2.1 ≠ (TX0 b).2.1 := by decide +kernel
theorem tyX0_ok : ∀ k, k < 2 → parseFieldDescriptor (TX0 k).2.2.1 = some (tyX0 k) := by decide +kernel
abbrev cX0_init : ByteArray := prog_2_method_1_code
def yX0_init : MethodName := ⟨RX0, "<init>", "()V"⟩
abbrev cX0_copyFrom : ByteArray := prog_2_method_2_code
def yX0_copyFrom : MethodName := ⟨RX0, "copyFrom", "(LDanceFigures$Figures;)V"⟩
abbrev cX0_size : ByteArray := prog_2_method_3_code
def yX0_size : MethodName := ⟨RX0, "size", "(I)I"⟩
abbrev cX0_code : ByteArray := prog_2_method_4_code
def yX0_code : MethodName := ⟨RX0, "code", "(II)I"⟩
abbrev cX0_put : ByteArray := prog_2_method_5_code
def yX0_put : MethodName := ⟨RX0, "put", "(II)V"⟩
abbrev cX0_cut : ByteArray := prog_2_method_6_code
def yX0_cut : MethodName := ⟨RX0, "cut", "(I)V"⟩
abbrev cX0_usedCount : ByteArray := prog_2_method_7_code
def yX0_usedCount : MethodName := ⟨RX0, "usedCount", "()I"⟩
def RX1 : String := "DanceFigures$History"
def TX1 : u_T := fun k => match k with
  | 0 => ("DanceFigures$History", "states", "[LDanceFigures$State;", true)
  | 1 => ("DanceFigures$History", "size", "I", false)
  | _ => ("DanceFigures$History", "next", "I", false)
def tyX1 : Nat → FieldType := fun k => match k with
  | 0 => .array (.object "DanceFigures$State")
  | 1 => .int
  | _ => .int
theorem nmX1 : ∀ a, a < 3 → ∀ b, b < 3 → a ≠ b → (TX1 a).2.1 ≠ (TX1 b).2.1 := by decide +kernel
theorem tyX1_ok : ∀ k, k < 3 → parseFieldDescriptor (TX1 k).2.2.1 = some (tyX1 k) := by decide +kernel
abbrev cX1_init : ByteArray := prog_3_method_1_code
def yX1_init : MethodName := ⟨RX1, "<init>", "()V"⟩
abbrev cX1_size : ByteArray := prog_3_method_2_code
def yX1_size : MethodName := ⟨RX1, "size", "()I"⟩
abbrev cX1_keep : ByteArray := prog_3_method_3_code
def yX1_keep : MethodName := ⟨RX1, "keep", "(LDanceFigures$State;)V"⟩
abbrev cX1_takeLatest : ByteArray := prog_3_method_4_code
def yX1_takeLatest : MethodName := ⟨RX1, "takeLatest", "(LDanceFigures$State;)Z"⟩
def RX2 : String := "DanceFigures$Holds"
def TX2 : u_T := fun k => match k with
  | 0 => ("DanceFigures$Holds", "partners", "[I", true)
  | _ => ("DanceFigures$Holds", "pairs", "I", false)
def tyX2 : Nat → FieldType := fun k => match k with
  | 0 => .array .int
  | _ => .int
theorem nmX2 : ∀ a, a < 2 → ∀ b, b < 2 → a ≠ b → (TX2 a).2.1 ≠ (TX2 b).2.1 := by decide +kernel
theorem tyX2_ok : ∀ k, k < 2 → parseFieldDescriptor (TX2 k).2.2.1 = some (tyX2 k) := by decide +kernel
abbrev cX2_init : ByteArray := prog_4_method_1_code
def yX2_init : MethodName := ⟨RX2, "<init>", "()V"⟩
abbrev cX2_copyFrom : ByteArray := prog_4_method_2_code
def yX2_copyFrom : MethodName := ⟨RX2, "copyFrom", "(LDanceFigures$Holds;)V"⟩
abbrev cX2_pairs : ByteArray := prog_4_method_3_code
def yX2_pairs : MethodName := ⟨RX2, "pairs", "()I"⟩
abbrev cX2_partner : ByteArray := prog_4_method_4_code
def yX2_partner : MethodName := ⟨RX2, "partner", "(I)I"⟩
abbrev cX2_join : ByteArray := prog_4_method_5_code
def yX2_join : MethodName := ⟨RX2, "join", "(II)V"⟩
abbrev cX2_part : ByteArray := prog_4_method_6_code
def yX2_part : MethodName := ⟨RX2, "part", "(II)V"⟩
abbrev cX2_areKept : ByteArray := prog_4_method_7_code
def yX2_areKept : MethodName := ⟨RX2, "areKept", "(LDanceFigures$Ring;)Z"⟩
abbrev cX2_isKeptAt : ByteArray := prog_4_method_8_code
def yX2_isKeptAt : MethodName := ⟨RX2, "isKeptAt", "(LDanceFigures$Ring;I)Z"⟩
abbrev cX2_partNotNeighbors : ByteArray := prog_4_method_9_code
def yX2_partNotNeighbors : MethodName := ⟨RX2, "partNotNeighbors", "(LDanceFigures$Ring;)I"⟩
def RX3 : String := "DanceFigures$Plan"
def TX3 : u_T := fun k => match k with
  | 0 => ("DanceFigures$Plan", "counts", "[I", true)
  | 1 => ("DanceFigures$Plan", "steps", "[I", true)
  | 2 => ("DanceFigures$Plan", "called", "[I", true)
  | 3 => ("DanceFigures$Plan", "growth", "[I", true)
  | 4 => ("DanceFigures$Plan", "effects", "[LDanceFigures$Ring;", true)
  | _ => ("DanceFigures$Plan", "nothing", "LDanceFigures$Ring;", true)
def tyX3 : Nat → FieldType := fun k => match k with
  | 0 => .array .int
  | 1 => .array .int
  | 2 => .array .int
  | 3 => .array .int
  | 4 => .array (.object "DanceFigures$Ring")
  | _ => .object "DanceFigures$Ring"
theorem nmX3 : ∀ a, a < 6 → ∀ b, b < 6 → a ≠ b → (TX3 a).2.1 ≠ (TX3 b).2.1 := by decide +kernel
theorem tyX3_ok : ∀ k, k < 6 → parseFieldDescriptor (TX3 k).2.2.1 = some (tyX3 k) := by decide +kernel
abbrev cX3_init : ByteArray := prog_5_method_1_code
def yX3_init : MethodName := ⟨RX3, "<init>", "()V"⟩
abbrev cX3_workOut : ByteArray := prog_5_method_2_code
def yX3_workOut : MethodName := ⟨RX3, "workOut", "(LDanceFigures$Figures;)V"⟩
abbrev cX3_include : ByteArray := prog_5_method_3_code
def yX3_include : MethodName := ⟨RX3, "include", "(II)V"⟩
abbrev cX3_includeCall : ByteArray := prog_5_method_4_code
def yX3_includeCall : MethodName := ⟨RX3, "includeCall", "(II)V"⟩
abbrev cX3_putStep : ByteArray := prog_5_method_5_code
def yX3_putStep : MethodName := ⟨RX3, "putStep", "(II)V"⟩
abbrev cX3_stepCount : ByteArray := prog_5_method_6_code
def yX3_stepCount : MethodName := ⟨RX3, "stepCount", "(I)I"⟩
abbrev cX3_stepInOrder : ByteArray := prog_5_method_7_code
def yX3_stepInOrder : MethodName := ⟨RX3, "stepInOrder", "(IIZ)I"⟩
abbrev cX3_effectOf : ByteArray := prog_5_method_8_code
def yX3_effectOf : MethodName := ⟨RX3, "effectOf", "(I)LDanceFigures$Ring;"⟩
abbrev cX3_calledBy : ByteArray := prog_5_method_9_code
def yX3_calledBy : MethodName := ⟨RX3, "calledBy", "(I)I"⟩
abbrev cX3_callersOf : ByteArray := prog_5_method_10_code
def yX3_callersOf : MethodName := ⟨RX3, "callersOf", "(I)I"⟩
abbrev cX3_hasRoom : ByteArray := prog_5_method_11_code
def yX3_hasRoom : MethodName := ⟨RX3, "hasRoom", "(LDanceFigures$Figures;II)Z"⟩
abbrev cX3_growthByCalls : ByteArray := prog_5_method_12_code
def yX3_growthByCalls : MethodName := ⟨RX3, "growthByCalls", "(LDanceFigures$Figures;I)I"⟩
def RX4 : String := "DanceFigures$Ring"
def TX4 : u_T := fun k => match k with
  | 0 => ("DanceFigures$Ring", "who", "[I", true)
  | 1 => ("DanceFigures$Ring", "face", "[I", true)
  | 2 => ("DanceFigures$Ring", "oldWho", "[I", true)
  | _ => ("DanceFigures$Ring", "oldFace", "[I", true)
def tyX4 : Nat → FieldType := fun k => match k with
  | 0 => .array .int
  | 1 => .array .int
  | 2 => .array .int
  | _ => .array .int
theorem nmX4 : ∀ a, a < 4 → ∀ b, b < 4 → a ≠ b → (TX4 a).2.1 ≠ (TX4 b).2.1 := by decide +kernel
theorem tyX4_ok : ∀ k, k < 4 → parseFieldDescriptor (TX4 k).2.2.1 = some (tyX4 k) := by decide +kernel
abbrev cX4_init : ByteArray := prog_6_method_1_code
def yX4_init : MethodName := ⟨RX4, "<init>", "()V"⟩
abbrev cX4_settle : ByteArray := prog_6_method_2_code
def yX4_settle : MethodName := ⟨RX4, "settle", "()V"⟩
abbrev cX4_copyFrom : ByteArray := prog_6_method_3_code
def yX4_copyFrom : MethodName := ⟨RX4, "copyFrom", "(LDanceFigures$Ring;)V"⟩
abbrev cX4_dancerAt : ByteArray := prog_6_method_4_code
def yX4_dancerAt : MethodName := ⟨RX4, "dancerAt", "(I)I"⟩
abbrev cX4_faceAt : ByteArray := prog_6_method_5_code
def yX4_faceAt : MethodName := ⟨RX4, "faceAt", "(I)I"⟩
abbrev cX4_placeOf : ByteArray := prog_6_method_6_code
def yX4_placeOf : MethodName := ⟨RX4, "placeOf", "(I)I"⟩
abbrev cX4_make : ByteArray := prog_6_method_7_code
def yX4_make : MethodName := ⟨RX4, "make", "(I)V"⟩
abbrev cX4_exchange : ByteArray := prog_6_method_8_code
def yX4_exchange : MethodName := ⟨RX4, "exchange", "(II)V"⟩
abbrev cX4_turn : ByteArray := prog_6_method_9_code
def yX4_turn : MethodName := ⟨RX4, "turn", "(II)V"⟩
abbrev cX4_shift : ByteArray := prog_6_method_10_code
def yX4_shift : MethodName := ⟨RX4, "shift", "(I)V"⟩
abbrev cX4_mirror : ByteArray := prog_6_method_11_code
def yX4_mirror : MethodName := ⟨RX4, "mirror", "(II)V"⟩
abbrev cX4_remember : ByteArray := prog_6_method_12_code
def yX4_remember : MethodName := ⟨RX4, "remember", "()V"⟩
abbrev cX4_follow : ByteArray := prog_6_method_13_code
def yX4_follow : MethodName := ⟨RX4, "follow", "(LDanceFigures$Ring;)V"⟩
abbrev cX4_isBroughtHomeBy : ByteArray := prog_6_method_14_code
def yX4_isBroughtHomeBy : MethodName := ⟨RX4, "isBroughtHomeBy", "(LDanceFigures$Ring;)Z"⟩
abbrev cX4_isHome : ByteArray := prog_6_method_15_code
def yX4_isHome : MethodName := ⟨RX4, "isHome", "()Z"⟩
abbrev cX4_isSameAs : ByteArray := prog_6_method_16_code
def yX4_isSameAs : MethodName := ⟨RX4, "isSameAs", "(LDanceFigures$Ring;)Z"⟩
abbrev cX4_homeCount : ByteArray := prog_6_method_17_code
def yX4_homeCount : MethodName := ⟨RX4, "homeCount", "()I"⟩
abbrev cX4_placedCount : ByteArray := prog_6_method_18_code
def yX4_placedCount : MethodName := ⟨RX4, "placedCount", "()I"⟩
abbrev cX4_straightCount : ByteArray := prog_6_method_19_code
def yX4_straightCount : MethodName := ⟨RX4, "straightCount", "()I"⟩
abbrev cX4_oddness : ByteArray := prog_6_method_20_code
def yX4_oddness : MethodName := ⟨RX4, "oddness", "()I"⟩
abbrev cX4_placesFromHome : ByteArray := prog_6_method_21_code
def yX4_placesFromHome : MethodName := ⟨RX4, "placesFromHome", "()I"⟩
def RX5 : String := "DanceFigures$Script"
def TX5 : u_T := fun k => match k with
  | 0 => ("DanceFigures$Script", "signs", "[I", true)
  | _ => ("DanceFigures$Script", "length", "I", false)
def tyX5 : Nat → FieldType := fun k => match k with
  | 0 => .array .int
  | _ => .int
theorem nmX5 : ∀ a, a < 2 → ∀ b, b < 2 → a ≠ b → (TX5 a).2.1 ≠ (TX5 b).2.1 := by decide +kernel
theorem tyX5_ok : ∀ k, k < 2 → parseFieldDescriptor (TX5 k).2.2.1 = some (tyX5 k) := by decide +kernel
abbrev cX5_init : ByteArray := prog_7_method_1_code
def yX5_init : MethodName := ⟨RX5, "<init>", "()V"⟩
abbrev cX5_length : ByteArray := prog_7_method_2_code
def yX5_length : MethodName := ⟨RX5, "length", "()I"⟩
abbrev cX5_put : ByteArray := prog_7_method_3_code
def yX5_put : MethodName := ⟨RX5, "put", "(I)V"⟩
abbrev cX5_empty : ByteArray := prog_7_method_4_code
def yX5_empty : MethodName := ⟨RX5, "empty", "()V"⟩
abbrev cX5_signOrEnd : ByteArray := prog_7_method_5_code
def yX5_signOrEnd : MethodName := ⟨RX5, "signOrEnd", "(I)I"⟩
abbrev cX5_firstFault : ByteArray := prog_7_method_6_code
def yX5_firstFault : MethodName := ⟨RX5, "firstFault", "()I"⟩
abbrev cX5_after : ByteArray := prog_7_method_7_code
def yX5_after : MethodName := ⟨RX5, "after", "(II)I"⟩
abbrev cX5_isLetter : ByteArray := prog_7_method_8_code
def yX5_isLetter : MethodName := ⟨RX5, "isLetter", "(I)Z"⟩
def RX6 : String := "DanceFigures$Search"
def TX6 : u_T := fun k => match k with
  | 0 => ("DanceFigures$Search", "row", "[I", true)
  | _ => ("DanceFigures$Search", "rings", "[LDanceFigures$Ring;", true)
def tyX6 : Nat → FieldType := fun k => match k with
  | 0 => .array .int
  | _ => .array (.object "DanceFigures$Ring")
theorem nmX6 : ∀ a, a < 2 → ∀ b, b < 2 → a ≠ b → (TX6 a).2.1 ≠ (TX6 b).2.1 := by decide +kernel
theorem tyX6_ok : ∀ k, k < 2 → parseFieldDescriptor (TX6 k).2.2.1 = some (tyX6 k) := by decide +kernel
abbrev cX6_init : ByteArray := prog_8_method_1_code
def yX6_init : MethodName := ⟨RX6, "<init>", "()V"⟩
abbrev cX6_figureOf : ByteArray := prog_8_method_2_code
def yX6_figureOf : MethodName := ⟨RX6, "figureOf", "(I)I"⟩
abbrev cX6_shortest : ByteArray := prog_8_method_3_code
def yX6_shortest : MethodName := ⟨RX6, "shortest", "(LDanceFigures$Ring;LDanceFigures$Plan;)I"⟩
abbrev cX6_leadsHome : ByteArray := prog_8_method_4_code
def yX6_leadsHome : MethodName := ⟨RX6, "leadsHome", "(LDanceFigures$Search;LDanceFigures$Plan;LDanceFigures$Ring;II)Z"⟩
def RX7 : String := "DanceFigures$State"
def TX7 : u_T := fun k => match k with
  | 0 => ("DanceFigures$State", "ring", "LDanceFigures$Ring;", true)
  | 1 => ("DanceFigures$State", "holds", "LDanceFigures$Holds;", true)
  | 2 => ("DanceFigures$State", "figures", "LDanceFigures$Figures;", true)
  | 3 => ("DanceFigures$State", "dancedCalls", "I", false)
  | 4 => ("DanceFigures$State", "madeSteps", "I", false)
  | _ => ("DanceFigures$State", "releasedHolds", "I", false)
def tyX7 : Nat → FieldType := fun k => match k with
  | 0 => .object "DanceFigures$Ring"
  | 1 => .object "DanceFigures$Holds"
  | 2 => .object "DanceFigures$Figures"
  | 3 => .int
  | 4 => .int
  | _ => .int
theorem nmX7 : ∀ a, a < 6 → ∀ b, b < 6 → a ≠ b → (TX7 a).2.1 ≠ (TX7 b).2.1 := by decide +kernel
theorem tyX7_ok : ∀ k, k < 6 → parseFieldDescriptor (TX7 k).2.2.1 = some (tyX7 k) := by decide +kernel
abbrev cX7_init : ByteArray := prog_9_method_1_code
def yX7_init : MethodName := ⟨RX7, "<init>", "()V"⟩
abbrev cX7_copyFrom : ByteArray := prog_9_method_2_code
def yX7_copyFrom : MethodName := ⟨RX7, "copyFrom", "(LDanceFigures$State;)V"⟩
def RX8 : String := "DanceFigures"
def TX8 : u_T := fun k => match k with
  | 0 => ("DanceFigures", "present", "LDanceFigures$State;", true)
  | 1 => ("DanceFigures", "snapshot", "LDanceFigures$State;", true)
  | 2 => ("DanceFigures", "hasSnapshot", "Z", false)
  | 3 => ("DanceFigures", "history", "LDanceFigures$History;", true)
  | 4 => ("DanceFigures", "script", "LDanceFigures$Script;", true)
  | 5 => ("DanceFigures", "plan", "LDanceFigures$Plan;", true)
  | 6 => ("DanceFigures", "search", "LDanceFigures$Search;", true)
  | 7 => ("DanceFigures", "trial", "LDanceFigures$Ring;", true)
  | _ => ("DanceFigures", "otherTrial", "LDanceFigures$Ring;", true)
def tyX8 : Nat → FieldType := fun k => match k with
  | 0 => .object "DanceFigures$State"
  | 1 => .object "DanceFigures$State"
  | 2 => .boolean
  | 3 => .object "DanceFigures$History"
  | 4 => .object "DanceFigures$Script"
  | 5 => .object "DanceFigures$Plan"
  | 6 => .object "DanceFigures$Search"
  | 7 => .object "DanceFigures$Ring"
  | _ => .object "DanceFigures$Ring"
theorem nmX8 : ∀ a, a < 9 → ∀ b, b < 9 → a ≠ b → (TX8 a).2.1 ≠ (TX8 b).2.1 := by decide +kernel
theorem tyX8_ok : ∀ k, k < 9 → parseFieldDescriptor (TX8 k).2.2.1 = some (tyX8 k) := by decide +kernel
abbrev cX8_init : ByteArray := prog_1_method_1_code
def yX8_init : MethodName := ⟨RX8, "<init>", "()V"⟩
abbrev cX8_add : ByteArray := prog_1_method_2_code
def yX8_add : MethodName := ⟨RX8, "add", "(IIII)I"⟩
abbrev cX8_drop : ByteArray := prog_1_method_3_code
def yX8_drop : MethodName := ⟨RX8, "drop", "(I)I"⟩
abbrev cX8_hold : ByteArray := prog_1_method_4_code
def yX8_hold : MethodName := ⟨RX8, "hold", "(II)I"⟩
abbrev cX8_release : ByteArray := prog_1_method_5_code
def yX8_release : MethodName := ⟨RX8, "release", "(I)I"⟩
abbrev cX8_dance : ByteArray := prog_1_method_6_code
def yX8_dance : MethodName := ⟨RX8, "dance", "(IIZ)I"⟩
abbrev cX8_goHome : ByteArray := prog_1_method_7_code
def yX8_goHome : MethodName := ⟨RX8, "goHome", "()I"⟩
abbrev cX8_append : ByteArray := prog_1_method_8_code
def yX8_append : MethodName := ⟨RX8, "append", "(I)I"⟩
abbrev cX8_clearText : ByteArray := prog_1_method_9_code
def yX8_clearText : MethodName := ⟨RX8, "clearText", "()I"⟩
abbrev cX8_fault : ByteArray := prog_1_method_10_code
def yX8_fault : MethodName := ⟨RX8, "fault", "()I"⟩
abbrev cX8_run : ByteArray := prog_1_method_11_code
def yX8_run : MethodName := ⟨RX8, "run", "()I"⟩
abbrev cX8_undo : ByteArray := prog_1_method_12_code
def yX8_undo : MethodName := ⟨RX8, "undo", "()I"⟩
abbrev cX8_save : ByteArray := prog_1_method_13_code
def yX8_save : MethodName := ⟨RX8, "save", "()I"⟩
abbrev cX8_restore : ByteArray := prog_1_method_14_code
def yX8_restore : MethodName := ⟨RX8, "restore", "()I"⟩
abbrev cX8_dancer : ByteArray := prog_1_method_15_code
def yX8_dancer : MethodName := ⟨RX8, "dancer", "(II)I"⟩
abbrev cX8_at : ByteArray := prog_1_method_16_code
def yX8_at : MethodName := ⟨RX8, "at", "(I)I"⟩
abbrev cX8_move : ByteArray := prog_1_method_17_code
def yX8_move : MethodName := ⟨RX8, "move", "(III)I"⟩
abbrev cX8_figure : ByteArray := prog_1_method_18_code
def yX8_figure : MethodName := ⟨RX8, "figure", "(II)I"⟩
abbrev cX8_effect : ByteArray := prog_1_method_19_code
def yX8_effect : MethodName := ⟨RX8, "effect", "(IIZ)I"⟩
abbrev cX8_alike : ByteArray := prog_1_method_20_code
def yX8_alike : MethodName := ⟨RX8, "alike", "(II)I"⟩
abbrev cX8_commute : ByteArray := prog_1_method_21_code
def yX8_commute : MethodName := ⟨RX8, "commute", "(II)I"⟩
abbrev cX8_count : ByteArray := prog_1_method_22_code
def yX8_count : MethodName := ⟨RX8, "count", "(I)I"⟩
abbrev cX8_total : ByteArray := prog_1_method_23_code
def yX8_total : MethodName := ⟨RX8, "total", "(I)I"⟩
abbrev cX8_blockedAt : ByteArray := prog_1_method_24_code
def yX8_blockedAt : MethodName := ⟨RX8, "blockedAt", "(IZ)I"⟩
abbrev cX8_homeIn : ByteArray := prog_1_method_25_code
def yX8_homeIn : MethodName := ⟨RX8, "homeIn", "(I)I"⟩
abbrev cX8_wayHome : ByteArray := prog_1_method_26_code
def yX8_wayHome : MethodName := ⟨RX8, "wayHome", "(I)I"⟩
abbrev cX8_distance : ByteArray := prog_1_method_27_code
def yX8_distance : MethodName := ⟨RX8, "distance", "()D"⟩
abbrev cX8_tryOut : ByteArray := prog_1_method_28_code
def yX8_tryOut : MethodName := ⟨RX8, "tryOut", "(IIZ)I"⟩
abbrev cX8_carryOut : ByteArray := prog_1_method_29_code
def yX8_carryOut : MethodName := ⟨RX8, "carryOut", "(II)I"⟩
abbrev cX8_carryOutScript : ByteArray := prog_1_method_30_code
def yX8_carryOutScript : MethodName := ⟨RX8, "carryOutScript", "()I"⟩
abbrev cX8_orderOf : ByteArray := prog_1_method_31_code
def yX8_orderOf : MethodName := ⟨RX8, "orderOf", "(LDanceFigures$Ring;)I"⟩
abbrev cX8_timesUntilHome : ByteArray := prog_1_method_32_code
def yX8_timesUntilHome : MethodName := ⟨RX8, "timesUntilHome", "(LDanceFigures$Ring;LDanceFigures$Ring;)I"⟩
abbrev cX8_isFigure : ByteArray := prog_1_method_33_code
def yX8_isFigure : MethodName := ⟨RX8, "isFigure", "(I)Z"⟩
abbrev cX8_isPlace : ByteArray := prog_1_method_34_code
def yX8_isPlace : MethodName := ⟨RX8, "isPlace", "(I)Z"⟩
abbrev cX8_areNeighbors : ByteArray := prog_1_method_35_code
def yX8_areNeighbors : MethodName := ⟨RX8, "areNeighbors", "(II)Z"⟩
abbrev cX8_isMove : ByteArray := prog_1_method_36_code
def yX8_isMove : MethodName := ⟨RX8, "isMove", "(IIII)Z"⟩
abbrev cX8_codeOf : ByteArray := prog_1_method_37_code
def yX8_codeOf : MethodName := ⟨RX8, "codeOf", "(III)I"⟩
abbrev cX8_kindOf : ByteArray := prog_1_method_38_code
def yX8_kindOf : MethodName := ⟨RX8, "kindOf", "(I)I"⟩
abbrev cX8_firstOf : ByteArray := prog_1_method_39_code
def yX8_firstOf : MethodName := ⟨RX8, "firstOf", "(I)I"⟩
abbrev cX8_secondOf : ByteArray := prog_1_method_40_code
def yX8_secondOf : MethodName := ⟨RX8, "secondOf", "(I)I"⟩
abbrev cX8_undoing : ByteArray := prog_1_method_41_code
def yX8_undoing : MethodName := ⟨RX8, "undoing", "(I)I"⟩
abbrev cX8_read : ByteArray := prog_1_method_42_code
def yX8_read : MethodName := ⟨RX8, "read", "([II)I"⟩
abbrev cX8_write : ByteArray := prog_1_method_43_code
def yX8_write : MethodName := ⟨RX8, "write", "([III)V"⟩
abbrev cX8_copy : ByteArray := prog_1_method_44_code
def yX8_copy : MethodName := ⟨RX8, "copy", "([I[I)V"⟩
def RX9 : String := "DanceFiguresModel"
def TX9 : u_T := fun k => match k with
  | 0 => ("DanceFiguresModel", "row", "[I", true)
  | 1 => ("DanceFiguresModel", "history", "[I", true)
  | 2 => ("DanceFiguresModel", "states", "I", false)
  | 3 => ("DanceFiguresModel", "snapshot", "[I", true)
  | 4 => ("DanceFiguresModel", "isSaved", "Z", false)
  | 5 => ("DanceFiguresModel", "stepMany", "[I", true)
  | 6 => ("DanceFiguresModel", "steps", "[I", true)
  | 7 => ("DanceFiguresModel", "would", "[I", true)
  | 8 => ("DanceFiguresModel", "to", "[I", true)
  | 9 => ("DanceFiguresModel", "turn", "[I", true)
  | 10 => ("DanceFiguresModel", "then", "[I", true)
  | 11 => ("DanceFiguresModel", "before", "[I", true)
  | 12 => ("DanceFiguresModel", "text", "[I", true)
  | 13 => ("DanceFiguresModel", "length", "I", false)
  | 14 => ("DanceFiguresModel", "spot", "I", false)
  | 15 => ("DanceFiguresModel", "calls", "I", false)
  | 16 => ("DanceFiguresModel", "callFigure", "[I", true)
  | 17 => ("DanceFiguresModel", "callTimes", "[I", true)
  | 18 => ("DanceFiguresModel", "callBack", "[Z", true)
  | 19 => ("DanceFiguresModel", "goes", "[I", true)
  | 20 => ("DanceFiguresModel", "grows", "[I", true)
  | _ => ("DanceFiguresModel", "now", "[I", true)
def tyX9 : Nat → FieldType := fun k => match k with
  | 0 => .array .int
  | 1 => .array .int
  | 2 => .int
  | 3 => .array .int
  | 4 => .boolean
  | 5 => .array .int
  | 6 => .array .int
  | 7 => .array .int
  | 8 => .array .int
  | 9 => .array .int
  | 10 => .array .int
  | 11 => .array .int
  | 12 => .array .int
  | 13 => .int
  | 14 => .int
  | 15 => .int
  | 16 => .array .int
  | 17 => .array .int
  | 18 => .array .boolean
  | 19 => .array .int
  | 20 => .array .int
  | _ => .array .int
theorem nmX9 : ∀ a, a < 22 → ∀ b, b < 22 → a ≠ b → (TX9 a).2.1 ≠ (TX9 b).2.1 := by decide +kernel
theorem tyX9_ok : ∀ k, k < 22 → parseFieldDescriptor (TX9 k).2.2.1 = some (tyX9 k) := by decide +kernel
abbrev cX9_init : ByteArray := prog_11_method_1_code
def yX9_init : MethodName := ⟨RX9, "<init>", "()V"⟩
abbrev cX9_in : ByteArray := prog_11_method_2_code
def yX9_in : MethodName := ⟨RX9, "in", "(III)Z"⟩
abbrev cX9_isFigure : ByteArray := prog_11_method_3_code
def yX9_isFigure : MethodName := ⟨RX9, "isFigure", "(I)Z"⟩
abbrev cX9_isDancer : ByteArray := prog_11_method_4_code
def yX9_isDancer : MethodName := ⟨RX9, "isDancer", "(I)Z"⟩
abbrev cX9_ahead : ByteArray := prog_11_method_5_code
def yX9_ahead : MethodName := ⟨RX9, "ahead", "(II)I"⟩
abbrev cX9_moves : ByteArray := prog_11_method_6_code
def yX9_moves : MethodName := ⟨RX9, "moves", "(I)I"⟩
abbrev cX9_ofMove : ByteArray := prog_11_method_7_code
def yX9_ofMove : MethodName := ⟨RX9, "ofMove", "(III)I"⟩
abbrev cX9_record : ByteArray := prog_11_method_8_code
def yX9_record : MethodName := ⟨RX9, "record", "()V"⟩
abbrev cX9_placeOf : ByteArray := prog_11_method_9_code
def yX9_placeOf : MethodName := ⟨RX9, "placeOf", "(I)I"⟩
abbrev cX9_atHome : ByteArray := prog_11_method_10_code
def yX9_atHome : MethodName := ⟨RX9, "atHome", "(Z)I"⟩
abbrev cX9_undo : ByteArray := prog_11_method_11_code
def yX9_undo : MethodName := ⟨RX9, "undo", "()I"⟩
abbrev cX9_save : ByteArray := prog_11_method_12_code
def yX9_save : MethodName := ⟨RX9, "save", "()I"⟩
abbrev cX9_restore : ByteArray := prog_11_method_13_code
def yX9_restore : MethodName := ⟨RX9, "restore", "()I"⟩
abbrev cX9_unroll : ByteArray := prog_11_method_14_code
def yX9_unroll : MethodName := ⟨RX9, "unroll", "()V"⟩
abbrev cX9_addStep : ByteArray := prog_11_method_15_code
def yX9_addStep : MethodName := ⟨RX9, "addStep", "(IIII)V"⟩
abbrev cX9_addAll : ByteArray := prog_11_method_16_code
def yX9_addAll : MethodName := ⟨RX9, "addAll", "(II)V"⟩
abbrev cX9_isRoom : ByteArray := prog_11_method_17_code
def yX9_isRoom : MethodName := ⟨RX9, "isRoom", "(II)Z"⟩
abbrev cX9_isMove : ByteArray := prog_11_method_18_code
def yX9_isMove : MethodName := ⟨RX9, "isMove", "(IIII)Z"⟩
abbrev cX9_add : ByteArray := prog_11_method_19_code
def yX9_add : MethodName := ⟨RX9, "add", "(IIII)I"⟩
abbrev cX9_stepsOf : ByteArray := prog_11_method_20_code
def yX9_stepsOf : MethodName := ⟨RX9, "stepsOf", "(I)I"⟩
abbrev cX9_drop : ByteArray := prog_11_method_21_code
def yX9_drop : MethodName := ⟨RX9, "drop", "(I)I"⟩
abbrev cX9_lay : ByteArray := prog_11_method_22_code
def yX9_lay : MethodName := ⟨RX9, "lay", "(III)V"⟩
abbrev cX9_layStep : ByteArray := prog_11_method_23_code
def yX9_layStep : MethodName := ⟨RX9, "layStep", "(IIZ)V"⟩
abbrev cX9_areNeighbors : ByteArray := prog_11_method_24_code
def yX9_areNeighbors : MethodName := ⟨RX9, "areNeighbors", "(II)Z"⟩
abbrev cX9_isAllowed : ByteArray := prog_11_method_25_code
def yX9_isAllowed : MethodName := ⟨RX9, "isAllowed", "()Z"⟩
abbrev cX9_make : ByteArray := prog_11_method_26_code
def yX9_make : MethodName := ⟨RX9, "make", "()V"⟩
abbrev cX9_go : ByteArray := prog_11_method_27_code
def yX9_go : MethodName := ⟨RX9, "go", "(IIZ)I"⟩
abbrev cX9_goBack : ByteArray := prog_11_method_28_code
def yX9_goBack : MethodName := ⟨RX9, "goBack", "()V"⟩
abbrev cX9_danceNow : ByteArray := prog_11_method_29_code
def yX9_danceNow : MethodName := ⟨RX9, "danceNow", "(IIZ)I"⟩
abbrev cX9_pairs : ByteArray := prog_11_method_30_code
def yX9_pairs : MethodName := ⟨RX9, "pairs", "()I"⟩
abbrev cX9_hold : ByteArray := prog_11_method_31_code
def yX9_hold : MethodName := ⟨RX9, "hold", "(II)I"⟩
abbrev cX9_release : ByteArray := prog_11_method_32_code
def yX9_release : MethodName := ⟨RX9, "release", "(I)I"⟩
abbrev cX9_dance : ByteArray := prog_11_method_33_code
def yX9_dance : MethodName := ⟨RX9, "dance", "(IIZ)I"⟩
abbrev cX9_goHome : ByteArray := prog_11_method_34_code
def yX9_goHome : MethodName := ⟨RX9, "goHome", "()I"⟩
abbrev cX9_append : ByteArray := prog_11_method_35_code
def yX9_append : MethodName := ⟨RX9, "append", "(I)I"⟩
abbrev cX9_clearText : ByteArray := prog_11_method_36_code
def yX9_clearText : MethodName := ⟨RX9, "clearText", "()I"⟩
abbrev cX9_takes : ByteArray := prog_11_method_37_code
def yX9_takes : MethodName := ⟨RX9, "takes", "(II)Z"⟩
abbrev cX9_readCall : ByteArray := prog_11_method_38_code
def yX9_readCall : MethodName := ⟨RX9, "readCall", "()Z"⟩
abbrev cX9_isScript : ByteArray := prog_11_method_39_code
def yX9_isScript : MethodName := ⟨RX9, "isScript", "()Z"⟩
abbrev cX9_fault : ByteArray := prog_11_method_40_code
def yX9_fault : MethodName := ⟨RX9, "fault", "()I"⟩
abbrev cX9_run : ByteArray := prog_11_method_41_code
def yX9_run : MethodName := ⟨RX9, "run", "()I"⟩
abbrev cX9_dancer : ByteArray := prog_11_method_42_code
def yX9_dancer : MethodName := ⟨RX9, "dancer", "(II)I"⟩
abbrev cX9_at : ByteArray := prog_11_method_43_code
def yX9_at : MethodName := ⟨RX9, "at", "(I)I"⟩
abbrev cX9_move : ByteArray := prog_11_method_44_code
def yX9_move : MethodName := ⟨RX9, "move", "(III)I"⟩
abbrev cX9_follow : ByteArray := prog_11_method_45_code
def yX9_follow : MethodName := ⟨RX9, "follow", "(I)V"⟩
abbrev cX9_followAll : ByteArray := prog_11_method_46_code
def yX9_followAll : MethodName := ⟨RX9, "followAll", "()V"⟩
abbrev cX9_multiple : ByteArray := prog_11_method_47_code
def yX9_multiple : MethodName := ⟨RX9, "multiple", "(II)I"⟩
abbrev cX9_back : ByteArray := prog_11_method_48_code
def yX9_back : MethodName := ⟨RX9, "back", "(II)I"⟩
abbrev cX9_order : ByteArray := prog_11_method_49_code
def yX9_order : MethodName := ⟨RX9, "order", "(I)I"⟩
abbrev cX9_odd : ByteArray := prog_11_method_50_code
def yX9_odd : MethodName := ⟨RX9, "odd", "(I)I"⟩
abbrev cX9_calledBy : ByteArray := prog_11_method_51_code
def yX9_calledBy : MethodName := ⟨RX9, "calledBy", "(I)I"⟩
abbrev cX9_callers : ByteArray := prog_11_method_52_code
def yX9_callers : MethodName := ⟨RX9, "callers", "(I)I"⟩
abbrev cX9_moved : ByteArray := prog_11_method_53_code
def yX9_moved : MethodName := ⟨RX9, "moved", "(IZ)I"⟩
abbrev cX9_ofFigure : ByteArray := prog_11_method_54_code
def yX9_ofFigure : MethodName := ⟨RX9, "ofFigure", "(II)I"⟩
abbrev cX9_figure : ByteArray := prog_11_method_55_code
def yX9_figure : MethodName := ⟨RX9, "figure", "(II)I"⟩
abbrev cX9_effect : ByteArray := prog_11_method_56_code
def yX9_effect : MethodName := ⟨RX9, "effect", "(IIZ)I"⟩
abbrev cX9_alike : ByteArray := prog_11_method_57_code
def yX9_alike : MethodName := ⟨RX9, "alike", "(II)I"⟩
abbrev cX9_commute : ByteArray := prog_11_method_58_code
def yX9_commute : MethodName := ⟨RX9, "commute", "(II)I"⟩
abbrev cX9_figuresWithMoves : ByteArray := prog_11_method_59_code
def yX9_figuresWithMoves : MethodName := ⟨RX9, "figuresWithMoves", "()I"⟩
abbrev cX9_count : ByteArray := prog_11_method_60_code
def yX9_count : MethodName := ⟨RX9, "count", "(I)I"⟩
abbrev cX9_total : ByteArray := prog_11_method_61_code
def yX9_total : MethodName := ⟨RX9, "total", "(I)I"⟩
abbrev cX9_blockedAt : ByteArray := prog_11_method_62_code
def yX9_blockedAt : MethodName := ⟨RX9, "blockedAt", "(IZ)I"⟩
abbrev cX9_begin : ByteArray := prog_11_method_63_code
def yX9_begin : MethodName := ⟨RX9, "begin", "()V"⟩
abbrev cX9_apply : ByteArray := prog_11_method_64_code
def yX9_apply : MethodName := ⟨RX9, "apply", "(I)V"⟩
abbrev cX9_isHome : ByteArray := prog_11_method_65_code
def yX9_isHome : MethodName := ⟨RX9, "isHome", "()Z"⟩
abbrev cX9_homeIn : ByteArray := prog_11_method_66_code
def yX9_homeIn : MethodName := ⟨RX9, "homeIn", "(I)I"⟩
abbrev cX9_shortest : ByteArray := prog_11_method_67_code
def yX9_shortest : MethodName := ⟨RX9, "shortest", "()I"⟩
abbrev cX9_wayHome : ByteArray := prog_11_method_68_code
def yX9_wayHome : MethodName := ⟨RX9, "wayHome", "(I)I"⟩
abbrev cX9_distance : ByteArray := prog_11_method_69_code
def yX9_distance : MethodName := ⟨RX9, "distance", "()D"⟩
def RJ9 : String := "java/lang/Math"
def RJ10 : String := "java/lang/System"
def RL : String := "DanceFiguresLaw"
end
section
theorem dX0_init_0 : decode cX0_init 0 = .ok (.aload_n 0, 1) := by decide +kernel
theorem dX0_init_1 : decode cX0_init 1 = .ok (.invokespecial 3, 3) := by decide +kernel
theorem dX0_init_4 : decode cX0_init 4 = .ok (.aload_n 0, 1) := by decide +kernel
theorem dX0_init_5 : decode cX0_init 5 = .ok (.bipush 8, 2) := by decide +kernel
theorem dX0_init_7 : decode cX0_init 7 = .ok (.newarray .int, 2) := by decide +kernel
theorem dX0_init_9 : decode cX0_init 9 = .ok (.putfield 9, 3) := by decide +kernel
theorem dX0_init_12 : decode cX0_init 12 = .ok (.aload_n 0, 1) := by decide +kernel
theorem dX0_init_13 : decode cX0_init 13 = .ok (.bipush 80, 2) := by decide +kernel
theorem dX0_init_15 : decode cX0_init 15 = .ok (.newarray .int, 2) := by decide +kernel
theorem dX0_init_17 : decode cX0_init 17 = .ok (.putfield 15, 3) := by decide +kernel
theorem dX0_init_20 : decode cX0_init 20 = .ok (.return_, 1) := by decide +kernel
theorem dX0_copyFrom_0 : decode cX0_copyFrom 0 = .ok (.aload_n 1, 1) := by decide +kernel
theorem dX0_copyFrom_1 : decode cX0_copyFrom 1 = .ok (.getfield 9, 3) := by decide +kernel
theorem dX0_copyFrom_4 : decode cX0_copyFrom 4 = .ok (.aload_n 0, 1) := by decide +kernel
theorem dX0_copyFrom_5 : decode cX0_copyFrom 5 = .ok (.getfield 9, 3) := by decide +kernel
theorem dX0_copyFrom_8 : decode cX0_copyFrom 8 = .ok (.invokestatic 18, 3) := by decide +kernel
theorem dX0_copyFrom_11 : decode cX0_copyFrom 11 = .ok (.aload_n 1, 1) := by decide +kernel
theorem dX0_copyFrom_12 : decode cX0_copyFrom 12 = .ok (.getfield 15, 3) := by decide +kernel
theorem dX0_copyFrom_15 : decode cX0_copyFrom 15 = .ok (.aload_n 0, 1) := by decide +kernel
theorem dX0_copyFrom_16 : decode cX0_copyFrom 16 = .ok (.getfield 15, 3) := by decide +kernel
theorem dX0_copyFrom_19 : decode cX0_copyFrom 19 = .ok (.invokestatic 18, 3) := by decide +kernel
theorem dX0_copyFrom_22 : decode cX0_copyFrom 22 = .ok (.return_, 1) := by decide +kernel
theorem dX0_size_0 : decode cX0_size 0 = .ok (.aload_n 0, 1) := by decide +kernel
theorem dX0_size_1 : decode cX0_size 1 = .ok (.getfield 9, 3) := by decide +kernel
theorem dX0_size_4 : decode cX0_size 4 = .ok (.iload_n 1, 1) := by decide +kernel
theorem dX0_size_5 : decode cX0_size 5 = .ok (.invokestatic 22, 3) := by decide +kernel
theorem dX0_size_8 : decode cX0_size 8 = .ok (.ireturn, 1) := by decide +kernel
theorem dX0_code_0 : decode cX0_code 0 = .ok (.aload_n 0, 1) := by decide +kernel
theorem dX0_code_1 : decode cX0_code 1 = .ok (.getfield 15, 3) := by decide +kernel
theorem dX0_code_4 : decode cX0_code 4 = .ok (.iload_n 1, 1) := by decide +kernel
theorem dX0_code_5 : decode cX0_code 5 = .ok (.bipush 10, 2) := by decide +kernel
theorem dX0_code_7 : decode cX0_code 7 = .ok (.imul, 1) := by decide +kernel
theorem dX0_code_8 : decode cX0_code 8 = .ok (.iload_n 2, 1) := by decide +kernel
theorem dX0_code_9 : decode cX0_code 9 = .ok (.iadd, 1) := by decide +kernel
theorem dX0_code_10 : decode cX0_code 10 = .ok (.invokestatic 22, 3) := by decide +kernel
theorem dX0_code_13 : decode cX0_code 13 = .ok (.ireturn, 1) := by decide +kernel
theorem dX0_put_0 : decode cX0_put 0 = .ok (.aload_n 0, 1) := by decide +kernel
theorem dX0_put_1 : decode cX0_put 1 = .ok (.iload_n 1, 1) := by decide +kernel
theorem dX0_put_2 : decode cX0_put 2 = .ok (.invokevirtual 26, 3) := by decide +kernel
theorem dX0_put_5 : decode cX0_put 5 = .ok (.istore_n 3, 1) := by decide +kernel
theorem dX0_put_6 : decode cX0_put 6 = .ok (.aload_n 0, 1) := by decide +kernel
theorem dX0_put_7 : decode cX0_put 7 = .ok (.getfield 15, 3) := by decide +kernel
theorem dX0_put_10 : decode cX0_put 10 = .ok (.iload_n 1, 1) := by decide +kernel
theorem dX0_put_11 : decode cX0_put 11 = .ok (.bipush 10, 2) := by decide +kernel
theorem dX0_put_13 : decode cX0_put 13 = .ok (.imul, 1) := by decide +kernel
theorem dX0_put_14 : decode cX0_put 14 = .ok (.iload_n 3, 1) := by decide +kernel
theorem dX0_put_15 : decode cX0_put 15 = .ok (.iadd, 1) := by decide +kernel
theorem dX0_put_16 : decode cX0_put 16 = .ok (.iload_n 2, 1) := by decide +kernel
theorem dX0_put_17 : decode cX0_put 17 = .ok (.invokestatic 30, 3) := by decide +kernel
theorem dX0_put_20 : decode cX0_put 20 = .ok (.aload_n 0, 1) := by decide +kernel
theorem dX0_put_21 : decode cX0_put 21 = .ok (.getfield 9, 3) := by decide +kernel
theorem dX0_put_24 : decode cX0_put 24 = .ok (.iload_n 1, 1) := by decide +kernel
theorem dX0_put_25 : decode cX0_put 25 = .ok (.iload_n 3, 1) := by decide +kernel
theorem dX0_put_26 : decode cX0_put 26 = .ok (.iconst 1, 1) := by decide +kernel
theorem dX0_put_27 : decode cX0_put 27 = .ok (.iadd, 1) := by decide +kernel
theorem dX0_put_28 : decode cX0_put 28 = .ok (.invokestatic 30, 3) := by decide +kernel
theorem dX0_put_31 : decode cX0_put 31 = .ok (.return_, 1) := by decide +kernel
theorem dX0_cut_0 : decode cX0_cut 0 = .ok (.aload_n 0, 1) := by decide +kernel
theorem dX0_cut_1 : decode cX0_cut 1 = .ok (.getfield 9, 3) := by decide +kernel
theorem dX0_cut_4 : decode cX0_cut 4 = .ok (.iload_n 1, 1) := by decide +kernel
theorem dX0_cut_5 : decode cX0_cut 5 = .ok (.aload_n 0, 1) := by decide +kernel
theorem dX0_cut_6 : decode cX0_cut 6 = .ok (.iload_n 1, 1) := by decide +kernel
theorem dX0_cut_7 : decode cX0_cut 7 = .ok (.invokevirtual 26, 3) := by decide +kernel
theorem dX0_cut_10 : decode cX0_cut 10 = .ok (.iconst 1, 1) := by decide +kernel
theorem dX0_cut_11 : decode cX0_cut 11 = .ok (.isub, 1) := by decide +kernel
theorem dX0_cut_12 : decode cX0_cut 12 = .ok (.invokestatic 30, 3) := by decide +kernel
theorem dX0_cut_15 : decode cX0_cut 15 = .ok (.return_, 1) := by decide +kernel
theorem dX0_usedCount_0 : decode cX0_usedCount 0 = .ok (.iconst 0, 1) := by decide +kernel
theorem dX0_usedCount_1 : decode cX0_usedCount 1 = .ok (.istore_n 1, 1) := by decide +kernel
theorem dX0_usedCount_2 : decode cX0_usedCount 2 = .ok (.iconst 0, 1) := by decide +kernel
theorem dX0_usedCount_3 : decode cX0_usedCount 3 = .ok (.istore_n 2, 1) := by decide +kernel
theorem dX0_usedCount_4 : decode cX0_usedCount 4 = .ok (.iload_n 2, 1) := by decide +kernel
theorem dX0_usedCount_5 : decode cX0_usedCount 5 = .ok (.bipush 8, 2) := by decide +kernel
theorem dX0_usedCount_7 : decode cX0_usedCount 7 = .ok (.if_icmp .ge 21, 3) := by decide +kernel
theorem dX0_usedCount_10 : decode cX0_usedCount 10 = .ok (.aload_n 0, 1) := by decide +kernel
theorem dX0_usedCount_11 : decode cX0_usedCount 11 = .ok (.getfield 9, 3) := by decide +kernel
theorem dX0_usedCount_14 : decode cX0_usedCount 14 = .ok (.iload_n 2, 1) := by decide +kernel
theorem dX0_usedCount_15 : decode cX0_usedCount 15 = .ok (.iaload, 1) := by decide +kernel
theorem dX0_usedCount_16 : decode cX0_usedCount 16 = .ok (.ifCond .le 6, 3) := by decide +kernel
theorem dX0_usedCount_19 : decode cX0_usedCount 19 = .ok (.iinc 1 1, 3) := by decide +kernel
theorem dX0_usedCount_22 : decode cX0_usedCount 22 = .ok (.iinc 2 1, 3) := by decide +kernel
theorem dX0_usedCount_25 : decode cX0_usedCount 25 = .ok (.goto (-21), 3) := by decide +kernel
theorem dX0_usedCount_28 : decode cX0_usedCount 28 = .ok (.iload_n 1, 1) := by decide +kernel
theorem dX0_usedCount_29 : decode cX0_usedCount 29 = .ok (.ireturn, 1) := by decide +kernel
theorem dX1_init_0 : decode cX1_init 0 = .ok (.aload_n 0, 1) := by decide +kernel
theorem dX1_init_1 : decode cX1_init 1 = .ok (.invokespecial 3, 3) := by decide +kernel
theorem dX1_init_4 : decode cX1_init 4 = .ok (.aload_n 0, 1) := by decide +kernel
theorem dX1_init_5 : decode cX1_init 5 = .ok (.iconst 5, 1) := by decide +kernel
theorem dX1_init_6 : decode cX1_init 6 = .ok (.anewarray 9, 3) := by decide +kernel
theorem dX1_init_9 : decode cX1_init 9 = .ok (.putfield 11, 3) := by decide +kernel
theorem dX1_init_12 : decode cX1_init 12 = .ok (.aload_n 0, 1) := by decide +kernel
theorem dX1_init_13 : decode cX1_init 13 = .ok (.iconst 0, 1) := by decide +kernel
theorem dX1_init_14 : decode cX1_init 14 = .ok (.putfield 17, 3) := by decide +kernel
theorem dX1_init_17 : decode cX1_init 17 = .ok (.aload_n 0, 1) := by decide +kernel
theorem dX1_init_18 : decode cX1_init 18 = .ok (.iconst 0, 1) := by decide +kernel
theorem dX1_init_19 : decode cX1_init 19 = .ok (.putfield 21, 3) := by decide +kernel
theorem dX1_init_22 : decode cX1_init 22 = .ok (.iconst 0, 1) := by decide +kernel
theorem dX1_init_23 : decode cX1_init 23 = .ok (.istore_n 1, 1) := by decide +kernel
theorem dX1_init_24 : decode cX1_init 24 = .ok (.iload_n 1, 1) := by decide +kernel
theorem dX1_init_25 : decode cX1_init 25 = .ok (.iconst 5, 1) := by decide +kernel
theorem dX1_init_26 : decode cX1_init 26 = .ok (.if_icmp .ge 22, 3) := by decide +kernel
theorem dX1_init_29 : decode cX1_init 29 = .ok (.aload_n 0, 1) := by decide +kernel
theorem dX1_init_30 : decode cX1_init 30 = .ok (.getfield 11, 3) := by decide +kernel
theorem dX1_init_33 : decode cX1_init 33 = .ok (.iload_n 1, 1) := by decide +kernel
theorem dX1_init_34 : decode cX1_init 34 = .ok (.new 9, 3) := by decide +kernel
theorem dX1_init_37 : decode cX1_init 37 = .ok (.dup, 1) := by decide +kernel
theorem dX1_init_38 : decode cX1_init 38 = .ok (.invokespecial 24, 3) := by decide +kernel
theorem dX1_init_41 : decode cX1_init 41 = .ok (.aastore, 1) := by decide +kernel
theorem dX1_init_42 : decode cX1_init 42 = .ok (.iinc 1 1, 3) := by decide +kernel
theorem dX1_init_45 : decode cX1_init 45 = .ok (.goto (-21), 3) := by decide +kernel
theorem dX1_init_48 : decode cX1_init 48 = .ok (.return_, 1) := by decide +kernel
theorem dX1_size_0 : decode cX1_size 0 = .ok (.aload_n 0, 1) := by decide +kernel
theorem dX1_size_1 : decode cX1_size 1 = .ok (.getfield 17, 3) := by decide +kernel
theorem dX1_size_4 : decode cX1_size 4 = .ok (.ireturn, 1) := by decide +kernel
theorem dX1_keep_0 : decode cX1_keep 0 = .ok (.aload_n 0, 1) := by decide +kernel
theorem dX1_keep_1 : decode cX1_keep 1 = .ok (.getfield 21, 3) := by decide +kernel
theorem dX1_keep_4 : decode cX1_keep 4 = .ok (.ifCond .lt 24, 3) := by decide +kernel
theorem dX1_keep_7 : decode cX1_keep 7 = .ok (.aload_n 0, 1) := by decide +kernel
theorem dX1_keep_8 : decode cX1_keep 8 = .ok (.getfield 21, 3) := by decide +kernel
theorem dX1_keep_11 : decode cX1_keep 11 = .ok (.iconst 5, 1) := by decide +kernel
theorem dX1_keep_12 : decode cX1_keep 12 = .ok (.if_icmp .ge 16, 3) := by decide +kernel
theorem dX1_keep_15 : decode cX1_keep 15 = .ok (.aload_n 0, 1) := by decide +kernel
theorem dX1_keep_16 : decode cX1_keep 16 = .ok (.getfield 11, 3) := by decide +kernel
theorem dX1_keep_19 : decode cX1_keep 19 = .ok (.aload_n 0, 1) := by decide +kernel
theorem dX1_keep_20 : decode cX1_keep 20 = .ok (.getfield 21, 3) := by decide +kernel
theorem dX1_keep_23 : decode cX1_keep 23 = .ok (.aaload, 1) := by decide +kernel
theorem dX1_keep_24 : decode cX1_keep 24 = .ok (.aload_n 1, 1) := by decide +kernel
theorem dX1_keep_25 : decode cX1_keep 25 = .ok (.invokevirtual 25, 3) := by decide +kernel
theorem dX1_keep_28 : decode cX1_keep 28 = .ok (.aload_n 0, 1) := by decide +kernel
theorem dX1_keep_29 : decode cX1_keep 29 = .ok (.aload_n 0, 1) := by decide +kernel
theorem dX1_keep_30 : decode cX1_keep 30 = .ok (.getfield 21, 3) := by decide +kernel
theorem dX1_keep_33 : decode cX1_keep 33 = .ok (.iconst 1, 1) := by decide +kernel
theorem dX1_keep_34 : decode cX1_keep 34 = .ok (.iadd, 1) := by decide +kernel
theorem dX1_keep_35 : decode cX1_keep 35 = .ok (.iconst 5, 1) := by decide +kernel
theorem dX1_keep_36 : decode cX1_keep 36 = .ok (.irem, 1) := by decide +kernel
theorem dX1_keep_37 : decode cX1_keep 37 = .ok (.putfield 21, 3) := by decide +kernel
theorem dX1_keep_40 : decode cX1_keep 40 = .ok (.aload_n 0, 1) := by decide +kernel
theorem dX1_keep_41 : decode cX1_keep 41 = .ok (.aload_n 0, 1) := by decide +kernel
theorem dX1_keep_42 : decode cX1_keep 42 = .ok (.getfield 17, 3) := by decide +kernel
theorem dX1_keep_45 : decode cX1_keep 45 = .ok (.iconst 1, 1) := by decide +kernel
theorem dX1_keep_46 : decode cX1_keep 46 = .ok (.iadd, 1) := by decide +kernel
theorem dX1_keep_47 : decode cX1_keep 47 = .ok (.iconst 5, 1) := by decide +kernel
theorem dX1_keep_48 : decode cX1_keep 48 = .ok (.invokestatic 29, 3) := by decide +kernel
theorem dX1_keep_51 : decode cX1_keep 51 = .ok (.putfield 17, 3) := by decide +kernel
theorem dX1_keep_54 : decode cX1_keep 54 = .ok (.return_, 1) := by decide +kernel
theorem dX1_takeLatest_0 : decode cX1_takeLatest 0 = .ok (.aload_n 0, 1) := by decide +kernel
theorem dX1_takeLatest_1 : decode cX1_takeLatest 1 = .ok (.getfield 21, 3) := by decide +kernel
theorem dX1_takeLatest_4 : decode cX1_takeLatest 4 = .ok (.iconst 5, 1) := by decide +kernel
theorem dX1_takeLatest_5 : decode cX1_takeLatest 5 = .ok (.iadd, 1) := by decide +kernel
theorem dX1_takeLatest_6 : decode cX1_takeLatest 6 = .ok (.iconst 1, 1) := by decide +kernel
theorem dX1_takeLatest_7 : decode cX1_takeLatest 7 = .ok (.isub, 1) := by decide +kernel
theorem dX1_takeLatest_8 : decode cX1_takeLatest 8 = .ok (.iconst 5, 1) := by decide +kernel
theorem dX1_takeLatest_9 : decode cX1_takeLatest 9 = .ok (.irem, 1) := by decide +kernel
theorem dX1_takeLatest_10 : decode cX1_takeLatest 10 = .ok (.istore_n 2, 1) := by decide +kernel
theorem dX1_takeLatest_11 : decode cX1_takeLatest 11 = .ok (.aload_n 0, 1) := by decide +kernel
theorem dX1_takeLatest_12 : decode cX1_takeLatest 12 = .ok (.getfield 17, 3) := by decide +kernel
theorem dX1_takeLatest_15 : decode cX1_takeLatest 15 = .ok (.ifCond .eq 12, 3) := by decide +kernel
theorem dX1_takeLatest_18 : decode cX1_takeLatest 18 = .ok (.iload_n 2, 1) := by decide +kernel
theorem dX1_takeLatest_19 : decode cX1_takeLatest 19 = .ok (.ifCond .lt 8, 3) := by decide +kernel
theorem dX1_takeLatest_22 : decode cX1_takeLatest 22 = .ok (.iload_n 2, 1) := by decide +kernel
theorem dX1_takeLatest_23 : decode cX1_takeLatest 23 = .ok (.iconst 5, 1) := by decide +kernel
theorem dX1_takeLatest_24 : decode cX1_takeLatest 24 = .ok (.if_icmp .lt 5, 3) := by decide +kernel
theorem dX1_takeLatest_27 : decode cX1_takeLatest 27 = .ok (.iconst 0, 1) := by decide +kernel
theorem dX1_takeLatest_28 : decode cX1_takeLatest 28 = .ok (.ireturn, 1) := by decide +kernel
theorem dX1_takeLatest_29 : decode cX1_takeLatest 29 = .ok (.aload_n 1, 1) := by decide +kernel
theorem dX1_takeLatest_30 : decode cX1_takeLatest 30 = .ok (.aload_n 0, 1) := by decide +kernel
theorem dX1_takeLatest_31 : decode cX1_takeLatest 31 = .ok (.getfield 11, 3) := by decide +kernel
theorem dX1_takeLatest_34 : decode cX1_takeLatest 34 = .ok (.iload_n 2, 1) := by decide +kernel
theorem dX1_takeLatest_35 : decode cX1_takeLatest 35 = .ok (.aaload, 1) := by decide +kernel
theorem dX1_takeLatest_36 : decode cX1_takeLatest 36 = .ok (.invokevirtual 25, 3) := by decide +kernel
theorem dX1_takeLatest_39 : decode cX1_takeLatest 39 = .ok (.aload_n 0, 1) := by decide +kernel
theorem dX1_takeLatest_40 : decode cX1_takeLatest 40 = .ok (.iload_n 2, 1) := by decide +kernel
theorem dX1_takeLatest_41 : decode cX1_takeLatest 41 = .ok (.putfield 21, 3) := by decide +kernel
theorem dX1_takeLatest_44 : decode cX1_takeLatest 44 = .ok (.aload_n 0, 1) := by decide +kernel
theorem dX1_takeLatest_45 : decode cX1_takeLatest 45 = .ok (.dup, 1) := by decide +kernel
theorem dX1_takeLatest_46 : decode cX1_takeLatest 46 = .ok (.getfield 17, 3) := by decide +kernel
theorem dX1_takeLatest_49 : decode cX1_takeLatest 49 = .ok (.iconst 1, 1) := by decide +kernel
theorem dX1_takeLatest_50 : decode cX1_takeLatest 50 = .ok (.isub, 1) := by decide +kernel
theorem dX1_takeLatest_51 : decode cX1_takeLatest 51 = .ok (.putfield 17, 3) := by decide +kernel
theorem dX1_takeLatest_54 : decode cX1_takeLatest 54 = .ok (.iconst 1, 1) := by decide +kernel
theorem dX1_takeLatest_55 : decode cX1_takeLatest 55 = .ok (.ireturn, 1) := by decide +kernel
theorem dX2_init_0 : decode cX2_init 0 = .ok (.aload_n 0, 1) := by decide +kernel
theorem dX2_init_1 : decode cX2_init 1 = .ok (.invokespecial 3, 3) := by decide +kernel
theorem dX2_init_4 : decode cX2_init 4 = .ok (.aload_n 0, 1) := by decide +kernel
theorem dX2_init_5 : decode cX2_init 5 = .ok (.bipush 10, 2) := by decide +kernel
theorem dX2_init_7 : decode cX2_init 7 = .ok (.newarray .int, 2) := by decide +kernel
theorem dX2_init_9 : decode cX2_init 9 = .ok (.putfield 9, 3) := by decide +kernel
theorem dX2_init_12 : decode cX2_init 12 = .ok (.aload_n 0, 1) := by decide +kernel
theorem dX2_init_13 : decode cX2_init 13 = .ok (.iconst 0, 1) := by decide +kernel
theorem dX2_init_14 : decode cX2_init 14 = .ok (.putfield 15, 3) := by decide +kernel
theorem dX2_init_17 : decode cX2_init 17 = .ok (.iconst 0, 1) := by decide +kernel
theorem dX2_init_18 : decode cX2_init 18 = .ok (.istore_n 1, 1) := by decide +kernel
theorem dX2_init_19 : decode cX2_init 19 = .ok (.iload_n 1, 1) := by decide +kernel
theorem dX2_init_20 : decode cX2_init 20 = .ok (.bipush 10, 2) := by decide +kernel
theorem dX2_init_22 : decode cX2_init 22 = .ok (.if_icmp .ge 17, 3) := by decide +kernel
theorem dX2_init_25 : decode cX2_init 25 = .ok (.aload_n 0, 1) := by decide +kernel
theorem dX2_init_26 : decode cX2_init 26 = .ok (.getfield 9, 3) := by decide +kernel
theorem dX2_init_29 : decode cX2_init 29 = .ok (.iload_n 1, 1) := by decide +kernel
theorem dX2_init_30 : decode cX2_init 30 = .ok (.bipush (-5), 2) := by decide +kernel
theorem dX2_init_32 : decode cX2_init 32 = .ok (.iastore, 1) := by decide +kernel
theorem dX2_init_33 : decode cX2_init 33 = .ok (.iinc 1 1, 3) := by decide +kernel
theorem dX2_init_36 : decode cX2_init 36 = .ok (.goto (-17), 3) := by decide +kernel
theorem dX2_init_39 : decode cX2_init 39 = .ok (.return_, 1) := by decide +kernel
theorem dX2_copyFrom_0 : decode cX2_copyFrom 0 = .ok (.aload_n 1, 1) := by decide +kernel
theorem dX2_copyFrom_1 : decode cX2_copyFrom 1 = .ok (.getfield 9, 3) := by decide +kernel
theorem dX2_copyFrom_4 : decode cX2_copyFrom 4 = .ok (.aload_n 0, 1) := by decide +kernel
theorem dX2_copyFrom_5 : decode cX2_copyFrom 5 = .ok (.getfield 9, 3) := by decide +kernel
theorem dX2_copyFrom_8 : decode cX2_copyFrom 8 = .ok (.invokestatic 19, 3) := by decide +kernel
theorem dX2_copyFrom_11 : decode cX2_copyFrom 11 = .ok (.aload_n 0, 1) := by decide +kernel
theorem dX2_copyFrom_12 : decode cX2_copyFrom 12 = .ok (.aload_n 1, 1) := by decide +kernel
theorem dX2_copyFrom_13 : decode cX2_copyFrom 13 = .ok (.getfield 15, 3) := by decide +kernel
theorem dX2_copyFrom_16 : decode cX2_copyFrom 16 = .ok (.putfield 15, 3) := by decide +kernel
theorem dX2_copyFrom_19 : decode cX2_copyFrom 19 = .ok (.return_, 1) := by decide +kernel
theorem dX2_pairs_0 : decode cX2_pairs 0 = .ok (.aload_n 0, 1) := by decide +kernel
theorem dX2_pairs_1 : decode cX2_pairs 1 = .ok (.getfield 15, 3) := by decide +kernel
theorem dX2_pairs_4 : decode cX2_pairs 4 = .ok (.ireturn, 1) := by decide +kernel
theorem dX2_partner_0 : decode cX2_partner 0 = .ok (.aload_n 0, 1) := by decide +kernel
theorem dX2_partner_1 : decode cX2_partner 1 = .ok (.getfield 9, 3) := by decide +kernel
theorem dX2_partner_4 : decode cX2_partner 4 = .ok (.iload_n 1, 1) := by decide +kernel
theorem dX2_partner_5 : decode cX2_partner 5 = .ok (.invokestatic 23, 3) := by decide +kernel
theorem dX2_partner_8 : decode cX2_partner 8 = .ok (.ireturn, 1) := by decide +kernel
theorem dX2_join_0 : decode cX2_join 0 = .ok (.aload_n 0, 1) := by decide +kernel
theorem dX2_join_1 : decode cX2_join 1 = .ok (.getfield 9, 3) := by decide +kernel
theorem dX2_join_4 : decode cX2_join 4 = .ok (.iload_n 1, 1) := by decide +kernel
theorem dX2_join_5 : decode cX2_join 5 = .ok (.iload_n 2, 1) := by decide +kernel
theorem dX2_join_6 : decode cX2_join 6 = .ok (.invokestatic 27, 3) := by decide +kernel
theorem dX2_join_9 : decode cX2_join 9 = .ok (.aload_n 0, 1) := by decide +kernel
theorem dX2_join_10 : decode cX2_join 10 = .ok (.getfield 9, 3) := by decide +kernel
theorem dX2_join_13 : decode cX2_join 13 = .ok (.iload_n 2, 1) := by decide +kernel
theorem dX2_join_14 : decode cX2_join 14 = .ok (.iload_n 1, 1) := by decide +kernel
theorem dX2_join_15 : decode cX2_join 15 = .ok (.invokestatic 27, 3) := by decide +kernel
theorem dX2_join_18 : decode cX2_join 18 = .ok (.aload_n 0, 1) := by decide +kernel
theorem dX2_join_19 : decode cX2_join 19 = .ok (.dup, 1) := by decide +kernel
theorem dX2_join_20 : decode cX2_join 20 = .ok (.getfield 15, 3) := by decide +kernel
theorem dX2_join_23 : decode cX2_join 23 = .ok (.iconst 1, 1) := by decide +kernel
theorem dX2_join_24 : decode cX2_join 24 = .ok (.iadd, 1) := by decide +kernel
theorem dX2_join_25 : decode cX2_join 25 = .ok (.putfield 15, 3) := by decide +kernel
theorem dX2_join_28 : decode cX2_join 28 = .ok (.return_, 1) := by decide +kernel
theorem dX2_part_0 : decode cX2_part 0 = .ok (.aload_n 0, 1) := by decide +kernel
theorem dX2_part_1 : decode cX2_part 1 = .ok (.getfield 9, 3) := by decide +kernel
theorem dX2_part_4 : decode cX2_part 4 = .ok (.iload_n 1, 1) := by decide +kernel
theorem dX2_part_5 : decode cX2_part 5 = .ok (.bipush (-5), 2) := by decide +kernel
theorem dX2_part_7 : decode cX2_part 7 = .ok (.invokestatic 27, 3) := by decide +kernel
theorem dX2_part_10 : decode cX2_part 10 = .ok (.aload_n 0, 1) := by decide +kernel
theorem dX2_part_11 : decode cX2_part 11 = .ok (.getfield 9, 3) := by decide +kernel
theorem dX2_part_14 : decode cX2_part 14 = .ok (.iload_n 2, 1) := by decide +kernel
theorem dX2_part_15 : decode cX2_part 15 = .ok (.bipush (-5), 2) := by decide +kernel
theorem dX2_part_17 : decode cX2_part 17 = .ok (.invokestatic 27, 3) := by decide +kernel
theorem dX2_part_20 : decode cX2_part 20 = .ok (.aload_n 0, 1) := by decide +kernel
theorem dX2_part_21 : decode cX2_part 21 = .ok (.dup, 1) := by decide +kernel
theorem dX2_part_22 : decode cX2_part 22 = .ok (.getfield 15, 3) := by decide +kernel
theorem dX2_part_25 : decode cX2_part 25 = .ok (.iconst 1, 1) := by decide +kernel
theorem dX2_part_26 : decode cX2_part 26 = .ok (.isub, 1) := by decide +kernel
theorem dX2_part_27 : decode cX2_part 27 = .ok (.putfield 15, 3) := by decide +kernel
theorem dX2_part_30 : decode cX2_part 30 = .ok (.return_, 1) := by decide +kernel
theorem dX2_areKept_0 : decode cX2_areKept 0 = .ok (.aload_n 0, 1) := by decide +kernel
theorem dX2_areKept_1 : decode cX2_areKept 1 = .ok (.getfield 15, 3) := by decide +kernel
theorem dX2_areKept_4 : decode cX2_areKept 4 = .ok (.ifCond .ne 5, 3) := by decide +kernel
theorem dX2_areKept_7 : decode cX2_areKept 7 = .ok (.iconst 1, 1) := by decide +kernel
theorem dX2_areKept_8 : decode cX2_areKept 8 = .ok (.ireturn, 1) := by decide +kernel
theorem dX2_areKept_9 : decode cX2_areKept 9 = .ok (.iconst 0, 1) := by decide +kernel
theorem dX2_areKept_10 : decode cX2_areKept 10 = .ok (.istore_n 2, 1) := by decide +kernel
theorem dX2_areKept_11 : decode cX2_areKept 11 = .ok (.iload_n 2, 1) := by decide +kernel
theorem dX2_areKept_12 : decode cX2_areKept 12 = .ok (.bipush 10, 2) := by decide +kernel
theorem dX2_areKept_14 : decode cX2_areKept 14 = .ok (.if_icmp .ge 20, 3) := by decide +kernel
theorem dX2_areKept_17 : decode cX2_areKept 17 = .ok (.aload_n 0, 1) := by decide +kernel
theorem dX2_areKept_18 : decode cX2_areKept 18 = .ok (.aload_n 1, 1) := by decide +kernel
theorem dX2_areKept_19 : decode cX2_areKept 19 = .ok (.iload_n 2, 1) := by decide +kernel
theorem dX2_areKept_20 : decode cX2_areKept 20 = .ok (.invokevirtual 31, 3) := by decide +kernel
theorem dX2_areKept_23 : decode cX2_areKept 23 = .ok (.ifCond .ne 5, 3) := by decide +kernel
theorem dX2_areKept_26 : decode cX2_areKept 26 = .ok (.iconst 0, 1) := by decide +kernel
theorem dX2_areKept_27 : decode cX2_areKept 27 = .ok (.ireturn, 1) := by decide +kernel
theorem dX2_areKept_28 : decode cX2_areKept 28 = .ok (.iinc 2 1, 3) := by decide +kernel
theorem dX2_areKept_31 : decode cX2_areKept 31 = .ok (.goto (-20), 3) := by decide +kernel
theorem dX2_areKept_34 : decode cX2_areKept 34 = .ok (.iconst 1, 1) := by decide +kernel
theorem dX2_areKept_35 : decode cX2_areKept 35 = .ok (.ireturn, 1) := by decide +kernel
theorem dX2_isKeptAt_0 : decode cX2_isKeptAt 0 = .ok (.aload_n 0, 1) := by decide +kernel
theorem dX2_isKeptAt_1 : decode cX2_isKeptAt 1 = .ok (.aload_n 1, 1) := by decide +kernel
theorem dX2_isKeptAt_2 : decode cX2_isKeptAt 2 = .ok (.iload_n 2, 1) := by decide +kernel
theorem dX2_isKeptAt_3 : decode cX2_isKeptAt 3 = .ok (.invokevirtual 35, 3) := by decide +kernel
theorem dX2_isKeptAt_6 : decode cX2_isKeptAt 6 = .ok (.invokevirtual 41, 3) := by decide +kernel
theorem dX2_isKeptAt_9 : decode cX2_isKeptAt 9 = .ok (.istore_n 3, 1) := by decide +kernel
theorem dX2_isKeptAt_10 : decode cX2_isKeptAt 10 = .ok (.iload_n 3, 1) := by decide +kernel
theorem dX2_isKeptAt_11 : decode cX2_isKeptAt 11 = .ok (.bipush (-5), 2) := by decide +kernel
theorem dX2_isKeptAt_13 : decode cX2_isKeptAt 13 = .ok (.if_icmp .eq 34, 3) := by decide +kernel
theorem dX2_isKeptAt_16 : decode cX2_isKeptAt 16 = .ok (.iload_n 3, 1) := by decide +kernel
theorem dX2_isKeptAt_17 : decode cX2_isKeptAt 17 = .ok (.aload_n 1, 1) := by decide +kernel
theorem dX2_isKeptAt_18 : decode cX2_isKeptAt 18 = .ok (.iload_n 2, 1) := by decide +kernel
theorem dX2_isKeptAt_19 : decode cX2_isKeptAt 19 = .ok (.iconst 1, 1) := by decide +kernel
theorem dX2_isKeptAt_20 : decode cX2_isKeptAt 20 = .ok (.iadd, 1) := by decide +kernel
theorem dX2_isKeptAt_21 : decode cX2_isKeptAt 21 = .ok (.bipush 10, 2) := by decide +kernel
theorem dX2_isKeptAt_23 : decode cX2_isKeptAt 23 = .ok (.irem, 1) := by decide +kernel
theorem dX2_isKeptAt_24 : decode cX2_isKeptAt 24 = .ok (.invokevirtual 35, 3) := by decide +kernel
theorem dX2_isKeptAt_27 : decode cX2_isKeptAt 27 = .ok (.if_icmp .eq 20, 3) := by decide +kernel
theorem dX2_isKeptAt_30 : decode cX2_isKeptAt 30 = .ok (.iload_n 3, 1) := by decide +kernel
theorem dX2_isKeptAt_31 : decode cX2_isKeptAt 31 = .ok (.aload_n 1, 1) := by decide +kernel
theorem dX2_isKeptAt_32 : decode cX2_isKeptAt 32 = .ok (.iload_n 2, 1) := by decide +kernel
theorem dX2_isKeptAt_33 : decode cX2_isKeptAt 33 = .ok (.bipush 10, 2) := by decide +kernel
theorem dX2_isKeptAt_35 : decode cX2_isKeptAt 35 = .ok (.iadd, 1) := by decide +kernel
theorem dX2_isKeptAt_36 : decode cX2_isKeptAt 36 = .ok (.iconst 1, 1) := by decide +kernel
theorem dX2_isKeptAt_37 : decode cX2_isKeptAt 37 = .ok (.isub, 1) := by decide +kernel
theorem dX2_isKeptAt_38 : decode cX2_isKeptAt 38 = .ok (.bipush 10, 2) := by decide +kernel
theorem dX2_isKeptAt_40 : decode cX2_isKeptAt 40 = .ok (.irem, 1) := by decide +kernel
theorem dX2_isKeptAt_41 : decode cX2_isKeptAt 41 = .ok (.invokevirtual 35, 3) := by decide +kernel
theorem dX2_isKeptAt_44 : decode cX2_isKeptAt 44 = .ok (.if_icmp .ne 7, 3) := by decide +kernel
theorem dX2_isKeptAt_47 : decode cX2_isKeptAt 47 = .ok (.iconst 1, 1) := by decide +kernel
theorem dX2_isKeptAt_48 : decode cX2_isKeptAt 48 = .ok (.goto 4, 3) := by decide +kernel
theorem dX2_isKeptAt_51 : decode cX2_isKeptAt 51 = .ok (.iconst 0, 1) := by decide +kernel
theorem dX2_isKeptAt_52 : decode cX2_isKeptAt 52 = .ok (.ireturn, 1) := by decide +kernel
theorem dX2_partNotNeighbors_0 : decode cX2_partNotNeighbors 0 = .ok (.iconst 0, 1) := by decide +kernel
theorem dX2_partNotNeighbors_1 : decode cX2_partNotNeighbors 1 = .ok (.istore_n 2, 1) := by decide +kernel
theorem dX2_partNotNeighbors_2 : decode cX2_partNotNeighbors 2 = .ok (.iconst 0, 1) := by decide +kernel
theorem dX2_partNotNeighbors_3 : decode cX2_partNotNeighbors 3 = .ok (.istore_n 3, 1) := by decide +kernel
theorem dX2_partNotNeighbors_4 : decode cX2_partNotNeighbors 4 = .ok (.iload_n 3, 1) := by decide +kernel
theorem dX2_partNotNeighbors_5 : decode cX2_partNotNeighbors 5 = .ok (.bipush 10, 2) := by decide +kernel
theorem dX2_partNotNeighbors_7 : decode cX2_partNotNeighbors 7 = .ok (.if_icmp .ge 40, 3) := by decide +kernel
theorem dX2_partNotNeighbors_10 : decode cX2_partNotNeighbors 10 = .ok (.aload_n 0, 1) := by decide +kernel
theorem dX2_partNotNeighbors_11 : decode cX2_partNotNeighbors 11 = .ok (.aload_n 1, 1) := by decide +kernel
theorem dX2_partNotNeighbors_12 : decode cX2_partNotNeighbors 12 = .ok (.iload_n 3, 1) := by decide +kernel
theorem dX2_partNotNeighbors_13 : decode cX2_partNotNeighbors 13 = .ok (.invokevirtual 31, 3) := by decide +kernel
theorem dX2_partNotNeighbors_16 : decode cX2_partNotNeighbors 16 = .ok (.ifCond .ne 25, 3) := by decide +kernel
theorem dX2_partNotNeighbors_19 : decode cX2_partNotNeighbors 19 = .ok (.aload_n 1, 1) := by decide +kernel
theorem dX2_partNotNeighbors_20 : decode cX2_partNotNeighbors 20 = .ok (.iload_n 3, 1) := by decide +kernel
theorem dX2_partNotNeighbors_21 : decode cX2_partNotNeighbors 21 = .ok (.invokevirtual 35, 3) := by decide +kernel
theorem dX2_partNotNeighbors_24 : decode cX2_partNotNeighbors 24 = .ok (.istore 4, 2) := by decide +kernel
theorem dX2_partNotNeighbors_26 : decode cX2_partNotNeighbors 26 = .ok (.aload_n 0, 1) := by decide +kernel
theorem dX2_partNotNeighbors_27 : decode cX2_partNotNeighbors 27 = .ok (.iload 4, 2) := by decide +kernel
theorem dX2_partNotNeighbors_29 : decode cX2_partNotNeighbors 29 = .ok (.aload_n 0, 1) := by decide +kernel
theorem dX2_partNotNeighbors_30 : decode cX2_partNotNeighbors 30 = .ok (.iload 4, 2) := by decide +kernel
theorem dX2_partNotNeighbors_32 : decode cX2_partNotNeighbors 32 = .ok (.invokevirtual 41, 3) := by decide +kernel
theorem dX2_partNotNeighbors_35 : decode cX2_partNotNeighbors 35 = .ok (.invokevirtual 44, 3) := by decide +kernel
theorem dX2_partNotNeighbors_38 : decode cX2_partNotNeighbors 38 = .ok (.iinc 2 1, 3) := by decide +kernel
theorem dX2_partNotNeighbors_41 : decode cX2_partNotNeighbors 41 = .ok (.iinc 3 1, 3) := by decide +kernel
theorem dX2_partNotNeighbors_44 : decode cX2_partNotNeighbors 44 = .ok (.goto (-40), 3) := by decide +kernel
theorem dX2_partNotNeighbors_47 : decode cX2_partNotNeighbors 47 = .ok (.iload_n 2, 1) := by decide +kernel
theorem dX2_partNotNeighbors_48 : decode cX2_partNotNeighbors 48 = .ok (.ireturn, 1) := by decide +kernel
theorem dX3_init_0 : decode cX3_init 0 = .ok (.aload_n 0, 1) := by decide +kernel
theorem dX3_init_1 : decode cX3_init 1 = .ok (.invokespecial 3, 3) := by decide +kernel
theorem dX3_init_4 : decode cX3_init 4 = .ok (.aload_n 0, 1) := by decide +kernel
theorem dX3_init_5 : decode cX3_init 5 = .ok (.bipush 8, 2) := by decide +kernel
theorem dX3_init_7 : decode cX3_init 7 = .ok (.newarray .int, 2) := by decide +kernel
theorem dX3_init_9 : decode cX3_init 9 = .ok (.putfield 9, 3) := by decide +kernel
theorem dX3_init_12 : decode cX3_init 12 = .ok (.aload_n 0, 1) := by decide +kernel
theorem dX3_init_13 : decode cX3_init 13 = .ok (.sipush 960, 3) := by decide +kernel
theorem dX3_init_16 : decode cX3_init 16 = .ok (.newarray .int, 2) := by decide +kernel
theorem dX3_init_18 : decode cX3_init 18 = .ok (.putfield 15, 3) := by decide +kernel
theorem dX3_init_21 : decode cX3_init 21 = .ok (.aload_n 0, 1) := by decide +kernel
theorem dX3_init_22 : decode cX3_init 22 = .ok (.bipush 8, 2) := by decide +kernel
theorem dX3_init_24 : decode cX3_init 24 = .ok (.newarray .int, 2) := by decide +kernel
theorem dX3_init_26 : decode cX3_init 26 = .ok (.putfield 18, 3) := by decide +kernel
theorem dX3_init_29 : decode cX3_init 29 = .ok (.aload_n 0, 1) := by decide +kernel
theorem dX3_init_30 : decode cX3_init 30 = .ok (.bipush 8, 2) := by decide +kernel
theorem dX3_init_32 : decode cX3_init 32 = .ok (.newarray .int, 2) := by decide +kernel
theorem dX3_init_34 : decode cX3_init 34 = .ok (.putfield 21, 3) := by decide +kernel
theorem dX3_init_37 : decode cX3_init 37 = .ok (.aload_n 0, 1) := by decide +kernel
theorem dX3_init_38 : decode cX3_init 38 = .ok (.bipush 8, 2) := by decide +kernel
theorem dX3_init_40 : decode cX3_init 40 = .ok (.anewarray 24, 3) := by decide +kernel
theorem dX3_init_43 : decode cX3_init 43 = .ok (.putfield 26, 3) := by decide +kernel
theorem dX3_init_46 : decode cX3_init 46 = .ok (.aload_n 0, 1) := by decide +kernel
theorem dX3_init_47 : decode cX3_init 47 = .ok (.new 24, 3) := by decide +kernel
theorem dX3_init_50 : decode cX3_init 50 = .ok (.dup, 1) := by decide +kernel
theorem dX3_init_51 : decode cX3_init 51 = .ok (.invokespecial 30, 3) := by decide +kernel
theorem dX3_init_54 : decode cX3_init 54 = .ok (.putfield 31, 3) := by decide +kernel
theorem dX3_init_57 : decode cX3_init 57 = .ok (.iconst 0, 1) := by decide +kernel
theorem dX3_init_58 : decode cX3_init 58 = .ok (.istore_n 1, 1) := by decide +kernel
theorem dX3_init_59 : decode cX3_init 59 = .ok (.iload_n 1, 1) := by decide +kernel
theorem dX3_init_60 : decode cX3_init 60 = .ok (.bipush 8, 2) := by decide +kernel
theorem dX3_init_62 : decode cX3_init 62 = .ok (.if_icmp .ge 22, 3) := by decide +kernel
theorem dX3_init_65 : decode cX3_init 65 = .ok (.aload_n 0, 1) := by decide +kernel
theorem dX3_init_66 : decode cX3_init 66 = .ok (.getfield 26, 3) := by decide +kernel
theorem dX3_init_69 : decode cX3_init 69 = .ok (.iload_n 1, 1) := by decide +kernel
theorem dX3_init_70 : decode cX3_init 70 = .ok (.new 24, 3) := by decide +kernel
theorem dX3_init_73 : decode cX3_init 73 = .ok (.dup, 1) := by decide +kernel
theorem dX3_init_74 : decode cX3_init 74 = .ok (.invokespecial 30, 3) := by decide +kernel
theorem dX3_init_77 : decode cX3_init 77 = .ok (.aastore, 1) := by decide +kernel
theorem dX3_init_78 : decode cX3_init 78 = .ok (.iinc 1 1, 3) := by decide +kernel
theorem dX3_init_81 : decode cX3_init 81 = .ok (.goto (-22), 3) := by decide +kernel
theorem dX3_init_84 : decode cX3_init 84 = .ok (.return_, 1) := by decide +kernel
theorem dX3_workOut_0 : decode cX3_workOut 0 = .ok (.iconst 0, 1) := by decide +kernel
theorem dX3_workOut_1 : decode cX3_workOut 1 = .ok (.istore_n 2, 1) := by decide +kernel
theorem dX3_workOut_2 : decode cX3_workOut 2 = .ok (.iload_n 2, 1) := by decide +kernel
theorem dX3_workOut_3 : decode cX3_workOut 3 = .ok (.bipush 8, 2) := by decide +kernel
theorem dX3_workOut_5 : decode cX3_workOut 5 = .ok (.if_icmp .ge 65, 3) := by decide +kernel
theorem dX3_workOut_8 : decode cX3_workOut 8 = .ok (.aload_n 0, 1) := by decide +kernel
theorem dX3_workOut_9 : decode cX3_workOut 9 = .ok (.getfield 9, 3) := by decide +kernel
theorem dX3_workOut_12 : decode cX3_workOut 12 = .ok (.iload_n 2, 1) := by decide +kernel
theorem dX3_workOut_13 : decode cX3_workOut 13 = .ok (.iconst 0, 1) := by decide +kernel
theorem dX3_workOut_14 : decode cX3_workOut 14 = .ok (.iastore, 1) := by decide +kernel
theorem dX3_workOut_15 : decode cX3_workOut 15 = .ok (.aload_n 0, 1) := by decide +kernel
theorem dX3_workOut_16 : decode cX3_workOut 16 = .ok (.getfield 18, 3) := by decide +kernel
theorem dX3_workOut_19 : decode cX3_workOut 19 = .ok (.iload_n 2, 1) := by decide +kernel
theorem dX3_workOut_20 : decode cX3_workOut 20 = .ok (.iconst 0, 1) := by decide +kernel
theorem dX3_workOut_21 : decode cX3_workOut 21 = .ok (.iastore, 1) := by decide +kernel
theorem dX3_workOut_22 : decode cX3_workOut 22 = .ok (.aload_n 0, 1) := by decide +kernel
theorem dX3_workOut_23 : decode cX3_workOut 23 = .ok (.getfield 26, 3) := by decide +kernel
theorem dX3_workOut_26 : decode cX3_workOut 26 = .ok (.iload_n 2, 1) := by decide +kernel
theorem dX3_workOut_27 : decode cX3_workOut 27 = .ok (.aaload, 1) := by decide +kernel
theorem dX3_workOut_28 : decode cX3_workOut 28 = .ok (.invokevirtual 35, 3) := by decide +kernel
theorem dX3_workOut_31 : decode cX3_workOut 31 = .ok (.aload_n 1, 1) := by decide +kernel
theorem dX3_workOut_32 : decode cX3_workOut 32 = .ok (.iload_n 2, 1) := by decide +kernel
theorem dX3_workOut_33 : decode cX3_workOut 33 = .ok (.invokevirtual 38, 3) := by decide +kernel
theorem dX3_workOut_36 : decode cX3_workOut 36 = .ok (.istore_n 3, 1) := by decide +kernel
theorem dX3_workOut_37 : decode cX3_workOut 37 = .ok (.iconst 0, 1) := by decide +kernel
theorem dX3_workOut_38 : decode cX3_workOut 38 = .ok (.istore 4, 2) := by decide +kernel
theorem dX3_workOut_40 : decode cX3_workOut 40 = .ok (.iload 4, 2) := by decide +kernel
theorem dX3_workOut_42 : decode cX3_workOut 42 = .ok (.iload_n 3, 1) := by decide +kernel
theorem dX3_workOut_43 : decode cX3_workOut 43 = .ok (.if_icmp .ge 21, 3) := by decide +kernel
theorem dX3_workOut_46 : decode cX3_workOut 46 = .ok (.aload_n 0, 1) := by decide +kernel
theorem dX3_workOut_47 : decode cX3_workOut 47 = .ok (.iload_n 2, 1) := by decide +kernel
theorem dX3_workOut_48 : decode cX3_workOut 48 = .ok (.aload_n 1, 1) := by decide +kernel
theorem dX3_workOut_49 : decode cX3_workOut 49 = .ok (.iload_n 2, 1) := by decide +kernel
theorem dX3_workOut_50 : decode cX3_workOut 50 = .ok (.iload 4, 2) := by decide +kernel
theorem dX3_workOut_52 : decode cX3_workOut 52 = .ok (.invokevirtual 44, 3) := by decide +kernel
theorem dX3_workOut_55 : decode cX3_workOut 55 = .ok (.invokevirtual 48, 3) := by decide +kernel
theorem dX3_workOut_58 : decode cX3_workOut 58 = .ok (.iinc 4 1, 3) := by decide +kernel
theorem dX3_workOut_61 : decode cX3_workOut 61 = .ok (.goto (-21), 3) := by decide +kernel
theorem dX3_workOut_64 : decode cX3_workOut 64 = .ok (.iinc 2 1, 3) := by decide +kernel
theorem dX3_workOut_67 : decode cX3_workOut 67 = .ok (.goto (-65), 3) := by decide +kernel
theorem dX3_workOut_70 : decode cX3_workOut 70 = .ok (.return_, 1) := by decide +kernel
theorem dX3_include_0 : decode cX3_include 0 = .ok (.iload_n 2, 1) := by decide +kernel
theorem dX3_include_1 : decode cX3_include 1 = .ok (.invokestatic 52, 3) := by decide +kernel
theorem dX3_include_4 : decode cX3_include 4 = .ok (.iconst 4, 1) := by decide +kernel
theorem dX3_include_5 : decode cX3_include 5 = .ok (.if_icmp .ne 15, 3) := by decide +kernel
theorem dX3_include_8 : decode cX3_include 8 = .ok (.aload_n 0, 1) := by decide +kernel
theorem dX3_include_9 : decode cX3_include 9 = .ok (.iload_n 1, 1) := by decide +kernel
theorem dX3_include_10 : decode cX3_include 10 = .ok (.iload_n 2, 1) := by decide +kernel
theorem dX3_include_11 : decode cX3_include 11 = .ok (.invokestatic 55, 3) := by decide +kernel
theorem dX3_include_14 : decode cX3_include 14 = .ok (.invokevirtual 58, 3) := by decide +kernel
theorem dX3_include_17 : decode cX3_include 17 = .ok (.goto 18, 3) := by decide +kernel
theorem dX3_include_20 : decode cX3_include 20 = .ok (.aload_n 0, 1) := by decide +kernel
theorem dX3_include_21 : decode cX3_include 21 = .ok (.iload_n 1, 1) := by decide +kernel
theorem dX3_include_22 : decode cX3_include 22 = .ok (.iload_n 2, 1) := by decide +kernel
theorem dX3_include_23 : decode cX3_include 23 = .ok (.invokevirtual 61, 3) := by decide +kernel
theorem dX3_include_26 : decode cX3_include 26 = .ok (.aload_n 0, 1) := by decide +kernel
theorem dX3_include_27 : decode cX3_include 27 = .ok (.iload_n 1, 1) := by decide +kernel
theorem dX3_include_28 : decode cX3_include 28 = .ok (.invokevirtual 64, 3) := by decide +kernel
theorem dX3_include_31 : decode cX3_include 31 = .ok (.iload_n 2, 1) := by decide +kernel
theorem dX3_include_32 : decode cX3_include 32 = .ok (.invokevirtual 68, 3) := by decide +kernel
theorem dX3_include_35 : decode cX3_include 35 = .ok (.return_, 1) := by decide +kernel
theorem dX3_includeCall_0 : decode cX3_includeCall 0 = .ok (.aload_n 0, 1) := by decide +kernel
theorem dX3_includeCall_1 : decode cX3_includeCall 1 = .ok (.iload_n 2, 1) := by decide +kernel
theorem dX3_includeCall_2 : decode cX3_includeCall 2 = .ok (.invokevirtual 72, 3) := by decide +kernel
theorem dX3_includeCall_5 : decode cX3_includeCall 5 = .ok (.istore_n 3, 1) := by decide +kernel
theorem dX3_includeCall_6 : decode cX3_includeCall 6 = .ok (.iconst 0, 1) := by decide +kernel
theorem dX3_includeCall_7 : decode cX3_includeCall 7 = .ok (.istore 4, 2) := by decide +kernel
theorem dX3_includeCall_9 : decode cX3_includeCall 9 = .ok (.iload 4, 2) := by decide +kernel
theorem dX3_includeCall_11 : decode cX3_includeCall 11 = .ok (.iload_n 3, 1) := by decide +kernel
theorem dX3_includeCall_12 : decode cX3_includeCall 12 = .ok (.if_icmp .ge 28, 3) := by decide +kernel
theorem dX3_includeCall_15 : decode cX3_includeCall 15 = .ok (.aload_n 0, 1) := by decide +kernel
theorem dX3_includeCall_16 : decode cX3_includeCall 16 = .ok (.iload_n 1, 1) := by decide +kernel
theorem dX3_includeCall_17 : decode cX3_includeCall 17 = .ok (.aload_n 0, 1) := by decide +kernel
theorem dX3_includeCall_18 : decode cX3_includeCall 18 = .ok (.getfield 15, 3) := by decide +kernel
theorem dX3_includeCall_21 : decode cX3_includeCall 21 = .ok (.iload_n 2, 1) := by decide +kernel
theorem dX3_includeCall_22 : decode cX3_includeCall 22 = .ok (.bipush 120, 2) := by decide +kernel
theorem dX3_includeCall_24 : decode cX3_includeCall 24 = .ok (.imul, 1) := by decide +kernel
theorem dX3_includeCall_25 : decode cX3_includeCall 25 = .ok (.iload 4, 2) := by decide +kernel
theorem dX3_includeCall_27 : decode cX3_includeCall 27 = .ok (.iadd, 1) := by decide +kernel
theorem dX3_includeCall_28 : decode cX3_includeCall 28 = .ok (.invokestatic 75, 3) := by decide +kernel
theorem dX3_includeCall_31 : decode cX3_includeCall 31 = .ok (.invokevirtual 61, 3) := by decide +kernel
theorem dX3_includeCall_34 : decode cX3_includeCall 34 = .ok (.iinc 4 1, 3) := by decide +kernel
theorem dX3_includeCall_37 : decode cX3_includeCall 37 = .ok (.goto (-28), 3) := by decide +kernel
theorem dX3_includeCall_40 : decode cX3_includeCall 40 = .ok (.aload_n 0, 1) := by decide +kernel
theorem dX3_includeCall_41 : decode cX3_includeCall 41 = .ok (.iload_n 1, 1) := by decide +kernel
theorem dX3_includeCall_42 : decode cX3_includeCall 42 = .ok (.invokevirtual 64, 3) := by decide +kernel
theorem dX3_includeCall_45 : decode cX3_includeCall 45 = .ok (.aload_n 0, 1) := by decide +kernel
theorem dX3_includeCall_46 : decode cX3_includeCall 46 = .ok (.iload_n 2, 1) := by decide +kernel
theorem dX3_includeCall_47 : decode cX3_includeCall 47 = .ok (.invokevirtual 64, 3) := by decide +kernel
theorem dX3_includeCall_50 : decode cX3_includeCall 50 = .ok (.invokevirtual 79, 3) := by decide +kernel
theorem dX3_includeCall_53 : decode cX3_includeCall 53 = .ok (.aload_n 0, 1) := by decide +kernel
theorem dX3_includeCall_54 : decode cX3_includeCall 54 = .ok (.getfield 18, 3) := by decide +kernel
theorem dX3_includeCall_57 : decode cX3_includeCall 57 = .ok (.iload_n 1, 1) := by decide +kernel
theorem dX3_includeCall_58 : decode cX3_includeCall 58 = .ok (.aload_n 0, 1) := by decide +kernel
theorem dX3_includeCall_59 : decode cX3_includeCall 59 = .ok (.iload_n 1, 1) := by decide +kernel
theorem dX3_includeCall_60 : decode cX3_includeCall 60 = .ok (.invokevirtual 83, 3) := by decide +kernel
theorem dX3_includeCall_63 : decode cX3_includeCall 63 = .ok (.aload_n 0, 1) := by decide +kernel
theorem dX3_includeCall_64 : decode cX3_includeCall 64 = .ok (.iload_n 2, 1) := by decide +kernel
theorem dX3_includeCall_65 : decode cX3_includeCall 65 = .ok (.invokevirtual 83, 3) := by decide +kernel
theorem dX3_includeCall_68 : decode cX3_includeCall 68 = .ok (.ior, 1) := by decide +kernel
theorem dX3_includeCall_69 : decode cX3_includeCall 69 = .ok (.iconst 1, 1) := by decide +kernel
theorem dX3_includeCall_70 : decode cX3_includeCall 70 = .ok (.iload_n 2, 1) := by decide +kernel
theorem dX3_includeCall_71 : decode cX3_includeCall 71 = .ok (.ishl, 1) := by decide +kernel
theorem dX3_includeCall_72 : decode cX3_includeCall 72 = .ok (.ior, 1) := by decide +kernel
theorem dX3_includeCall_73 : decode cX3_includeCall 73 = .ok (.invokestatic 86, 3) := by decide +kernel
theorem dX3_includeCall_76 : decode cX3_includeCall 76 = .ok (.return_, 1) := by decide +kernel
theorem dX3_putStep_0 : decode cX3_putStep 0 = .ok (.aload_n 0, 1) := by decide +kernel
theorem dX3_putStep_1 : decode cX3_putStep 1 = .ok (.iload_n 1, 1) := by decide +kernel
theorem dX3_putStep_2 : decode cX3_putStep 2 = .ok (.invokevirtual 72, 3) := by decide +kernel
theorem dX3_putStep_5 : decode cX3_putStep 5 = .ok (.istore_n 3, 1) := by decide +kernel
theorem dX3_putStep_6 : decode cX3_putStep 6 = .ok (.iload_n 3, 1) := by decide +kernel
theorem dX3_putStep_7 : decode cX3_putStep 7 = .ok (.bipush 120, 2) := by decide +kernel
theorem dX3_putStep_9 : decode cX3_putStep 9 = .ok (.if_icmp .ge 28, 3) := by decide +kernel
theorem dX3_putStep_12 : decode cX3_putStep 12 = .ok (.aload_n 0, 1) := by decide +kernel
theorem dX3_putStep_13 : decode cX3_putStep 13 = .ok (.getfield 15, 3) := by decide +kernel
theorem dX3_putStep_16 : decode cX3_putStep 16 = .ok (.iload_n 1, 1) := by decide +kernel
theorem dX3_putStep_17 : decode cX3_putStep 17 = .ok (.bipush 120, 2) := by decide +kernel
theorem dX3_putStep_19 : decode cX3_putStep 19 = .ok (.imul, 1) := by decide +kernel
theorem dX3_putStep_20 : decode cX3_putStep 20 = .ok (.iload_n 3, 1) := by decide +kernel
theorem dX3_putStep_21 : decode cX3_putStep 21 = .ok (.iadd, 1) := by decide +kernel
theorem dX3_putStep_22 : decode cX3_putStep 22 = .ok (.iload_n 2, 1) := by decide +kernel
theorem dX3_putStep_23 : decode cX3_putStep 23 = .ok (.invokestatic 86, 3) := by decide +kernel
theorem dX3_putStep_26 : decode cX3_putStep 26 = .ok (.aload_n 0, 1) := by decide +kernel
theorem dX3_putStep_27 : decode cX3_putStep 27 = .ok (.getfield 9, 3) := by decide +kernel
theorem dX3_putStep_30 : decode cX3_putStep 30 = .ok (.iload_n 1, 1) := by decide +kernel
theorem dX3_putStep_31 : decode cX3_putStep 31 = .ok (.iload_n 3, 1) := by decide +kernel
theorem dX3_putStep_32 : decode cX3_putStep 32 = .ok (.iconst 1, 1) := by decide +kernel
theorem dX3_putStep_33 : decode cX3_putStep 33 = .ok (.iadd, 1) := by decide +kernel
theorem dX3_putStep_34 : decode cX3_putStep 34 = .ok (.invokestatic 86, 3) := by decide +kernel
theorem dX3_putStep_37 : decode cX3_putStep 37 = .ok (.return_, 1) := by decide +kernel
theorem dX3_stepCount_0 : decode cX3_stepCount 0 = .ok (.aload_n 0, 1) := by decide +kernel
theorem dX3_stepCount_1 : decode cX3_stepCount 1 = .ok (.getfield 9, 3) := by decide +kernel
theorem dX3_stepCount_4 : decode cX3_stepCount 4 = .ok (.iload_n 1, 1) := by decide +kernel
theorem dX3_stepCount_5 : decode cX3_stepCount 5 = .ok (.invokestatic 75, 3) := by decide +kernel
theorem dX3_stepCount_8 : decode cX3_stepCount 8 = .ok (.ireturn, 1) := by decide +kernel
theorem dX3_stepInOrder_0 : decode cX3_stepInOrder 0 = .ok (.iload_n 1, 1) := by decide +kernel
theorem dX3_stepInOrder_1 : decode cX3_stepInOrder 1 = .ok (.bipush 120, 2) := by decide +kernel
theorem dX3_stepInOrder_3 : decode cX3_stepInOrder 3 = .ok (.imul, 1) := by decide +kernel
theorem dX3_stepInOrder_4 : decode cX3_stepInOrder 4 = .ok (.istore 4, 2) := by decide +kernel
theorem dX3_stepInOrder_6 : decode cX3_stepInOrder 6 = .ok (.iload_n 3, 1) := by decide +kernel
theorem dX3_stepInOrder_7 : decode cX3_stepInOrder 7 = .ok (.ifCond .eq 28, 3) := by decide +kernel
theorem dX3_stepInOrder_10 : decode cX3_stepInOrder 10 = .ok (.aload_n 0, 1) := by decide +kernel
theorem dX3_stepInOrder_11 : decode cX3_stepInOrder 11 = .ok (.getfield 15, 3) := by decide +kernel
theorem dX3_stepInOrder_14 : decode cX3_stepInOrder 14 = .ok (.iload 4, 2) := by decide +kernel
theorem dX3_stepInOrder_16 : decode cX3_stepInOrder 16 = .ok (.aload_n 0, 1) := by decide +kernel
theorem dX3_stepInOrder_17 : decode cX3_stepInOrder 17 = .ok (.iload_n 1, 1) := by decide +kernel
theorem dX3_stepInOrder_18 : decode cX3_stepInOrder 18 = .ok (.invokevirtual 72, 3) := by decide +kernel
theorem dX3_stepInOrder_21 : decode cX3_stepInOrder 21 = .ok (.iadd, 1) := by decide +kernel
theorem dX3_stepInOrder_22 : decode cX3_stepInOrder 22 = .ok (.iconst 1, 1) := by decide +kernel
theorem dX3_stepInOrder_23 : decode cX3_stepInOrder 23 = .ok (.isub, 1) := by decide +kernel
theorem dX3_stepInOrder_24 : decode cX3_stepInOrder 24 = .ok (.iload_n 2, 1) := by decide +kernel
theorem dX3_stepInOrder_25 : decode cX3_stepInOrder 25 = .ok (.isub, 1) := by decide +kernel
theorem dX3_stepInOrder_26 : decode cX3_stepInOrder 26 = .ok (.invokestatic 75, 3) := by decide +kernel
theorem dX3_stepInOrder_29 : decode cX3_stepInOrder 29 = .ok (.invokestatic 90, 3) := by decide +kernel
theorem dX3_stepInOrder_32 : decode cX3_stepInOrder 32 = .ok (.goto 14, 3) := by decide +kernel
theorem dX3_stepInOrder_35 : decode cX3_stepInOrder 35 = .ok (.aload_n 0, 1) := by decide +kernel
theorem dX3_stepInOrder_36 : decode cX3_stepInOrder 36 = .ok (.getfield 15, 3) := by decide +kernel
theorem dX3_stepInOrder_39 : decode cX3_stepInOrder 39 = .ok (.iload 4, 2) := by decide +kernel
theorem dX3_stepInOrder_41 : decode cX3_stepInOrder 41 = .ok (.iload_n 2, 1) := by decide +kernel
theorem dX3_stepInOrder_42 : decode cX3_stepInOrder 42 = .ok (.iadd, 1) := by decide +kernel
theorem dX3_stepInOrder_43 : decode cX3_stepInOrder 43 = .ok (.invokestatic 75, 3) := by decide +kernel
theorem dX3_stepInOrder_46 : decode cX3_stepInOrder 46 = .ok (.ireturn, 1) := by decide +kernel
theorem dX3_effectOf_0 : decode cX3_effectOf 0 = .ok (.iload_n 1, 1) := by decide +kernel
theorem dX3_effectOf_1 : decode cX3_effectOf 1 = .ok (.invokestatic 93, 3) := by decide +kernel
theorem dX3_effectOf_4 : decode cX3_effectOf 4 = .ok (.ifCond .eq 12, 3) := by decide +kernel
theorem dX3_effectOf_7 : decode cX3_effectOf 7 = .ok (.aload_n 0, 1) := by decide +kernel
theorem dX3_effectOf_8 : decode cX3_effectOf 8 = .ok (.getfield 26, 3) := by decide +kernel
theorem dX3_effectOf_11 : decode cX3_effectOf 11 = .ok (.iload_n 1, 1) := by decide +kernel
theorem dX3_effectOf_12 : decode cX3_effectOf 12 = .ok (.aaload, 1) := by decide +kernel
theorem dX3_effectOf_13 : decode cX3_effectOf 13 = .ok (.goto 7, 3) := by decide +kernel
theorem dX3_effectOf_16 : decode cX3_effectOf 16 = .ok (.aload_n 0, 1) := by decide +kernel
theorem dX3_effectOf_17 : decode cX3_effectOf 17 = .ok (.getfield 31, 3) := by decide +kernel
theorem dX3_effectOf_20 : decode cX3_effectOf 20 = .ok (.areturn, 1) := by decide +kernel
theorem dX3_calledBy_0 : decode cX3_calledBy 0 = .ok (.aload_n 0, 1) := by decide +kernel
theorem dX3_calledBy_1 : decode cX3_calledBy 1 = .ok (.getfield 18, 3) := by decide +kernel
theorem dX3_calledBy_4 : decode cX3_calledBy 4 = .ok (.iload_n 1, 1) := by decide +kernel
theorem dX3_calledBy_5 : decode cX3_calledBy 5 = .ok (.invokestatic 75, 3) := by decide +kernel
theorem dX3_calledBy_8 : decode cX3_calledBy 8 = .ok (.ireturn, 1) := by decide +kernel
theorem dX3_callersOf_0 : decode cX3_callersOf 0 = .ok (.iconst 0, 1) := by decide +kernel
theorem dX3_callersOf_1 : decode cX3_callersOf 1 = .ok (.istore_n 2, 1) := by decide +kernel
theorem dX3_callersOf_2 : decode cX3_callersOf 2 = .ok (.iconst 0, 1) := by decide +kernel
theorem dX3_callersOf_3 : decode cX3_callersOf 3 = .ok (.istore_n 3, 1) := by decide +kernel
theorem dX3_callersOf_4 : decode cX3_callersOf 4 = .ok (.iload_n 3, 1) := by decide +kernel
theorem dX3_callersOf_5 : decode cX3_callersOf 5 = .ok (.bipush 8, 2) := by decide +kernel
theorem dX3_callersOf_7 : decode cX3_callersOf 7 = .ok (.if_icmp .ge 28, 3) := by decide +kernel
theorem dX3_callersOf_10 : decode cX3_callersOf 10 = .ok (.aload_n 0, 1) := by decide +kernel
theorem dX3_callersOf_11 : decode cX3_callersOf 11 = .ok (.getfield 18, 3) := by decide +kernel
theorem dX3_callersOf_14 : decode cX3_callersOf 14 = .ok (.iload_n 3, 1) := by decide +kernel
theorem dX3_callersOf_15 : decode cX3_callersOf 15 = .ok (.iaload, 1) := by decide +kernel
theorem dX3_callersOf_16 : decode cX3_callersOf 16 = .ok (.iconst 1, 1) := by decide +kernel
theorem dX3_callersOf_17 : decode cX3_callersOf 17 = .ok (.iload_n 1, 1) := by decide +kernel
theorem dX3_callersOf_18 : decode cX3_callersOf 18 = .ok (.ishl, 1) := by decide +kernel
theorem dX3_callersOf_19 : decode cX3_callersOf 19 = .ok (.iand, 1) := by decide +kernel
theorem dX3_callersOf_20 : decode cX3_callersOf 20 = .ok (.ifCond .eq 9, 3) := by decide +kernel
theorem dX3_callersOf_23 : decode cX3_callersOf 23 = .ok (.iload_n 2, 1) := by decide +kernel
theorem dX3_callersOf_24 : decode cX3_callersOf 24 = .ok (.iconst 1, 1) := by decide +kernel
theorem dX3_callersOf_25 : decode cX3_callersOf 25 = .ok (.iload_n 3, 1) := by decide +kernel
theorem dX3_callersOf_26 : decode cX3_callersOf 26 = .ok (.ishl, 1) := by decide +kernel
theorem dX3_callersOf_27 : decode cX3_callersOf 27 = .ok (.ior, 1) := by decide +kernel
theorem dX3_callersOf_28 : decode cX3_callersOf 28 = .ok (.istore_n 2, 1) := by decide +kernel
theorem dX3_callersOf_29 : decode cX3_callersOf 29 = .ok (.iinc 3 1, 3) := by decide +kernel
theorem dX3_callersOf_32 : decode cX3_callersOf 32 = .ok (.goto (-28), 3) := by decide +kernel
theorem dX3_callersOf_35 : decode cX3_callersOf 35 = .ok (.iload_n 2, 1) := by decide +kernel
theorem dX3_callersOf_36 : decode cX3_callersOf 36 = .ok (.ireturn, 1) := by decide +kernel
theorem dX3_hasRoom_0 : decode cX3_hasRoom 0 = .ok (.iconst 0, 1) := by decide +kernel
theorem dX3_hasRoom_1 : decode cX3_hasRoom 1 = .ok (.istore 4, 2) := by decide +kernel
theorem dX3_hasRoom_3 : decode cX3_hasRoom 3 = .ok (.iload 4, 2) := by decide +kernel
theorem dX3_hasRoom_5 : decode cX3_hasRoom 5 = .ok (.bipush 8, 2) := by decide +kernel
theorem dX3_hasRoom_7 : decode cX3_hasRoom 7 = .ok (.if_icmp .ge 55, 3) := by decide +kernel
theorem dX3_hasRoom_10 : decode cX3_hasRoom 10 = .ok (.aload_n 0, 1) := by decide +kernel
theorem dX3_hasRoom_11 : decode cX3_hasRoom 11 = .ok (.getfield 21, 3) := by decide +kernel
theorem dX3_hasRoom_14 : decode cX3_hasRoom 14 = .ok (.iload 4, 2) := by decide +kernel
theorem dX3_hasRoom_16 : decode cX3_hasRoom 16 = .ok (.iload 4, 2) := by decide +kernel
theorem dX3_hasRoom_18 : decode cX3_hasRoom 18 = .ok (.iload_n 2, 1) := by decide +kernel
theorem dX3_hasRoom_19 : decode cX3_hasRoom 19 = .ok (.if_icmp .ne 7, 3) := by decide +kernel
theorem dX3_hasRoom_22 : decode cX3_hasRoom 22 = .ok (.iload_n 3, 1) := by decide +kernel
theorem dX3_hasRoom_23 : decode cX3_hasRoom 23 = .ok (.goto 10, 3) := by decide +kernel
theorem dX3_hasRoom_26 : decode cX3_hasRoom 26 = .ok (.aload_n 0, 1) := by decide +kernel
theorem dX3_hasRoom_27 : decode cX3_hasRoom 27 = .ok (.aload_n 1, 1) := by decide +kernel
theorem dX3_hasRoom_28 : decode cX3_hasRoom 28 = .ok (.iload 4, 2) := by decide +kernel
theorem dX3_hasRoom_30 : decode cX3_hasRoom 30 = .ok (.invokevirtual 97, 3) := by decide +kernel
theorem dX3_hasRoom_33 : decode cX3_hasRoom 33 = .ok (.iastore, 1) := by decide +kernel
theorem dX3_hasRoom_34 : decode cX3_hasRoom 34 = .ok (.aload_n 0, 1) := by decide +kernel
theorem dX3_hasRoom_35 : decode cX3_hasRoom 35 = .ok (.getfield 9, 3) := by decide +kernel
theorem dX3_hasRoom_38 : decode cX3_hasRoom 38 = .ok (.iload 4, 2) := by decide +kernel
theorem dX3_hasRoom_40 : decode cX3_hasRoom 40 = .ok (.iaload, 1) := by decide +kernel
theorem dX3_hasRoom_41 : decode cX3_hasRoom 41 = .ok (.aload_n 0, 1) := by decide +kernel
theorem dX3_hasRoom_42 : decode cX3_hasRoom 42 = .ok (.getfield 21, 3) := by decide +kernel
theorem dX3_hasRoom_45 : decode cX3_hasRoom 45 = .ok (.iload 4, 2) := by decide +kernel
theorem dX3_hasRoom_47 : decode cX3_hasRoom 47 = .ok (.iaload, 1) := by decide +kernel
theorem dX3_hasRoom_48 : decode cX3_hasRoom 48 = .ok (.iadd, 1) := by decide +kernel
theorem dX3_hasRoom_49 : decode cX3_hasRoom 49 = .ok (.bipush 120, 2) := by decide +kernel
theorem dX3_hasRoom_51 : decode cX3_hasRoom 51 = .ok (.if_icmp .le 5, 3) := by decide +kernel
theorem dX3_hasRoom_54 : decode cX3_hasRoom 54 = .ok (.iconst 0, 1) := by decide +kernel
theorem dX3_hasRoom_55 : decode cX3_hasRoom 55 = .ok (.ireturn, 1) := by decide +kernel
theorem dX3_hasRoom_56 : decode cX3_hasRoom 56 = .ok (.iinc 4 1, 3) := by decide +kernel
theorem dX3_hasRoom_59 : decode cX3_hasRoom 59 = .ok (.goto (-56), 3) := by decide +kernel
theorem dX3_hasRoom_62 : decode cX3_hasRoom 62 = .ok (.iconst 1, 1) := by decide +kernel
theorem dX3_hasRoom_63 : decode cX3_hasRoom 63 = .ok (.ireturn, 1) := by decide +kernel
theorem dX3_growthByCalls_0 : decode cX3_growthByCalls 0 = .ok (.iconst 0, 1) := by decide +kernel
theorem dX3_growthByCalls_1 : decode cX3_growthByCalls 1 = .ok (.istore_n 3, 1) := by decide +kernel
theorem dX3_growthByCalls_2 : decode cX3_growthByCalls 2 = .ok (.aload_n 1, 1) := by decide +kernel
theorem dX3_growthByCalls_3 : decode cX3_growthByCalls 3 = .ok (.iload_n 2, 1) := by decide +kernel
theorem dX3_growthByCalls_4 : decode cX3_growthByCalls 4 = .ok (.invokevirtual 38, 3) := by decide +kernel
theorem dX3_growthByCalls_7 : decode cX3_growthByCalls 7 = .ok (.istore 4, 2) := by decide +kernel
theorem dX3_growthByCalls_9 : decode cX3_growthByCalls 9 = .ok (.iconst 0, 1) := by decide +kernel
theorem dX3_growthByCalls_10 : decode cX3_growthByCalls 10 = .ok (.istore 5, 2) := by decide +kernel
theorem dX3_growthByCalls_12 : decode cX3_growthByCalls 12 = .ok (.iload 5, 2) := by decide +kernel
theorem dX3_growthByCalls_14 : decode cX3_growthByCalls 14 = .ok (.iload 4, 2) := by decide +kernel
theorem dX3_growthByCalls_16 : decode cX3_growthByCalls 16 = .ok (.if_icmp .ge 42, 3) := by decide +kernel
theorem dX3_growthByCalls_19 : decode cX3_growthByCalls 19 = .ok (.aload_n 1, 1) := by decide +kernel
theorem dX3_growthByCalls_20 : decode cX3_growthByCalls 20 = .ok (.iload_n 2, 1) := by decide +kernel
theorem dX3_growthByCalls_21 : decode cX3_growthByCalls 21 = .ok (.iload 5, 2) := by decide +kernel
theorem dX3_growthByCalls_23 : decode cX3_growthByCalls 23 = .ok (.invokevirtual 44, 3) := by decide +kernel
theorem dX3_growthByCalls_26 : decode cX3_growthByCalls 26 = .ok (.istore 6, 2) := by decide +kernel
theorem dX3_growthByCalls_28 : decode cX3_growthByCalls 28 = .ok (.iload 6, 2) := by decide +kernel
theorem dX3_growthByCalls_30 : decode cX3_growthByCalls 30 = .ok (.invokestatic 52, 3) := by decide +kernel
theorem dX3_growthByCalls_33 : decode cX3_growthByCalls 33 = .ok (.iconst 4, 1) := by decide +kernel
theorem dX3_growthByCalls_34 : decode cX3_growthByCalls 34 = .ok (.if_icmp .ne 18, 3) := by decide +kernel
theorem dX3_growthByCalls_37 : decode cX3_growthByCalls 37 = .ok (.iload_n 3, 1) := by decide +kernel
theorem dX3_growthByCalls_38 : decode cX3_growthByCalls 38 = .ok (.aload_n 0, 1) := by decide +kernel
theorem dX3_growthByCalls_39 : decode cX3_growthByCalls 39 = .ok (.getfield 21, 3) := by decide +kernel
theorem dX3_growthByCalls_42 : decode cX3_growthByCalls 42 = .ok (.iload 6, 2) := by decide +kernel
theorem dX3_growthByCalls_44 : decode cX3_growthByCalls 44 = .ok (.invokestatic 55, 3) := by decide +kernel
theorem dX3_growthByCalls_47 : decode cX3_growthByCalls 47 = .ok (.invokestatic 75, 3) := by decide +kernel
theorem dX3_growthByCalls_50 : decode cX3_growthByCalls 50 = .ok (.iadd, 1) := by decide +kernel
theorem dX3_growthByCalls_51 : decode cX3_growthByCalls 51 = .ok (.istore_n 3, 1) := by decide +kernel
theorem dX3_growthByCalls_52 : decode cX3_growthByCalls 52 = .ok (.iinc 5 1, 3) := by decide +kernel
theorem dX3_growthByCalls_55 : decode cX3_growthByCalls 55 = .ok (.goto (-43), 3) := by decide +kernel
theorem dX3_growthByCalls_58 : decode cX3_growthByCalls 58 = .ok (.iload_n 3, 1) := by decide +kernel
theorem dX3_growthByCalls_59 : decode cX3_growthByCalls 59 = .ok (.ireturn, 1) := by decide +kernel
theorem dX4_init_0 : decode cX4_init 0 = .ok (.aload_n 0, 1) := by decide +kernel
theorem dX4_init_1 : decode cX4_init 1 = .ok (.invokespecial 3, 3) := by decide +kernel
theorem dX4_init_4 : decode cX4_init 4 = .ok (.aload_n 0, 1) := by decide +kernel
theorem dX4_init_5 : decode cX4_init 5 = .ok (.bipush 10, 2) := by decide +kernel
theorem dX4_init_7 : decode cX4_init 7 = .ok (.newarray .int, 2) := by decide +kernel
theorem dX4_init_9 : decode cX4_init 9 = .ok (.putfield 9, 3) := by decide +kernel
theorem dX4_init_12 : decode cX4_init 12 = .ok (.aload_n 0, 1) := by decide +kernel
theorem dX4_init_13 : decode cX4_init 13 = .ok (.bipush 10, 2) := by decide +kernel
theorem dX4_init_15 : decode cX4_init 15 = .ok (.newarray .int, 2) := by decide +kernel
theorem dX4_init_17 : decode cX4_init 17 = .ok (.putfield 15, 3) := by decide +kernel
theorem dX4_init_20 : decode cX4_init 20 = .ok (.aload_n 0, 1) := by decide +kernel
theorem dX4_init_21 : decode cX4_init 21 = .ok (.bipush 10, 2) := by decide +kernel
theorem dX4_init_23 : decode cX4_init 23 = .ok (.newarray .int, 2) := by decide +kernel
theorem dX4_init_25 : decode cX4_init 25 = .ok (.putfield 18, 3) := by decide +kernel
theorem dX4_init_28 : decode cX4_init 28 = .ok (.aload_n 0, 1) := by decide +kernel
theorem dX4_init_29 : decode cX4_init 29 = .ok (.bipush 10, 2) := by decide +kernel
theorem dX4_init_31 : decode cX4_init 31 = .ok (.newarray .int, 2) := by decide +kernel
theorem dX4_init_33 : decode cX4_init 33 = .ok (.putfield 21, 3) := by decide +kernel
theorem dX4_init_36 : decode cX4_init 36 = .ok (.aload_n 0, 1) := by decide +kernel
theorem dX4_init_37 : decode cX4_init 37 = .ok (.invokevirtual 24, 3) := by decide +kernel
theorem dX4_init_40 : decode cX4_init 40 = .ok (.return_, 1) := by decide +kernel
theorem dX4_settle_0 : decode cX4_settle 0 = .ok (.iconst 0, 1) := by decide +kernel
theorem dX4_settle_1 : decode cX4_settle 1 = .ok (.istore_n 1, 1) := by decide +kernel
theorem dX4_settle_2 : decode cX4_settle 2 = .ok (.iload_n 1, 1) := by decide +kernel
theorem dX4_settle_3 : decode cX4_settle 3 = .ok (.bipush 10, 2) := by decide +kernel
theorem dX4_settle_5 : decode cX4_settle 5 = .ok (.if_icmp .ge 23, 3) := by decide +kernel
theorem dX4_settle_8 : decode cX4_settle 8 = .ok (.aload_n 0, 1) := by decide +kernel
theorem dX4_settle_9 : decode cX4_settle 9 = .ok (.getfield 9, 3) := by decide +kernel
theorem dX4_settle_12 : decode cX4_settle 12 = .ok (.iload_n 1, 1) := by decide +kernel
theorem dX4_settle_13 : decode cX4_settle 13 = .ok (.iload_n 1, 1) := by decide +kernel
theorem dX4_settle_14 : decode cX4_settle 14 = .ok (.iastore, 1) := by decide +kernel
theorem dX4_settle_15 : decode cX4_settle 15 = .ok (.aload_n 0, 1) := by decide +kernel
theorem dX4_settle_16 : decode cX4_settle 16 = .ok (.getfield 15, 3) := by decide +kernel
theorem dX4_settle_19 : decode cX4_settle 19 = .ok (.iload_n 1, 1) := by decide +kernel
theorem dX4_settle_20 : decode cX4_settle 20 = .ok (.iconst 0, 1) := by decide +kernel
theorem dX4_settle_21 : decode cX4_settle 21 = .ok (.iastore, 1) := by decide +kernel
theorem dX4_settle_22 : decode cX4_settle 22 = .ok (.iinc 1 1, 3) := by decide +kernel
theorem dX4_settle_25 : decode cX4_settle 25 = .ok (.goto (-23), 3) := by decide +kernel
theorem dX4_settle_28 : decode cX4_settle 28 = .ok (.return_, 1) := by decide +kernel
theorem dX4_copyFrom_0 : decode cX4_copyFrom 0 = .ok (.aload_n 1, 1) := by decide +kernel
theorem dX4_copyFrom_1 : decode cX4_copyFrom 1 = .ok (.getfield 9, 3) := by decide +kernel
theorem dX4_copyFrom_4 : decode cX4_copyFrom 4 = .ok (.aload_n 0, 1) := by decide +kernel
theorem dX4_copyFrom_5 : decode cX4_copyFrom 5 = .ok (.getfield 9, 3) := by decide +kernel
theorem dX4_copyFrom_8 : decode cX4_copyFrom 8 = .ok (.invokestatic 27, 3) := by decide +kernel
theorem dX4_copyFrom_11 : decode cX4_copyFrom 11 = .ok (.aload_n 1, 1) := by decide +kernel
theorem dX4_copyFrom_12 : decode cX4_copyFrom 12 = .ok (.getfield 15, 3) := by decide +kernel
theorem dX4_copyFrom_15 : decode cX4_copyFrom 15 = .ok (.aload_n 0, 1) := by decide +kernel
theorem dX4_copyFrom_16 : decode cX4_copyFrom 16 = .ok (.getfield 15, 3) := by decide +kernel
theorem dX4_copyFrom_19 : decode cX4_copyFrom 19 = .ok (.invokestatic 27, 3) := by decide +kernel
theorem dX4_copyFrom_22 : decode cX4_copyFrom 22 = .ok (.return_, 1) := by decide +kernel
theorem dX4_dancerAt_0 : decode cX4_dancerAt 0 = .ok (.aload_n 0, 1) := by decide +kernel
theorem dX4_dancerAt_1 : decode cX4_dancerAt 1 = .ok (.getfield 9, 3) := by decide +kernel
theorem dX4_dancerAt_4 : decode cX4_dancerAt 4 = .ok (.iload_n 1, 1) := by decide +kernel
theorem dX4_dancerAt_5 : decode cX4_dancerAt 5 = .ok (.invokestatic 31, 3) := by decide +kernel
theorem dX4_dancerAt_8 : decode cX4_dancerAt 8 = .ok (.ireturn, 1) := by decide +kernel
theorem dX4_faceAt_0 : decode cX4_faceAt 0 = .ok (.aload_n 0, 1) := by decide +kernel
theorem dX4_faceAt_1 : decode cX4_faceAt 1 = .ok (.getfield 15, 3) := by decide +kernel
theorem dX4_faceAt_4 : decode cX4_faceAt 4 = .ok (.iload_n 1, 1) := by decide +kernel
theorem dX4_faceAt_5 : decode cX4_faceAt 5 = .ok (.invokestatic 31, 3) := by decide +kernel
theorem dX4_faceAt_8 : decode cX4_faceAt 8 = .ok (.ireturn, 1) := by decide +kernel
theorem dX4_placeOf_0 : decode cX4_placeOf 0 = .ok (.iconst 0, 1) := by decide +kernel
theorem dX4_placeOf_1 : decode cX4_placeOf 1 = .ok (.istore_n 2, 1) := by decide +kernel
theorem dX4_placeOf_2 : decode cX4_placeOf 2 = .ok (.iload_n 2, 1) := by decide +kernel
theorem dX4_placeOf_3 : decode cX4_placeOf 3 = .ok (.bipush 10, 2) := by decide +kernel
theorem dX4_placeOf_5 : decode cX4_placeOf 5 = .ok (.if_icmp .ge 21, 3) := by decide +kernel
theorem dX4_placeOf_8 : decode cX4_placeOf 8 = .ok (.aload_n 0, 1) := by decide +kernel
theorem dX4_placeOf_9 : decode cX4_placeOf 9 = .ok (.getfield 9, 3) := by decide +kernel
theorem dX4_placeOf_12 : decode cX4_placeOf 12 = .ok (.iload_n 2, 1) := by decide +kernel
theorem dX4_placeOf_13 : decode cX4_placeOf 13 = .ok (.iaload, 1) := by decide +kernel
theorem dX4_placeOf_14 : decode cX4_placeOf 14 = .ok (.iload_n 1, 1) := by decide +kernel
theorem dX4_placeOf_15 : decode cX4_placeOf 15 = .ok (.if_icmp .ne 5, 3) := by decide +kernel
theorem dX4_placeOf_18 : decode cX4_placeOf 18 = .ok (.iload_n 2, 1) := by decide +kernel
theorem dX4_placeOf_19 : decode cX4_placeOf 19 = .ok (.ireturn, 1) := by decide +kernel
theorem dX4_placeOf_20 : decode cX4_placeOf 20 = .ok (.iinc 2 1, 3) := by decide +kernel
theorem dX4_placeOf_23 : decode cX4_placeOf 23 = .ok (.goto (-21), 3) := by decide +kernel
theorem dX4_placeOf_26 : decode cX4_placeOf 26 = .ok (.iconst (-1), 1) := by decide +kernel
theorem dX4_placeOf_27 : decode cX4_placeOf 27 = .ok (.ireturn, 1) := by decide +kernel
theorem dX4_make_0 : decode cX4_make 0 = .ok (.iload_n 1, 1) := by decide +kernel
theorem dX4_make_1 : decode cX4_make 1 = .ok (.invokestatic 35, 3) := by decide +kernel
theorem dX4_make_4 : decode cX4_make 4 = .ok (.istore_n 2, 1) := by decide +kernel
theorem dX4_make_5 : decode cX4_make 5 = .ok (.iload_n 1, 1) := by decide +kernel
theorem dX4_make_6 : decode cX4_make 6 = .ok (.invokestatic 39, 3) := by decide +kernel
theorem dX4_make_9 : decode cX4_make 9 = .ok (.istore_n 3, 1) := by decide +kernel
theorem dX4_make_10 : decode cX4_make 10 = .ok (.iload_n 1, 1) := by decide +kernel
theorem dX4_make_11 : decode cX4_make 11 = .ok (.invokestatic 42, 3) := by decide +kernel
theorem dX4_make_14 : decode cX4_make 14 = .ok (.tableswitch 65 0 3 #[30, 39, 48, 56], 30) := by decide +kernel
theorem dX4_make_44 : decode cX4_make 44 = .ok (.aload_n 0, 1) := by decide +kernel
theorem dX4_make_45 : decode cX4_make 45 = .ok (.iload_n 2, 1) := by decide +kernel
theorem dX4_make_46 : decode cX4_make 46 = .ok (.iload_n 3, 1) := by decide +kernel
theorem dX4_make_47 : decode cX4_make 47 = .ok (.invokevirtual 45, 3) := by decide +kernel
theorem dX4_make_50 : decode cX4_make 50 = .ok (.goto 29, 3) := by decide +kernel
theorem dX4_make_53 : decode cX4_make 53 = .ok (.aload_n 0, 1) := by decide +kernel
theorem dX4_make_54 : decode cX4_make 54 = .ok (.iload_n 2, 1) := by decide +kernel
theorem dX4_make_55 : decode cX4_make 55 = .ok (.iload_n 3, 1) := by decide +kernel
theorem dX4_make_56 : decode cX4_make 56 = .ok (.invokevirtual 49, 3) := by decide +kernel
theorem dX4_make_59 : decode cX4_make 59 = .ok (.goto 20, 3) := by decide +kernel
theorem dX4_make_62 : decode cX4_make 62 = .ok (.aload_n 0, 1) := by decide +kernel
theorem dX4_make_63 : decode cX4_make 63 = .ok (.iload_n 2, 1) := by decide +kernel
theorem dX4_make_64 : decode cX4_make 64 = .ok (.invokevirtual 52, 3) := by decide +kernel
theorem dX4_make_67 : decode cX4_make 67 = .ok (.goto 12, 3) := by decide +kernel
theorem dX4_make_70 : decode cX4_make 70 = .ok (.aload_n 0, 1) := by decide +kernel
theorem dX4_make_71 : decode cX4_make 71 = .ok (.iload_n 2, 1) := by decide +kernel
theorem dX4_make_72 : decode cX4_make 72 = .ok (.iload_n 3, 1) := by decide +kernel
theorem dX4_make_73 : decode cX4_make 73 = .ok (.invokevirtual 56, 3) := by decide +kernel
theorem dX4_make_76 : decode cX4_make 76 = .ok (.goto 3, 3) := by decide +kernel
theorem dX4_make_79 : decode cX4_make 79 = .ok (.return_, 1) := by decide +kernel
theorem dX4_exchange_0 : decode cX4_exchange 0 = .ok (.aload_n 0, 1) := by decide +kernel
theorem dX4_exchange_1 : decode cX4_exchange 1 = .ok (.getfield 9, 3) := by decide +kernel
theorem dX4_exchange_4 : decode cX4_exchange 4 = .ok (.iload_n 1, 1) := by decide +kernel
theorem dX4_exchange_5 : decode cX4_exchange 5 = .ok (.invokestatic 31, 3) := by decide +kernel
theorem dX4_exchange_8 : decode cX4_exchange 8 = .ok (.istore_n 3, 1) := by decide +kernel
theorem dX4_exchange_9 : decode cX4_exchange 9 = .ok (.aload_n 0, 1) := by decide +kernel
theorem dX4_exchange_10 : decode cX4_exchange 10 = .ok (.getfield 15, 3) := by decide +kernel
theorem dX4_exchange_13 : decode cX4_exchange 13 = .ok (.iload_n 1, 1) := by decide +kernel
theorem dX4_exchange_14 : decode cX4_exchange 14 = .ok (.invokestatic 31, 3) := by decide +kernel
theorem dX4_exchange_17 : decode cX4_exchange 17 = .ok (.istore 4, 2) := by decide +kernel
theorem dX4_exchange_19 : decode cX4_exchange 19 = .ok (.aload_n 0, 1) := by decide +kernel
theorem dX4_exchange_20 : decode cX4_exchange 20 = .ok (.getfield 9, 3) := by decide +kernel
theorem dX4_exchange_23 : decode cX4_exchange 23 = .ok (.iload_n 1, 1) := by decide +kernel
theorem dX4_exchange_24 : decode cX4_exchange 24 = .ok (.aload_n 0, 1) := by decide +kernel
theorem dX4_exchange_25 : decode cX4_exchange 25 = .ok (.getfield 9, 3) := by decide +kernel
theorem dX4_exchange_28 : decode cX4_exchange 28 = .ok (.iload_n 2, 1) := by decide +kernel
theorem dX4_exchange_29 : decode cX4_exchange 29 = .ok (.invokestatic 31, 3) := by decide +kernel
theorem dX4_exchange_32 : decode cX4_exchange 32 = .ok (.invokestatic 59, 3) := by decide +kernel
theorem dX4_exchange_35 : decode cX4_exchange 35 = .ok (.aload_n 0, 1) := by decide +kernel
theorem dX4_exchange_36 : decode cX4_exchange 36 = .ok (.getfield 15, 3) := by decide +kernel
theorem dX4_exchange_39 : decode cX4_exchange 39 = .ok (.iload_n 1, 1) := by decide +kernel
theorem dX4_exchange_40 : decode cX4_exchange 40 = .ok (.aload_n 0, 1) := by decide +kernel
theorem dX4_exchange_41 : decode cX4_exchange 41 = .ok (.getfield 15, 3) := by decide +kernel
theorem dX4_exchange_44 : decode cX4_exchange 44 = .ok (.iload_n 2, 1) := by decide +kernel
theorem dX4_exchange_45 : decode cX4_exchange 45 = .ok (.invokestatic 31, 3) := by decide +kernel
theorem dX4_exchange_48 : decode cX4_exchange 48 = .ok (.invokestatic 59, 3) := by decide +kernel
theorem dX4_exchange_51 : decode cX4_exchange 51 = .ok (.aload_n 0, 1) := by decide +kernel
theorem dX4_exchange_52 : decode cX4_exchange 52 = .ok (.getfield 9, 3) := by decide +kernel
theorem dX4_exchange_55 : decode cX4_exchange 55 = .ok (.iload_n 2, 1) := by decide +kernel
theorem dX4_exchange_56 : decode cX4_exchange 56 = .ok (.iload_n 3, 1) := by decide +kernel
theorem dX4_exchange_57 : decode cX4_exchange 57 = .ok (.invokestatic 59, 3) := by decide +kernel
theorem dX4_exchange_60 : decode cX4_exchange 60 = .ok (.aload_n 0, 1) := by decide +kernel
theorem dX4_exchange_61 : decode cX4_exchange 61 = .ok (.getfield 15, 3) := by decide +kernel
theorem dX4_exchange_64 : decode cX4_exchange 64 = .ok (.iload_n 2, 1) := by decide +kernel
theorem dX4_exchange_65 : decode cX4_exchange 65 = .ok (.iload 4, 2) := by decide +kernel
theorem dX4_exchange_67 : decode cX4_exchange 67 = .ok (.invokestatic 59, 3) := by decide +kernel
theorem dX4_exchange_70 : decode cX4_exchange 70 = .ok (.return_, 1) := by decide +kernel
theorem dX4_turn_0 : decode cX4_turn 0 = .ok (.aload_n 0, 1) := by decide +kernel
theorem dX4_turn_1 : decode cX4_turn 1 = .ok (.getfield 15, 3) := by decide +kernel
theorem dX4_turn_4 : decode cX4_turn 4 = .ok (.iload_n 1, 1) := by decide +kernel
theorem dX4_turn_5 : decode cX4_turn 5 = .ok (.aload_n 0, 1) := by decide +kernel
theorem dX4_turn_6 : decode cX4_turn 6 = .ok (.getfield 15, 3) := by decide +kernel
theorem dX4_turn_9 : decode cX4_turn 9 = .ok (.iload_n 1, 1) := by decide +kernel
theorem dX4_turn_10 : decode cX4_turn 10 = .ok (.invokestatic 31, 3) := by decide +kernel
theorem dX4_turn_13 : decode cX4_turn 13 = .ok (.iload_n 2, 1) := by decide +kernel
theorem dX4_turn_14 : decode cX4_turn 14 = .ok (.iadd, 1) := by decide +kernel
theorem dX4_turn_15 : decode cX4_turn 15 = .ok (.iconst 4, 1) := by decide +kernel
theorem dX4_turn_16 : decode cX4_turn 16 = .ok (.irem, 1) := by decide +kernel
theorem dX4_turn_17 : decode cX4_turn 17 = .ok (.invokestatic 59, 3) := by decide +kernel
theorem dX4_turn_20 : decode cX4_turn 20 = .ok (.return_, 1) := by decide +kernel
theorem dX4_shift_0 : decode cX4_shift 0 = .ok (.aload_n 0, 1) := by decide +kernel
theorem dX4_shift_1 : decode cX4_shift 1 = .ok (.invokevirtual 63, 3) := by decide +kernel
theorem dX4_shift_4 : decode cX4_shift 4 = .ok (.iconst 0, 1) := by decide +kernel
theorem dX4_shift_5 : decode cX4_shift 5 = .ok (.istore_n 2, 1) := by decide +kernel
theorem dX4_shift_6 : decode cX4_shift 6 = .ok (.iload_n 2, 1) := by decide +kernel
theorem dX4_shift_7 : decode cX4_shift 7 = .ok (.bipush 10, 2) := by decide +kernel
theorem dX4_shift_9 : decode cX4_shift 9 = .ok (.if_icmp .ge 44, 3) := by decide +kernel
theorem dX4_shift_12 : decode cX4_shift 12 = .ok (.iload_n 2, 1) := by decide +kernel
theorem dX4_shift_13 : decode cX4_shift 13 = .ok (.iload_n 1, 1) := by decide +kernel
theorem dX4_shift_14 : decode cX4_shift 14 = .ok (.iadd, 1) := by decide +kernel
theorem dX4_shift_15 : decode cX4_shift 15 = .ok (.bipush 10, 2) := by decide +kernel
theorem dX4_shift_17 : decode cX4_shift 17 = .ok (.irem, 1) := by decide +kernel
theorem dX4_shift_18 : decode cX4_shift 18 = .ok (.istore_n 3, 1) := by decide +kernel
theorem dX4_shift_19 : decode cX4_shift 19 = .ok (.aload_n 0, 1) := by decide +kernel
theorem dX4_shift_20 : decode cX4_shift 20 = .ok (.getfield 9, 3) := by decide +kernel
theorem dX4_shift_23 : decode cX4_shift 23 = .ok (.iload_n 3, 1) := by decide +kernel
theorem dX4_shift_24 : decode cX4_shift 24 = .ok (.aload_n 0, 1) := by decide +kernel
theorem dX4_shift_25 : decode cX4_shift 25 = .ok (.getfield 18, 3) := by decide +kernel
theorem dX4_shift_28 : decode cX4_shift 28 = .ok (.iload_n 2, 1) := by decide +kernel
theorem dX4_shift_29 : decode cX4_shift 29 = .ok (.iaload, 1) := by decide +kernel
theorem dX4_shift_30 : decode cX4_shift 30 = .ok (.invokestatic 59, 3) := by decide +kernel
theorem dX4_shift_33 : decode cX4_shift 33 = .ok (.aload_n 0, 1) := by decide +kernel
theorem dX4_shift_34 : decode cX4_shift 34 = .ok (.getfield 15, 3) := by decide +kernel
theorem dX4_shift_37 : decode cX4_shift 37 = .ok (.iload_n 3, 1) := by decide +kernel
theorem dX4_shift_38 : decode cX4_shift 38 = .ok (.aload_n 0, 1) := by decide +kernel
theorem dX4_shift_39 : decode cX4_shift 39 = .ok (.getfield 21, 3) := by decide +kernel
theorem dX4_shift_42 : decode cX4_shift 42 = .ok (.iload_n 2, 1) := by decide +kernel
theorem dX4_shift_43 : decode cX4_shift 43 = .ok (.iaload, 1) := by decide +kernel
theorem dX4_shift_44 : decode cX4_shift 44 = .ok (.invokestatic 59, 3) := by decide +kernel
theorem dX4_shift_47 : decode cX4_shift 47 = .ok (.iinc 2 1, 3) := by decide +kernel
theorem dX4_shift_50 : decode cX4_shift 50 = .ok (.goto (-44), 3) := by decide +kernel
theorem dX4_shift_53 : decode cX4_shift 53 = .ok (.return_, 1) := by decide +kernel
theorem dX4_mirror_0 : decode cX4_mirror 0 = .ok (.iload_n 1, 1) := by decide +kernel
theorem dX4_mirror_1 : decode cX4_mirror 1 = .ok (.istore_n 3, 1) := by decide +kernel
theorem dX4_mirror_2 : decode cX4_mirror 2 = .ok (.iload_n 3, 1) := by decide +kernel
theorem dX4_mirror_3 : decode cX4_mirror 3 = .ok (.iload_n 2, 1) := by decide +kernel
theorem dX4_mirror_4 : decode cX4_mirror 4 = .ok (.if_icmp .gt 15, 3) := by decide +kernel
theorem dX4_mirror_7 : decode cX4_mirror 7 = .ok (.aload_n 0, 1) := by decide +kernel
theorem dX4_mirror_8 : decode cX4_mirror 8 = .ok (.iload_n 3, 1) := by decide +kernel
theorem dX4_mirror_9 : decode cX4_mirror 9 = .ok (.iconst 2, 1) := by decide +kernel
theorem dX4_mirror_10 : decode cX4_mirror 10 = .ok (.invokevirtual 49, 3) := by decide +kernel
theorem dX4_mirror_13 : decode cX4_mirror 13 = .ok (.iinc 3 1, 3) := by decide +kernel
theorem dX4_mirror_16 : decode cX4_mirror 16 = .ok (.goto (-14), 3) := by decide +kernel
theorem dX4_mirror_19 : decode cX4_mirror 19 = .ok (.iconst 0, 1) := by decide +kernel
theorem dX4_mirror_20 : decode cX4_mirror 20 = .ok (.istore_n 3, 1) := by decide +kernel
theorem dX4_mirror_21 : decode cX4_mirror 21 = .ok (.iload_n 1, 1) := by decide +kernel
theorem dX4_mirror_22 : decode cX4_mirror 22 = .ok (.iload_n 3, 1) := by decide +kernel
theorem dX4_mirror_23 : decode cX4_mirror 23 = .ok (.iadd, 1) := by decide +kernel
theorem dX4_mirror_24 : decode cX4_mirror 24 = .ok (.iload_n 2, 1) := by decide +kernel
theorem dX4_mirror_25 : decode cX4_mirror 25 = .ok (.iload_n 3, 1) := by decide +kernel
theorem dX4_mirror_26 : decode cX4_mirror 26 = .ok (.isub, 1) := by decide +kernel
theorem dX4_mirror_27 : decode cX4_mirror 27 = .ok (.if_icmp .ge 19, 3) := by decide +kernel
theorem dX4_mirror_30 : decode cX4_mirror 30 = .ok (.aload_n 0, 1) := by decide +kernel
theorem dX4_mirror_31 : decode cX4_mirror 31 = .ok (.iload_n 1, 1) := by decide +kernel
theorem dX4_mirror_32 : decode cX4_mirror 32 = .ok (.iload_n 3, 1) := by decide +kernel
theorem dX4_mirror_33 : decode cX4_mirror 33 = .ok (.iadd, 1) := by decide +kernel
theorem dX4_mirror_34 : decode cX4_mirror 34 = .ok (.iload_n 2, 1) := by decide +kernel
theorem dX4_mirror_35 : decode cX4_mirror 35 = .ok (.iload_n 3, 1) := by decide +kernel
theorem dX4_mirror_36 : decode cX4_mirror 36 = .ok (.isub, 1) := by decide +kernel
theorem dX4_mirror_37 : decode cX4_mirror 37 = .ok (.invokevirtual 45, 3) := by decide +kernel
theorem dX4_mirror_40 : decode cX4_mirror 40 = .ok (.iinc 3 1, 3) := by decide +kernel
theorem dX4_mirror_43 : decode cX4_mirror 43 = .ok (.goto (-22), 3) := by decide +kernel
theorem dX4_mirror_46 : decode cX4_mirror 46 = .ok (.return_, 1) := by decide +kernel
theorem dX4_remember_0 : decode cX4_remember 0 = .ok (.aload_n 0, 1) := by decide +kernel
theorem dX4_remember_1 : decode cX4_remember 1 = .ok (.getfield 9, 3) := by decide +kernel
theorem dX4_remember_4 : decode cX4_remember 4 = .ok (.aload_n 0, 1) := by decide +kernel
theorem dX4_remember_5 : decode cX4_remember 5 = .ok (.getfield 18, 3) := by decide +kernel
theorem dX4_remember_8 : decode cX4_remember 8 = .ok (.invokestatic 27, 3) := by decide +kernel
theorem dX4_remember_11 : decode cX4_remember 11 = .ok (.aload_n 0, 1) := by decide +kernel
theorem dX4_remember_12 : decode cX4_remember 12 = .ok (.getfield 15, 3) := by decide +kernel
theorem dX4_remember_15 : decode cX4_remember 15 = .ok (.aload_n 0, 1) := by decide +kernel
theorem dX4_remember_16 : decode cX4_remember 16 = .ok (.getfield 21, 3) := by decide +kernel
theorem dX4_remember_19 : decode cX4_remember 19 = .ok (.invokestatic 27, 3) := by decide +kernel
theorem dX4_remember_22 : decode cX4_remember 22 = .ok (.return_, 1) := by decide +kernel
theorem dX4_follow_0 : decode cX4_follow 0 = .ok (.aload_n 0, 1) := by decide +kernel
theorem dX4_follow_1 : decode cX4_follow 1 = .ok (.invokevirtual 63, 3) := by decide +kernel
theorem dX4_follow_4 : decode cX4_follow 4 = .ok (.iconst 0, 1) := by decide +kernel
theorem dX4_follow_5 : decode cX4_follow 5 = .ok (.istore_n 2, 1) := by decide +kernel
theorem dX4_follow_6 : decode cX4_follow 6 = .ok (.iload_n 2, 1) := by decide +kernel
theorem dX4_follow_7 : decode cX4_follow 7 = .ok (.bipush 10, 2) := by decide +kernel
theorem dX4_follow_9 : decode cX4_follow 9 = .ok (.if_icmp .ge 53, 3) := by decide +kernel
theorem dX4_follow_12 : decode cX4_follow 12 = .ok (.aload_n 1, 1) := by decide +kernel
theorem dX4_follow_13 : decode cX4_follow 13 = .ok (.getfield 9, 3) := by decide +kernel
theorem dX4_follow_16 : decode cX4_follow 16 = .ok (.iload_n 2, 1) := by decide +kernel
theorem dX4_follow_17 : decode cX4_follow 17 = .ok (.iaload, 1) := by decide +kernel
theorem dX4_follow_18 : decode cX4_follow 18 = .ok (.istore_n 3, 1) := by decide +kernel
theorem dX4_follow_19 : decode cX4_follow 19 = .ok (.aload_n 0, 1) := by decide +kernel
theorem dX4_follow_20 : decode cX4_follow 20 = .ok (.getfield 9, 3) := by decide +kernel
theorem dX4_follow_23 : decode cX4_follow 23 = .ok (.iload_n 2, 1) := by decide +kernel
theorem dX4_follow_24 : decode cX4_follow 24 = .ok (.aload_n 0, 1) := by decide +kernel
theorem dX4_follow_25 : decode cX4_follow 25 = .ok (.getfield 18, 3) := by decide +kernel
theorem dX4_follow_28 : decode cX4_follow 28 = .ok (.iload_n 3, 1) := by decide +kernel
theorem dX4_follow_29 : decode cX4_follow 29 = .ok (.invokestatic 31, 3) := by decide +kernel
theorem dX4_follow_32 : decode cX4_follow 32 = .ok (.iastore, 1) := by decide +kernel
theorem dX4_follow_33 : decode cX4_follow 33 = .ok (.aload_n 0, 1) := by decide +kernel
theorem dX4_follow_34 : decode cX4_follow 34 = .ok (.getfield 15, 3) := by decide +kernel
theorem dX4_follow_37 : decode cX4_follow 37 = .ok (.iload_n 2, 1) := by decide +kernel
theorem dX4_follow_38 : decode cX4_follow 38 = .ok (.aload_n 0, 1) := by decide +kernel
theorem dX4_follow_39 : decode cX4_follow 39 = .ok (.getfield 21, 3) := by decide +kernel
theorem dX4_follow_42 : decode cX4_follow 42 = .ok (.iload_n 3, 1) := by decide +kernel
theorem dX4_follow_43 : decode cX4_follow 43 = .ok (.invokestatic 31, 3) := by decide +kernel
theorem dX4_follow_46 : decode cX4_follow 46 = .ok (.aload_n 1, 1) := by decide +kernel
theorem dX4_follow_47 : decode cX4_follow 47 = .ok (.getfield 15, 3) := by decide +kernel
theorem dX4_follow_50 : decode cX4_follow 50 = .ok (.iload_n 2, 1) := by decide +kernel
theorem dX4_follow_51 : decode cX4_follow 51 = .ok (.iaload, 1) := by decide +kernel
theorem dX4_follow_52 : decode cX4_follow 52 = .ok (.iadd, 1) := by decide +kernel
theorem dX4_follow_53 : decode cX4_follow 53 = .ok (.iconst 4, 1) := by decide +kernel
theorem dX4_follow_54 : decode cX4_follow 54 = .ok (.irem, 1) := by decide +kernel
theorem dX4_follow_55 : decode cX4_follow 55 = .ok (.iastore, 1) := by decide +kernel
theorem dX4_follow_56 : decode cX4_follow 56 = .ok (.iinc 2 1, 3) := by decide +kernel
theorem dX4_follow_59 : decode cX4_follow 59 = .ok (.goto (-53), 3) := by decide +kernel
theorem dX4_follow_62 : decode cX4_follow 62 = .ok (.return_, 1) := by decide +kernel
theorem dX4_isBroughtHomeBy_0 : decode cX4_isBroughtHomeBy 0 = .ok (.iconst 0, 1) := by decide +kernel
theorem dX4_isBroughtHomeBy_1 : decode cX4_isBroughtHomeBy 1 = .ok (.istore_n 2, 1) := by decide +kernel
theorem dX4_isBroughtHomeBy_2 : decode cX4_isBroughtHomeBy 2 = .ok (.iload_n 2, 1) := by decide +kernel
theorem dX4_isBroughtHomeBy_3 : decode cX4_isBroughtHomeBy 3 = .ok (.bipush 10, 2) := by decide +kernel
theorem dX4_isBroughtHomeBy_5 : decode cX4_isBroughtHomeBy 5 = .ok (.if_icmp .ge 50, 3) := by decide +kernel
theorem dX4_isBroughtHomeBy_8 : decode cX4_isBroughtHomeBy 8 = .ok (.aload_n 1, 1) := by decide +kernel
theorem dX4_isBroughtHomeBy_9 : decode cX4_isBroughtHomeBy 9 = .ok (.getfield 9, 3) := by decide +kernel
theorem dX4_isBroughtHomeBy_12 : decode cX4_isBroughtHomeBy 12 = .ok (.iload_n 2, 1) := by decide +kernel
theorem dX4_isBroughtHomeBy_13 : decode cX4_isBroughtHomeBy 13 = .ok (.iaload, 1) := by decide +kernel
theorem dX4_isBroughtHomeBy_14 : decode cX4_isBroughtHomeBy 14 = .ok (.istore_n 3, 1) := by decide +kernel
theorem dX4_isBroughtHomeBy_15 : decode cX4_isBroughtHomeBy 15 = .ok (.aload_n 0, 1) := by decide +kernel
theorem dX4_isBroughtHomeBy_16 : decode cX4_isBroughtHomeBy 16 = .ok (.getfield 9, 3) := by decide +kernel
theorem dX4_isBroughtHomeBy_19 : decode cX4_isBroughtHomeBy 19 = .ok (.iload_n 3, 1) := by decide +kernel
theorem dX4_isBroughtHomeBy_20 : decode cX4_isBroughtHomeBy 20 = .ok (.invokestatic 31, 3) := by decide +kernel
theorem dX4_isBroughtHomeBy_23 : decode cX4_isBroughtHomeBy 23 = .ok (.iload_n 2, 1) := by decide +kernel
theorem dX4_isBroughtHomeBy_24 : decode cX4_isBroughtHomeBy 24 = .ok (.if_icmp .ne 23, 3) := by decide +kernel
theorem dX4_isBroughtHomeBy_27 : decode cX4_isBroughtHomeBy 27 = .ok (.aload_n 0, 1) := by decide +kernel
theorem dX4_isBroughtHomeBy_28 : decode cX4_isBroughtHomeBy 28 = .ok (.getfield 15, 3) := by decide +kernel
theorem dX4_isBroughtHomeBy_31 : decode cX4_isBroughtHomeBy 31 = .ok (.iload_n 3, 1) := by decide +kernel
theorem dX4_isBroughtHomeBy_32 : decode cX4_isBroughtHomeBy 32 = .ok (.invokestatic 31, 3) := by decide +kernel
theorem dX4_isBroughtHomeBy_35 : decode cX4_isBroughtHomeBy 35 = .ok (.aload_n 1, 1) := by decide +kernel
theorem dX4_isBroughtHomeBy_36 : decode cX4_isBroughtHomeBy 36 = .ok (.getfield 15, 3) := by decide +kernel
theorem dX4_isBroughtHomeBy_39 : decode cX4_isBroughtHomeBy 39 = .ok (.iload_n 2, 1) := by decide +kernel
theorem dX4_isBroughtHomeBy_40 : decode cX4_isBroughtHomeBy 40 = .ok (.iaload, 1) := by decide +kernel
theorem dX4_isBroughtHomeBy_41 : decode cX4_isBroughtHomeBy 41 = .ok (.iadd, 1) := by decide +kernel
theorem dX4_isBroughtHomeBy_42 : decode cX4_isBroughtHomeBy 42 = .ok (.iconst 4, 1) := by decide +kernel
theorem dX4_isBroughtHomeBy_43 : decode cX4_isBroughtHomeBy 43 = .ok (.irem, 1) := by decide +kernel
theorem dX4_isBroughtHomeBy_44 : decode cX4_isBroughtHomeBy 44 = .ok (.ifCond .eq 5, 3) := by decide +kernel
theorem dX4_isBroughtHomeBy_47 : decode cX4_isBroughtHomeBy 47 = .ok (.iconst 0, 1) := by decide +kernel
theorem dX4_isBroughtHomeBy_48 : decode cX4_isBroughtHomeBy 48 = .ok (.ireturn, 1) := by decide +kernel
theorem dX4_isBroughtHomeBy_49 : decode cX4_isBroughtHomeBy 49 = .ok (.iinc 2 1, 3) := by decide +kernel
theorem dX4_isBroughtHomeBy_52 : decode cX4_isBroughtHomeBy 52 = .ok (.goto (-50), 3) := by decide +kernel
theorem dX4_isBroughtHomeBy_55 : decode cX4_isBroughtHomeBy 55 = .ok (.iconst 1, 1) := by decide +kernel
theorem dX4_isBroughtHomeBy_56 : decode cX4_isBroughtHomeBy 56 = .ok (.ireturn, 1) := by decide +kernel
theorem dX4_isHome_0 : decode cX4_isHome 0 = .ok (.aload_n 0, 1) := by decide +kernel
theorem dX4_isHome_1 : decode cX4_isHome 1 = .ok (.invokevirtual 66, 3) := by decide +kernel
theorem dX4_isHome_4 : decode cX4_isHome 4 = .ok (.bipush 10, 2) := by decide +kernel
theorem dX4_isHome_6 : decode cX4_isHome 6 = .ok (.if_icmp .ne 7, 3) := by decide +kernel
theorem dX4_isHome_9 : decode cX4_isHome 9 = .ok (.iconst 1, 1) := by decide +kernel
theorem dX4_isHome_10 : decode cX4_isHome 10 = .ok (.goto 4, 3) := by decide +kernel
theorem dX4_isHome_13 : decode cX4_isHome 13 = .ok (.iconst 0, 1) := by decide +kernel
theorem dX4_isHome_14 : decode cX4_isHome 14 = .ok (.ireturn, 1) := by decide +kernel
theorem dX4_isSameAs_0 : decode cX4_isSameAs 0 = .ok (.iconst 0, 1) := by decide +kernel
theorem dX4_isSameAs_1 : decode cX4_isSameAs 1 = .ok (.istore_n 2, 1) := by decide +kernel
theorem dX4_isSameAs_2 : decode cX4_isSameAs 2 = .ok (.iload_n 2, 1) := by decide +kernel
theorem dX4_isSameAs_3 : decode cX4_isSameAs 3 = .ok (.bipush 10, 2) := by decide +kernel
theorem dX4_isSameAs_5 : decode cX4_isSameAs 5 = .ok (.if_icmp .ge 41, 3) := by decide +kernel
theorem dX4_isSameAs_8 : decode cX4_isSameAs 8 = .ok (.aload_n 0, 1) := by decide +kernel
theorem dX4_isSameAs_9 : decode cX4_isSameAs 9 = .ok (.getfield 9, 3) := by decide +kernel
theorem dX4_isSameAs_12 : decode cX4_isSameAs 12 = .ok (.iload_n 2, 1) := by decide +kernel
theorem dX4_isSameAs_13 : decode cX4_isSameAs 13 = .ok (.iaload, 1) := by decide +kernel
theorem dX4_isSameAs_14 : decode cX4_isSameAs 14 = .ok (.aload_n 1, 1) := by decide +kernel
theorem dX4_isSameAs_15 : decode cX4_isSameAs 15 = .ok (.getfield 9, 3) := by decide +kernel
theorem dX4_isSameAs_18 : decode cX4_isSameAs 18 = .ok (.iload_n 2, 1) := by decide +kernel
theorem dX4_isSameAs_19 : decode cX4_isSameAs 19 = .ok (.iaload, 1) := by decide +kernel
theorem dX4_isSameAs_20 : decode cX4_isSameAs 20 = .ok (.if_icmp .ne 18, 3) := by decide +kernel
theorem dX4_isSameAs_23 : decode cX4_isSameAs 23 = .ok (.aload_n 0, 1) := by decide +kernel
theorem dX4_isSameAs_24 : decode cX4_isSameAs 24 = .ok (.getfield 15, 3) := by decide +kernel
theorem dX4_isSameAs_27 : decode cX4_isSameAs 27 = .ok (.iload_n 2, 1) := by decide +kernel
theorem dX4_isSameAs_28 : decode cX4_isSameAs 28 = .ok (.iaload, 1) := by decide +kernel
theorem dX4_isSameAs_29 : decode cX4_isSameAs 29 = .ok (.aload_n 1, 1) := by decide +kernel
theorem dX4_isSameAs_30 : decode cX4_isSameAs 30 = .ok (.getfield 15, 3) := by decide +kernel
theorem dX4_isSameAs_33 : decode cX4_isSameAs 33 = .ok (.iload_n 2, 1) := by decide +kernel
theorem dX4_isSameAs_34 : decode cX4_isSameAs 34 = .ok (.iaload, 1) := by decide +kernel
theorem dX4_isSameAs_35 : decode cX4_isSameAs 35 = .ok (.if_icmp .eq 5, 3) := by decide +kernel
theorem dX4_isSameAs_38 : decode cX4_isSameAs 38 = .ok (.iconst 0, 1) := by decide +kernel
theorem dX4_isSameAs_39 : decode cX4_isSameAs 39 = .ok (.ireturn, 1) := by decide +kernel
theorem dX4_isSameAs_40 : decode cX4_isSameAs 40 = .ok (.iinc 2 1, 3) := by decide +kernel
theorem dX4_isSameAs_43 : decode cX4_isSameAs 43 = .ok (.goto (-41), 3) := by decide +kernel
theorem dX4_isSameAs_46 : decode cX4_isSameAs 46 = .ok (.iconst 1, 1) := by decide +kernel
theorem dX4_isSameAs_47 : decode cX4_isSameAs 47 = .ok (.ireturn, 1) := by decide +kernel
theorem dX4_homeCount_0 : decode cX4_homeCount 0 = .ok (.iconst 0, 1) := by decide +kernel
theorem dX4_homeCount_1 : decode cX4_homeCount 1 = .ok (.istore_n 1, 1) := by decide +kernel
theorem dX4_homeCount_2 : decode cX4_homeCount 2 = .ok (.iconst 0, 1) := by decide +kernel
theorem dX4_homeCount_3 : decode cX4_homeCount 3 = .ok (.istore_n 2, 1) := by decide +kernel
theorem dX4_homeCount_4 : decode cX4_homeCount 4 = .ok (.iload_n 2, 1) := by decide +kernel
theorem dX4_homeCount_5 : decode cX4_homeCount 5 = .ok (.bipush 10, 2) := by decide +kernel
theorem dX4_homeCount_7 : decode cX4_homeCount 7 = .ok (.if_icmp .ge 31, 3) := by decide +kernel
theorem dX4_homeCount_10 : decode cX4_homeCount 10 = .ok (.aload_n 0, 1) := by decide +kernel
theorem dX4_homeCount_11 : decode cX4_homeCount 11 = .ok (.getfield 9, 3) := by decide +kernel
theorem dX4_homeCount_14 : decode cX4_homeCount 14 = .ok (.iload_n 2, 1) := by decide +kernel
theorem dX4_homeCount_15 : decode cX4_homeCount 15 = .ok (.iaload, 1) := by decide +kernel
theorem dX4_homeCount_16 : decode cX4_homeCount 16 = .ok (.iload_n 2, 1) := by decide +kernel
theorem dX4_homeCount_17 : decode cX4_homeCount 17 = .ok (.if_icmp .ne 15, 3) := by decide +kernel
theorem dX4_homeCount_20 : decode cX4_homeCount 20 = .ok (.aload_n 0, 1) := by decide +kernel
theorem dX4_homeCount_21 : decode cX4_homeCount 21 = .ok (.getfield 15, 3) := by decide +kernel
theorem dX4_homeCount_24 : decode cX4_homeCount 24 = .ok (.iload_n 2, 1) := by decide +kernel
theorem dX4_homeCount_25 : decode cX4_homeCount 25 = .ok (.iaload, 1) := by decide +kernel
theorem dX4_homeCount_26 : decode cX4_homeCount 26 = .ok (.ifCond .ne 6, 3) := by decide +kernel
theorem dX4_homeCount_29 : decode cX4_homeCount 29 = .ok (.iinc 1 1, 3) := by decide +kernel
theorem dX4_homeCount_32 : decode cX4_homeCount 32 = .ok (.iinc 2 1, 3) := by decide +kernel
theorem dX4_homeCount_35 : decode cX4_homeCount 35 = .ok (.goto (-31), 3) := by decide +kernel
theorem dX4_homeCount_38 : decode cX4_homeCount 38 = .ok (.iload_n 1, 1) := by decide +kernel
theorem dX4_homeCount_39 : decode cX4_homeCount 39 = .ok (.ireturn, 1) := by decide +kernel
theorem dX4_placedCount_0 : decode cX4_placedCount 0 = .ok (.iconst 0, 1) := by decide +kernel
theorem dX4_placedCount_1 : decode cX4_placedCount 1 = .ok (.istore_n 1, 1) := by decide +kernel
theorem dX4_placedCount_2 : decode cX4_placedCount 2 = .ok (.iconst 0, 1) := by decide +kernel
theorem dX4_placedCount_3 : decode cX4_placedCount 3 = .ok (.istore_n 2, 1) := by decide +kernel
theorem dX4_placedCount_4 : decode cX4_placedCount 4 = .ok (.iload_n 2, 1) := by decide +kernel
theorem dX4_placedCount_5 : decode cX4_placedCount 5 = .ok (.bipush 10, 2) := by decide +kernel
theorem dX4_placedCount_7 : decode cX4_placedCount 7 = .ok (.if_icmp .ge 22, 3) := by decide +kernel
theorem dX4_placedCount_10 : decode cX4_placedCount 10 = .ok (.aload_n 0, 1) := by decide +kernel
theorem dX4_placedCount_11 : decode cX4_placedCount 11 = .ok (.getfield 9, 3) := by decide +kernel
theorem dX4_placedCount_14 : decode cX4_placedCount 14 = .ok (.iload_n 2, 1) := by decide +kernel
theorem dX4_placedCount_15 : decode cX4_placedCount 15 = .ok (.iaload, 1) := by decide +kernel
theorem dX4_placedCount_16 : decode cX4_placedCount 16 = .ok (.iload_n 2, 1) := by decide +kernel
theorem dX4_placedCount_17 : decode cX4_placedCount 17 = .ok (.if_icmp .ne 6, 3) := by decide +kernel
theorem dX4_placedCount_20 : decode cX4_placedCount 20 = .ok (.iinc 1 1, 3) := by decide +kernel
theorem dX4_placedCount_23 : decode cX4_placedCount 23 = .ok (.iinc 2 1, 3) := by decide +kernel
theorem dX4_placedCount_26 : decode cX4_placedCount 26 = .ok (.goto (-22), 3) := by decide +kernel
theorem dX4_placedCount_29 : decode cX4_placedCount 29 = .ok (.iload_n 1, 1) := by decide +kernel
theorem dX4_placedCount_30 : decode cX4_placedCount 30 = .ok (.ireturn, 1) := by decide +kernel
theorem dX4_straightCount_0 : decode cX4_straightCount 0 = .ok (.iconst 0, 1) := by decide +kernel
theorem dX4_straightCount_1 : decode cX4_straightCount 1 = .ok (.istore_n 1, 1) := by decide +kernel
theorem dX4_straightCount_2 : decode cX4_straightCount 2 = .ok (.iconst 0, 1) := by decide +kernel
theorem dX4_straightCount_3 : decode cX4_straightCount 3 = .ok (.istore_n 2, 1) := by decide +kernel
theorem dX4_straightCount_4 : decode cX4_straightCount 4 = .ok (.iload_n 2, 1) := by decide +kernel
theorem dX4_straightCount_5 : decode cX4_straightCount 5 = .ok (.bipush 10, 2) := by decide +kernel
theorem dX4_straightCount_7 : decode cX4_straightCount 7 = .ok (.if_icmp .ge 21, 3) := by decide +kernel
theorem dX4_straightCount_10 : decode cX4_straightCount 10 = .ok (.aload_n 0, 1) := by decide +kernel
theorem dX4_straightCount_11 : decode cX4_straightCount 11 = .ok (.getfield 15, 3) := by decide +kernel
theorem dX4_straightCount_14 : decode cX4_straightCount 14 = .ok (.iload_n 2, 1) := by decide +kernel
theorem dX4_straightCount_15 : decode cX4_straightCount 15 = .ok (.iaload, 1) := by decide +kernel
theorem dX4_straightCount_16 : decode cX4_straightCount 16 = .ok (.ifCond .ne 6, 3) := by decide +kernel
theorem dX4_straightCount_19 : decode cX4_straightCount 19 = .ok (.iinc 1 1, 3) := by decide +kernel
theorem dX4_straightCount_22 : decode cX4_straightCount 22 = .ok (.iinc 2 1, 3) := by decide +kernel
theorem dX4_straightCount_25 : decode cX4_straightCount 25 = .ok (.goto (-21), 3) := by decide +kernel
theorem dX4_straightCount_28 : decode cX4_straightCount 28 = .ok (.iload_n 1, 1) := by decide +kernel
theorem dX4_straightCount_29 : decode cX4_straightCount 29 = .ok (.ireturn, 1) := by decide +kernel
theorem dX4_oddness_0 : decode cX4_oddness 0 = .ok (.iconst 0, 1) := by decide +kernel
theorem dX4_oddness_1 : decode cX4_oddness 1 = .ok (.istore_n 1, 1) := by decide +kernel
theorem dX4_oddness_2 : decode cX4_oddness 2 = .ok (.iconst 0, 1) := by decide +kernel
theorem dX4_oddness_3 : decode cX4_oddness 3 = .ok (.istore_n 2, 1) := by decide +kernel
theorem dX4_oddness_4 : decode cX4_oddness 4 = .ok (.iload_n 2, 1) := by decide +kernel
theorem dX4_oddness_5 : decode cX4_oddness 5 = .ok (.bipush 10, 2) := by decide +kernel
theorem dX4_oddness_7 : decode cX4_oddness 7 = .ok (.if_icmp .ge 43, 3) := by decide +kernel
theorem dX4_oddness_10 : decode cX4_oddness 10 = .ok (.iload_n 2, 1) := by decide +kernel
theorem dX4_oddness_11 : decode cX4_oddness 11 = .ok (.iconst 1, 1) := by decide +kernel
theorem dX4_oddness_12 : decode cX4_oddness 12 = .ok (.iadd, 1) := by decide +kernel
theorem dX4_oddness_13 : decode cX4_oddness 13 = .ok (.istore_n 3, 1) := by decide +kernel
theorem dX4_oddness_14 : decode cX4_oddness 14 = .ok (.iload_n 3, 1) := by decide +kernel
theorem dX4_oddness_15 : decode cX4_oddness 15 = .ok (.bipush 10, 2) := by decide +kernel
theorem dX4_oddness_17 : decode cX4_oddness 17 = .ok (.if_icmp .ge 27, 3) := by decide +kernel
theorem dX4_oddness_20 : decode cX4_oddness 20 = .ok (.aload_n 0, 1) := by decide +kernel
theorem dX4_oddness_21 : decode cX4_oddness 21 = .ok (.getfield 9, 3) := by decide +kernel
theorem dX4_oddness_24 : decode cX4_oddness 24 = .ok (.iload_n 2, 1) := by decide +kernel
theorem dX4_oddness_25 : decode cX4_oddness 25 = .ok (.iaload, 1) := by decide +kernel
theorem dX4_oddness_26 : decode cX4_oddness 26 = .ok (.aload_n 0, 1) := by decide +kernel
theorem dX4_oddness_27 : decode cX4_oddness 27 = .ok (.getfield 9, 3) := by decide +kernel
theorem dX4_oddness_30 : decode cX4_oddness 30 = .ok (.iload_n 3, 1) := by decide +kernel
theorem dX4_oddness_31 : decode cX4_oddness 31 = .ok (.iaload, 1) := by decide +kernel
theorem dX4_oddness_32 : decode cX4_oddness 32 = .ok (.if_icmp .le 6, 3) := by decide +kernel
theorem dX4_oddness_35 : decode cX4_oddness 35 = .ok (.iinc 1 1, 3) := by decide +kernel
theorem dX4_oddness_38 : decode cX4_oddness 38 = .ok (.iinc 3 1, 3) := by decide +kernel
theorem dX4_oddness_41 : decode cX4_oddness 41 = .ok (.goto (-27), 3) := by decide +kernel
theorem dX4_oddness_44 : decode cX4_oddness 44 = .ok (.iinc 2 1, 3) := by decide +kernel
theorem dX4_oddness_47 : decode cX4_oddness 47 = .ok (.goto (-43), 3) := by decide +kernel
theorem dX4_oddness_50 : decode cX4_oddness 50 = .ok (.iload_n 1, 1) := by decide +kernel
theorem dX4_oddness_51 : decode cX4_oddness 51 = .ok (.iconst 2, 1) := by decide +kernel
theorem dX4_oddness_52 : decode cX4_oddness 52 = .ok (.irem, 1) := by decide +kernel
theorem dX4_oddness_53 : decode cX4_oddness 53 = .ok (.ireturn, 1) := by decide +kernel
theorem dX4_placesFromHome_0 : decode cX4_placesFromHome 0 = .ok (.iconst 0, 1) := by decide +kernel
theorem dX4_placesFromHome_1 : decode cX4_placesFromHome 1 = .ok (.istore_n 1, 1) := by decide +kernel
theorem dX4_placesFromHome_2 : decode cX4_placesFromHome 2 = .ok (.iconst 0, 1) := by decide +kernel
theorem dX4_placesFromHome_3 : decode cX4_placesFromHome 3 = .ok (.istore_n 2, 1) := by decide +kernel
theorem dX4_placesFromHome_4 : decode cX4_placesFromHome 4 = .ok (.iload_n 2, 1) := by decide +kernel
theorem dX4_placesFromHome_5 : decode cX4_placesFromHome 5 = .ok (.bipush 10, 2) := by decide +kernel
theorem dX4_placesFromHome_7 : decode cX4_placesFromHome 7 = .ok (.if_icmp .ge 32, 3) := by decide +kernel
theorem dX4_placesFromHome_10 : decode cX4_placesFromHome 10 = .ok (.iload_n 2, 1) := by decide +kernel
theorem dX4_placesFromHome_11 : decode cX4_placesFromHome 11 = .ok (.aload_n 0, 1) := by decide +kernel
theorem dX4_placesFromHome_12 : decode cX4_placesFromHome 12 = .ok (.getfield 9, 3) := by decide +kernel
theorem dX4_placesFromHome_15 : decode cX4_placesFromHome 15 = .ok (.iload_n 2, 1) := by decide +kernel
theorem dX4_placesFromHome_16 : decode cX4_placesFromHome 16 = .ok (.iaload, 1) := by decide +kernel
theorem dX4_placesFromHome_17 : decode cX4_placesFromHome 17 = .ok (.isub, 1) := by decide +kernel
theorem dX4_placesFromHome_18 : decode cX4_placesFromHome 18 = .ok (.invokestatic 70, 3) := by decide +kernel
theorem dX4_placesFromHome_21 : decode cX4_placesFromHome 21 = .ok (.istore_n 3, 1) := by decide +kernel
theorem dX4_placesFromHome_22 : decode cX4_placesFromHome 22 = .ok (.iload_n 1, 1) := by decide +kernel
theorem dX4_placesFromHome_23 : decode cX4_placesFromHome 23 = .ok (.iload_n 3, 1) := by decide +kernel
theorem dX4_placesFromHome_24 : decode cX4_placesFromHome 24 = .ok (.bipush 10, 2) := by decide +kernel
theorem dX4_placesFromHome_26 : decode cX4_placesFromHome 26 = .ok (.iload_n 3, 1) := by decide +kernel
theorem dX4_placesFromHome_27 : decode cX4_placesFromHome 27 = .ok (.isub, 1) := by decide +kernel
theorem dX4_placesFromHome_28 : decode cX4_placesFromHome 28 = .ok (.invokestatic 75, 3) := by decide +kernel
theorem dX4_placesFromHome_31 : decode cX4_placesFromHome 31 = .ok (.iadd, 1) := by decide +kernel
theorem dX4_placesFromHome_32 : decode cX4_placesFromHome 32 = .ok (.istore_n 1, 1) := by decide +kernel
theorem dX4_placesFromHome_33 : decode cX4_placesFromHome 33 = .ok (.iinc 2 1, 3) := by decide +kernel
theorem dX4_placesFromHome_36 : decode cX4_placesFromHome 36 = .ok (.goto (-32), 3) := by decide +kernel
theorem dX4_placesFromHome_39 : decode cX4_placesFromHome 39 = .ok (.iload_n 1, 1) := by decide +kernel
theorem dX4_placesFromHome_40 : decode cX4_placesFromHome 40 = .ok (.ireturn, 1) := by decide +kernel
theorem dX5_init_0 : decode cX5_init 0 = .ok (.aload_n 0, 1) := by decide +kernel
theorem dX5_init_1 : decode cX5_init 1 = .ok (.invokespecial 3, 3) := by decide +kernel
theorem dX5_init_4 : decode cX5_init 4 = .ok (.aload_n 0, 1) := by decide +kernel
theorem dX5_init_5 : decode cX5_init 5 = .ok (.bipush 80, 2) := by decide +kernel
theorem dX5_init_7 : decode cX5_init 7 = .ok (.newarray .int, 2) := by decide +kernel
theorem dX5_init_9 : decode cX5_init 9 = .ok (.putfield 9, 3) := by decide +kernel
theorem dX5_init_12 : decode cX5_init 12 = .ok (.aload_n 0, 1) := by decide +kernel
theorem dX5_init_13 : decode cX5_init 13 = .ok (.iconst 0, 1) := by decide +kernel
theorem dX5_init_14 : decode cX5_init 14 = .ok (.putfield 15, 3) := by decide +kernel
theorem dX5_init_17 : decode cX5_init 17 = .ok (.return_, 1) := by decide +kernel
theorem dX5_length_0 : decode cX5_length 0 = .ok (.aload_n 0, 1) := by decide +kernel
theorem dX5_length_1 : decode cX5_length 1 = .ok (.getfield 15, 3) := by decide +kernel
theorem dX5_length_4 : decode cX5_length 4 = .ok (.ireturn, 1) := by decide +kernel
theorem dX5_put_0 : decode cX5_put 0 = .ok (.aload_n 0, 1) := by decide +kernel
theorem dX5_put_1 : decode cX5_put 1 = .ok (.getfield 9, 3) := by decide +kernel
theorem dX5_put_4 : decode cX5_put 4 = .ok (.aload_n 0, 1) := by decide +kernel
theorem dX5_put_5 : decode cX5_put 5 = .ok (.getfield 15, 3) := by decide +kernel
theorem dX5_put_8 : decode cX5_put 8 = .ok (.iload_n 1, 1) := by decide +kernel
theorem dX5_put_9 : decode cX5_put 9 = .ok (.invokestatic 19, 3) := by decide +kernel
theorem dX5_put_12 : decode cX5_put 12 = .ok (.aload_n 0, 1) := by decide +kernel
theorem dX5_put_13 : decode cX5_put 13 = .ok (.aload_n 0, 1) := by decide +kernel
theorem dX5_put_14 : decode cX5_put 14 = .ok (.getfield 15, 3) := by decide +kernel
theorem dX5_put_17 : decode cX5_put 17 = .ok (.iconst 1, 1) := by decide +kernel
theorem dX5_put_18 : decode cX5_put 18 = .ok (.iadd, 1) := by decide +kernel
theorem dX5_put_19 : decode cX5_put 19 = .ok (.bipush 80, 2) := by decide +kernel
theorem dX5_put_21 : decode cX5_put 21 = .ok (.invokestatic 23, 3) := by decide +kernel
theorem dX5_put_24 : decode cX5_put 24 = .ok (.putfield 15, 3) := by decide +kernel
theorem dX5_put_27 : decode cX5_put 27 = .ok (.return_, 1) := by decide +kernel
theorem dX5_empty_0 : decode cX5_empty 0 = .ok (.aload_n 0, 1) := by decide +kernel
theorem dX5_empty_1 : decode cX5_empty 1 = .ok (.iconst 0, 1) := by decide +kernel
theorem dX5_empty_2 : decode cX5_empty 2 = .ok (.putfield 15, 3) := by decide +kernel
theorem dX5_empty_5 : decode cX5_empty 5 = .ok (.return_, 1) := by decide +kernel
theorem dX5_signOrEnd_0 : decode cX5_signOrEnd 0 = .ok (.iload_n 1, 1) := by decide +kernel
theorem dX5_signOrEnd_1 : decode cX5_signOrEnd 1 = .ok (.aload_n 0, 1) := by decide +kernel
theorem dX5_signOrEnd_2 : decode cX5_signOrEnd 2 = .ok (.getfield 15, 3) := by decide +kernel
theorem dX5_signOrEnd_5 : decode cX5_signOrEnd 5 = .ok (.if_icmp .ge 14, 3) := by decide +kernel
theorem dX5_signOrEnd_8 : decode cX5_signOrEnd 8 = .ok (.aload_n 0, 1) := by decide +kernel
theorem dX5_signOrEnd_9 : decode cX5_signOrEnd 9 = .ok (.getfield 9, 3) := by decide +kernel
theorem dX5_signOrEnd_12 : decode cX5_signOrEnd 12 = .ok (.iload_n 1, 1) := by decide +kernel
theorem dX5_signOrEnd_13 : decode cX5_signOrEnd 13 = .ok (.invokestatic 29, 3) := by decide +kernel
theorem dX5_signOrEnd_16 : decode cX5_signOrEnd 16 = .ok (.goto 5, 3) := by decide +kernel
theorem dX5_signOrEnd_19 : decode cX5_signOrEnd 19 = .ok (.bipush 32, 2) := by decide +kernel
theorem dX5_signOrEnd_21 : decode cX5_signOrEnd 21 = .ok (.ireturn, 1) := by decide +kernel
theorem dX5_firstFault_0 : decode cX5_firstFault 0 = .ok (.iconst 0, 1) := by decide +kernel
theorem dX5_firstFault_1 : decode cX5_firstFault 1 = .ok (.istore_n 1, 1) := by decide +kernel
theorem dX5_firstFault_2 : decode cX5_firstFault 2 = .ok (.iconst 0, 1) := by decide +kernel
theorem dX5_firstFault_3 : decode cX5_firstFault 3 = .ok (.istore_n 2, 1) := by decide +kernel
theorem dX5_firstFault_4 : decode cX5_firstFault 4 = .ok (.iload_n 2, 1) := by decide +kernel
theorem dX5_firstFault_5 : decode cX5_firstFault 5 = .ok (.aload_n 0, 1) := by decide +kernel
theorem dX5_firstFault_6 : decode cX5_firstFault 6 = .ok (.getfield 15, 3) := by decide +kernel
theorem dX5_firstFault_9 : decode cX5_firstFault 9 = .ok (.if_icmp .ge 29, 3) := by decide +kernel
theorem dX5_firstFault_12 : decode cX5_firstFault 12 = .ok (.iload_n 1, 1) := by decide +kernel
theorem dX5_firstFault_13 : decode cX5_firstFault 13 = .ok (.aload_n 0, 1) := by decide +kernel
theorem dX5_firstFault_14 : decode cX5_firstFault 14 = .ok (.getfield 9, 3) := by decide +kernel
theorem dX5_firstFault_17 : decode cX5_firstFault 17 = .ok (.iload_n 2, 1) := by decide +kernel
theorem dX5_firstFault_18 : decode cX5_firstFault 18 = .ok (.invokestatic 29, 3) := by decide +kernel
theorem dX5_firstFault_21 : decode cX5_firstFault 21 = .ok (.invokestatic 33, 3) := by decide +kernel
theorem dX5_firstFault_24 : decode cX5_firstFault 24 = .ok (.istore_n 1, 1) := by decide +kernel
theorem dX5_firstFault_25 : decode cX5_firstFault 25 = .ok (.iload_n 1, 1) := by decide +kernel
theorem dX5_firstFault_26 : decode cX5_firstFault 26 = .ok (.iconst 4, 1) := by decide +kernel
theorem dX5_firstFault_27 : decode cX5_firstFault 27 = .ok (.if_icmp .ne 5, 3) := by decide +kernel
theorem dX5_firstFault_30 : decode cX5_firstFault 30 = .ok (.iload_n 2, 1) := by decide +kernel
theorem dX5_firstFault_31 : decode cX5_firstFault 31 = .ok (.ireturn, 1) := by decide +kernel
theorem dX5_firstFault_32 : decode cX5_firstFault 32 = .ok (.iinc 2 1, 3) := by decide +kernel
theorem dX5_firstFault_35 : decode cX5_firstFault 35 = .ok (.goto (-31), 3) := by decide +kernel
theorem dX5_firstFault_38 : decode cX5_firstFault 38 = .ok (.iload_n 1, 1) := by decide +kernel
theorem dX5_firstFault_39 : decode cX5_firstFault 39 = .ok (.ifCond .ne 10, 3) := by decide +kernel
theorem dX5_firstFault_42 : decode cX5_firstFault 42 = .ok (.aload_n 0, 1) := by decide +kernel
theorem dX5_firstFault_43 : decode cX5_firstFault 43 = .ok (.getfield 15, 3) := by decide +kernel
theorem dX5_firstFault_46 : decode cX5_firstFault 46 = .ok (.goto 5, 3) := by decide +kernel
theorem dX5_firstFault_49 : decode cX5_firstFault 49 = .ok (.bipush (-5), 2) := by decide +kernel
theorem dX5_firstFault_51 : decode cX5_firstFault 51 = .ok (.ireturn, 1) := by decide +kernel
theorem dX5_after_0 : decode cX5_after 0 = .ok (.iload_n 0, 1) := by decide +kernel
theorem dX5_after_1 : decode cX5_after 1 = .ok (.ifCond .ne 16, 3) := by decide +kernel
theorem dX5_after_4 : decode cX5_after 4 = .ok (.iload_n 1, 1) := by decide +kernel
theorem dX5_after_5 : decode cX5_after 5 = .ok (.invokestatic 36, 3) := by decide +kernel
theorem dX5_after_8 : decode cX5_after 8 = .ok (.ifCond .eq 7, 3) := by decide +kernel
theorem dX5_after_11 : decode cX5_after 11 = .ok (.iconst 1, 1) := by decide +kernel
theorem dX5_after_12 : decode cX5_after 12 = .ok (.goto 4, 3) := by decide +kernel
theorem dX5_after_15 : decode cX5_after 15 = .ok (.iconst 4, 1) := by decide +kernel
theorem dX5_after_16 : decode cX5_after 16 = .ok (.ireturn, 1) := by decide +kernel
theorem dX5_after_17 : decode cX5_after 17 = .ok (.iload_n 1, 1) := by decide +kernel
theorem dX5_after_18 : decode cX5_after 18 = .ok (.bipush 32, 2) := by decide +kernel
theorem dX5_after_20 : decode cX5_after 20 = .ok (.if_icmp .ne 5, 3) := by decide +kernel
theorem dX5_after_23 : decode cX5_after 23 = .ok (.iconst 0, 1) := by decide +kernel
theorem dX5_after_24 : decode cX5_after 24 = .ok (.ireturn, 1) := by decide +kernel
theorem dX5_after_25 : decode cX5_after 25 = .ok (.iload_n 1, 1) := by decide +kernel
theorem dX5_after_26 : decode cX5_after 26 = .ok (.bipush 39, 2) := by decide +kernel
theorem dX5_after_28 : decode cX5_after 28 = .ok (.if_icmp .ne 10, 3) := by decide +kernel
theorem dX5_after_31 : decode cX5_after 31 = .ok (.iload_n 0, 1) := by decide +kernel
theorem dX5_after_32 : decode cX5_after 32 = .ok (.iconst 3, 1) := by decide +kernel
theorem dX5_after_33 : decode cX5_after 33 = .ok (.if_icmp .eq 5, 3) := by decide +kernel
theorem dX5_after_36 : decode cX5_after 36 = .ok (.iconst 3, 1) := by decide +kernel
theorem dX5_after_37 : decode cX5_after 37 = .ok (.ireturn, 1) := by decide +kernel
theorem dX5_after_38 : decode cX5_after 38 = .ok (.iload_n 0, 1) := by decide +kernel
theorem dX5_after_39 : decode cX5_after 39 = .ok (.iconst 1, 1) := by decide +kernel
theorem dX5_after_40 : decode cX5_after 40 = .ok (.if_icmp .ne 19, 3) := by decide +kernel
theorem dX5_after_43 : decode cX5_after 43 = .ok (.iload_n 1, 1) := by decide +kernel
theorem dX5_after_44 : decode cX5_after 44 = .ok (.bipush 50, 2) := by decide +kernel
theorem dX5_after_46 : decode cX5_after 46 = .ok (.if_icmp .lt 13, 3) := by decide +kernel
theorem dX5_after_49 : decode cX5_after 49 = .ok (.iload_n 1, 1) := by decide +kernel
theorem dX5_after_50 : decode cX5_after 50 = .ok (.bipush 57, 2) := by decide +kernel
theorem dX5_after_52 : decode cX5_after 52 = .ok (.if_icmp .gt 7, 3) := by decide +kernel
theorem dX5_after_55 : decode cX5_after 55 = .ok (.iconst 2, 1) := by decide +kernel
theorem dX5_after_56 : decode cX5_after 56 = .ok (.goto 4, 3) := by decide +kernel
theorem dX5_after_59 : decode cX5_after 59 = .ok (.iconst 4, 1) := by decide +kernel
theorem dX5_after_60 : decode cX5_after 60 = .ok (.ireturn, 1) := by decide +kernel
theorem dX5_isLetter_0 : decode cX5_isLetter 0 = .ok (.iload_n 0, 1) := by decide +kernel
theorem dX5_isLetter_1 : decode cX5_isLetter 1 = .ok (.bipush 65, 2) := by decide +kernel
theorem dX5_isLetter_3 : decode cX5_isLetter 3 = .ok (.if_icmp .lt 13, 3) := by decide +kernel
theorem dX5_isLetter_6 : decode cX5_isLetter 6 = .ok (.iload_n 0, 1) := by decide +kernel
theorem dX5_isLetter_7 : decode cX5_isLetter 7 = .ok (.bipush 73, 2) := by decide +kernel
theorem dX5_isLetter_9 : decode cX5_isLetter 9 = .ok (.if_icmp .ge 7, 3) := by decide +kernel
theorem dX5_isLetter_12 : decode cX5_isLetter 12 = .ok (.iconst 1, 1) := by decide +kernel
theorem dX5_isLetter_13 : decode cX5_isLetter 13 = .ok (.goto 4, 3) := by decide +kernel
theorem dX5_isLetter_16 : decode cX5_isLetter 16 = .ok (.iconst 0, 1) := by decide +kernel
theorem dX5_isLetter_17 : decode cX5_isLetter 17 = .ok (.ireturn, 1) := by decide +kernel
theorem dX6_init_0 : decode cX6_init 0 = .ok (.aload_n 0, 1) := by decide +kernel
theorem dX6_init_1 : decode cX6_init 1 = .ok (.invokespecial 3, 3) := by decide +kernel
theorem dX6_init_4 : decode cX6_init 4 = .ok (.aload_n 0, 1) := by decide +kernel
theorem dX6_init_5 : decode cX6_init 5 = .ok (.iconst 4, 1) := by decide +kernel
theorem dX6_init_6 : decode cX6_init 6 = .ok (.newarray .int, 2) := by decide +kernel
theorem dX6_init_8 : decode cX6_init 8 = .ok (.putfield 9, 3) := by decide +kernel
theorem dX6_init_11 : decode cX6_init 11 = .ok (.aload_n 0, 1) := by decide +kernel
theorem dX6_init_12 : decode cX6_init 12 = .ok (.iconst 4, 1) := by decide +kernel
theorem dX6_init_13 : decode cX6_init 13 = .ok (.anewarray 15, 3) := by decide +kernel
theorem dX6_init_16 : decode cX6_init 16 = .ok (.putfield 17, 3) := by decide +kernel
theorem dX6_init_19 : decode cX6_init 19 = .ok (.iconst 0, 1) := by decide +kernel
theorem dX6_init_20 : decode cX6_init 20 = .ok (.istore_n 1, 1) := by decide +kernel
theorem dX6_init_21 : decode cX6_init 21 = .ok (.iload_n 1, 1) := by decide +kernel
theorem dX6_init_22 : decode cX6_init 22 = .ok (.iconst 4, 1) := by decide +kernel
theorem dX6_init_23 : decode cX6_init 23 = .ok (.if_icmp .ge 22, 3) := by decide +kernel
theorem dX6_init_26 : decode cX6_init 26 = .ok (.aload_n 0, 1) := by decide +kernel
theorem dX6_init_27 : decode cX6_init 27 = .ok (.getfield 17, 3) := by decide +kernel
theorem dX6_init_30 : decode cX6_init 30 = .ok (.iload_n 1, 1) := by decide +kernel
theorem dX6_init_31 : decode cX6_init 31 = .ok (.new 15, 3) := by decide +kernel
theorem dX6_init_34 : decode cX6_init 34 = .ok (.dup, 1) := by decide +kernel
theorem dX6_init_35 : decode cX6_init 35 = .ok (.invokespecial 21, 3) := by decide +kernel
theorem dX6_init_38 : decode cX6_init 38 = .ok (.aastore, 1) := by decide +kernel
theorem dX6_init_39 : decode cX6_init 39 = .ok (.iinc 1 1, 3) := by decide +kernel
theorem dX6_init_42 : decode cX6_init 42 = .ok (.goto (-21), 3) := by decide +kernel
theorem dX6_init_45 : decode cX6_init 45 = .ok (.return_, 1) := by decide +kernel
theorem dX6_figureOf_0 : decode cX6_figureOf 0 = .ok (.aload_n 0, 1) := by decide +kernel
theorem dX6_figureOf_1 : decode cX6_figureOf 1 = .ok (.getfield 9, 3) := by decide +kernel
theorem dX6_figureOf_4 : decode cX6_figureOf 4 = .ok (.iload_n 1, 1) := by decide +kernel
theorem dX6_figureOf_5 : decode cX6_figureOf 5 = .ok (.invokestatic 22, 3) := by decide +kernel
theorem dX6_figureOf_8 : decode cX6_figureOf 8 = .ok (.ireturn, 1) := by decide +kernel
theorem dX6_shortest_0 : decode cX6_shortest 0 = .ok (.aload_n 1, 1) := by decide +kernel
theorem dX6_shortest_1 : decode cX6_shortest 1 = .ok (.invokevirtual 26, 3) := by decide +kernel
theorem dX6_shortest_4 : decode cX6_shortest 4 = .ok (.ifCond .eq 5, 3) := by decide +kernel
theorem dX6_shortest_7 : decode cX6_shortest 7 = .ok (.iconst 0, 1) := by decide +kernel
theorem dX6_shortest_8 : decode cX6_shortest 8 = .ok (.ireturn, 1) := by decide +kernel
theorem dX6_shortest_9 : decode cX6_shortest 9 = .ok (.iconst 1, 1) := by decide +kernel
theorem dX6_shortest_10 : decode cX6_shortest 10 = .ok (.istore_n 3, 1) := by decide +kernel
theorem dX6_shortest_11 : decode cX6_shortest 11 = .ok (.iload_n 3, 1) := by decide +kernel
theorem dX6_shortest_12 : decode cX6_shortest 12 = .ok (.iconst 4, 1) := by decide +kernel
theorem dX6_shortest_13 : decode cX6_shortest 13 = .ok (.if_icmp .gt 22, 3) := by decide +kernel
theorem dX6_shortest_16 : decode cX6_shortest 16 = .ok (.aload_n 0, 1) := by decide +kernel
theorem dX6_shortest_17 : decode cX6_shortest 17 = .ok (.aload_n 2, 1) := by decide +kernel
theorem dX6_shortest_18 : decode cX6_shortest 18 = .ok (.aload_n 1, 1) := by decide +kernel
theorem dX6_shortest_19 : decode cX6_shortest 19 = .ok (.iconst 0, 1) := by decide +kernel
theorem dX6_shortest_20 : decode cX6_shortest 20 = .ok (.iload_n 3, 1) := by decide +kernel
theorem dX6_shortest_21 : decode cX6_shortest 21 = .ok (.invokestatic 30, 3) := by decide +kernel
theorem dX6_shortest_24 : decode cX6_shortest 24 = .ok (.ifCond .eq 5, 3) := by decide +kernel
theorem dX6_shortest_27 : decode cX6_shortest 27 = .ok (.iload_n 3, 1) := by decide +kernel
theorem dX6_shortest_28 : decode cX6_shortest 28 = .ok (.ireturn, 1) := by decide +kernel
theorem dX6_shortest_29 : decode cX6_shortest 29 = .ok (.iinc 3 1, 3) := by decide +kernel
theorem dX6_shortest_32 : decode cX6_shortest 32 = .ok (.goto (-21), 3) := by decide +kernel
theorem dX6_shortest_35 : decode cX6_shortest 35 = .ok (.bipush (-5), 2) := by decide +kernel
theorem dX6_shortest_37 : decode cX6_shortest 37 = .ok (.ireturn, 1) := by decide +kernel
theorem dX6_leadsHome_0 : decode cX6_leadsHome 0 = .ok (.iload_n 3, 1) := by decide +kernel
theorem dX6_leadsHome_1 : decode cX6_leadsHome 1 = .ok (.ifCond .lt 8, 3) := by decide +kernel
theorem dX6_leadsHome_4 : decode cX6_leadsHome 4 = .ok (.iload_n 3, 1) := by decide +kernel
theorem dX6_leadsHome_5 : decode cX6_leadsHome 5 = .ok (.iconst 4, 1) := by decide +kernel
theorem dX6_leadsHome_6 : decode cX6_leadsHome 6 = .ok (.if_icmp .lt 5, 3) := by decide +kernel
theorem dX6_leadsHome_9 : decode cX6_leadsHome 9 = .ok (.iconst 0, 1) := by decide +kernel
theorem dX6_leadsHome_10 : decode cX6_leadsHome 10 = .ok (.ireturn, 1) := by decide +kernel
theorem dX6_leadsHome_11 : decode cX6_leadsHome 11 = .ok (.iload_n 3, 1) := by decide +kernel
theorem dX6_leadsHome_12 : decode cX6_leadsHome 12 = .ok (.iconst 1, 1) := by decide +kernel
theorem dX6_leadsHome_13 : decode cX6_leadsHome 13 = .ok (.iadd, 1) := by decide +kernel
theorem dX6_leadsHome_14 : decode cX6_leadsHome 14 = .ok (.iload 4, 2) := by decide +kernel
theorem dX6_leadsHome_16 : decode cX6_leadsHome 16 = .ok (.if_icmp .ne 7, 3) := by decide +kernel
theorem dX6_leadsHome_19 : decode cX6_leadsHome 19 = .ok (.iconst 1, 1) := by decide +kernel
theorem dX6_leadsHome_20 : decode cX6_leadsHome 20 = .ok (.goto 4, 3) := by decide +kernel
theorem dX6_leadsHome_23 : decode cX6_leadsHome 23 = .ok (.iconst 0, 1) := by decide +kernel
theorem dX6_leadsHome_24 : decode cX6_leadsHome 24 = .ok (.istore 5, 2) := by decide +kernel
theorem dX6_leadsHome_26 : decode cX6_leadsHome 26 = .ok (.aload_n 0, 1) := by decide +kernel
theorem dX6_leadsHome_27 : decode cX6_leadsHome 27 = .ok (.getfield 17, 3) := by decide +kernel
theorem dX6_leadsHome_30 : decode cX6_leadsHome 30 = .ok (.iload_n 3, 1) := by decide +kernel
theorem dX6_leadsHome_31 : decode cX6_leadsHome 31 = .ok (.aaload, 1) := by decide +kernel
theorem dX6_leadsHome_32 : decode cX6_leadsHome 32 = .ok (.astore 6, 2) := by decide +kernel
theorem dX6_leadsHome_34 : decode cX6_leadsHome 34 = .ok (.iconst 0, 1) := by decide +kernel
theorem dX6_leadsHome_35 : decode cX6_leadsHome 35 = .ok (.istore 7, 2) := by decide +kernel
theorem dX6_leadsHome_37 : decode cX6_leadsHome 37 = .ok (.iload 7, 2) := by decide +kernel
theorem dX6_leadsHome_39 : decode cX6_leadsHome 39 = .ok (.bipush 8, 2) := by decide +kernel
theorem dX6_leadsHome_41 : decode cX6_leadsHome 41 = .ok (.if_icmp .ge 71, 3) := by decide +kernel
theorem dX6_leadsHome_44 : decode cX6_leadsHome 44 = .ok (.aload_n 1, 1) := by decide +kernel
theorem dX6_leadsHome_45 : decode cX6_leadsHome 45 = .ok (.iload 7, 2) := by decide +kernel
theorem dX6_leadsHome_47 : decode cX6_leadsHome 47 = .ok (.invokevirtual 34, 3) := by decide +kernel
theorem dX6_leadsHome_50 : decode cX6_leadsHome 50 = .ok (.astore 8, 2) := by decide +kernel
theorem dX6_leadsHome_52 : decode cX6_leadsHome 52 = .ok (.aload_n 0, 1) := by decide +kernel
theorem dX6_leadsHome_53 : decode cX6_leadsHome 53 = .ok (.getfield 9, 3) := by decide +kernel
theorem dX6_leadsHome_56 : decode cX6_leadsHome 56 = .ok (.iload_n 3, 1) := by decide +kernel
theorem dX6_leadsHome_57 : decode cX6_leadsHome 57 = .ok (.iload 7, 2) := by decide +kernel
theorem dX6_leadsHome_59 : decode cX6_leadsHome 59 = .ok (.iastore, 1) := by decide +kernel
theorem dX6_leadsHome_60 : decode cX6_leadsHome 60 = .ok (.iload 5, 2) := by decide +kernel
theorem dX6_leadsHome_62 : decode cX6_leadsHome 62 = .ok (.ifCond .eq 14, 3) := by decide +kernel
theorem dX6_leadsHome_65 : decode cX6_leadsHome 65 = .ok (.aload_n 2, 1) := by decide +kernel
theorem dX6_leadsHome_66 : decode cX6_leadsHome 66 = .ok (.aload 8, 2) := by decide +kernel
theorem dX6_leadsHome_68 : decode cX6_leadsHome 68 = .ok (.invokevirtual 40, 3) := by decide +kernel
theorem dX6_leadsHome_71 : decode cX6_leadsHome 71 = .ok (.ifCond .eq 35, 3) := by decide +kernel
theorem dX6_leadsHome_74 : decode cX6_leadsHome 74 = .ok (.iconst 1, 1) := by decide +kernel
theorem dX6_leadsHome_75 : decode cX6_leadsHome 75 = .ok (.ireturn, 1) := by decide +kernel
theorem dX6_leadsHome_76 : decode cX6_leadsHome 76 = .ok (.aload 6, 2) := by decide +kernel
theorem dX6_leadsHome_78 : decode cX6_leadsHome 78 = .ok (.aload_n 2, 1) := by decide +kernel
theorem dX6_leadsHome_79 : decode cX6_leadsHome 79 = .ok (.invokevirtual 44, 3) := by decide +kernel
theorem dX6_leadsHome_82 : decode cX6_leadsHome 82 = .ok (.aload 6, 2) := by decide +kernel
theorem dX6_leadsHome_84 : decode cX6_leadsHome 84 = .ok (.aload 8, 2) := by decide +kernel
theorem dX6_leadsHome_86 : decode cX6_leadsHome 86 = .ok (.invokevirtual 48, 3) := by decide +kernel
theorem dX6_leadsHome_89 : decode cX6_leadsHome 89 = .ok (.aload_n 0, 1) := by decide +kernel
theorem dX6_leadsHome_90 : decode cX6_leadsHome 90 = .ok (.aload_n 1, 1) := by decide +kernel
theorem dX6_leadsHome_91 : decode cX6_leadsHome 91 = .ok (.aload 6, 2) := by decide +kernel
theorem dX6_leadsHome_93 : decode cX6_leadsHome 93 = .ok (.iload_n 3, 1) := by decide +kernel
theorem dX6_leadsHome_94 : decode cX6_leadsHome 94 = .ok (.iconst 1, 1) := by decide +kernel
theorem dX6_leadsHome_95 : decode cX6_leadsHome 95 = .ok (.iadd, 1) := by decide +kernel
theorem dX6_leadsHome_96 : decode cX6_leadsHome 96 = .ok (.iload 4, 2) := by decide +kernel
theorem dX6_leadsHome_98 : decode cX6_leadsHome 98 = .ok (.invokestatic 30, 3) := by decide +kernel
theorem dX6_leadsHome_101 : decode cX6_leadsHome 101 = .ok (.ifCond .eq 5, 3) := by decide +kernel
theorem dX6_leadsHome_104 : decode cX6_leadsHome 104 = .ok (.iconst 1, 1) := by decide +kernel
theorem dX6_leadsHome_105 : decode cX6_leadsHome 105 = .ok (.ireturn, 1) := by decide +kernel
theorem dX6_leadsHome_106 : decode cX6_leadsHome 106 = .ok (.iinc 7 1, 3) := by decide +kernel
theorem dX6_leadsHome_109 : decode cX6_leadsHome 109 = .ok (.goto (-72), 3) := by decide +kernel
theorem dX6_leadsHome_112 : decode cX6_leadsHome 112 = .ok (.iconst 0, 1) := by decide +kernel
theorem dX6_leadsHome_113 : decode cX6_leadsHome 113 = .ok (.ireturn, 1) := by decide +kernel
theorem dX7_init_0 : decode cX7_init 0 = .ok (.aload_n 0, 1) := by decide +kernel
theorem dX7_init_1 : decode cX7_init 1 = .ok (.invokespecial 1, 3) := by decide +kernel
theorem dX7_init_4 : decode cX7_init 4 = .ok (.aload_n 0, 1) := by decide +kernel
theorem dX7_init_5 : decode cX7_init 5 = .ok (.new 7, 3) := by decide +kernel
theorem dX7_init_8 : decode cX7_init 8 = .ok (.dup, 1) := by decide +kernel
theorem dX7_init_9 : decode cX7_init 9 = .ok (.invokespecial 9, 3) := by decide +kernel
theorem dX7_init_12 : decode cX7_init 12 = .ok (.putfield 10, 3) := by decide +kernel
theorem dX7_init_15 : decode cX7_init 15 = .ok (.aload_n 0, 1) := by decide +kernel
theorem dX7_init_16 : decode cX7_init 16 = .ok (.new 16, 3) := by decide +kernel
theorem dX7_init_19 : decode cX7_init 19 = .ok (.dup, 1) := by decide +kernel
theorem dX7_init_20 : decode cX7_init 20 = .ok (.invokespecial 18, 3) := by decide +kernel
theorem dX7_init_23 : decode cX7_init 23 = .ok (.putfield 19, 3) := by decide +kernel
theorem dX7_init_26 : decode cX7_init 26 = .ok (.aload_n 0, 1) := by decide +kernel
theorem dX7_init_27 : decode cX7_init 27 = .ok (.new 23, 3) := by decide +kernel
theorem dX7_init_30 : decode cX7_init 30 = .ok (.dup, 1) := by decide +kernel
theorem dX7_init_31 : decode cX7_init 31 = .ok (.invokespecial 25, 3) := by decide +kernel
theorem dX7_init_34 : decode cX7_init 34 = .ok (.putfield 26, 3) := by decide +kernel
theorem dX7_init_37 : decode cX7_init 37 = .ok (.aload_n 0, 1) := by decide +kernel
theorem dX7_init_38 : decode cX7_init 38 = .ok (.iconst 0, 1) := by decide +kernel
theorem dX7_init_39 : decode cX7_init 39 = .ok (.putfield 30, 3) := by decide +kernel
theorem dX7_init_42 : decode cX7_init 42 = .ok (.aload_n 0, 1) := by decide +kernel
theorem dX7_init_43 : decode cX7_init 43 = .ok (.iconst 0, 1) := by decide +kernel
theorem dX7_init_44 : decode cX7_init 44 = .ok (.putfield 34, 3) := by decide +kernel
theorem dX7_init_47 : decode cX7_init 47 = .ok (.aload_n 0, 1) := by decide +kernel
theorem dX7_init_48 : decode cX7_init 48 = .ok (.iconst 0, 1) := by decide +kernel
theorem dX7_init_49 : decode cX7_init 49 = .ok (.putfield 37, 3) := by decide +kernel
theorem dX7_init_52 : decode cX7_init 52 = .ok (.return_, 1) := by decide +kernel
theorem dX7_copyFrom_0 : decode cX7_copyFrom 0 = .ok (.aload_n 0, 1) := by decide +kernel
theorem dX7_copyFrom_1 : decode cX7_copyFrom 1 = .ok (.getfield 10, 3) := by decide +kernel
theorem dX7_copyFrom_4 : decode cX7_copyFrom 4 = .ok (.aload_n 1, 1) := by decide +kernel
theorem dX7_copyFrom_5 : decode cX7_copyFrom 5 = .ok (.getfield 10, 3) := by decide +kernel
theorem dX7_copyFrom_8 : decode cX7_copyFrom 8 = .ok (.invokevirtual 40, 3) := by decide +kernel
theorem dX7_copyFrom_11 : decode cX7_copyFrom 11 = .ok (.aload_n 0, 1) := by decide +kernel
theorem dX7_copyFrom_12 : decode cX7_copyFrom 12 = .ok (.getfield 19, 3) := by decide +kernel
theorem dX7_copyFrom_15 : decode cX7_copyFrom 15 = .ok (.aload_n 1, 1) := by decide +kernel
theorem dX7_copyFrom_16 : decode cX7_copyFrom 16 = .ok (.getfield 19, 3) := by decide +kernel
theorem dX7_copyFrom_19 : decode cX7_copyFrom 19 = .ok (.invokevirtual 44, 3) := by decide +kernel
theorem dX7_copyFrom_22 : decode cX7_copyFrom 22 = .ok (.aload_n 0, 1) := by decide +kernel
theorem dX7_copyFrom_23 : decode cX7_copyFrom 23 = .ok (.getfield 26, 3) := by decide +kernel
theorem dX7_copyFrom_26 : decode cX7_copyFrom 26 = .ok (.aload_n 1, 1) := by decide +kernel
theorem dX7_copyFrom_27 : decode cX7_copyFrom 27 = .ok (.getfield 26, 3) := by decide +kernel
theorem dX7_copyFrom_30 : decode cX7_copyFrom 30 = .ok (.invokevirtual 47, 3) := by decide +kernel
theorem dX7_copyFrom_33 : decode cX7_copyFrom 33 = .ok (.aload_n 0, 1) := by decide +kernel
theorem dX7_copyFrom_34 : decode cX7_copyFrom 34 = .ok (.aload_n 1, 1) := by decide +kernel
theorem dX7_copyFrom_35 : decode cX7_copyFrom 35 = .ok (.getfield 30, 3) := by decide +kernel
theorem dX7_copyFrom_38 : decode cX7_copyFrom 38 = .ok (.putfield 30, 3) := by decide +kernel
theorem dX7_copyFrom_41 : decode cX7_copyFrom 41 = .ok (.aload_n 0, 1) := by decide +kernel
theorem dX7_copyFrom_42 : decode cX7_copyFrom 42 = .ok (.aload_n 1, 1) := by decide +kernel
theorem dX7_copyFrom_43 : decode cX7_copyFrom 43 = .ok (.getfield 34, 3) := by decide +kernel
theorem dX7_copyFrom_46 : decode cX7_copyFrom 46 = .ok (.putfield 34, 3) := by decide +kernel
theorem dX7_copyFrom_49 : decode cX7_copyFrom 49 = .ok (.aload_n 0, 1) := by decide +kernel
theorem dX7_copyFrom_50 : decode cX7_copyFrom 50 = .ok (.aload_n 1, 1) := by decide +kernel
theorem dX7_copyFrom_51 : decode cX7_copyFrom 51 = .ok (.getfield 37, 3) := by decide +kernel
theorem dX7_copyFrom_54 : decode cX7_copyFrom 54 = .ok (.putfield 37, 3) := by decide +kernel
theorem dX7_copyFrom_57 : decode cX7_copyFrom 57 = .ok (.return_, 1) := by decide +kernel
end
section
theorem dX8_init_0 : decode cX8_init 0 = .ok (.aload_n 0, 1) := by decide +kernel
theorem dX8_init_1 : decode cX8_init 1 = .ok (.invokespecial 1, 3) := by decide +kernel
theorem dX8_init_4 : decode cX8_init 4 = .ok (.aload_n 0, 1) := by decide +kernel
theorem dX8_init_5 : decode cX8_init 5 = .ok (.new 7, 3) := by decide +kernel
theorem dX8_init_8 : decode cX8_init 8 = .ok (.dup, 1) := by decide +kernel
theorem dX8_init_9 : decode cX8_init 9 = .ok (.invokespecial 9, 3) := by decide +kernel
theorem dX8_init_12 : decode cX8_init 12 = .ok (.putfield 10, 3) := by decide +kernel
theorem dX8_init_15 : decode cX8_init 15 = .ok (.aload_n 0, 1) := by decide +kernel
theorem dX8_init_16 : decode cX8_init 16 = .ok (.new 7, 3) := by decide +kernel
theorem dX8_init_19 : decode cX8_init 19 = .ok (.dup, 1) := by decide +kernel
theorem dX8_init_20 : decode cX8_init 20 = .ok (.invokespecial 9, 3) := by decide +kernel
theorem dX8_init_23 : decode cX8_init 23 = .ok (.putfield 16, 3) := by decide +kernel
theorem dX8_init_26 : decode cX8_init 26 = .ok (.aload_n 0, 1) := by decide +kernel
theorem dX8_init_27 : decode cX8_init 27 = .ok (.iconst 0, 1) := by decide +kernel
theorem dX8_init_28 : decode cX8_init 28 = .ok (.putfield 19, 3) := by decide +kernel
theorem dX8_init_31 : decode cX8_init 31 = .ok (.aload_n 0, 1) := by decide +kernel
theorem dX8_init_32 : decode cX8_init 32 = .ok (.new 23, 3) := by decide +kernel
theorem dX8_init_35 : decode cX8_init 35 = .ok (.dup, 1) := by decide +kernel
theorem dX8_init_36 : decode cX8_init 36 = .ok (.invokespecial 25, 3) := by decide +kernel
theorem dX8_init_39 : decode cX8_init 39 = .ok (.putfield 26, 3) := by decide +kernel
theorem dX8_init_42 : decode cX8_init 42 = .ok (.aload_n 0, 1) := by decide +kernel
theorem dX8_init_43 : decode cX8_init 43 = .ok (.new 30, 3) := by decide +kernel
theorem dX8_init_46 : decode cX8_init 46 = .ok (.dup, 1) := by decide +kernel
theorem dX8_init_47 : decode cX8_init 47 = .ok (.invokespecial 32, 3) := by decide +kernel
theorem dX8_init_50 : decode cX8_init 50 = .ok (.putfield 33, 3) := by decide +kernel
theorem dX8_init_53 : decode cX8_init 53 = .ok (.aload_n 0, 1) := by decide +kernel
theorem dX8_init_54 : decode cX8_init 54 = .ok (.new 37, 3) := by decide +kernel
theorem dX8_init_57 : decode cX8_init 57 = .ok (.dup, 1) := by decide +kernel
theorem dX8_init_58 : decode cX8_init 58 = .ok (.invokespecial 39, 3) := by decide +kernel
theorem dX8_init_61 : decode cX8_init 61 = .ok (.putfield 40, 3) := by decide +kernel
theorem dX8_init_64 : decode cX8_init 64 = .ok (.aload_n 0, 1) := by decide +kernel
theorem dX8_init_65 : decode cX8_init 65 = .ok (.new 44, 3) := by decide +kernel
theorem dX8_init_68 : decode cX8_init 68 = .ok (.dup, 1) := by decide +kernel
theorem dX8_init_69 : decode cX8_init 69 = .ok (.invokespecial 46, 3) := by decide +kernel
theorem dX8_init_72 : decode cX8_init 72 = .ok (.putfield 47, 3) := by decide +kernel
theorem dX8_init_75 : decode cX8_init 75 = .ok (.aload_n 0, 1) := by decide +kernel
theorem dX8_init_76 : decode cX8_init 76 = .ok (.new 51, 3) := by decide +kernel
theorem dX8_init_79 : decode cX8_init 79 = .ok (.dup, 1) := by decide +kernel
theorem dX8_init_80 : decode cX8_init 80 = .ok (.invokespecial 53, 3) := by decide +kernel
theorem dX8_init_83 : decode cX8_init 83 = .ok (.putfield 54, 3) := by decide +kernel
theorem dX8_init_86 : decode cX8_init 86 = .ok (.aload_n 0, 1) := by decide +kernel
theorem dX8_init_87 : decode cX8_init 87 = .ok (.new 51, 3) := by decide +kernel
theorem dX8_init_90 : decode cX8_init 90 = .ok (.dup, 1) := by decide +kernel
theorem dX8_init_91 : decode cX8_init 91 = .ok (.invokespecial 53, 3) := by decide +kernel
theorem dX8_init_94 : decode cX8_init 94 = .ok (.putfield 58, 3) := by decide +kernel
theorem dX8_init_97 : decode cX8_init 97 = .ok (.return_, 1) := by decide +kernel
theorem dX8_add_0 : decode cX8_add 0 = .ok (.iload_n 1, 1) := by decide +kernel
theorem dX8_add_1 : decode cX8_add 1 = .ok (.invokestatic 61, 3) := by decide +kernel
theorem dX8_add_4 : decode cX8_add 4 = .ok (.ifCond .ne 5, 3) := by decide +kernel
theorem dX8_add_7 : decode cX8_add 7 = .ok (.iconst (-1), 1) := by decide +kernel
theorem dX8_add_8 : decode cX8_add 8 = .ok (.ireturn, 1) := by decide +kernel
theorem dX8_add_9 : decode cX8_add 9 = .ok (.iload_n 1, 1) := by decide +kernel
theorem dX8_add_10 : decode cX8_add 10 = .ok (.iload_n 2, 1) := by decide +kernel
theorem dX8_add_11 : decode cX8_add 11 = .ok (.iload_n 3, 1) := by decide +kernel
theorem dX8_add_12 : decode cX8_add 12 = .ok (.iload 4, 2) := by decide +kernel
theorem dX8_add_14 : decode cX8_add 14 = .ok (.invokestatic 65, 3) := by decide +kernel
theorem dX8_add_17 : decode cX8_add 17 = .ok (.ifCond .ne 6, 3) := by decide +kernel
theorem dX8_add_20 : decode cX8_add 20 = .ok (.bipush (-2), 2) := by decide +kernel
theorem dX8_add_22 : decode cX8_add 22 = .ok (.ireturn, 1) := by decide +kernel
theorem dX8_add_23 : decode cX8_add 23 = .ok (.aload_n 0, 1) := by decide +kernel
theorem dX8_add_24 : decode cX8_add 24 = .ok (.getfield 10, 3) := by decide +kernel
theorem dX8_add_27 : decode cX8_add 27 = .ok (.getfield 69, 3) := by decide +kernel
theorem dX8_add_30 : decode cX8_add 30 = .ok (.astore 5, 2) := by decide +kernel
theorem dX8_add_32 : decode cX8_add 32 = .ok (.iload_n 2, 1) := by decide +kernel
theorem dX8_add_33 : decode cX8_add 33 = .ok (.iconst 4, 1) := by decide +kernel
theorem dX8_add_34 : decode cX8_add 34 = .ok (.if_icmp .ne 14, 3) := by decide +kernel
theorem dX8_add_37 : decode cX8_add 37 = .ok (.aload_n 0, 1) := by decide +kernel
theorem dX8_add_38 : decode cX8_add 38 = .ok (.getfield 40, 3) := by decide +kernel
theorem dX8_add_41 : decode cX8_add 41 = .ok (.iload_n 3, 1) := by decide +kernel
theorem dX8_add_42 : decode cX8_add 42 = .ok (.invokevirtual 73, 3) := by decide +kernel
theorem dX8_add_45 : decode cX8_add 45 = .ok (.goto 4, 3) := by decide +kernel
theorem dX8_add_48 : decode cX8_add 48 = .ok (.iconst 1, 1) := by decide +kernel
theorem dX8_add_49 : decode cX8_add 49 = .ok (.istore 6, 2) := by decide +kernel
theorem dX8_add_51 : decode cX8_add 51 = .ok (.aload 5, 2) := by decide +kernel
theorem dX8_add_53 : decode cX8_add 53 = .ok (.iload_n 1, 1) := by decide +kernel
theorem dX8_add_54 : decode cX8_add 54 = .ok (.invokevirtual 77, 3) := by decide +kernel
theorem dX8_add_57 : decode cX8_add 57 = .ok (.bipush 10, 2) := by decide +kernel
theorem dX8_add_59 : decode cX8_add 59 = .ok (.if_icmp .ge 18, 3) := by decide +kernel
theorem dX8_add_62 : decode cX8_add 62 = .ok (.aload_n 0, 1) := by decide +kernel
theorem dX8_add_63 : decode cX8_add 63 = .ok (.getfield 40, 3) := by decide +kernel
theorem dX8_add_66 : decode cX8_add 66 = .ok (.aload 5, 2) := by decide +kernel
theorem dX8_add_68 : decode cX8_add 68 = .ok (.iload_n 1, 1) := by decide +kernel
theorem dX8_add_69 : decode cX8_add 69 = .ok (.iload 6, 2) := by decide +kernel
theorem dX8_add_71 : decode cX8_add 71 = .ok (.invokevirtual 82, 3) := by decide +kernel
theorem dX8_add_74 : decode cX8_add 74 = .ok (.ifCond .ne 6, 3) := by decide +kernel
theorem dX8_add_77 : decode cX8_add 77 = .ok (.bipush (-3), 2) := by decide +kernel
theorem dX8_add_79 : decode cX8_add 79 = .ok (.ireturn, 1) := by decide +kernel
theorem dX8_add_80 : decode cX8_add 80 = .ok (.aload_n 0, 1) := by decide +kernel
theorem dX8_add_81 : decode cX8_add 81 = .ok (.getfield 26, 3) := by decide +kernel
theorem dX8_add_84 : decode cX8_add 84 = .ok (.aload_n 0, 1) := by decide +kernel
theorem dX8_add_85 : decode cX8_add 85 = .ok (.getfield 10, 3) := by decide +kernel
theorem dX8_add_88 : decode cX8_add 88 = .ok (.invokevirtual 86, 3) := by decide +kernel
theorem dX8_add_91 : decode cX8_add 91 = .ok (.aload 5, 2) := by decide +kernel
theorem dX8_add_93 : decode cX8_add 93 = .ok (.iload_n 1, 1) := by decide +kernel
theorem dX8_add_94 : decode cX8_add 94 = .ok (.iload_n 2, 1) := by decide +kernel
theorem dX8_add_95 : decode cX8_add 95 = .ok (.iload_n 3, 1) := by decide +kernel
theorem dX8_add_96 : decode cX8_add 96 = .ok (.iload 4, 2) := by decide +kernel
theorem dX8_add_98 : decode cX8_add 98 = .ok (.invokestatic 90, 3) := by decide +kernel
theorem dX8_add_101 : decode cX8_add 101 = .ok (.invokevirtual 94, 3) := by decide +kernel
theorem dX8_add_104 : decode cX8_add 104 = .ok (.aload_n 0, 1) := by decide +kernel
theorem dX8_add_105 : decode cX8_add 105 = .ok (.getfield 40, 3) := by decide +kernel
theorem dX8_add_108 : decode cX8_add 108 = .ok (.aload 5, 2) := by decide +kernel
theorem dX8_add_110 : decode cX8_add 110 = .ok (.invokevirtual 98, 3) := by decide +kernel
theorem dX8_add_113 : decode cX8_add 113 = .ok (.aload 5, 2) := by decide +kernel
theorem dX8_add_115 : decode cX8_add 115 = .ok (.iload_n 1, 1) := by decide +kernel
theorem dX8_add_116 : decode cX8_add 116 = .ok (.invokevirtual 77, 3) := by decide +kernel
theorem dX8_add_119 : decode cX8_add 119 = .ok (.ireturn, 1) := by decide +kernel
theorem dX8_drop_0 : decode cX8_drop 0 = .ok (.iload_n 1, 1) := by decide +kernel
theorem dX8_drop_1 : decode cX8_drop 1 = .ok (.invokestatic 61, 3) := by decide +kernel
theorem dX8_drop_4 : decode cX8_drop 4 = .ok (.ifCond .ne 5, 3) := by decide +kernel
theorem dX8_drop_7 : decode cX8_drop 7 = .ok (.iconst (-1), 1) := by decide +kernel
theorem dX8_drop_8 : decode cX8_drop 8 = .ok (.ireturn, 1) := by decide +kernel
theorem dX8_drop_9 : decode cX8_drop 9 = .ok (.aload_n 0, 1) := by decide +kernel
theorem dX8_drop_10 : decode cX8_drop 10 = .ok (.getfield 10, 3) := by decide +kernel
theorem dX8_drop_13 : decode cX8_drop 13 = .ok (.getfield 69, 3) := by decide +kernel
theorem dX8_drop_16 : decode cX8_drop 16 = .ok (.astore_n 2, 1) := by decide +kernel
theorem dX8_drop_17 : decode cX8_drop 17 = .ok (.aload_n 2, 1) := by decide +kernel
theorem dX8_drop_18 : decode cX8_drop 18 = .ok (.iload_n 1, 1) := by decide +kernel
theorem dX8_drop_19 : decode cX8_drop 19 = .ok (.invokevirtual 77, 3) := by decide +kernel
theorem dX8_drop_22 : decode cX8_drop 22 = .ok (.ifCond .ne 6, 3) := by decide +kernel
theorem dX8_drop_25 : decode cX8_drop 25 = .ok (.bipush (-4), 2) := by decide +kernel
theorem dX8_drop_27 : decode cX8_drop 27 = .ok (.ireturn, 1) := by decide +kernel
theorem dX8_drop_28 : decode cX8_drop 28 = .ok (.aload_n 0, 1) := by decide +kernel
theorem dX8_drop_29 : decode cX8_drop 29 = .ok (.getfield 26, 3) := by decide +kernel
theorem dX8_drop_32 : decode cX8_drop 32 = .ok (.aload_n 0, 1) := by decide +kernel
theorem dX8_drop_33 : decode cX8_drop 33 = .ok (.getfield 10, 3) := by decide +kernel
theorem dX8_drop_36 : decode cX8_drop 36 = .ok (.invokevirtual 86, 3) := by decide +kernel
theorem dX8_drop_39 : decode cX8_drop 39 = .ok (.aload_n 2, 1) := by decide +kernel
theorem dX8_drop_40 : decode cX8_drop 40 = .ok (.iload_n 1, 1) := by decide +kernel
theorem dX8_drop_41 : decode cX8_drop 41 = .ok (.invokevirtual 102, 3) := by decide +kernel
theorem dX8_drop_44 : decode cX8_drop 44 = .ok (.aload_n 0, 1) := by decide +kernel
theorem dX8_drop_45 : decode cX8_drop 45 = .ok (.getfield 40, 3) := by decide +kernel
theorem dX8_drop_48 : decode cX8_drop 48 = .ok (.aload_n 2, 1) := by decide +kernel
theorem dX8_drop_49 : decode cX8_drop 49 = .ok (.invokevirtual 98, 3) := by decide +kernel
theorem dX8_drop_52 : decode cX8_drop 52 = .ok (.aload_n 2, 1) := by decide +kernel
theorem dX8_drop_53 : decode cX8_drop 53 = .ok (.iload_n 1, 1) := by decide +kernel
theorem dX8_drop_54 : decode cX8_drop 54 = .ok (.invokevirtual 77, 3) := by decide +kernel
theorem dX8_drop_57 : decode cX8_drop 57 = .ok (.ireturn, 1) := by decide +kernel
theorem dX8_hold_0 : decode cX8_hold 0 = .ok (.iload_n 1, 1) := by decide +kernel
theorem dX8_hold_1 : decode cX8_hold 1 = .ok (.invokestatic 106, 3) := by decide +kernel
theorem dX8_hold_4 : decode cX8_hold 4 = .ok (.ifCond .eq 10, 3) := by decide +kernel
theorem dX8_hold_7 : decode cX8_hold 7 = .ok (.iload_n 2, 1) := by decide +kernel
theorem dX8_hold_8 : decode cX8_hold 8 = .ok (.invokestatic 106, 3) := by decide +kernel
theorem dX8_hold_11 : decode cX8_hold 11 = .ok (.ifCond .ne 5, 3) := by decide +kernel
theorem dX8_hold_14 : decode cX8_hold 14 = .ok (.iconst (-1), 1) := by decide +kernel
theorem dX8_hold_15 : decode cX8_hold 15 = .ok (.ireturn, 1) := by decide +kernel
theorem dX8_hold_16 : decode cX8_hold 16 = .ok (.iload_n 1, 1) := by decide +kernel
theorem dX8_hold_17 : decode cX8_hold 17 = .ok (.iload_n 2, 1) := by decide +kernel
theorem dX8_hold_18 : decode cX8_hold 18 = .ok (.if_icmp .ne 6, 3) := by decide +kernel
theorem dX8_hold_21 : decode cX8_hold 21 = .ok (.bipush (-2), 2) := by decide +kernel
theorem dX8_hold_23 : decode cX8_hold 23 = .ok (.ireturn, 1) := by decide +kernel
theorem dX8_hold_24 : decode cX8_hold 24 = .ok (.aload_n 0, 1) := by decide +kernel
theorem dX8_hold_25 : decode cX8_hold 25 = .ok (.getfield 10, 3) := by decide +kernel
theorem dX8_hold_28 : decode cX8_hold 28 = .ok (.getfield 109, 3) := by decide +kernel
theorem dX8_hold_31 : decode cX8_hold 31 = .ok (.astore_n 3, 1) := by decide +kernel
theorem dX8_hold_32 : decode cX8_hold 32 = .ok (.aload_n 3, 1) := by decide +kernel
theorem dX8_hold_33 : decode cX8_hold 33 = .ok (.iload_n 1, 1) := by decide +kernel
theorem dX8_hold_34 : decode cX8_hold 34 = .ok (.invokevirtual 113, 3) := by decide +kernel
theorem dX8_hold_37 : decode cX8_hold 37 = .ok (.bipush (-5), 2) := by decide +kernel
theorem dX8_hold_39 : decode cX8_hold 39 = .ok (.if_icmp .ne 41, 3) := by decide +kernel
theorem dX8_hold_42 : decode cX8_hold 42 = .ok (.aload_n 3, 1) := by decide +kernel
theorem dX8_hold_43 : decode cX8_hold 43 = .ok (.iload_n 2, 1) := by decide +kernel
theorem dX8_hold_44 : decode cX8_hold 44 = .ok (.invokevirtual 113, 3) := by decide +kernel
theorem dX8_hold_47 : decode cX8_hold 47 = .ok (.bipush (-5), 2) := by decide +kernel
theorem dX8_hold_49 : decode cX8_hold 49 = .ok (.if_icmp .ne 31, 3) := by decide +kernel
theorem dX8_hold_52 : decode cX8_hold 52 = .ok (.aload_n 0, 1) := by decide +kernel
theorem dX8_hold_53 : decode cX8_hold 53 = .ok (.getfield 10, 3) := by decide +kernel
theorem dX8_hold_56 : decode cX8_hold 56 = .ok (.getfield 118, 3) := by decide +kernel
theorem dX8_hold_59 : decode cX8_hold 59 = .ok (.iload_n 1, 1) := by decide +kernel
theorem dX8_hold_60 : decode cX8_hold 60 = .ok (.invokevirtual 121, 3) := by decide +kernel
theorem dX8_hold_63 : decode cX8_hold 63 = .ok (.aload_n 0, 1) := by decide +kernel
theorem dX8_hold_64 : decode cX8_hold 64 = .ok (.getfield 10, 3) := by decide +kernel
theorem dX8_hold_67 : decode cX8_hold 67 = .ok (.getfield 118, 3) := by decide +kernel
theorem dX8_hold_70 : decode cX8_hold 70 = .ok (.iload_n 2, 1) := by decide +kernel
theorem dX8_hold_71 : decode cX8_hold 71 = .ok (.invokevirtual 121, 3) := by decide +kernel
theorem dX8_hold_74 : decode cX8_hold 74 = .ok (.invokestatic 124, 3) := by decide +kernel
theorem dX8_hold_77 : decode cX8_hold 77 = .ok (.ifCond .ne 6, 3) := by decide +kernel
theorem dX8_hold_80 : decode cX8_hold 80 = .ok (.bipush (-4), 2) := by decide +kernel
theorem dX8_hold_82 : decode cX8_hold 82 = .ok (.ireturn, 1) := by decide +kernel
theorem dX8_hold_83 : decode cX8_hold 83 = .ok (.aload_n 0, 1) := by decide +kernel
theorem dX8_hold_84 : decode cX8_hold 84 = .ok (.getfield 26, 3) := by decide +kernel
theorem dX8_hold_87 : decode cX8_hold 87 = .ok (.aload_n 0, 1) := by decide +kernel
theorem dX8_hold_88 : decode cX8_hold 88 = .ok (.getfield 10, 3) := by decide +kernel
theorem dX8_hold_91 : decode cX8_hold 91 = .ok (.invokevirtual 86, 3) := by decide +kernel
theorem dX8_hold_94 : decode cX8_hold 94 = .ok (.aload_n 3, 1) := by decide +kernel
theorem dX8_hold_95 : decode cX8_hold 95 = .ok (.iload_n 1, 1) := by decide +kernel
theorem dX8_hold_96 : decode cX8_hold 96 = .ok (.iload_n 2, 1) := by decide +kernel
theorem dX8_hold_97 : decode cX8_hold 97 = .ok (.invokevirtual 128, 3) := by decide +kernel
theorem dX8_hold_100 : decode cX8_hold 100 = .ok (.aload_n 3, 1) := by decide +kernel
theorem dX8_hold_101 : decode cX8_hold 101 = .ok (.invokevirtual 131, 3) := by decide +kernel
theorem dX8_hold_104 : decode cX8_hold 104 = .ok (.ireturn, 1) := by decide +kernel
theorem dX8_release_0 : decode cX8_release 0 = .ok (.iload_n 1, 1) := by decide +kernel
theorem dX8_release_1 : decode cX8_release 1 = .ok (.invokestatic 106, 3) := by decide +kernel
theorem dX8_release_4 : decode cX8_release 4 = .ok (.ifCond .ne 5, 3) := by decide +kernel
theorem dX8_release_7 : decode cX8_release 7 = .ok (.iconst (-1), 1) := by decide +kernel
theorem dX8_release_8 : decode cX8_release 8 = .ok (.ireturn, 1) := by decide +kernel
theorem dX8_release_9 : decode cX8_release 9 = .ok (.aload_n 0, 1) := by decide +kernel
theorem dX8_release_10 : decode cX8_release 10 = .ok (.getfield 10, 3) := by decide +kernel
theorem dX8_release_13 : decode cX8_release 13 = .ok (.getfield 109, 3) := by decide +kernel
theorem dX8_release_16 : decode cX8_release 16 = .ok (.iload_n 1, 1) := by decide +kernel
theorem dX8_release_17 : decode cX8_release 17 = .ok (.invokevirtual 113, 3) := by decide +kernel
theorem dX8_release_20 : decode cX8_release 20 = .ok (.istore_n 2, 1) := by decide +kernel
theorem dX8_release_21 : decode cX8_release 21 = .ok (.iload_n 2, 1) := by decide +kernel
theorem dX8_release_22 : decode cX8_release 22 = .ok (.bipush (-5), 2) := by decide +kernel
theorem dX8_release_24 : decode cX8_release 24 = .ok (.if_icmp .ne 6, 3) := by decide +kernel
theorem dX8_release_27 : decode cX8_release 27 = .ok (.bipush (-4), 2) := by decide +kernel
theorem dX8_release_29 : decode cX8_release 29 = .ok (.ireturn, 1) := by decide +kernel
theorem dX8_release_30 : decode cX8_release 30 = .ok (.aload_n 0, 1) := by decide +kernel
theorem dX8_release_31 : decode cX8_release 31 = .ok (.getfield 26, 3) := by decide +kernel
theorem dX8_release_34 : decode cX8_release 34 = .ok (.aload_n 0, 1) := by decide +kernel
theorem dX8_release_35 : decode cX8_release 35 = .ok (.getfield 10, 3) := by decide +kernel
theorem dX8_release_38 : decode cX8_release 38 = .ok (.invokevirtual 86, 3) := by decide +kernel
theorem dX8_release_41 : decode cX8_release 41 = .ok (.aload_n 0, 1) := by decide +kernel
theorem dX8_release_42 : decode cX8_release 42 = .ok (.getfield 10, 3) := by decide +kernel
theorem dX8_release_45 : decode cX8_release 45 = .ok (.getfield 109, 3) := by decide +kernel
theorem dX8_release_48 : decode cX8_release 48 = .ok (.iload_n 1, 1) := by decide +kernel
theorem dX8_release_49 : decode cX8_release 49 = .ok (.iload_n 2, 1) := by decide +kernel
theorem dX8_release_50 : decode cX8_release 50 = .ok (.invokevirtual 135, 3) := by decide +kernel
theorem dX8_release_53 : decode cX8_release 53 = .ok (.iload_n 2, 1) := by decide +kernel
theorem dX8_release_54 : decode cX8_release 54 = .ok (.ireturn, 1) := by decide +kernel
theorem dX8_dance_0 : decode cX8_dance 0 = .ok (.iload_n 1, 1) := by decide +kernel
theorem dX8_dance_1 : decode cX8_dance 1 = .ok (.invokestatic 61, 3) := by decide +kernel
theorem dX8_dance_4 : decode cX8_dance 4 = .ok (.ifCond .ne 5, 3) := by decide +kernel
theorem dX8_dance_7 : decode cX8_dance 7 = .ok (.iconst (-1), 1) := by decide +kernel
theorem dX8_dance_8 : decode cX8_dance 8 = .ok (.ireturn, 1) := by decide +kernel
theorem dX8_dance_9 : decode cX8_dance 9 = .ok (.iload_n 2, 1) := by decide +kernel
theorem dX8_dance_10 : decode cX8_dance 10 = .ok (.iconst 1, 1) := by decide +kernel
theorem dX8_dance_11 : decode cX8_dance 11 = .ok (.if_icmp .lt 9, 3) := by decide +kernel
theorem dX8_dance_14 : decode cX8_dance 14 = .ok (.iload_n 2, 1) := by decide +kernel
theorem dX8_dance_15 : decode cX8_dance 15 = .ok (.bipush 9, 2) := by decide +kernel
theorem dX8_dance_17 : decode cX8_dance 17 = .ok (.if_icmp .le 6, 3) := by decide +kernel
theorem dX8_dance_20 : decode cX8_dance 20 = .ok (.bipush (-2), 2) := by decide +kernel
theorem dX8_dance_22 : decode cX8_dance 22 = .ok (.ireturn, 1) := by decide +kernel
theorem dX8_dance_23 : decode cX8_dance 23 = .ok (.aload_n 0, 1) := by decide +kernel
theorem dX8_dance_24 : decode cX8_dance 24 = .ok (.iload_n 1, 1) := by decide +kernel
theorem dX8_dance_25 : decode cX8_dance 25 = .ok (.iload_n 2, 1) := by decide +kernel
theorem dX8_dance_26 : decode cX8_dance 26 = .ok (.iload_n 3, 1) := by decide +kernel
theorem dX8_dance_27 : decode cX8_dance 27 = .ok (.invokevirtual 138, 3) := by decide +kernel
theorem dX8_dance_30 : decode cX8_dance 30 = .ok (.istore 4, 2) := by decide +kernel
theorem dX8_dance_32 : decode cX8_dance 32 = .ok (.iload 4, 2) := by decide +kernel
theorem dX8_dance_34 : decode cX8_dance 34 = .ok (.bipush (-5), 2) := by decide +kernel
theorem dX8_dance_36 : decode cX8_dance 36 = .ok (.if_icmp .eq 9, 3) := by decide +kernel
theorem dX8_dance_39 : decode cX8_dance 39 = .ok (.bipush (-100), 2) := by decide +kernel
theorem dX8_dance_41 : decode cX8_dance 41 = .ok (.iload 4, 2) := by decide +kernel
theorem dX8_dance_43 : decode cX8_dance 43 = .ok (.isub, 1) := by decide +kernel
theorem dX8_dance_44 : decode cX8_dance 44 = .ok (.ireturn, 1) := by decide +kernel
theorem dX8_dance_45 : decode cX8_dance 45 = .ok (.aload_n 0, 1) := by decide +kernel
theorem dX8_dance_46 : decode cX8_dance 46 = .ok (.getfield 26, 3) := by decide +kernel
theorem dX8_dance_49 : decode cX8_dance 49 = .ok (.aload_n 0, 1) := by decide +kernel
theorem dX8_dance_50 : decode cX8_dance 50 = .ok (.getfield 10, 3) := by decide +kernel
theorem dX8_dance_53 : decode cX8_dance 53 = .ok (.invokevirtual 86, 3) := by decide +kernel
theorem dX8_dance_56 : decode cX8_dance 56 = .ok (.aload_n 0, 1) := by decide +kernel
theorem dX8_dance_57 : decode cX8_dance 57 = .ok (.iload_n 1, 1) := by decide +kernel
theorem dX8_dance_58 : decode cX8_dance 58 = .ok (.iload_n 2, 1) := by decide +kernel
theorem dX8_dance_59 : decode cX8_dance 59 = .ok (.invokevirtual 142, 3) := by decide +kernel
theorem dX8_dance_62 : decode cX8_dance 62 = .ok (.ireturn, 1) := by decide +kernel
theorem dX8_goHome_0 : decode cX8_goHome 0 = .ok (.aload_n 0, 1) := by decide +kernel
theorem dX8_goHome_1 : decode cX8_goHome 1 = .ok (.getfield 26, 3) := by decide +kernel
theorem dX8_goHome_4 : decode cX8_goHome 4 = .ok (.aload_n 0, 1) := by decide +kernel
theorem dX8_goHome_5 : decode cX8_goHome 5 = .ok (.getfield 10, 3) := by decide +kernel
theorem dX8_goHome_8 : decode cX8_goHome 8 = .ok (.invokevirtual 86, 3) := by decide +kernel
theorem dX8_goHome_11 : decode cX8_goHome 11 = .ok (.bipush 10, 2) := by decide +kernel
theorem dX8_goHome_13 : decode cX8_goHome 13 = .ok (.aload_n 0, 1) := by decide +kernel
theorem dX8_goHome_14 : decode cX8_goHome 14 = .ok (.getfield 10, 3) := by decide +kernel
theorem dX8_goHome_17 : decode cX8_goHome 17 = .ok (.getfield 118, 3) := by decide +kernel
theorem dX8_goHome_20 : decode cX8_goHome 20 = .ok (.invokevirtual 146, 3) := by decide +kernel
theorem dX8_goHome_23 : decode cX8_goHome 23 = .ok (.isub, 1) := by decide +kernel
theorem dX8_goHome_24 : decode cX8_goHome 24 = .ok (.istore_n 1, 1) := by decide +kernel
theorem dX8_goHome_25 : decode cX8_goHome 25 = .ok (.aload_n 0, 1) := by decide +kernel
theorem dX8_goHome_26 : decode cX8_goHome 26 = .ok (.getfield 10, 3) := by decide +kernel
theorem dX8_goHome_29 : decode cX8_goHome 29 = .ok (.getfield 118, 3) := by decide +kernel
theorem dX8_goHome_32 : decode cX8_goHome 32 = .ok (.invokevirtual 149, 3) := by decide +kernel
theorem dX8_goHome_35 : decode cX8_goHome 35 = .ok (.aload_n 0, 1) := by decide +kernel
theorem dX8_goHome_36 : decode cX8_goHome 36 = .ok (.getfield 10, 3) := by decide +kernel
theorem dX8_goHome_39 : decode cX8_goHome 39 = .ok (.dup, 1) := by decide +kernel
theorem dX8_goHome_40 : decode cX8_goHome 40 = .ok (.getfield 152, 3) := by decide +kernel
theorem dX8_goHome_43 : decode cX8_goHome 43 = .ok (.aload_n 0, 1) := by decide +kernel
theorem dX8_goHome_44 : decode cX8_goHome 44 = .ok (.getfield 10, 3) := by decide +kernel
theorem dX8_goHome_47 : decode cX8_goHome 47 = .ok (.getfield 109, 3) := by decide +kernel
theorem dX8_goHome_50 : decode cX8_goHome 50 = .ok (.aload_n 0, 1) := by decide +kernel
theorem dX8_goHome_51 : decode cX8_goHome 51 = .ok (.getfield 10, 3) := by decide +kernel
theorem dX8_goHome_54 : decode cX8_goHome 54 = .ok (.getfield 118, 3) := by decide +kernel
theorem dX8_goHome_57 : decode cX8_goHome 57 = .ok (.invokevirtual 156, 3) := by decide +kernel
theorem dX8_goHome_60 : decode cX8_goHome 60 = .ok (.iadd, 1) := by decide +kernel
theorem dX8_goHome_61 : decode cX8_goHome 61 = .ok (.putfield 152, 3) := by decide +kernel
theorem dX8_goHome_64 : decode cX8_goHome 64 = .ok (.iload_n 1, 1) := by decide +kernel
theorem dX8_goHome_65 : decode cX8_goHome 65 = .ok (.ireturn, 1) := by decide +kernel
theorem dX8_append_0 : decode cX8_append 0 = .ok (.iload_n 1, 1) := by decide +kernel
theorem dX8_append_1 : decode cX8_append 1 = .ok (.bipush 32, 2) := by decide +kernel
theorem dX8_append_3 : decode cX8_append 3 = .ok (.if_icmp .lt 9, 3) := by decide +kernel
theorem dX8_append_6 : decode cX8_append 6 = .ok (.iload_n 1, 1) := by decide +kernel
theorem dX8_append_7 : decode cX8_append 7 = .ok (.bipush 126, 2) := by decide +kernel
theorem dX8_append_9 : decode cX8_append 9 = .ok (.if_icmp .le 6, 3) := by decide +kernel
theorem dX8_append_12 : decode cX8_append 12 = .ok (.bipush (-2), 2) := by decide +kernel
theorem dX8_append_14 : decode cX8_append 14 = .ok (.ireturn, 1) := by decide +kernel
theorem dX8_append_15 : decode cX8_append 15 = .ok (.aload_n 0, 1) := by decide +kernel
theorem dX8_append_16 : decode cX8_append 16 = .ok (.getfield 33, 3) := by decide +kernel
theorem dX8_append_19 : decode cX8_append 19 = .ok (.invokevirtual 160, 3) := by decide +kernel
theorem dX8_append_22 : decode cX8_append 22 = .ok (.bipush 80, 2) := by decide +kernel
theorem dX8_append_24 : decode cX8_append 24 = .ok (.if_icmp .lt 6, 3) := by decide +kernel
theorem dX8_append_27 : decode cX8_append 27 = .ok (.bipush (-3), 2) := by decide +kernel
theorem dX8_append_29 : decode cX8_append 29 = .ok (.ireturn, 1) := by decide +kernel
theorem dX8_append_30 : decode cX8_append 30 = .ok (.aload_n 0, 1) := by decide +kernel
theorem dX8_append_31 : decode cX8_append 31 = .ok (.getfield 33, 3) := by decide +kernel
theorem dX8_append_34 : decode cX8_append 34 = .ok (.iload_n 1, 1) := by decide +kernel
theorem dX8_append_35 : decode cX8_append 35 = .ok (.invokevirtual 163, 3) := by decide +kernel
theorem dX8_append_38 : decode cX8_append 38 = .ok (.aload_n 0, 1) := by decide +kernel
theorem dX8_append_39 : decode cX8_append 39 = .ok (.getfield 33, 3) := by decide +kernel
theorem dX8_append_42 : decode cX8_append 42 = .ok (.invokevirtual 160, 3) := by decide +kernel
theorem dX8_append_45 : decode cX8_append 45 = .ok (.ireturn, 1) := by decide +kernel
theorem dX8_clearText_0 : decode cX8_clearText 0 = .ok (.aload_n 0, 1) := by decide +kernel
theorem dX8_clearText_1 : decode cX8_clearText 1 = .ok (.getfield 33, 3) := by decide +kernel
theorem dX8_clearText_4 : decode cX8_clearText 4 = .ok (.invokevirtual 160, 3) := by decide +kernel
theorem dX8_clearText_7 : decode cX8_clearText 7 = .ok (.istore_n 1, 1) := by decide +kernel
theorem dX8_clearText_8 : decode cX8_clearText 8 = .ok (.aload_n 0, 1) := by decide +kernel
theorem dX8_clearText_9 : decode cX8_clearText 9 = .ok (.getfield 33, 3) := by decide +kernel
theorem dX8_clearText_12 : decode cX8_clearText 12 = .ok (.invokevirtual 165, 3) := by decide +kernel
theorem dX8_clearText_15 : decode cX8_clearText 15 = .ok (.iload_n 1, 1) := by decide +kernel
theorem dX8_clearText_16 : decode cX8_clearText 16 = .ok (.ireturn, 1) := by decide +kernel
theorem dX8_fault_0 : decode cX8_fault 0 = .ok (.aload_n 0, 1) := by decide +kernel
theorem dX8_fault_1 : decode cX8_fault 1 = .ok (.getfield 33, 3) := by decide +kernel
theorem dX8_fault_4 : decode cX8_fault 4 = .ok (.invokevirtual 168, 3) := by decide +kernel
theorem dX8_fault_7 : decode cX8_fault 7 = .ok (.ireturn, 1) := by decide +kernel
theorem dX8_run_0 : decode cX8_run 0 = .ok (.aload_n 0, 1) := by decide +kernel
theorem dX8_run_1 : decode cX8_run 1 = .ok (.getfield 33, 3) := by decide +kernel
theorem dX8_run_4 : decode cX8_run 4 = .ok (.invokevirtual 168, 3) := by decide +kernel
theorem dX8_run_7 : decode cX8_run 7 = .ok (.istore_n 1, 1) := by decide +kernel
theorem dX8_run_8 : decode cX8_run 8 = .ok (.iload_n 1, 1) := by decide +kernel
theorem dX8_run_9 : decode cX8_run 9 = .ok (.bipush (-5), 2) := by decide +kernel
theorem dX8_run_11 : decode cX8_run 11 = .ok (.if_icmp .eq 8, 3) := by decide +kernel
theorem dX8_run_14 : decode cX8_run 14 = .ok (.bipush (-100), 2) := by decide +kernel
theorem dX8_run_16 : decode cX8_run 16 = .ok (.iload_n 1, 1) := by decide +kernel
theorem dX8_run_17 : decode cX8_run 17 = .ok (.isub, 1) := by decide +kernel
theorem dX8_run_18 : decode cX8_run 18 = .ok (.ireturn, 1) := by decide +kernel
theorem dX8_run_19 : decode cX8_run 19 = .ok (.aload_n 0, 1) := by decide +kernel
theorem dX8_run_20 : decode cX8_run 20 = .ok (.getfield 26, 3) := by decide +kernel
theorem dX8_run_23 : decode cX8_run 23 = .ok (.aload_n 0, 1) := by decide +kernel
theorem dX8_run_24 : decode cX8_run 24 = .ok (.getfield 10, 3) := by decide +kernel
theorem dX8_run_27 : decode cX8_run 27 = .ok (.invokevirtual 86, 3) := by decide +kernel
theorem dX8_run_30 : decode cX8_run 30 = .ok (.aload_n 0, 1) := by decide +kernel
theorem dX8_run_31 : decode cX8_run 31 = .ok (.invokevirtual 171, 3) := by decide +kernel
theorem dX8_run_34 : decode cX8_run 34 = .ok (.ireturn, 1) := by decide +kernel
theorem dX8_undo_0 : decode cX8_undo 0 = .ok (.aload_n 0, 1) := by decide +kernel
theorem dX8_undo_1 : decode cX8_undo 1 = .ok (.getfield 26, 3) := by decide +kernel
theorem dX8_undo_4 : decode cX8_undo 4 = .ok (.aload_n 0, 1) := by decide +kernel
theorem dX8_undo_5 : decode cX8_undo 5 = .ok (.getfield 10, 3) := by decide +kernel
theorem dX8_undo_8 : decode cX8_undo 8 = .ok (.invokevirtual 174, 3) := by decide +kernel
theorem dX8_undo_11 : decode cX8_undo 11 = .ok (.ifCond .ne 6, 3) := by decide +kernel
theorem dX8_undo_14 : decode cX8_undo 14 = .ok (.bipush (-5), 2) := by decide +kernel
theorem dX8_undo_16 : decode cX8_undo 16 = .ok (.ireturn, 1) := by decide +kernel
theorem dX8_undo_17 : decode cX8_undo 17 = .ok (.aload_n 0, 1) := by decide +kernel
theorem dX8_undo_18 : decode cX8_undo 18 = .ok (.getfield 40, 3) := by decide +kernel
theorem dX8_undo_21 : decode cX8_undo 21 = .ok (.aload_n 0, 1) := by decide +kernel
theorem dX8_undo_22 : decode cX8_undo 22 = .ok (.getfield 10, 3) := by decide +kernel
theorem dX8_undo_25 : decode cX8_undo 25 = .ok (.getfield 69, 3) := by decide +kernel
theorem dX8_undo_28 : decode cX8_undo 28 = .ok (.invokevirtual 98, 3) := by decide +kernel
theorem dX8_undo_31 : decode cX8_undo 31 = .ok (.aload_n 0, 1) := by decide +kernel
theorem dX8_undo_32 : decode cX8_undo 32 = .ok (.getfield 26, 3) := by decide +kernel
theorem dX8_undo_35 : decode cX8_undo 35 = .ok (.invokevirtual 178, 3) := by decide +kernel
theorem dX8_undo_38 : decode cX8_undo 38 = .ok (.ireturn, 1) := by decide +kernel
theorem dX8_save_0 : decode cX8_save 0 = .ok (.aload_n 0, 1) := by decide +kernel
theorem dX8_save_1 : decode cX8_save 1 = .ok (.getfield 16, 3) := by decide +kernel
theorem dX8_save_4 : decode cX8_save 4 = .ok (.aload_n 0, 1) := by decide +kernel
theorem dX8_save_5 : decode cX8_save 5 = .ok (.getfield 10, 3) := by decide +kernel
theorem dX8_save_8 : decode cX8_save 8 = .ok (.invokevirtual 180, 3) := by decide +kernel
theorem dX8_save_11 : decode cX8_save 11 = .ok (.aload_n 0, 1) := by decide +kernel
theorem dX8_save_12 : decode cX8_save 12 = .ok (.iconst 1, 1) := by decide +kernel
theorem dX8_save_13 : decode cX8_save 13 = .ok (.putfield 19, 3) := by decide +kernel
theorem dX8_save_16 : decode cX8_save 16 = .ok (.aload_n 0, 1) := by decide +kernel
theorem dX8_save_17 : decode cX8_save 17 = .ok (.getfield 10, 3) := by decide +kernel
theorem dX8_save_20 : decode cX8_save 20 = .ok (.getfield 118, 3) := by decide +kernel
theorem dX8_save_23 : decode cX8_save 23 = .ok (.invokevirtual 146, 3) := by decide +kernel
theorem dX8_save_26 : decode cX8_save 26 = .ok (.ireturn, 1) := by decide +kernel
theorem dX8_restore_0 : decode cX8_restore 0 = .ok (.aload_n 0, 1) := by decide +kernel
theorem dX8_restore_1 : decode cX8_restore 1 = .ok (.getfield 19, 3) := by decide +kernel
theorem dX8_restore_4 : decode cX8_restore 4 = .ok (.ifCond .ne 6, 3) := by decide +kernel
theorem dX8_restore_7 : decode cX8_restore 7 = .ok (.bipush (-4), 2) := by decide +kernel
theorem dX8_restore_9 : decode cX8_restore 9 = .ok (.ireturn, 1) := by decide +kernel
theorem dX8_restore_10 : decode cX8_restore 10 = .ok (.aload_n 0, 1) := by decide +kernel
theorem dX8_restore_11 : decode cX8_restore 11 = .ok (.getfield 26, 3) := by decide +kernel
theorem dX8_restore_14 : decode cX8_restore 14 = .ok (.aload_n 0, 1) := by decide +kernel
theorem dX8_restore_15 : decode cX8_restore 15 = .ok (.getfield 10, 3) := by decide +kernel
theorem dX8_restore_18 : decode cX8_restore 18 = .ok (.invokevirtual 86, 3) := by decide +kernel
theorem dX8_restore_21 : decode cX8_restore 21 = .ok (.aload_n 0, 1) := by decide +kernel
theorem dX8_restore_22 : decode cX8_restore 22 = .ok (.getfield 10, 3) := by decide +kernel
theorem dX8_restore_25 : decode cX8_restore 25 = .ok (.aload_n 0, 1) := by decide +kernel
theorem dX8_restore_26 : decode cX8_restore 26 = .ok (.getfield 16, 3) := by decide +kernel
theorem dX8_restore_29 : decode cX8_restore 29 = .ok (.invokevirtual 180, 3) := by decide +kernel
theorem dX8_restore_32 : decode cX8_restore 32 = .ok (.aload_n 0, 1) := by decide +kernel
theorem dX8_restore_33 : decode cX8_restore 33 = .ok (.getfield 40, 3) := by decide +kernel
theorem dX8_restore_36 : decode cX8_restore 36 = .ok (.aload_n 0, 1) := by decide +kernel
theorem dX8_restore_37 : decode cX8_restore 37 = .ok (.getfield 10, 3) := by decide +kernel
theorem dX8_restore_40 : decode cX8_restore 40 = .ok (.getfield 69, 3) := by decide +kernel
theorem dX8_restore_43 : decode cX8_restore 43 = .ok (.invokevirtual 98, 3) := by decide +kernel
theorem dX8_restore_46 : decode cX8_restore 46 = .ok (.aload_n 0, 1) := by decide +kernel
theorem dX8_restore_47 : decode cX8_restore 47 = .ok (.getfield 10, 3) := by decide +kernel
theorem dX8_restore_50 : decode cX8_restore 50 = .ok (.getfield 118, 3) := by decide +kernel
theorem dX8_restore_53 : decode cX8_restore 53 = .ok (.invokevirtual 146, 3) := by decide +kernel
theorem dX8_restore_56 : decode cX8_restore 56 = .ok (.ireturn, 1) := by decide +kernel
theorem dX8_dancer_0 : decode cX8_dancer 0 = .ok (.iload_n 1, 1) := by decide +kernel
theorem dX8_dancer_1 : decode cX8_dancer 1 = .ok (.invokestatic 106, 3) := by decide +kernel
theorem dX8_dancer_4 : decode cX8_dancer 4 = .ok (.ifCond .ne 5, 3) := by decide +kernel
theorem dX8_dancer_7 : decode cX8_dancer 7 = .ok (.iconst (-1), 1) := by decide +kernel
theorem dX8_dancer_8 : decode cX8_dancer 8 = .ok (.ireturn, 1) := by decide +kernel
theorem dX8_dancer_9 : decode cX8_dancer 9 = .ok (.aload_n 0, 1) := by decide +kernel
theorem dX8_dancer_10 : decode cX8_dancer 10 = .ok (.getfield 10, 3) := by decide +kernel
theorem dX8_dancer_13 : decode cX8_dancer 13 = .ok (.getfield 118, 3) := by decide +kernel
theorem dX8_dancer_16 : decode cX8_dancer 16 = .ok (.iload_n 1, 1) := by decide +kernel
theorem dX8_dancer_17 : decode cX8_dancer 17 = .ok (.invokevirtual 121, 3) := by decide +kernel
theorem dX8_dancer_20 : decode cX8_dancer 20 = .ok (.istore_n 3, 1) := by decide +kernel
theorem dX8_dancer_21 : decode cX8_dancer 21 = .ok (.iload_n 2, 1) := by decide +kernel
theorem dX8_dancer_22 : decode cX8_dancer 22 = .ok (.tableswitch 52 0 2 #[26, 28, 40], 26) := by decide +kernel
theorem dX8_dancer_48 : decode cX8_dancer 48 = .ok (.iload_n 3, 1) := by decide +kernel
theorem dX8_dancer_49 : decode cX8_dancer 49 = .ok (.ireturn, 1) := by decide +kernel
theorem dX8_dancer_50 : decode cX8_dancer 50 = .ok (.aload_n 0, 1) := by decide +kernel
theorem dX8_dancer_51 : decode cX8_dancer 51 = .ok (.getfield 10, 3) := by decide +kernel
theorem dX8_dancer_54 : decode cX8_dancer 54 = .ok (.getfield 118, 3) := by decide +kernel
theorem dX8_dancer_57 : decode cX8_dancer 57 = .ok (.iload_n 3, 1) := by decide +kernel
theorem dX8_dancer_58 : decode cX8_dancer 58 = .ok (.invokevirtual 183, 3) := by decide +kernel
theorem dX8_dancer_61 : decode cX8_dancer 61 = .ok (.ireturn, 1) := by decide +kernel
theorem dX8_dancer_62 : decode cX8_dancer 62 = .ok (.aload_n 0, 1) := by decide +kernel
theorem dX8_dancer_63 : decode cX8_dancer 63 = .ok (.getfield 10, 3) := by decide +kernel
theorem dX8_dancer_66 : decode cX8_dancer 66 = .ok (.getfield 109, 3) := by decide +kernel
theorem dX8_dancer_69 : decode cX8_dancer 69 = .ok (.iload_n 1, 1) := by decide +kernel
theorem dX8_dancer_70 : decode cX8_dancer 70 = .ok (.invokevirtual 113, 3) := by decide +kernel
theorem dX8_dancer_73 : decode cX8_dancer 73 = .ok (.ireturn, 1) := by decide +kernel
theorem dX8_dancer_74 : decode cX8_dancer 74 = .ok (.bipush (-2), 2) := by decide +kernel
theorem dX8_dancer_76 : decode cX8_dancer 76 = .ok (.ireturn, 1) := by decide +kernel
theorem dX8_at_0 : decode cX8_at 0 = .ok (.iload_n 1, 1) := by decide +kernel
theorem dX8_at_1 : decode cX8_at 1 = .ok (.invokestatic 106, 3) := by decide +kernel
theorem dX8_at_4 : decode cX8_at 4 = .ok (.ifCond .eq 17, 3) := by decide +kernel
theorem dX8_at_7 : decode cX8_at 7 = .ok (.aload_n 0, 1) := by decide +kernel
theorem dX8_at_8 : decode cX8_at 8 = .ok (.getfield 10, 3) := by decide +kernel
theorem dX8_at_11 : decode cX8_at 11 = .ok (.getfield 118, 3) := by decide +kernel
theorem dX8_at_14 : decode cX8_at 14 = .ok (.iload_n 1, 1) := by decide +kernel
theorem dX8_at_15 : decode cX8_at 15 = .ok (.invokevirtual 186, 3) := by decide +kernel
theorem dX8_at_18 : decode cX8_at 18 = .ok (.goto 4, 3) := by decide +kernel
theorem dX8_at_21 : decode cX8_at 21 = .ok (.iconst (-1), 1) := by decide +kernel
theorem dX8_at_22 : decode cX8_at 22 = .ok (.ireturn, 1) := by decide +kernel
theorem dX8_move_0 : decode cX8_move 0 = .ok (.iload_n 1, 1) := by decide +kernel
theorem dX8_move_1 : decode cX8_move 1 = .ok (.invokestatic 61, 3) := by decide +kernel
theorem dX8_move_4 : decode cX8_move 4 = .ok (.ifCond .eq 22, 3) := by decide +kernel
theorem dX8_move_7 : decode cX8_move 7 = .ok (.iload_n 2, 1) := by decide +kernel
theorem dX8_move_8 : decode cX8_move 8 = .ok (.ifCond .lt 18, 3) := by decide +kernel
theorem dX8_move_11 : decode cX8_move 11 = .ok (.iload_n 2, 1) := by decide +kernel
theorem dX8_move_12 : decode cX8_move 12 = .ok (.aload_n 0, 1) := by decide +kernel
theorem dX8_move_13 : decode cX8_move 13 = .ok (.getfield 10, 3) := by decide +kernel
theorem dX8_move_16 : decode cX8_move 16 = .ok (.getfield 69, 3) := by decide +kernel
theorem dX8_move_19 : decode cX8_move 19 = .ok (.iload_n 1, 1) := by decide +kernel
theorem dX8_move_20 : decode cX8_move 20 = .ok (.invokevirtual 77, 3) := by decide +kernel
theorem dX8_move_23 : decode cX8_move 23 = .ok (.if_icmp .lt 5, 3) := by decide +kernel
theorem dX8_move_26 : decode cX8_move 26 = .ok (.iconst (-1), 1) := by decide +kernel
theorem dX8_move_27 : decode cX8_move 27 = .ok (.ireturn, 1) := by decide +kernel
theorem dX8_move_28 : decode cX8_move 28 = .ok (.aload_n 0, 1) := by decide +kernel
theorem dX8_move_29 : decode cX8_move 29 = .ok (.getfield 10, 3) := by decide +kernel
theorem dX8_move_32 : decode cX8_move 32 = .ok (.getfield 69, 3) := by decide +kernel
theorem dX8_move_35 : decode cX8_move 35 = .ok (.iload_n 1, 1) := by decide +kernel
theorem dX8_move_36 : decode cX8_move 36 = .ok (.iload_n 2, 1) := by decide +kernel
theorem dX8_move_37 : decode cX8_move 37 = .ok (.invokevirtual 189, 3) := by decide +kernel
theorem dX8_move_40 : decode cX8_move 40 = .ok (.istore 4, 2) := by decide +kernel
theorem dX8_move_42 : decode cX8_move 42 = .ok (.iload_n 3, 1) := by decide +kernel
theorem dX8_move_43 : decode cX8_move 43 = .ok (.tableswitch 43 0 2 #[25, 31, 37], 25) := by decide +kernel
theorem dX8_move_68 : decode cX8_move 68 = .ok (.iload 4, 2) := by decide +kernel
theorem dX8_move_70 : decode cX8_move 70 = .ok (.invokestatic 192, 3) := by decide +kernel
theorem dX8_move_73 : decode cX8_move 73 = .ok (.ireturn, 1) := by decide +kernel
theorem dX8_move_74 : decode cX8_move 74 = .ok (.iload 4, 2) := by decide +kernel
theorem dX8_move_76 : decode cX8_move 76 = .ok (.invokestatic 195, 3) := by decide +kernel
theorem dX8_move_79 : decode cX8_move 79 = .ok (.ireturn, 1) := by decide +kernel
theorem dX8_move_80 : decode cX8_move 80 = .ok (.iload 4, 2) := by decide +kernel
theorem dX8_move_82 : decode cX8_move 82 = .ok (.invokestatic 198, 3) := by decide +kernel
theorem dX8_move_85 : decode cX8_move 85 = .ok (.ireturn, 1) := by decide +kernel
theorem dX8_move_86 : decode cX8_move 86 = .ok (.bipush (-2), 2) := by decide +kernel
theorem dX8_move_88 : decode cX8_move 88 = .ok (.ireturn, 1) := by decide +kernel
theorem dX8_figure_0 : decode cX8_figure 0 = .ok (.iload_n 1, 1) := by decide +kernel
theorem dX8_figure_1 : decode cX8_figure 1 = .ok (.invokestatic 61, 3) := by decide +kernel
theorem dX8_figure_4 : decode cX8_figure 4 = .ok (.ifCond .ne 5, 3) := by decide +kernel
theorem dX8_figure_7 : decode cX8_figure 7 = .ok (.iconst (-1), 1) := by decide +kernel
theorem dX8_figure_8 : decode cX8_figure 8 = .ok (.ireturn, 1) := by decide +kernel
theorem dX8_figure_9 : decode cX8_figure 9 = .ok (.aload_n 0, 1) := by decide +kernel
theorem dX8_figure_10 : decode cX8_figure 10 = .ok (.getfield 40, 3) := by decide +kernel
theorem dX8_figure_13 : decode cX8_figure 13 = .ok (.iload_n 1, 1) := by decide +kernel
theorem dX8_figure_14 : decode cX8_figure 14 = .ok (.invokevirtual 201, 3) := by decide +kernel
theorem dX8_figure_17 : decode cX8_figure 17 = .ok (.astore_n 3, 1) := by decide +kernel
theorem dX8_figure_18 : decode cX8_figure 18 = .ok (.iload_n 2, 1) := by decide +kernel
theorem dX8_figure_19 : decode cX8_figure 19 = .ok (.tableswitch 111 0 7 #[45, 57, 66, 72, 80, 88, 93, 102], 45) := by decide +kernel
theorem dX8_figure_64 : decode cX8_figure 64 = .ok (.aload_n 0, 1) := by decide +kernel
theorem dX8_figure_65 : decode cX8_figure 65 = .ok (.getfield 10, 3) := by decide +kernel
theorem dX8_figure_68 : decode cX8_figure 68 = .ok (.getfield 69, 3) := by decide +kernel
theorem dX8_figure_71 : decode cX8_figure 71 = .ok (.iload_n 1, 1) := by decide +kernel
theorem dX8_figure_72 : decode cX8_figure 72 = .ok (.invokevirtual 77, 3) := by decide +kernel
theorem dX8_figure_75 : decode cX8_figure 75 = .ok (.ireturn, 1) := by decide +kernel
theorem dX8_figure_76 : decode cX8_figure 76 = .ok (.aload_n 0, 1) := by decide +kernel
theorem dX8_figure_77 : decode cX8_figure 77 = .ok (.getfield 40, 3) := by decide +kernel
theorem dX8_figure_80 : decode cX8_figure 80 = .ok (.iload_n 1, 1) := by decide +kernel
theorem dX8_figure_81 : decode cX8_figure 81 = .ok (.invokevirtual 73, 3) := by decide +kernel
theorem dX8_figure_84 : decode cX8_figure 84 = .ok (.ireturn, 1) := by decide +kernel
theorem dX8_figure_85 : decode cX8_figure 85 = .ok (.aload_n 0, 1) := by decide +kernel
theorem dX8_figure_86 : decode cX8_figure 86 = .ok (.aload_n 3, 1) := by decide +kernel
theorem dX8_figure_87 : decode cX8_figure 87 = .ok (.invokevirtual 205, 3) := by decide +kernel
theorem dX8_figure_90 : decode cX8_figure 90 = .ok (.ireturn, 1) := by decide +kernel
theorem dX8_figure_91 : decode cX8_figure 91 = .ok (.bipush 10, 2) := by decide +kernel
theorem dX8_figure_93 : decode cX8_figure 93 = .ok (.aload_n 3, 1) := by decide +kernel
theorem dX8_figure_94 : decode cX8_figure 94 = .ok (.invokevirtual 208, 3) := by decide +kernel
theorem dX8_figure_97 : decode cX8_figure 97 = .ok (.isub, 1) := by decide +kernel
theorem dX8_figure_98 : decode cX8_figure 98 = .ok (.ireturn, 1) := by decide +kernel
theorem dX8_figure_99 : decode cX8_figure 99 = .ok (.bipush 10, 2) := by decide +kernel
theorem dX8_figure_101 : decode cX8_figure 101 = .ok (.aload_n 3, 1) := by decide +kernel
theorem dX8_figure_102 : decode cX8_figure 102 = .ok (.invokevirtual 211, 3) := by decide +kernel
theorem dX8_figure_105 : decode cX8_figure 105 = .ok (.isub, 1) := by decide +kernel
theorem dX8_figure_106 : decode cX8_figure 106 = .ok (.ireturn, 1) := by decide +kernel
theorem dX8_figure_107 : decode cX8_figure 107 = .ok (.aload_n 3, 1) := by decide +kernel
theorem dX8_figure_108 : decode cX8_figure 108 = .ok (.invokevirtual 214, 3) := by decide +kernel
theorem dX8_figure_111 : decode cX8_figure 111 = .ok (.ireturn, 1) := by decide +kernel
theorem dX8_figure_112 : decode cX8_figure 112 = .ok (.aload_n 0, 1) := by decide +kernel
theorem dX8_figure_113 : decode cX8_figure 113 = .ok (.getfield 40, 3) := by decide +kernel
theorem dX8_figure_116 : decode cX8_figure 116 = .ok (.iload_n 1, 1) := by decide +kernel
theorem dX8_figure_117 : decode cX8_figure 117 = .ok (.invokevirtual 217, 3) := by decide +kernel
theorem dX8_figure_120 : decode cX8_figure 120 = .ok (.ireturn, 1) := by decide +kernel
theorem dX8_figure_121 : decode cX8_figure 121 = .ok (.aload_n 0, 1) := by decide +kernel
theorem dX8_figure_122 : decode cX8_figure 122 = .ok (.getfield 40, 3) := by decide +kernel
theorem dX8_figure_125 : decode cX8_figure 125 = .ok (.iload_n 1, 1) := by decide +kernel
theorem dX8_figure_126 : decode cX8_figure 126 = .ok (.invokevirtual 220, 3) := by decide +kernel
theorem dX8_figure_129 : decode cX8_figure 129 = .ok (.ireturn, 1) := by decide +kernel
theorem dX8_figure_130 : decode cX8_figure 130 = .ok (.bipush (-2), 2) := by decide +kernel
theorem dX8_figure_132 : decode cX8_figure 132 = .ok (.ireturn, 1) := by decide +kernel
theorem dX8_effect_0 : decode cX8_effect 0 = .ok (.iload_n 1, 1) := by decide +kernel
theorem dX8_effect_1 : decode cX8_effect 1 = .ok (.invokestatic 61, 3) := by decide +kernel
theorem dX8_effect_4 : decode cX8_effect 4 = .ok (.ifCond .eq 10, 3) := by decide +kernel
theorem dX8_effect_7 : decode cX8_effect 7 = .ok (.iload_n 2, 1) := by decide +kernel
theorem dX8_effect_8 : decode cX8_effect 8 = .ok (.invokestatic 106, 3) := by decide +kernel
theorem dX8_effect_11 : decode cX8_effect 11 = .ok (.ifCond .ne 5, 3) := by decide +kernel
theorem dX8_effect_14 : decode cX8_effect 14 = .ok (.iconst (-1), 1) := by decide +kernel
theorem dX8_effect_15 : decode cX8_effect 15 = .ok (.ireturn, 1) := by decide +kernel
theorem dX8_effect_16 : decode cX8_effect 16 = .ok (.aload_n 0, 1) := by decide +kernel
theorem dX8_effect_17 : decode cX8_effect 17 = .ok (.getfield 40, 3) := by decide +kernel
theorem dX8_effect_20 : decode cX8_effect 20 = .ok (.iload_n 1, 1) := by decide +kernel
theorem dX8_effect_21 : decode cX8_effect 21 = .ok (.invokevirtual 201, 3) := by decide +kernel
theorem dX8_effect_24 : decode cX8_effect 24 = .ok (.astore 4, 2) := by decide +kernel
theorem dX8_effect_26 : decode cX8_effect 26 = .ok (.aload 4, 2) := by decide +kernel
theorem dX8_effect_28 : decode cX8_effect 28 = .ok (.iload_n 2, 1) := by decide +kernel
theorem dX8_effect_29 : decode cX8_effect 29 = .ok (.invokevirtual 121, 3) := by decide +kernel
theorem dX8_effect_32 : decode cX8_effect 32 = .ok (.istore 5, 2) := by decide +kernel
theorem dX8_effect_34 : decode cX8_effect 34 = .ok (.iload_n 3, 1) := by decide +kernel
theorem dX8_effect_35 : decode cX8_effect 35 = .ok (.ifCond .eq 13, 3) := by decide +kernel
theorem dX8_effect_38 : decode cX8_effect 38 = .ok (.aload 4, 2) := by decide +kernel
theorem dX8_effect_40 : decode cX8_effect 40 = .ok (.iload 5, 2) := by decide +kernel
theorem dX8_effect_42 : decode cX8_effect 42 = .ok (.invokevirtual 183, 3) := by decide +kernel
theorem dX8_effect_45 : decode cX8_effect 45 = .ok (.goto 5, 3) := by decide +kernel
theorem dX8_effect_48 : decode cX8_effect 48 = .ok (.iload 5, 2) := by decide +kernel
theorem dX8_effect_50 : decode cX8_effect 50 = .ok (.ireturn, 1) := by decide +kernel
theorem dX8_alike_0 : decode cX8_alike 0 = .ok (.iload_n 1, 1) := by decide +kernel
theorem dX8_alike_1 : decode cX8_alike 1 = .ok (.invokestatic 61, 3) := by decide +kernel
theorem dX8_alike_4 : decode cX8_alike 4 = .ok (.ifCond .eq 10, 3) := by decide +kernel
theorem dX8_alike_7 : decode cX8_alike 7 = .ok (.iload_n 2, 1) := by decide +kernel
theorem dX8_alike_8 : decode cX8_alike 8 = .ok (.invokestatic 61, 3) := by decide +kernel
theorem dX8_alike_11 : decode cX8_alike 11 = .ok (.ifCond .ne 5, 3) := by decide +kernel
theorem dX8_alike_14 : decode cX8_alike 14 = .ok (.iconst (-1), 1) := by decide +kernel
theorem dX8_alike_15 : decode cX8_alike 15 = .ok (.ireturn, 1) := by decide +kernel
theorem dX8_alike_16 : decode cX8_alike 16 = .ok (.aload_n 0, 1) := by decide +kernel
theorem dX8_alike_17 : decode cX8_alike 17 = .ok (.getfield 40, 3) := by decide +kernel
theorem dX8_alike_20 : decode cX8_alike 20 = .ok (.iload_n 1, 1) := by decide +kernel
theorem dX8_alike_21 : decode cX8_alike 21 = .ok (.invokevirtual 201, 3) := by decide +kernel
theorem dX8_alike_24 : decode cX8_alike 24 = .ok (.aload_n 0, 1) := by decide +kernel
theorem dX8_alike_25 : decode cX8_alike 25 = .ok (.getfield 40, 3) := by decide +kernel
theorem dX8_alike_28 : decode cX8_alike 28 = .ok (.iload_n 2, 1) := by decide +kernel
theorem dX8_alike_29 : decode cX8_alike 29 = .ok (.invokevirtual 201, 3) := by decide +kernel
theorem dX8_alike_32 : decode cX8_alike 32 = .ok (.invokevirtual 223, 3) := by decide +kernel
theorem dX8_alike_35 : decode cX8_alike 35 = .ok (.ifCond .eq 7, 3) := by decide +kernel
theorem dX8_alike_38 : decode cX8_alike 38 = .ok (.iconst 1, 1) := by decide +kernel
theorem dX8_alike_39 : decode cX8_alike 39 = .ok (.goto 4, 3) := by decide +kernel
theorem dX8_alike_42 : decode cX8_alike 42 = .ok (.iconst 0, 1) := by decide +kernel
theorem dX8_alike_43 : decode cX8_alike 43 = .ok (.ireturn, 1) := by decide +kernel
theorem dX8_commute_0 : decode cX8_commute 0 = .ok (.iload_n 1, 1) := by decide +kernel
theorem dX8_commute_1 : decode cX8_commute 1 = .ok (.invokestatic 61, 3) := by decide +kernel
theorem dX8_commute_4 : decode cX8_commute 4 = .ok (.ifCond .eq 10, 3) := by decide +kernel
theorem dX8_commute_7 : decode cX8_commute 7 = .ok (.iload_n 2, 1) := by decide +kernel
theorem dX8_commute_8 : decode cX8_commute 8 = .ok (.invokestatic 61, 3) := by decide +kernel
theorem dX8_commute_11 : decode cX8_commute 11 = .ok (.ifCond .ne 5, 3) := by decide +kernel
theorem dX8_commute_14 : decode cX8_commute 14 = .ok (.iconst (-1), 1) := by decide +kernel
theorem dX8_commute_15 : decode cX8_commute 15 = .ok (.ireturn, 1) := by decide +kernel
theorem dX8_commute_16 : decode cX8_commute 16 = .ok (.aload_n 0, 1) := by decide +kernel
theorem dX8_commute_17 : decode cX8_commute 17 = .ok (.getfield 54, 3) := by decide +kernel
theorem dX8_commute_20 : decode cX8_commute 20 = .ok (.aload_n 0, 1) := by decide +kernel
theorem dX8_commute_21 : decode cX8_commute 21 = .ok (.getfield 40, 3) := by decide +kernel
theorem dX8_commute_24 : decode cX8_commute 24 = .ok (.iload_n 1, 1) := by decide +kernel
theorem dX8_commute_25 : decode cX8_commute 25 = .ok (.invokevirtual 201, 3) := by decide +kernel
theorem dX8_commute_28 : decode cX8_commute 28 = .ok (.invokevirtual 227, 3) := by decide +kernel
theorem dX8_commute_31 : decode cX8_commute 31 = .ok (.aload_n 0, 1) := by decide +kernel
theorem dX8_commute_32 : decode cX8_commute 32 = .ok (.getfield 54, 3) := by decide +kernel
theorem dX8_commute_35 : decode cX8_commute 35 = .ok (.aload_n 0, 1) := by decide +kernel
theorem dX8_commute_36 : decode cX8_commute 36 = .ok (.getfield 40, 3) := by decide +kernel
theorem dX8_commute_39 : decode cX8_commute 39 = .ok (.iload_n 2, 1) := by decide +kernel
theorem dX8_commute_40 : decode cX8_commute 40 = .ok (.invokevirtual 201, 3) := by decide +kernel
theorem dX8_commute_43 : decode cX8_commute 43 = .ok (.invokevirtual 230, 3) := by decide +kernel
theorem dX8_commute_46 : decode cX8_commute 46 = .ok (.aload_n 0, 1) := by decide +kernel
theorem dX8_commute_47 : decode cX8_commute 47 = .ok (.getfield 58, 3) := by decide +kernel
theorem dX8_commute_50 : decode cX8_commute 50 = .ok (.aload_n 0, 1) := by decide +kernel
theorem dX8_commute_51 : decode cX8_commute 51 = .ok (.getfield 40, 3) := by decide +kernel
theorem dX8_commute_54 : decode cX8_commute 54 = .ok (.iload_n 2, 1) := by decide +kernel
theorem dX8_commute_55 : decode cX8_commute 55 = .ok (.invokevirtual 201, 3) := by decide +kernel
theorem dX8_commute_58 : decode cX8_commute 58 = .ok (.invokevirtual 227, 3) := by decide +kernel
theorem dX8_commute_61 : decode cX8_commute 61 = .ok (.aload_n 0, 1) := by decide +kernel
theorem dX8_commute_62 : decode cX8_commute 62 = .ok (.getfield 58, 3) := by decide +kernel
theorem dX8_commute_65 : decode cX8_commute 65 = .ok (.aload_n 0, 1) := by decide +kernel
theorem dX8_commute_66 : decode cX8_commute 66 = .ok (.getfield 40, 3) := by decide +kernel
theorem dX8_commute_69 : decode cX8_commute 69 = .ok (.iload_n 1, 1) := by decide +kernel
theorem dX8_commute_70 : decode cX8_commute 70 = .ok (.invokevirtual 201, 3) := by decide +kernel
theorem dX8_commute_73 : decode cX8_commute 73 = .ok (.invokevirtual 230, 3) := by decide +kernel
theorem dX8_commute_76 : decode cX8_commute 76 = .ok (.aload_n 0, 1) := by decide +kernel
theorem dX8_commute_77 : decode cX8_commute 77 = .ok (.getfield 54, 3) := by decide +kernel
theorem dX8_commute_80 : decode cX8_commute 80 = .ok (.aload_n 0, 1) := by decide +kernel
theorem dX8_commute_81 : decode cX8_commute 81 = .ok (.getfield 58, 3) := by decide +kernel
theorem dX8_commute_84 : decode cX8_commute 84 = .ok (.invokevirtual 223, 3) := by decide +kernel
theorem dX8_commute_87 : decode cX8_commute 87 = .ok (.ifCond .eq 7, 3) := by decide +kernel
theorem dX8_commute_90 : decode cX8_commute 90 = .ok (.iconst 1, 1) := by decide +kernel
theorem dX8_commute_91 : decode cX8_commute 91 = .ok (.goto 4, 3) := by decide +kernel
theorem dX8_commute_94 : decode cX8_commute 94 = .ok (.iconst 0, 1) := by decide +kernel
theorem dX8_commute_95 : decode cX8_commute 95 = .ok (.ireturn, 1) := by decide +kernel
theorem dX8_count_0 : decode cX8_count 0 = .ok (.iload_n 1, 1) := by decide +kernel
theorem dX8_count_1 : decode cX8_count 1 = .ok (.tableswitch 99 0 5 #[39, 50, 61, 72, 83, 91], 39) := by decide +kernel
theorem dX8_count_40 : decode cX8_count 40 = .ok (.aload_n 0, 1) := by decide +kernel
theorem dX8_count_41 : decode cX8_count 41 = .ok (.getfield 10, 3) := by decide +kernel
theorem dX8_count_44 : decode cX8_count 44 = .ok (.getfield 118, 3) := by decide +kernel
theorem dX8_count_47 : decode cX8_count 47 = .ok (.invokevirtual 146, 3) := by decide +kernel
theorem dX8_count_50 : decode cX8_count 50 = .ok (.ireturn, 1) := by decide +kernel
theorem dX8_count_51 : decode cX8_count 51 = .ok (.aload_n 0, 1) := by decide +kernel
theorem dX8_count_52 : decode cX8_count 52 = .ok (.getfield 10, 3) := by decide +kernel
theorem dX8_count_55 : decode cX8_count 55 = .ok (.getfield 118, 3) := by decide +kernel
theorem dX8_count_58 : decode cX8_count 58 = .ok (.invokevirtual 208, 3) := by decide +kernel
theorem dX8_count_61 : decode cX8_count 61 = .ok (.ireturn, 1) := by decide +kernel
theorem dX8_count_62 : decode cX8_count 62 = .ok (.aload_n 0, 1) := by decide +kernel
theorem dX8_count_63 : decode cX8_count 63 = .ok (.getfield 10, 3) := by decide +kernel
theorem dX8_count_66 : decode cX8_count 66 = .ok (.getfield 109, 3) := by decide +kernel
theorem dX8_count_69 : decode cX8_count 69 = .ok (.invokevirtual 131, 3) := by decide +kernel
theorem dX8_count_72 : decode cX8_count 72 = .ok (.ireturn, 1) := by decide +kernel
theorem dX8_count_73 : decode cX8_count 73 = .ok (.aload_n 0, 1) := by decide +kernel
theorem dX8_count_74 : decode cX8_count 74 = .ok (.getfield 10, 3) := by decide +kernel
theorem dX8_count_77 : decode cX8_count 77 = .ok (.getfield 69, 3) := by decide +kernel
theorem dX8_count_80 : decode cX8_count 80 = .ok (.invokevirtual 233, 3) := by decide +kernel
theorem dX8_count_83 : decode cX8_count 83 = .ok (.ireturn, 1) := by decide +kernel
theorem dX8_count_84 : decode cX8_count 84 = .ok (.aload_n 0, 1) := by decide +kernel
theorem dX8_count_85 : decode cX8_count 85 = .ok (.getfield 26, 3) := by decide +kernel
theorem dX8_count_88 : decode cX8_count 88 = .ok (.invokevirtual 178, 3) := by decide +kernel
theorem dX8_count_91 : decode cX8_count 91 = .ok (.ireturn, 1) := by decide +kernel
theorem dX8_count_92 : decode cX8_count 92 = .ok (.aload_n 0, 1) := by decide +kernel
theorem dX8_count_93 : decode cX8_count 93 = .ok (.getfield 33, 3) := by decide +kernel
theorem dX8_count_96 : decode cX8_count 96 = .ok (.invokevirtual 160, 3) := by decide +kernel
theorem dX8_count_99 : decode cX8_count 99 = .ok (.ireturn, 1) := by decide +kernel
theorem dX8_count_100 : decode cX8_count 100 = .ok (.bipush (-2), 2) := by decide +kernel
theorem dX8_count_102 : decode cX8_count 102 = .ok (.ireturn, 1) := by decide +kernel
theorem dX8_total_0 : decode cX8_total 0 = .ok (.iload_n 1, 1) := by decide +kernel
theorem dX8_total_1 : decode cX8_total 1 = .ok (.tableswitch 51 0 2 #[27, 35, 43], 27) := by decide +kernel
theorem dX8_total_28 : decode cX8_total 28 = .ok (.aload_n 0, 1) := by decide +kernel
theorem dX8_total_29 : decode cX8_total 29 = .ok (.getfield 10, 3) := by decide +kernel
theorem dX8_total_32 : decode cX8_total 32 = .ok (.getfield 236, 3) := by decide +kernel
theorem dX8_total_35 : decode cX8_total 35 = .ok (.ireturn, 1) := by decide +kernel
theorem dX8_total_36 : decode cX8_total 36 = .ok (.aload_n 0, 1) := by decide +kernel
theorem dX8_total_37 : decode cX8_total 37 = .ok (.getfield 10, 3) := by decide +kernel
theorem dX8_total_40 : decode cX8_total 40 = .ok (.getfield 239, 3) := by decide +kernel
theorem dX8_total_43 : decode cX8_total 43 = .ok (.ireturn, 1) := by decide +kernel
theorem dX8_total_44 : decode cX8_total 44 = .ok (.aload_n 0, 1) := by decide +kernel
theorem dX8_total_45 : decode cX8_total 45 = .ok (.getfield 10, 3) := by decide +kernel
theorem dX8_total_48 : decode cX8_total 48 = .ok (.getfield 152, 3) := by decide +kernel
theorem dX8_total_51 : decode cX8_total 51 = .ok (.ireturn, 1) := by decide +kernel
theorem dX8_total_52 : decode cX8_total 52 = .ok (.bipush (-2), 2) := by decide +kernel
theorem dX8_total_54 : decode cX8_total 54 = .ok (.ireturn, 1) := by decide +kernel
theorem dX8_blockedAt_0 : decode cX8_blockedAt 0 = .ok (.iload_n 1, 1) := by decide +kernel
theorem dX8_blockedAt_1 : decode cX8_blockedAt 1 = .ok (.invokestatic 61, 3) := by decide +kernel
theorem dX8_blockedAt_4 : decode cX8_blockedAt 4 = .ok (.ifCond .eq 13, 3) := by decide +kernel
theorem dX8_blockedAt_7 : decode cX8_blockedAt 7 = .ok (.aload_n 0, 1) := by decide +kernel
theorem dX8_blockedAt_8 : decode cX8_blockedAt 8 = .ok (.iload_n 1, 1) := by decide +kernel
theorem dX8_blockedAt_9 : decode cX8_blockedAt 9 = .ok (.iconst 1, 1) := by decide +kernel
theorem dX8_blockedAt_10 : decode cX8_blockedAt 10 = .ok (.iload_n 2, 1) := by decide +kernel
theorem dX8_blockedAt_11 : decode cX8_blockedAt 11 = .ok (.invokevirtual 138, 3) := by decide +kernel
theorem dX8_blockedAt_14 : decode cX8_blockedAt 14 = .ok (.goto 4, 3) := by decide +kernel
theorem dX8_blockedAt_17 : decode cX8_blockedAt 17 = .ok (.iconst (-1), 1) := by decide +kernel
theorem dX8_blockedAt_18 : decode cX8_blockedAt 18 = .ok (.ireturn, 1) := by decide +kernel
theorem dX8_homeIn_0 : decode cX8_homeIn 0 = .ok (.iload_n 1, 1) := by decide +kernel
theorem dX8_homeIn_1 : decode cX8_homeIn 1 = .ok (.invokestatic 61, 3) := by decide +kernel
theorem dX8_homeIn_4 : decode cX8_homeIn 4 = .ok (.ifCond .ne 5, 3) := by decide +kernel
theorem dX8_homeIn_7 : decode cX8_homeIn 7 = .ok (.iconst (-1), 1) := by decide +kernel
theorem dX8_homeIn_8 : decode cX8_homeIn 8 = .ok (.ireturn, 1) := by decide +kernel
theorem dX8_homeIn_9 : decode cX8_homeIn 9 = .ok (.aload_n 0, 1) := by decide +kernel
theorem dX8_homeIn_10 : decode cX8_homeIn 10 = .ok (.getfield 54, 3) := by decide +kernel
theorem dX8_homeIn_13 : decode cX8_homeIn 13 = .ok (.aload_n 0, 1) := by decide +kernel
theorem dX8_homeIn_14 : decode cX8_homeIn 14 = .ok (.getfield 10, 3) := by decide +kernel
theorem dX8_homeIn_17 : decode cX8_homeIn 17 = .ok (.getfield 118, 3) := by decide +kernel
theorem dX8_homeIn_20 : decode cX8_homeIn 20 = .ok (.invokevirtual 227, 3) := by decide +kernel
theorem dX8_homeIn_23 : decode cX8_homeIn 23 = .ok (.aload_n 0, 1) := by decide +kernel
theorem dX8_homeIn_24 : decode cX8_homeIn 24 = .ok (.getfield 54, 3) := by decide +kernel
theorem dX8_homeIn_27 : decode cX8_homeIn 27 = .ok (.aload_n 0, 1) := by decide +kernel
theorem dX8_homeIn_28 : decode cX8_homeIn 28 = .ok (.getfield 40, 3) := by decide +kernel
theorem dX8_homeIn_31 : decode cX8_homeIn 31 = .ok (.iload_n 1, 1) := by decide +kernel
theorem dX8_homeIn_32 : decode cX8_homeIn 32 = .ok (.invokevirtual 201, 3) := by decide +kernel
theorem dX8_homeIn_35 : decode cX8_homeIn 35 = .ok (.invokestatic 242, 3) := by decide +kernel
theorem dX8_homeIn_38 : decode cX8_homeIn 38 = .ok (.ireturn, 1) := by decide +kernel
theorem dX8_wayHome_0 : decode cX8_wayHome 0 = .ok (.iload_n 1, 1) := by decide +kernel
theorem dX8_wayHome_1 : decode cX8_wayHome 1 = .ok (.ifCond .lt 8, 3) := by decide +kernel
theorem dX8_wayHome_4 : decode cX8_wayHome 4 = .ok (.iload_n 1, 1) := by decide +kernel
theorem dX8_wayHome_5 : decode cX8_wayHome 5 = .ok (.iconst 4, 1) := by decide +kernel
theorem dX8_wayHome_6 : decode cX8_wayHome 6 = .ok (.if_icmp .le 6, 3) := by decide +kernel
theorem dX8_wayHome_9 : decode cX8_wayHome 9 = .ok (.bipush (-2), 2) := by decide +kernel
theorem dX8_wayHome_11 : decode cX8_wayHome 11 = .ok (.ireturn, 1) := by decide +kernel
theorem dX8_wayHome_12 : decode cX8_wayHome 12 = .ok (.aload_n 0, 1) := by decide +kernel
theorem dX8_wayHome_13 : decode cX8_wayHome 13 = .ok (.getfield 47, 3) := by decide +kernel
theorem dX8_wayHome_16 : decode cX8_wayHome 16 = .ok (.aload_n 0, 1) := by decide +kernel
theorem dX8_wayHome_17 : decode cX8_wayHome 17 = .ok (.getfield 10, 3) := by decide +kernel
theorem dX8_wayHome_20 : decode cX8_wayHome 20 = .ok (.getfield 118, 3) := by decide +kernel
theorem dX8_wayHome_23 : decode cX8_wayHome 23 = .ok (.aload_n 0, 1) := by decide +kernel
theorem dX8_wayHome_24 : decode cX8_wayHome 24 = .ok (.getfield 40, 3) := by decide +kernel
theorem dX8_wayHome_27 : decode cX8_wayHome 27 = .ok (.invokevirtual 246, 3) := by decide +kernel
theorem dX8_wayHome_30 : decode cX8_wayHome 30 = .ok (.istore_n 2, 1) := by decide +kernel
theorem dX8_wayHome_31 : decode cX8_wayHome 31 = .ok (.iload_n 1, 1) := by decide +kernel
theorem dX8_wayHome_32 : decode cX8_wayHome 32 = .ok (.ifCond .eq 9, 3) := by decide +kernel
theorem dX8_wayHome_35 : decode cX8_wayHome 35 = .ok (.iload_n 2, 1) := by decide +kernel
theorem dX8_wayHome_36 : decode cX8_wayHome 36 = .ok (.bipush (-5), 2) := by decide +kernel
theorem dX8_wayHome_38 : decode cX8_wayHome 38 = .ok (.if_icmp .ne 5, 3) := by decide +kernel
theorem dX8_wayHome_41 : decode cX8_wayHome 41 = .ok (.iload_n 2, 1) := by decide +kernel
theorem dX8_wayHome_42 : decode cX8_wayHome 42 = .ok (.ireturn, 1) := by decide +kernel
theorem dX8_wayHome_43 : decode cX8_wayHome 43 = .ok (.iload_n 1, 1) := by decide +kernel
theorem dX8_wayHome_44 : decode cX8_wayHome 44 = .ok (.iload_n 2, 1) := by decide +kernel
theorem dX8_wayHome_45 : decode cX8_wayHome 45 = .ok (.if_icmp .gt 16, 3) := by decide +kernel
theorem dX8_wayHome_48 : decode cX8_wayHome 48 = .ok (.aload_n 0, 1) := by decide +kernel
theorem dX8_wayHome_49 : decode cX8_wayHome 49 = .ok (.getfield 47, 3) := by decide +kernel
theorem dX8_wayHome_52 : decode cX8_wayHome 52 = .ok (.iload_n 1, 1) := by decide +kernel
theorem dX8_wayHome_53 : decode cX8_wayHome 53 = .ok (.iconst 1, 1) := by decide +kernel
theorem dX8_wayHome_54 : decode cX8_wayHome 54 = .ok (.isub, 1) := by decide +kernel
theorem dX8_wayHome_55 : decode cX8_wayHome 55 = .ok (.invokevirtual 250, 3) := by decide +kernel
theorem dX8_wayHome_58 : decode cX8_wayHome 58 = .ok (.goto 5, 3) := by decide +kernel
theorem dX8_wayHome_61 : decode cX8_wayHome 61 = .ok (.bipush (-5), 2) := by decide +kernel
theorem dX8_wayHome_63 : decode cX8_wayHome 63 = .ok (.ireturn, 1) := by decide +kernel
theorem dX8_distance_0 : decode cX8_distance 0 = .ok (.aload_n 0, 1) := by decide +kernel
theorem dX8_distance_1 : decode cX8_distance 1 = .ok (.getfield 10, 3) := by decide +kernel
theorem dX8_distance_4 : decode cX8_distance 4 = .ok (.getfield 118, 3) := by decide +kernel
theorem dX8_distance_7 : decode cX8_distance 7 = .ok (.invokevirtual 253, 3) := by decide +kernel
theorem dX8_distance_10 : decode cX8_distance 10 = .ok (.i2d, 1) := by decide +kernel
theorem dX8_distance_11 : decode cX8_distance 11 = .ok (.ldc2_w 256, 3) := by decide +kernel
theorem dX8_distance_14 : decode cX8_distance 14 = .ok (.ddiv, 1) := by decide +kernel
theorem dX8_distance_15 : decode cX8_distance 15 = .ok (.dreturn, 1) := by decide +kernel
theorem dX8_tryOut_0 : decode cX8_tryOut 0 = .ok (.aload_n 0, 1) := by decide +kernel
theorem dX8_tryOut_1 : decode cX8_tryOut 1 = .ok (.getfield 54, 3) := by decide +kernel
theorem dX8_tryOut_4 : decode cX8_tryOut 4 = .ok (.aload_n 0, 1) := by decide +kernel
theorem dX8_tryOut_5 : decode cX8_tryOut 5 = .ok (.getfield 10, 3) := by decide +kernel
theorem dX8_tryOut_8 : decode cX8_tryOut 8 = .ok (.getfield 118, 3) := by decide +kernel
theorem dX8_tryOut_11 : decode cX8_tryOut 11 = .ok (.invokevirtual 227, 3) := by decide +kernel
theorem dX8_tryOut_14 : decode cX8_tryOut 14 = .ok (.aload_n 0, 1) := by decide +kernel
theorem dX8_tryOut_15 : decode cX8_tryOut 15 = .ok (.getfield 40, 3) := by decide +kernel
theorem dX8_tryOut_18 : decode cX8_tryOut 18 = .ok (.iload_n 1, 1) := by decide +kernel
theorem dX8_tryOut_19 : decode cX8_tryOut 19 = .ok (.invokevirtual 73, 3) := by decide +kernel
theorem dX8_tryOut_22 : decode cX8_tryOut 22 = .ok (.istore 4, 2) := by decide +kernel
theorem dX8_tryOut_24 : decode cX8_tryOut 24 = .ok (.iconst 0, 1) := by decide +kernel
theorem dX8_tryOut_25 : decode cX8_tryOut 25 = .ok (.istore 5, 2) := by decide +kernel
theorem dX8_tryOut_27 : decode cX8_tryOut 27 = .ok (.iconst 0, 1) := by decide +kernel
theorem dX8_tryOut_28 : decode cX8_tryOut 28 = .ok (.istore 6, 2) := by decide +kernel
theorem dX8_tryOut_30 : decode cX8_tryOut 30 = .ok (.iload 6, 2) := by decide +kernel
theorem dX8_tryOut_32 : decode cX8_tryOut 32 = .ok (.iload_n 2, 1) := by decide +kernel
theorem dX8_tryOut_33 : decode cX8_tryOut 33 = .ok (.if_icmp .ge 66, 3) := by decide +kernel
theorem dX8_tryOut_36 : decode cX8_tryOut 36 = .ok (.iconst 0, 1) := by decide +kernel
theorem dX8_tryOut_37 : decode cX8_tryOut 37 = .ok (.istore 7, 2) := by decide +kernel
theorem dX8_tryOut_39 : decode cX8_tryOut 39 = .ok (.iload 7, 2) := by decide +kernel
theorem dX8_tryOut_41 : decode cX8_tryOut 41 = .ok (.iload 4, 2) := by decide +kernel
theorem dX8_tryOut_43 : decode cX8_tryOut 43 = .ok (.if_icmp .ge 50, 3) := by decide +kernel
theorem dX8_tryOut_46 : decode cX8_tryOut 46 = .ok (.aload_n 0, 1) := by decide +kernel
theorem dX8_tryOut_47 : decode cX8_tryOut 47 = .ok (.getfield 54, 3) := by decide +kernel
theorem dX8_tryOut_50 : decode cX8_tryOut 50 = .ok (.aload_n 0, 1) := by decide +kernel
theorem dX8_tryOut_51 : decode cX8_tryOut 51 = .ok (.getfield 40, 3) := by decide +kernel
theorem dX8_tryOut_54 : decode cX8_tryOut 54 = .ok (.iload_n 1, 1) := by decide +kernel
theorem dX8_tryOut_55 : decode cX8_tryOut 55 = .ok (.iload 7, 2) := by decide +kernel
theorem dX8_tryOut_57 : decode cX8_tryOut 57 = .ok (.iload_n 3, 1) := by decide +kernel
theorem dX8_tryOut_58 : decode cX8_tryOut 58 = .ok (.invokevirtual 258, 3) := by decide +kernel
theorem dX8_tryOut_61 : decode cX8_tryOut 61 = .ok (.invokevirtual 261, 3) := by decide +kernel
theorem dX8_tryOut_64 : decode cX8_tryOut 64 = .ok (.aload_n 0, 1) := by decide +kernel
theorem dX8_tryOut_65 : decode cX8_tryOut 65 = .ok (.getfield 10, 3) := by decide +kernel
theorem dX8_tryOut_68 : decode cX8_tryOut 68 = .ok (.getfield 109, 3) := by decide +kernel
theorem dX8_tryOut_71 : decode cX8_tryOut 71 = .ok (.aload_n 0, 1) := by decide +kernel
theorem dX8_tryOut_72 : decode cX8_tryOut 72 = .ok (.getfield 54, 3) := by decide +kernel
theorem dX8_tryOut_75 : decode cX8_tryOut 75 = .ok (.invokevirtual 264, 3) := by decide +kernel
theorem dX8_tryOut_78 : decode cX8_tryOut 78 = .ok (.ifCond .ne 6, 3) := by decide +kernel
theorem dX8_tryOut_81 : decode cX8_tryOut 81 = .ok (.iload 5, 2) := by decide +kernel
theorem dX8_tryOut_83 : decode cX8_tryOut 83 = .ok (.ireturn, 1) := by decide +kernel
theorem dX8_tryOut_84 : decode cX8_tryOut 84 = .ok (.iinc 5 1, 3) := by decide +kernel
theorem dX8_tryOut_87 : decode cX8_tryOut 87 = .ok (.iinc 7 1, 3) := by decide +kernel
theorem dX8_tryOut_90 : decode cX8_tryOut 90 = .ok (.goto (-51), 3) := by decide +kernel
theorem dX8_tryOut_93 : decode cX8_tryOut 93 = .ok (.iinc 6 1, 3) := by decide +kernel
theorem dX8_tryOut_96 : decode cX8_tryOut 96 = .ok (.goto (-66), 3) := by decide +kernel
theorem dX8_tryOut_99 : decode cX8_tryOut 99 = .ok (.bipush (-5), 2) := by decide +kernel
theorem dX8_tryOut_101 : decode cX8_tryOut 101 = .ok (.ireturn, 1) := by decide +kernel
theorem dX8_carryOut_0 : decode cX8_carryOut 0 = .ok (.aload_n 0, 1) := by decide +kernel
theorem dX8_carryOut_1 : decode cX8_carryOut 1 = .ok (.getfield 40, 3) := by decide +kernel
theorem dX8_carryOut_4 : decode cX8_carryOut 4 = .ok (.iload_n 1, 1) := by decide +kernel
theorem dX8_carryOut_5 : decode cX8_carryOut 5 = .ok (.invokevirtual 73, 3) := by decide +kernel
theorem dX8_carryOut_8 : decode cX8_carryOut 8 = .ok (.iload_n 2, 1) := by decide +kernel
theorem dX8_carryOut_9 : decode cX8_carryOut 9 = .ok (.imul, 1) := by decide +kernel
theorem dX8_carryOut_10 : decode cX8_carryOut 10 = .ok (.istore_n 3, 1) := by decide +kernel
theorem dX8_carryOut_11 : decode cX8_carryOut 11 = .ok (.aload_n 0, 1) := by decide +kernel
theorem dX8_carryOut_12 : decode cX8_carryOut 12 = .ok (.getfield 10, 3) := by decide +kernel
theorem dX8_carryOut_15 : decode cX8_carryOut 15 = .ok (.getfield 118, 3) := by decide +kernel
theorem dX8_carryOut_18 : decode cX8_carryOut 18 = .ok (.aload_n 0, 1) := by decide +kernel
theorem dX8_carryOut_19 : decode cX8_carryOut 19 = .ok (.getfield 54, 3) := by decide +kernel
theorem dX8_carryOut_22 : decode cX8_carryOut 22 = .ok (.invokevirtual 227, 3) := by decide +kernel
theorem dX8_carryOut_25 : decode cX8_carryOut 25 = .ok (.aload_n 0, 1) := by decide +kernel
theorem dX8_carryOut_26 : decode cX8_carryOut 26 = .ok (.getfield 10, 3) := by decide +kernel
theorem dX8_carryOut_29 : decode cX8_carryOut 29 = .ok (.dup, 1) := by decide +kernel
theorem dX8_carryOut_30 : decode cX8_carryOut 30 = .ok (.getfield 236, 3) := by decide +kernel
theorem dX8_carryOut_33 : decode cX8_carryOut 33 = .ok (.iconst 1, 1) := by decide +kernel
theorem dX8_carryOut_34 : decode cX8_carryOut 34 = .ok (.iadd, 1) := by decide +kernel
theorem dX8_carryOut_35 : decode cX8_carryOut 35 = .ok (.putfield 236, 3) := by decide +kernel
theorem dX8_carryOut_38 : decode cX8_carryOut 38 = .ok (.aload_n 0, 1) := by decide +kernel
theorem dX8_carryOut_39 : decode cX8_carryOut 39 = .ok (.getfield 10, 3) := by decide +kernel
theorem dX8_carryOut_42 : decode cX8_carryOut 42 = .ok (.dup, 1) := by decide +kernel
theorem dX8_carryOut_43 : decode cX8_carryOut 43 = .ok (.getfield 239, 3) := by decide +kernel
theorem dX8_carryOut_46 : decode cX8_carryOut 46 = .ok (.iload_n 3, 1) := by decide +kernel
theorem dX8_carryOut_47 : decode cX8_carryOut 47 = .ok (.iadd, 1) := by decide +kernel
theorem dX8_carryOut_48 : decode cX8_carryOut 48 = .ok (.putfield 239, 3) := by decide +kernel
theorem dX8_carryOut_51 : decode cX8_carryOut 51 = .ok (.iload_n 3, 1) := by decide +kernel
theorem dX8_carryOut_52 : decode cX8_carryOut 52 = .ok (.ireturn, 1) := by decide +kernel
theorem dX8_carryOutScript_0 : decode cX8_carryOutScript 0 = .ok (.iconst 0, 1) := by decide +kernel
theorem dX8_carryOutScript_1 : decode cX8_carryOutScript 1 = .ok (.istore_n 1, 1) := by decide +kernel
theorem dX8_carryOutScript_2 : decode cX8_carryOutScript 2 = .ok (.iconst 0, 1) := by decide +kernel
theorem dX8_carryOutScript_3 : decode cX8_carryOutScript 3 = .ok (.istore_n 2, 1) := by decide +kernel
theorem dX8_carryOutScript_4 : decode cX8_carryOutScript 4 = .ok (.iconst 1, 1) := by decide +kernel
theorem dX8_carryOutScript_5 : decode cX8_carryOutScript 5 = .ok (.istore_n 3, 1) := by decide +kernel
theorem dX8_carryOutScript_6 : decode cX8_carryOutScript 6 = .ok (.iconst 0, 1) := by decide +kernel
theorem dX8_carryOutScript_7 : decode cX8_carryOutScript 7 = .ok (.istore 4, 2) := by decide +kernel
theorem dX8_carryOutScript_9 : decode cX8_carryOutScript 9 = .ok (.iconst 0, 1) := by decide +kernel
theorem dX8_carryOutScript_10 : decode cX8_carryOutScript 10 = .ok (.istore 5, 2) := by decide +kernel
theorem dX8_carryOutScript_12 : decode cX8_carryOutScript 12 = .ok (.iload 5, 2) := by decide +kernel
theorem dX8_carryOutScript_14 : decode cX8_carryOutScript 14 = .ok (.aload_n 0, 1) := by decide +kernel
theorem dX8_carryOutScript_15 : decode cX8_carryOutScript 15 = .ok (.getfield 33, 3) := by decide +kernel
theorem dX8_carryOutScript_18 : decode cX8_carryOutScript 18 = .ok (.invokevirtual 160, 3) := by decide +kernel
theorem dX8_carryOutScript_21 : decode cX8_carryOutScript 21 = .ok (.if_icmp .gt 96, 3) := by decide +kernel
theorem dX8_carryOutScript_24 : decode cX8_carryOutScript 24 = .ok (.aload_n 0, 1) := by decide +kernel
theorem dX8_carryOutScript_25 : decode cX8_carryOutScript 25 = .ok (.getfield 33, 3) := by decide +kernel
theorem dX8_carryOutScript_28 : decode cX8_carryOutScript 28 = .ok (.iload 5, 2) := by decide +kernel
theorem dX8_carryOutScript_30 : decode cX8_carryOutScript 30 = .ok (.invokevirtual 267, 3) := by decide +kernel
theorem dX8_carryOutScript_33 : decode cX8_carryOutScript 33 = .ok (.istore 6, 2) := by decide +kernel
theorem dX8_carryOutScript_35 : decode cX8_carryOutScript 35 = .ok (.iload 6, 2) := by decide +kernel
theorem dX8_carryOutScript_37 : decode cX8_carryOutScript 37 = .ok (.bipush 32, 2) := by decide +kernel
theorem dX8_carryOutScript_39 : decode cX8_carryOutScript 39 = .ok (.if_icmp .ne 31, 3) := by decide +kernel
theorem dX8_carryOutScript_42 : decode cX8_carryOutScript 42 = .ok (.aload_n 0, 1) := by decide +kernel
theorem dX8_carryOutScript_43 : decode cX8_carryOutScript 43 = .ok (.iload_n 2, 1) := by decide +kernel
theorem dX8_carryOutScript_44 : decode cX8_carryOutScript 44 = .ok (.iload_n 3, 1) := by decide +kernel
theorem dX8_carryOutScript_45 : decode cX8_carryOutScript 45 = .ok (.iload 4, 2) := by decide +kernel
theorem dX8_carryOutScript_47 : decode cX8_carryOutScript 47 = .ok (.invokevirtual 138, 3) := by decide +kernel
theorem dX8_carryOutScript_50 : decode cX8_carryOutScript 50 = .ok (.bipush (-5), 2) := by decide +kernel
theorem dX8_carryOutScript_52 : decode cX8_carryOutScript 52 = .ok (.if_icmp .eq 5, 3) := by decide +kernel
theorem dX8_carryOutScript_55 : decode cX8_carryOutScript 55 = .ok (.iload_n 1, 1) := by decide +kernel
theorem dX8_carryOutScript_56 : decode cX8_carryOutScript 56 = .ok (.ireturn, 1) := by decide +kernel
theorem dX8_carryOutScript_57 : decode cX8_carryOutScript 57 = .ok (.aload_n 0, 1) := by decide +kernel
theorem dX8_carryOutScript_58 : decode cX8_carryOutScript 58 = .ok (.iload_n 2, 1) := by decide +kernel
theorem dX8_carryOutScript_59 : decode cX8_carryOutScript 59 = .ok (.iload_n 3, 1) := by decide +kernel
theorem dX8_carryOutScript_60 : decode cX8_carryOutScript 60 = .ok (.invokevirtual 142, 3) := by decide +kernel
theorem dX8_carryOutScript_63 : decode cX8_carryOutScript 63 = .ok (.pop, 1) := by decide +kernel
theorem dX8_carryOutScript_64 : decode cX8_carryOutScript 64 = .ok (.iinc 1 1, 3) := by decide +kernel
theorem dX8_carryOutScript_67 : decode cX8_carryOutScript 67 = .ok (.goto 44, 3) := by decide +kernel
theorem dX8_carryOutScript_70 : decode cX8_carryOutScript 70 = .ok (.iload 6, 2) := by decide +kernel
theorem dX8_carryOutScript_72 : decode cX8_carryOutScript 72 = .ok (.invokestatic 270, 3) := by decide +kernel
theorem dX8_carryOutScript_75 : decode cX8_carryOutScript 75 = .ok (.ifCond .eq 17, 3) := by decide +kernel
theorem dX8_carryOutScript_78 : decode cX8_carryOutScript 78 = .ok (.iload 6, 2) := by decide +kernel
theorem dX8_carryOutScript_80 : decode cX8_carryOutScript 80 = .ok (.bipush 65, 2) := by decide +kernel
theorem dX8_carryOutScript_82 : decode cX8_carryOutScript 82 = .ok (.isub, 1) := by decide +kernel
theorem dX8_carryOutScript_83 : decode cX8_carryOutScript 83 = .ok (.istore_n 2, 1) := by decide +kernel
theorem dX8_carryOutScript_84 : decode cX8_carryOutScript 84 = .ok (.iconst 1, 1) := by decide +kernel
theorem dX8_carryOutScript_85 : decode cX8_carryOutScript 85 = .ok (.istore_n 3, 1) := by decide +kernel
theorem dX8_carryOutScript_86 : decode cX8_carryOutScript 86 = .ok (.iconst 0, 1) := by decide +kernel
theorem dX8_carryOutScript_87 : decode cX8_carryOutScript 87 = .ok (.istore 4, 2) := by decide +kernel
theorem dX8_carryOutScript_89 : decode cX8_carryOutScript 89 = .ok (.goto 22, 3) := by decide +kernel
theorem dX8_carryOutScript_92 : decode cX8_carryOutScript 92 = .ok (.iload 6, 2) := by decide +kernel
theorem dX8_carryOutScript_94 : decode cX8_carryOutScript 94 = .ok (.bipush 39, 2) := by decide +kernel
theorem dX8_carryOutScript_96 : decode cX8_carryOutScript 96 = .ok (.if_icmp .ne 9, 3) := by decide +kernel
theorem dX8_carryOutScript_99 : decode cX8_carryOutScript 99 = .ok (.iconst 1, 1) := by decide +kernel
theorem dX8_carryOutScript_100 : decode cX8_carryOutScript 100 = .ok (.istore 4, 2) := by decide +kernel
theorem dX8_carryOutScript_102 : decode cX8_carryOutScript 102 = .ok (.goto 9, 3) := by decide +kernel
theorem dX8_carryOutScript_105 : decode cX8_carryOutScript 105 = .ok (.iload 6, 2) := by decide +kernel
theorem dX8_carryOutScript_107 : decode cX8_carryOutScript 107 = .ok (.bipush 48, 2) := by decide +kernel
theorem dX8_carryOutScript_109 : decode cX8_carryOutScript 109 = .ok (.isub, 1) := by decide +kernel
theorem dX8_carryOutScript_110 : decode cX8_carryOutScript 110 = .ok (.istore_n 3, 1) := by decide +kernel
theorem dX8_carryOutScript_111 : decode cX8_carryOutScript 111 = .ok (.iinc 5 1, 3) := by decide +kernel
theorem dX8_carryOutScript_114 : decode cX8_carryOutScript 114 = .ok (.goto (-102), 3) := by decide +kernel
theorem dX8_carryOutScript_117 : decode cX8_carryOutScript 117 = .ok (.iload_n 1, 1) := by decide +kernel
theorem dX8_carryOutScript_118 : decode cX8_carryOutScript 118 = .ok (.ireturn, 1) := by decide +kernel
theorem dX8_orderOf_0 : decode cX8_orderOf 0 = .ok (.aload_n 0, 1) := by decide +kernel
theorem dX8_orderOf_1 : decode cX8_orderOf 1 = .ok (.getfield 54, 3) := by decide +kernel
theorem dX8_orderOf_4 : decode cX8_orderOf 4 = .ok (.aload_n 1, 1) := by decide +kernel
theorem dX8_orderOf_5 : decode cX8_orderOf 5 = .ok (.invokevirtual 227, 3) := by decide +kernel
theorem dX8_orderOf_8 : decode cX8_orderOf 8 = .ok (.iconst 1, 1) := by decide +kernel
theorem dX8_orderOf_9 : decode cX8_orderOf 9 = .ok (.aload_n 0, 1) := by decide +kernel
theorem dX8_orderOf_10 : decode cX8_orderOf 10 = .ok (.getfield 54, 3) := by decide +kernel
theorem dX8_orderOf_13 : decode cX8_orderOf 13 = .ok (.aload_n 1, 1) := by decide +kernel
theorem dX8_orderOf_14 : decode cX8_orderOf 14 = .ok (.invokestatic 242, 3) := by decide +kernel
theorem dX8_orderOf_17 : decode cX8_orderOf 17 = .ok (.iadd, 1) := by decide +kernel
theorem dX8_orderOf_18 : decode cX8_orderOf 18 = .ok (.ireturn, 1) := by decide +kernel
theorem dX8_timesUntilHome_0 : decode cX8_timesUntilHome 0 = .ok (.iconst 0, 1) := by decide +kernel
theorem dX8_timesUntilHome_1 : decode cX8_timesUntilHome 1 = .ok (.istore_n 2, 1) := by decide +kernel
theorem dX8_timesUntilHome_2 : decode cX8_timesUntilHome 2 = .ok (.iload_n 2, 1) := by decide +kernel
theorem dX8_timesUntilHome_3 : decode cX8_timesUntilHome 3 = .ok (.bipush 120, 2) := by decide +kernel
theorem dX8_timesUntilHome_5 : decode cX8_timesUntilHome 5 = .ok (.if_icmp .ge 23, 3) := by decide +kernel
theorem dX8_timesUntilHome_8 : decode cX8_timesUntilHome 8 = .ok (.aload_n 0, 1) := by decide +kernel
theorem dX8_timesUntilHome_9 : decode cX8_timesUntilHome 9 = .ok (.invokevirtual 273, 3) := by decide +kernel
theorem dX8_timesUntilHome_12 : decode cX8_timesUntilHome 12 = .ok (.ifCond .eq 5, 3) := by decide +kernel
theorem dX8_timesUntilHome_15 : decode cX8_timesUntilHome 15 = .ok (.iload_n 2, 1) := by decide +kernel
theorem dX8_timesUntilHome_16 : decode cX8_timesUntilHome 16 = .ok (.ireturn, 1) := by decide +kernel
theorem dX8_timesUntilHome_17 : decode cX8_timesUntilHome 17 = .ok (.aload_n 0, 1) := by decide +kernel
theorem dX8_timesUntilHome_18 : decode cX8_timesUntilHome 18 = .ok (.aload_n 1, 1) := by decide +kernel
theorem dX8_timesUntilHome_19 : decode cX8_timesUntilHome 19 = .ok (.invokevirtual 230, 3) := by decide +kernel
theorem dX8_timesUntilHome_22 : decode cX8_timesUntilHome 22 = .ok (.iinc 2 1, 3) := by decide +kernel
theorem dX8_timesUntilHome_25 : decode cX8_timesUntilHome 25 = .ok (.goto (-23), 3) := by decide +kernel
theorem dX8_timesUntilHome_28 : decode cX8_timesUntilHome 28 = .ok (.bipush (-5), 2) := by decide +kernel
theorem dX8_timesUntilHome_30 : decode cX8_timesUntilHome 30 = .ok (.ireturn, 1) := by decide +kernel
theorem dX8_isFigure_0 : decode cX8_isFigure 0 = .ok (.iload_n 0, 1) := by decide +kernel
theorem dX8_isFigure_1 : decode cX8_isFigure 1 = .ok (.ifCond .lt 13, 3) := by decide +kernel
theorem dX8_isFigure_4 : decode cX8_isFigure 4 = .ok (.iload_n 0, 1) := by decide +kernel
theorem dX8_isFigure_5 : decode cX8_isFigure 5 = .ok (.bipush 8, 2) := by decide +kernel
theorem dX8_isFigure_7 : decode cX8_isFigure 7 = .ok (.if_icmp .ge 7, 3) := by decide +kernel
theorem dX8_isFigure_10 : decode cX8_isFigure 10 = .ok (.iconst 1, 1) := by decide +kernel
theorem dX8_isFigure_11 : decode cX8_isFigure 11 = .ok (.goto 4, 3) := by decide +kernel
theorem dX8_isFigure_14 : decode cX8_isFigure 14 = .ok (.iconst 0, 1) := by decide +kernel
theorem dX8_isFigure_15 : decode cX8_isFigure 15 = .ok (.ireturn, 1) := by decide +kernel
theorem dX8_isPlace_0 : decode cX8_isPlace 0 = .ok (.iload_n 0, 1) := by decide +kernel
theorem dX8_isPlace_1 : decode cX8_isPlace 1 = .ok (.ifCond .lt 13, 3) := by decide +kernel
theorem dX8_isPlace_4 : decode cX8_isPlace 4 = .ok (.iload_n 0, 1) := by decide +kernel
theorem dX8_isPlace_5 : decode cX8_isPlace 5 = .ok (.bipush 10, 2) := by decide +kernel
theorem dX8_isPlace_7 : decode cX8_isPlace 7 = .ok (.if_icmp .ge 7, 3) := by decide +kernel
theorem dX8_isPlace_10 : decode cX8_isPlace 10 = .ok (.iconst 1, 1) := by decide +kernel
theorem dX8_isPlace_11 : decode cX8_isPlace 11 = .ok (.goto 4, 3) := by decide +kernel
theorem dX8_isPlace_14 : decode cX8_isPlace 14 = .ok (.iconst 0, 1) := by decide +kernel
theorem dX8_isPlace_15 : decode cX8_isPlace 15 = .ok (.ireturn, 1) := by decide +kernel
theorem dX8_areNeighbors_0 : decode cX8_areNeighbors 0 = .ok (.iload_n 0, 1) := by decide +kernel
theorem dX8_areNeighbors_1 : decode cX8_areNeighbors 1 = .ok (.iload_n 1, 1) := by decide +kernel
theorem dX8_areNeighbors_2 : decode cX8_areNeighbors 2 = .ok (.isub, 1) := by decide +kernel
theorem dX8_areNeighbors_3 : decode cX8_areNeighbors 3 = .ok (.invokestatic 277, 3) := by decide +kernel
theorem dX8_areNeighbors_6 : decode cX8_areNeighbors 6 = .ok (.istore_n 2, 1) := by decide +kernel
theorem dX8_areNeighbors_7 : decode cX8_areNeighbors 7 = .ok (.iload_n 2, 1) := by decide +kernel
theorem dX8_areNeighbors_8 : decode cX8_areNeighbors 8 = .ok (.iconst 1, 1) := by decide +kernel
theorem dX8_areNeighbors_9 : decode cX8_areNeighbors 9 = .ok (.if_icmp .eq 9, 3) := by decide +kernel
theorem dX8_areNeighbors_12 : decode cX8_areNeighbors 12 = .ok (.iload_n 2, 1) := by decide +kernel
theorem dX8_areNeighbors_13 : decode cX8_areNeighbors 13 = .ok (.bipush 9, 2) := by decide +kernel
theorem dX8_areNeighbors_15 : decode cX8_areNeighbors 15 = .ok (.if_icmp .ne 7, 3) := by decide +kernel
theorem dX8_areNeighbors_18 : decode cX8_areNeighbors 18 = .ok (.iconst 1, 1) := by decide +kernel
theorem dX8_areNeighbors_19 : decode cX8_areNeighbors 19 = .ok (.goto 4, 3) := by decide +kernel
theorem dX8_areNeighbors_22 : decode cX8_areNeighbors 22 = .ok (.iconst 0, 1) := by decide +kernel
theorem dX8_areNeighbors_23 : decode cX8_areNeighbors 23 = .ok (.ireturn, 1) := by decide +kernel
theorem dX8_isMove_0 : decode cX8_isMove 0 = .ok (.iload_n 1, 1) := by decide +kernel
theorem dX8_isMove_1 : decode cX8_isMove 1 = .ok (.tableswitch 119 0 4 #[35, 56, 79, 35, 100], 35) := by decide +kernel
theorem dX8_isMove_36 : decode cX8_isMove 36 = .ok (.iload_n 2, 1) := by decide +kernel
theorem dX8_isMove_37 : decode cX8_isMove 37 = .ok (.ifCond .lt 18, 3) := by decide +kernel
theorem dX8_isMove_40 : decode cX8_isMove 40 = .ok (.iload_n 2, 1) := by decide +kernel
theorem dX8_isMove_41 : decode cX8_isMove 41 = .ok (.iload_n 3, 1) := by decide +kernel
theorem dX8_isMove_42 : decode cX8_isMove 42 = .ok (.if_icmp .ge 13, 3) := by decide +kernel
theorem dX8_isMove_45 : decode cX8_isMove 45 = .ok (.iload_n 3, 1) := by decide +kernel
theorem dX8_isMove_46 : decode cX8_isMove 46 = .ok (.bipush 10, 2) := by decide +kernel
theorem dX8_isMove_48 : decode cX8_isMove 48 = .ok (.if_icmp .ge 7, 3) := by decide +kernel
theorem dX8_isMove_51 : decode cX8_isMove 51 = .ok (.iconst 1, 1) := by decide +kernel
theorem dX8_isMove_52 : decode cX8_isMove 52 = .ok (.goto 4, 3) := by decide +kernel
theorem dX8_isMove_55 : decode cX8_isMove 55 = .ok (.iconst 0, 1) := by decide +kernel
theorem dX8_isMove_56 : decode cX8_isMove 56 = .ok (.ireturn, 1) := by decide +kernel
theorem dX8_isMove_57 : decode cX8_isMove 57 = .ok (.iload_n 2, 1) := by decide +kernel
theorem dX8_isMove_58 : decode cX8_isMove 58 = .ok (.invokestatic 106, 3) := by decide +kernel
theorem dX8_isMove_61 : decode cX8_isMove 61 = .ok (.ifCond .eq 17, 3) := by decide +kernel
theorem dX8_isMove_64 : decode cX8_isMove 64 = .ok (.iload_n 3, 1) := by decide +kernel
theorem dX8_isMove_65 : decode cX8_isMove 65 = .ok (.iconst 1, 1) := by decide +kernel
theorem dX8_isMove_66 : decode cX8_isMove 66 = .ok (.if_icmp .lt 12, 3) := by decide +kernel
theorem dX8_isMove_69 : decode cX8_isMove 69 = .ok (.iload_n 3, 1) := by decide +kernel
theorem dX8_isMove_70 : decode cX8_isMove 70 = .ok (.iconst 4, 1) := by decide +kernel
theorem dX8_isMove_71 : decode cX8_isMove 71 = .ok (.if_icmp .ge 7, 3) := by decide +kernel
theorem dX8_isMove_74 : decode cX8_isMove 74 = .ok (.iconst 1, 1) := by decide +kernel
theorem dX8_isMove_75 : decode cX8_isMove 75 = .ok (.goto 4, 3) := by decide +kernel
theorem dX8_isMove_78 : decode cX8_isMove 78 = .ok (.iconst 0, 1) := by decide +kernel
theorem dX8_isMove_79 : decode cX8_isMove 79 = .ok (.ireturn, 1) := by decide +kernel
theorem dX8_isMove_80 : decode cX8_isMove 80 = .ok (.iload_n 2, 1) := by decide +kernel
theorem dX8_isMove_81 : decode cX8_isMove 81 = .ok (.iconst 1, 1) := by decide +kernel
theorem dX8_isMove_82 : decode cX8_isMove 82 = .ok (.if_icmp .lt 17, 3) := by decide +kernel
theorem dX8_isMove_85 : decode cX8_isMove 85 = .ok (.iload_n 2, 1) := by decide +kernel
theorem dX8_isMove_86 : decode cX8_isMove 86 = .ok (.bipush 10, 2) := by decide +kernel
theorem dX8_isMove_88 : decode cX8_isMove 88 = .ok (.if_icmp .ge 11, 3) := by decide +kernel
theorem dX8_isMove_91 : decode cX8_isMove 91 = .ok (.iload_n 3, 1) := by decide +kernel
theorem dX8_isMove_92 : decode cX8_isMove 92 = .ok (.ifCond .ne 7, 3) := by decide +kernel
theorem dX8_isMove_95 : decode cX8_isMove 95 = .ok (.iconst 1, 1) := by decide +kernel
theorem dX8_isMove_96 : decode cX8_isMove 96 = .ok (.goto 4, 3) := by decide +kernel
theorem dX8_isMove_99 : decode cX8_isMove 99 = .ok (.iconst 0, 1) := by decide +kernel
theorem dX8_isMove_100 : decode cX8_isMove 100 = .ok (.ireturn, 1) := by decide +kernel
theorem dX8_isMove_101 : decode cX8_isMove 101 = .ok (.iload_n 2, 1) := by decide +kernel
theorem dX8_isMove_102 : decode cX8_isMove 102 = .ok (.ifCond .lt 16, 3) := by decide +kernel
theorem dX8_isMove_105 : decode cX8_isMove 105 = .ok (.iload_n 2, 1) := by decide +kernel
theorem dX8_isMove_106 : decode cX8_isMove 106 = .ok (.iload_n 0, 1) := by decide +kernel
theorem dX8_isMove_107 : decode cX8_isMove 107 = .ok (.if_icmp .ge 11, 3) := by decide +kernel
theorem dX8_isMove_110 : decode cX8_isMove 110 = .ok (.iload_n 3, 1) := by decide +kernel
theorem dX8_isMove_111 : decode cX8_isMove 111 = .ok (.ifCond .ne 7, 3) := by decide +kernel
theorem dX8_isMove_114 : decode cX8_isMove 114 = .ok (.iconst 1, 1) := by decide +kernel
theorem dX8_isMove_115 : decode cX8_isMove 115 = .ok (.goto 4, 3) := by decide +kernel
theorem dX8_isMove_118 : decode cX8_isMove 118 = .ok (.iconst 0, 1) := by decide +kernel
theorem dX8_isMove_119 : decode cX8_isMove 119 = .ok (.ireturn, 1) := by decide +kernel
theorem dX8_isMove_120 : decode cX8_isMove 120 = .ok (.iconst 0, 1) := by decide +kernel
theorem dX8_isMove_121 : decode cX8_isMove 121 = .ok (.ireturn, 1) := by decide +kernel
theorem dX8_codeOf_0 : decode cX8_codeOf 0 = .ok (.iload_n 0, 1) := by decide +kernel
theorem dX8_codeOf_1 : decode cX8_codeOf 1 = .ok (.bipush 100, 2) := by decide +kernel
theorem dX8_codeOf_3 : decode cX8_codeOf 3 = .ok (.imul, 1) := by decide +kernel
theorem dX8_codeOf_4 : decode cX8_codeOf 4 = .ok (.iload_n 1, 1) := by decide +kernel
theorem dX8_codeOf_5 : decode cX8_codeOf 5 = .ok (.bipush 10, 2) := by decide +kernel
theorem dX8_codeOf_7 : decode cX8_codeOf 7 = .ok (.imul, 1) := by decide +kernel
theorem dX8_codeOf_8 : decode cX8_codeOf 8 = .ok (.iadd, 1) := by decide +kernel
theorem dX8_codeOf_9 : decode cX8_codeOf 9 = .ok (.iload_n 2, 1) := by decide +kernel
theorem dX8_codeOf_10 : decode cX8_codeOf 10 = .ok (.iadd, 1) := by decide +kernel
theorem dX8_codeOf_11 : decode cX8_codeOf 11 = .ok (.ireturn, 1) := by decide +kernel
theorem dX8_kindOf_0 : decode cX8_kindOf 0 = .ok (.iload_n 0, 1) := by decide +kernel
theorem dX8_kindOf_1 : decode cX8_kindOf 1 = .ok (.bipush 100, 2) := by decide +kernel
theorem dX8_kindOf_3 : decode cX8_kindOf 3 = .ok (.idiv, 1) := by decide +kernel
theorem dX8_kindOf_4 : decode cX8_kindOf 4 = .ok (.ireturn, 1) := by decide +kernel
theorem dX8_firstOf_0 : decode cX8_firstOf 0 = .ok (.iload_n 0, 1) := by decide +kernel
theorem dX8_firstOf_1 : decode cX8_firstOf 1 = .ok (.bipush 10, 2) := by decide +kernel
theorem dX8_firstOf_3 : decode cX8_firstOf 3 = .ok (.idiv, 1) := by decide +kernel
theorem dX8_firstOf_4 : decode cX8_firstOf 4 = .ok (.bipush 10, 2) := by decide +kernel
theorem dX8_firstOf_6 : decode cX8_firstOf 6 = .ok (.irem, 1) := by decide +kernel
theorem dX8_firstOf_7 : decode cX8_firstOf 7 = .ok (.ireturn, 1) := by decide +kernel
theorem dX8_secondOf_0 : decode cX8_secondOf 0 = .ok (.iload_n 0, 1) := by decide +kernel
theorem dX8_secondOf_1 : decode cX8_secondOf 1 = .ok (.bipush 10, 2) := by decide +kernel
theorem dX8_secondOf_3 : decode cX8_secondOf 3 = .ok (.irem, 1) := by decide +kernel
theorem dX8_secondOf_4 : decode cX8_secondOf 4 = .ok (.ireturn, 1) := by decide +kernel
theorem dX8_undoing_0 : decode cX8_undoing 0 = .ok (.iload_n 0, 1) := by decide +kernel
theorem dX8_undoing_1 : decode cX8_undoing 1 = .ok (.invokestatic 192, 3) := by decide +kernel
theorem dX8_undoing_4 : decode cX8_undoing 4 = .ok (.istore_n 1, 1) := by decide +kernel
theorem dX8_undoing_5 : decode cX8_undoing 5 = .ok (.iload_n 0, 1) := by decide +kernel
theorem dX8_undoing_6 : decode cX8_undoing 6 = .ok (.invokestatic 195, 3) := by decide +kernel
theorem dX8_undoing_9 : decode cX8_undoing 9 = .ok (.istore_n 2, 1) := by decide +kernel
theorem dX8_undoing_10 : decode cX8_undoing 10 = .ok (.iload_n 0, 1) := by decide +kernel
theorem dX8_undoing_11 : decode cX8_undoing 11 = .ok (.invokestatic 198, 3) := by decide +kernel
theorem dX8_undoing_14 : decode cX8_undoing 14 = .ok (.istore_n 3, 1) := by decide +kernel
theorem dX8_undoing_15 : decode cX8_undoing 15 = .ok (.iload_n 1, 1) := by decide +kernel
theorem dX8_undoing_16 : decode cX8_undoing 16 = .ok (.iconst 1, 1) := by decide +kernel
theorem dX8_undoing_17 : decode cX8_undoing 17 = .ok (.if_icmp .ne 12, 3) := by decide +kernel
theorem dX8_undoing_20 : decode cX8_undoing 20 = .ok (.iload_n 1, 1) := by decide +kernel
theorem dX8_undoing_21 : decode cX8_undoing 21 = .ok (.iload_n 2, 1) := by decide +kernel
theorem dX8_undoing_22 : decode cX8_undoing 22 = .ok (.iconst 4, 1) := by decide +kernel
theorem dX8_undoing_23 : decode cX8_undoing 23 = .ok (.iload_n 3, 1) := by decide +kernel
theorem dX8_undoing_24 : decode cX8_undoing 24 = .ok (.isub, 1) := by decide +kernel
theorem dX8_undoing_25 : decode cX8_undoing 25 = .ok (.invokestatic 90, 3) := by decide +kernel
theorem dX8_undoing_28 : decode cX8_undoing 28 = .ok (.ireturn, 1) := by decide +kernel
theorem dX8_undoing_29 : decode cX8_undoing 29 = .ok (.iload_n 1, 1) := by decide +kernel
theorem dX8_undoing_30 : decode cX8_undoing 30 = .ok (.iconst 2, 1) := by decide +kernel
theorem dX8_undoing_31 : decode cX8_undoing 31 = .ok (.if_icmp .ne 15, 3) := by decide +kernel
theorem dX8_undoing_34 : decode cX8_undoing 34 = .ok (.iload_n 1, 1) := by decide +kernel
theorem dX8_undoing_35 : decode cX8_undoing 35 = .ok (.bipush 10, 2) := by decide +kernel
theorem dX8_undoing_37 : decode cX8_undoing 37 = .ok (.iload_n 2, 1) := by decide +kernel
theorem dX8_undoing_38 : decode cX8_undoing 38 = .ok (.isub, 1) := by decide +kernel
theorem dX8_undoing_39 : decode cX8_undoing 39 = .ok (.iload_n 3, 1) := by decide +kernel
theorem dX8_undoing_40 : decode cX8_undoing 40 = .ok (.invokestatic 90, 3) := by decide +kernel
theorem dX8_undoing_43 : decode cX8_undoing 43 = .ok (.goto 4, 3) := by decide +kernel
theorem dX8_undoing_46 : decode cX8_undoing 46 = .ok (.iload_n 0, 1) := by decide +kernel
theorem dX8_undoing_47 : decode cX8_undoing 47 = .ok (.ireturn, 1) := by decide +kernel
theorem dX8_read_0 : decode cX8_read 0 = .ok (.iload_n 1, 1) := by decide +kernel
theorem dX8_read_1 : decode cX8_read 1 = .ok (.ifCond .lt 15, 3) := by decide +kernel
theorem dX8_read_4 : decode cX8_read 4 = .ok (.iload_n 1, 1) := by decide +kernel
theorem dX8_read_5 : decode cX8_read 5 = .ok (.aload_n 0, 1) := by decide +kernel
theorem dX8_read_6 : decode cX8_read 6 = .ok (.arraylength, 1) := by decide +kernel
theorem dX8_read_7 : decode cX8_read 7 = .ok (.if_icmp .ge 9, 3) := by decide +kernel
theorem dX8_read_10 : decode cX8_read 10 = .ok (.aload_n 0, 1) := by decide +kernel
theorem dX8_read_11 : decode cX8_read 11 = .ok (.iload_n 1, 1) := by decide +kernel
theorem dX8_read_12 : decode cX8_read 12 = .ok (.iaload, 1) := by decide +kernel
theorem dX8_read_13 : decode cX8_read 13 = .ok (.goto 4, 3) := by decide +kernel
theorem dX8_read_16 : decode cX8_read 16 = .ok (.iconst 0, 1) := by decide +kernel
theorem dX8_read_17 : decode cX8_read 17 = .ok (.ireturn, 1) := by decide +kernel
theorem dX8_write_0 : decode cX8_write 0 = .ok (.iload_n 1, 1) := by decide +kernel
theorem dX8_write_1 : decode cX8_write 1 = .ok (.ifCond .lt 13, 3) := by decide +kernel
theorem dX8_write_4 : decode cX8_write 4 = .ok (.iload_n 1, 1) := by decide +kernel
theorem dX8_write_5 : decode cX8_write 5 = .ok (.aload_n 0, 1) := by decide +kernel
theorem dX8_write_6 : decode cX8_write 6 = .ok (.arraylength, 1) := by decide +kernel
theorem dX8_write_7 : decode cX8_write 7 = .ok (.if_icmp .ge 7, 3) := by decide +kernel
theorem dX8_write_10 : decode cX8_write 10 = .ok (.aload_n 0, 1) := by decide +kernel
theorem dX8_write_11 : decode cX8_write 11 = .ok (.iload_n 1, 1) := by decide +kernel
theorem dX8_write_12 : decode cX8_write 12 = .ok (.iload_n 2, 1) := by decide +kernel
theorem dX8_write_13 : decode cX8_write 13 = .ok (.iastore, 1) := by decide +kernel
theorem dX8_write_14 : decode cX8_write 14 = .ok (.return_, 1) := by decide +kernel
theorem dX8_copy_0 : decode cX8_copy 0 = .ok (.aload_n 0, 1) := by decide +kernel
theorem dX8_copy_1 : decode cX8_copy 1 = .ok (.iconst 0, 1) := by decide +kernel
theorem dX8_copy_2 : decode cX8_copy 2 = .ok (.aload_n 1, 1) := by decide +kernel
theorem dX8_copy_3 : decode cX8_copy 3 = .ok (.iconst 0, 1) := by decide +kernel
theorem dX8_copy_4 : decode cX8_copy 4 = .ok (.aload_n 0, 1) := by decide +kernel
theorem dX8_copy_5 : decode cX8_copy 5 = .ok (.arraylength, 1) := by decide +kernel
theorem dX8_copy_6 : decode cX8_copy 6 = .ok (.aload_n 1, 1) := by decide +kernel
theorem dX8_copy_7 : decode cX8_copy 7 = .ok (.arraylength, 1) := by decide +kernel
theorem dX8_copy_8 : decode cX8_copy 8 = .ok (.invokestatic 282, 3) := by decide +kernel
theorem dX8_copy_11 : decode cX8_copy 11 = .ok (.invokestatic 285, 3) := by decide +kernel
theorem dX8_copy_14 : decode cX8_copy 14 = .ok (.return_, 1) := by decide +kernel
end
section
theorem dX9_init_0 : decode cX9_init 0 = .ok (.aload_n 0, 1) := by decide +kernel
theorem dX9_init_1 : decode cX9_init 1 = .ok (.invokespecial 1, 3) := by decide +kernel
theorem dX9_init_4 : decode cX9_init 4 = .ok (.aload_n 0, 1) := by decide +kernel
theorem dX9_init_5 : decode cX9_init 5 = .ok (.sipush 281, 3) := by decide +kernel
theorem dX9_init_8 : decode cX9_init 8 = .ok (.newarray .int, 2) := by decide +kernel
theorem dX9_init_10 : decode cX9_init 10 = .ok (.putfield 7, 3) := by decide +kernel
theorem dX9_init_13 : decode cX9_init 13 = .ok (.aload_n 0, 1) := by decide +kernel
theorem dX9_init_14 : decode cX9_init 14 = .ok (.sipush 1405, 3) := by decide +kernel
theorem dX9_init_17 : decode cX9_init 17 = .ok (.newarray .int, 2) := by decide +kernel
theorem dX9_init_19 : decode cX9_init 19 = .ok (.putfield 13, 3) := by decide +kernel
theorem dX9_init_22 : decode cX9_init 22 = .ok (.aload_n 0, 1) := by decide +kernel
theorem dX9_init_23 : decode cX9_init 23 = .ok (.sipush 281, 3) := by decide +kernel
theorem dX9_init_26 : decode cX9_init 26 = .ok (.newarray .int, 2) := by decide +kernel
theorem dX9_init_28 : decode cX9_init 28 = .ok (.putfield 16, 3) := by decide +kernel
theorem dX9_init_31 : decode cX9_init 31 = .ok (.aload_n 0, 1) := by decide +kernel
theorem dX9_init_32 : decode cX9_init 32 = .ok (.bipush 8, 2) := by decide +kernel
theorem dX9_init_34 : decode cX9_init 34 = .ok (.newarray .int, 2) := by decide +kernel
theorem dX9_init_36 : decode cX9_init 36 = .ok (.putfield 19, 3) := by decide +kernel
theorem dX9_init_39 : decode cX9_init 39 = .ok (.aload_n 0, 1) := by decide +kernel
theorem dX9_init_40 : decode cX9_init 40 = .ok (.sipush 2880, 3) := by decide +kernel
theorem dX9_init_43 : decode cX9_init 43 = .ok (.newarray .int, 2) := by decide +kernel
theorem dX9_init_45 : decode cX9_init 45 = .ok (.putfield 22, 3) := by decide +kernel
theorem dX9_init_48 : decode cX9_init 48 = .ok (.aload_n 0, 1) := by decide +kernel
theorem dX9_init_49 : decode cX9_init 49 = .ok (.bipush 8, 2) := by decide +kernel
theorem dX9_init_51 : decode cX9_init 51 = .ok (.newarray .int, 2) := by decide +kernel
theorem dX9_init_53 : decode cX9_init 53 = .ok (.putfield 25, 3) := by decide +kernel
theorem dX9_init_56 : decode cX9_init 56 = .ok (.aload_n 0, 1) := by decide +kernel
theorem dX9_init_57 : decode cX9_init 57 = .ok (.bipush 10, 2) := by decide +kernel
theorem dX9_init_59 : decode cX9_init 59 = .ok (.newarray .int, 2) := by decide +kernel
theorem dX9_init_61 : decode cX9_init 61 = .ok (.putfield 28, 3) := by decide +kernel
theorem dX9_init_64 : decode cX9_init 64 = .ok (.aload_n 0, 1) := by decide +kernel
theorem dX9_init_65 : decode cX9_init 65 = .ok (.bipush 10, 2) := by decide +kernel
theorem dX9_init_67 : decode cX9_init 67 = .ok (.newarray .int, 2) := by decide +kernel
theorem dX9_init_69 : decode cX9_init 69 = .ok (.putfield 31, 3) := by decide +kernel
theorem dX9_init_72 : decode cX9_init 72 = .ok (.aload_n 0, 1) := by decide +kernel
theorem dX9_init_73 : decode cX9_init 73 = .ok (.bipush 10, 2) := by decide +kernel
theorem dX9_init_75 : decode cX9_init 75 = .ok (.newarray .int, 2) := by decide +kernel
theorem dX9_init_77 : decode cX9_init 77 = .ok (.putfield 34, 3) := by decide +kernel
theorem dX9_init_80 : decode cX9_init 80 = .ok (.aload_n 0, 1) := by decide +kernel
theorem dX9_init_81 : decode cX9_init 81 = .ok (.bipush 20, 2) := by decide +kernel
theorem dX9_init_83 : decode cX9_init 83 = .ok (.newarray .int, 2) := by decide +kernel
theorem dX9_init_85 : decode cX9_init 85 = .ok (.putfield 37, 3) := by decide +kernel
theorem dX9_init_88 : decode cX9_init 88 = .ok (.aload_n 0, 1) := by decide +kernel
theorem dX9_init_89 : decode cX9_init 89 = .ok (.bipush 80, 2) := by decide +kernel
theorem dX9_init_91 : decode cX9_init 91 = .ok (.newarray .int, 2) := by decide +kernel
theorem dX9_init_93 : decode cX9_init 93 = .ok (.putfield 40, 3) := by decide +kernel
theorem dX9_init_96 : decode cX9_init 96 = .ok (.aload_n 0, 1) := by decide +kernel
theorem dX9_init_97 : decode cX9_init 97 = .ok (.bipush 40, 2) := by decide +kernel
theorem dX9_init_99 : decode cX9_init 99 = .ok (.newarray .int, 2) := by decide +kernel
theorem dX9_init_101 : decode cX9_init 101 = .ok (.putfield 43, 3) := by decide +kernel
theorem dX9_init_104 : decode cX9_init 104 = .ok (.aload_n 0, 1) := by decide +kernel
theorem dX9_init_105 : decode cX9_init 105 = .ok (.bipush 40, 2) := by decide +kernel
theorem dX9_init_107 : decode cX9_init 107 = .ok (.newarray .int, 2) := by decide +kernel
theorem dX9_init_109 : decode cX9_init 109 = .ok (.putfield 46, 3) := by decide +kernel
theorem dX9_init_112 : decode cX9_init 112 = .ok (.aload_n 0, 1) := by decide +kernel
theorem dX9_init_113 : decode cX9_init 113 = .ok (.bipush 40, 2) := by decide +kernel
theorem dX9_init_115 : decode cX9_init 115 = .ok (.newarray .boolean, 2) := by decide +kernel
theorem dX9_init_117 : decode cX9_init 117 = .ok (.putfield 49, 3) := by decide +kernel
theorem dX9_init_120 : decode cX9_init 120 = .ok (.aload_n 0, 1) := by decide +kernel
theorem dX9_init_121 : decode cX9_init 121 = .ok (.bipush 80, 2) := by decide +kernel
theorem dX9_init_123 : decode cX9_init 123 = .ok (.newarray .int, 2) := by decide +kernel
theorem dX9_init_125 : decode cX9_init 125 = .ok (.putfield 53, 3) := by decide +kernel
theorem dX9_init_128 : decode cX9_init 128 = .ok (.aload_n 0, 1) := by decide +kernel
theorem dX9_init_129 : decode cX9_init 129 = .ok (.bipush 80, 2) := by decide +kernel
theorem dX9_init_131 : decode cX9_init 131 = .ok (.newarray .int, 2) := by decide +kernel
theorem dX9_init_133 : decode cX9_init 133 = .ok (.putfield 56, 3) := by decide +kernel
theorem dX9_init_136 : decode cX9_init 136 = .ok (.aload_n 0, 1) := by decide +kernel
theorem dX9_init_137 : decode cX9_init 137 = .ok (.bipush 20, 2) := by decide +kernel
theorem dX9_init_139 : decode cX9_init 139 = .ok (.newarray .int, 2) := by decide +kernel
theorem dX9_init_141 : decode cX9_init 141 = .ok (.putfield 59, 3) := by decide +kernel
theorem dX9_init_144 : decode cX9_init 144 = .ok (.iconst 0, 1) := by decide +kernel
theorem dX9_init_145 : decode cX9_init 145 = .ok (.istore_n 1, 1) := by decide +kernel
theorem dX9_init_146 : decode cX9_init 146 = .ok (.iload_n 1, 1) := by decide +kernel
theorem dX9_init_147 : decode cX9_init 147 = .ok (.bipush 10, 2) := by decide +kernel
theorem dX9_init_149 : decode cX9_init 149 = .ok (.if_icmp .ge 29, 3) := by decide +kernel
theorem dX9_init_152 : decode cX9_init 152 = .ok (.aload_n 0, 1) := by decide +kernel
theorem dX9_init_153 : decode cX9_init 153 = .ok (.getfield 7, 3) := by decide +kernel
theorem dX9_init_156 : decode cX9_init 156 = .ok (.iconst 0, 1) := by decide +kernel
theorem dX9_init_157 : decode cX9_init 157 = .ok (.iload_n 1, 1) := by decide +kernel
theorem dX9_init_158 : decode cX9_init 158 = .ok (.iadd, 1) := by decide +kernel
theorem dX9_init_159 : decode cX9_init 159 = .ok (.iload_n 1, 1) := by decide +kernel
theorem dX9_init_160 : decode cX9_init 160 = .ok (.iastore, 1) := by decide +kernel
theorem dX9_init_161 : decode cX9_init 161 = .ok (.aload_n 0, 1) := by decide +kernel
theorem dX9_init_162 : decode cX9_init 162 = .ok (.getfield 7, 3) := by decide +kernel
theorem dX9_init_165 : decode cX9_init 165 = .ok (.bipush 20, 2) := by decide +kernel
theorem dX9_init_167 : decode cX9_init 167 = .ok (.iload_n 1, 1) := by decide +kernel
theorem dX9_init_168 : decode cX9_init 168 = .ok (.iadd, 1) := by decide +kernel
theorem dX9_init_169 : decode cX9_init 169 = .ok (.bipush (-5), 2) := by decide +kernel
theorem dX9_init_171 : decode cX9_init 171 = .ok (.iastore, 1) := by decide +kernel
theorem dX9_init_172 : decode cX9_init 172 = .ok (.iinc 1 1, 3) := by decide +kernel
theorem dX9_init_175 : decode cX9_init 175 = .ok (.goto (-29), 3) := by decide +kernel
theorem dX9_init_178 : decode cX9_init 178 = .ok (.return_, 1) := by decide +kernel
theorem dX9_in_0 : decode cX9_in 0 = .ok (.iload_n 0, 1) := by decide +kernel
theorem dX9_in_1 : decode cX9_in 1 = .ok (.iload_n 1, 1) := by decide +kernel
theorem dX9_in_2 : decode cX9_in 2 = .ok (.if_icmp .lt 12, 3) := by decide +kernel
theorem dX9_in_5 : decode cX9_in 5 = .ok (.iload_n 0, 1) := by decide +kernel
theorem dX9_in_6 : decode cX9_in 6 = .ok (.iload_n 2, 1) := by decide +kernel
theorem dX9_in_7 : decode cX9_in 7 = .ok (.if_icmp .gt 7, 3) := by decide +kernel
theorem dX9_in_10 : decode cX9_in 10 = .ok (.iconst 1, 1) := by decide +kernel
theorem dX9_in_11 : decode cX9_in 11 = .ok (.goto 4, 3) := by decide +kernel
theorem dX9_in_14 : decode cX9_in 14 = .ok (.iconst 0, 1) := by decide +kernel
theorem dX9_in_15 : decode cX9_in 15 = .ok (.ireturn, 1) := by decide +kernel
theorem dX9_isFigure_0 : decode cX9_isFigure 0 = .ok (.iload_n 0, 1) := by decide +kernel
theorem dX9_isFigure_1 : decode cX9_isFigure 1 = .ok (.iconst 0, 1) := by decide +kernel
theorem dX9_isFigure_2 : decode cX9_isFigure 2 = .ok (.bipush 7, 2) := by decide +kernel
theorem dX9_isFigure_4 : decode cX9_isFigure 4 = .ok (.invokestatic 62, 3) := by decide +kernel
theorem dX9_isFigure_7 : decode cX9_isFigure 7 = .ok (.ireturn, 1) := by decide +kernel
theorem dX9_isDancer_0 : decode cX9_isDancer 0 = .ok (.iload_n 0, 1) := by decide +kernel
theorem dX9_isDancer_1 : decode cX9_isDancer 1 = .ok (.iconst 0, 1) := by decide +kernel
theorem dX9_isDancer_2 : decode cX9_isDancer 2 = .ok (.bipush 9, 2) := by decide +kernel
theorem dX9_isDancer_4 : decode cX9_isDancer 4 = .ok (.invokestatic 62, 3) := by decide +kernel
theorem dX9_isDancer_7 : decode cX9_isDancer 7 = .ok (.ireturn, 1) := by decide +kernel
theorem dX9_ahead_0 : decode cX9_ahead 0 = .ok (.iload_n 0, 1) := by decide +kernel
theorem dX9_ahead_1 : decode cX9_ahead 1 = .ok (.iload_n 1, 1) := by decide +kernel
theorem dX9_ahead_2 : decode cX9_ahead 2 = .ok (.iadd, 1) := by decide +kernel
theorem dX9_ahead_3 : decode cX9_ahead 3 = .ok (.bipush 10, 2) := by decide +kernel
theorem dX9_ahead_5 : decode cX9_ahead 5 = .ok (.irem, 1) := by decide +kernel
theorem dX9_ahead_6 : decode cX9_ahead 6 = .ok (.ireturn, 1) := by decide +kernel
theorem dX9_moves_0 : decode cX9_moves 0 = .ok (.aload_n 0, 1) := by decide +kernel
theorem dX9_moves_1 : decode cX9_moves 1 = .ok (.getfield 7, 3) := by decide +kernel
theorem dX9_moves_4 : decode cX9_moves 4 = .ok (.bipush 30, 2) := by decide +kernel
theorem dX9_moves_6 : decode cX9_moves 6 = .ok (.bipush 31, 2) := by decide +kernel
theorem dX9_moves_8 : decode cX9_moves 8 = .ok (.iload_n 1, 1) := by decide +kernel
theorem dX9_moves_9 : decode cX9_moves 9 = .ok (.imul, 1) := by decide +kernel
theorem dX9_moves_10 : decode cX9_moves 10 = .ok (.iadd, 1) := by decide +kernel
theorem dX9_moves_11 : decode cX9_moves 11 = .ok (.iaload, 1) := by decide +kernel
theorem dX9_moves_12 : decode cX9_moves 12 = .ok (.ireturn, 1) := by decide +kernel
theorem dX9_ofMove_0 : decode cX9_ofMove 0 = .ok (.aload_n 0, 1) := by decide +kernel
theorem dX9_ofMove_1 : decode cX9_ofMove 1 = .ok (.getfield 7, 3) := by decide +kernel
theorem dX9_ofMove_4 : decode cX9_ofMove 4 = .ok (.bipush 30, 2) := by decide +kernel
theorem dX9_ofMove_6 : decode cX9_ofMove 6 = .ok (.bipush 31, 2) := by decide +kernel
theorem dX9_ofMove_8 : decode cX9_ofMove 8 = .ok (.iload_n 1, 1) := by decide +kernel
theorem dX9_ofMove_9 : decode cX9_ofMove 9 = .ok (.imul, 1) := by decide +kernel
theorem dX9_ofMove_10 : decode cX9_ofMove 10 = .ok (.iadd, 1) := by decide +kernel
theorem dX9_ofMove_11 : decode cX9_ofMove 11 = .ok (.iconst 1, 1) := by decide +kernel
theorem dX9_ofMove_12 : decode cX9_ofMove 12 = .ok (.iadd, 1) := by decide +kernel
theorem dX9_ofMove_13 : decode cX9_ofMove 13 = .ok (.iconst 3, 1) := by decide +kernel
theorem dX9_ofMove_14 : decode cX9_ofMove 14 = .ok (.iload_n 2, 1) := by decide +kernel
theorem dX9_ofMove_15 : decode cX9_ofMove 15 = .ok (.imul, 1) := by decide +kernel
theorem dX9_ofMove_16 : decode cX9_ofMove 16 = .ok (.iadd, 1) := by decide +kernel
theorem dX9_ofMove_17 : decode cX9_ofMove 17 = .ok (.iload_n 3, 1) := by decide +kernel
theorem dX9_ofMove_18 : decode cX9_ofMove 18 = .ok (.iadd, 1) := by decide +kernel
theorem dX9_ofMove_19 : decode cX9_ofMove 19 = .ok (.iaload, 1) := by decide +kernel
theorem dX9_ofMove_20 : decode cX9_ofMove 20 = .ok (.ireturn, 1) := by decide +kernel
theorem dX9_record_0 : decode cX9_record 0 = .ok (.aload_n 0, 1) := by decide +kernel
theorem dX9_record_1 : decode cX9_record 1 = .ok (.getfield 66, 3) := by decide +kernel
theorem dX9_record_4 : decode cX9_record 4 = .ok (.iconst 5, 1) := by decide +kernel
theorem dX9_record_5 : decode cX9_record 5 = .ok (.if_icmp .ne 44, 3) := by decide +kernel
theorem dX9_record_8 : decode cX9_record 8 = .ok (.iconst 0, 1) := by decide +kernel
theorem dX9_record_9 : decode cX9_record 9 = .ok (.istore_n 1, 1) := by decide +kernel
theorem dX9_record_10 : decode cX9_record 10 = .ok (.iload_n 1, 1) := by decide +kernel
theorem dX9_record_11 : decode cX9_record 11 = .ok (.sipush 1124, 3) := by decide +kernel
theorem dX9_record_14 : decode cX9_record 14 = .ok (.if_icmp .ge 25, 3) := by decide +kernel
theorem dX9_record_17 : decode cX9_record 17 = .ok (.aload_n 0, 1) := by decide +kernel
theorem dX9_record_18 : decode cX9_record 18 = .ok (.getfield 13, 3) := by decide +kernel
theorem dX9_record_21 : decode cX9_record 21 = .ok (.iload_n 1, 1) := by decide +kernel
theorem dX9_record_22 : decode cX9_record 22 = .ok (.aload_n 0, 1) := by decide +kernel
theorem dX9_record_23 : decode cX9_record 23 = .ok (.getfield 13, 3) := by decide +kernel
theorem dX9_record_26 : decode cX9_record 26 = .ok (.iload_n 1, 1) := by decide +kernel
theorem dX9_record_27 : decode cX9_record 27 = .ok (.sipush 281, 3) := by decide +kernel
theorem dX9_record_30 : decode cX9_record 30 = .ok (.iadd, 1) := by decide +kernel
theorem dX9_record_31 : decode cX9_record 31 = .ok (.iaload, 1) := by decide +kernel
theorem dX9_record_32 : decode cX9_record 32 = .ok (.iastore, 1) := by decide +kernel
theorem dX9_record_33 : decode cX9_record 33 = .ok (.iinc 1 1, 3) := by decide +kernel
theorem dX9_record_36 : decode cX9_record 36 = .ok (.goto (-26), 3) := by decide +kernel
theorem dX9_record_39 : decode cX9_record 39 = .ok (.aload_n 0, 1) := by decide +kernel
theorem dX9_record_40 : decode cX9_record 40 = .ok (.dup, 1) := by decide +kernel
theorem dX9_record_41 : decode cX9_record 41 = .ok (.getfield 66, 3) := by decide +kernel
theorem dX9_record_44 : decode cX9_record 44 = .ok (.iconst 1, 1) := by decide +kernel
theorem dX9_record_45 : decode cX9_record 45 = .ok (.isub, 1) := by decide +kernel
theorem dX9_record_46 : decode cX9_record 46 = .ok (.putfield 66, 3) := by decide +kernel
theorem dX9_record_49 : decode cX9_record 49 = .ok (.iconst 0, 1) := by decide +kernel
theorem dX9_record_50 : decode cX9_record 50 = .ok (.istore_n 1, 1) := by decide +kernel
theorem dX9_record_51 : decode cX9_record 51 = .ok (.iload_n 1, 1) := by decide +kernel
theorem dX9_record_52 : decode cX9_record 52 = .ok (.sipush 281, 3) := by decide +kernel
theorem dX9_record_55 : decode cX9_record 55 = .ok (.if_icmp .ge 30, 3) := by decide +kernel
theorem dX9_record_58 : decode cX9_record 58 = .ok (.aload_n 0, 1) := by decide +kernel
theorem dX9_record_59 : decode cX9_record 59 = .ok (.getfield 13, 3) := by decide +kernel
theorem dX9_record_62 : decode cX9_record 62 = .ok (.sipush 281, 3) := by decide +kernel
theorem dX9_record_65 : decode cX9_record 65 = .ok (.aload_n 0, 1) := by decide +kernel
theorem dX9_record_66 : decode cX9_record 66 = .ok (.getfield 66, 3) := by decide +kernel
theorem dX9_record_69 : decode cX9_record 69 = .ok (.imul, 1) := by decide +kernel
theorem dX9_record_70 : decode cX9_record 70 = .ok (.iload_n 1, 1) := by decide +kernel
theorem dX9_record_71 : decode cX9_record 71 = .ok (.iadd, 1) := by decide +kernel
theorem dX9_record_72 : decode cX9_record 72 = .ok (.aload_n 0, 1) := by decide +kernel
theorem dX9_record_73 : decode cX9_record 73 = .ok (.getfield 7, 3) := by decide +kernel
theorem dX9_record_76 : decode cX9_record 76 = .ok (.iload_n 1, 1) := by decide +kernel
theorem dX9_record_77 : decode cX9_record 77 = .ok (.iaload, 1) := by decide +kernel
theorem dX9_record_78 : decode cX9_record 78 = .ok (.iastore, 1) := by decide +kernel
theorem dX9_record_79 : decode cX9_record 79 = .ok (.iinc 1 1, 3) := by decide +kernel
theorem dX9_record_82 : decode cX9_record 82 = .ok (.goto (-31), 3) := by decide +kernel
theorem dX9_record_85 : decode cX9_record 85 = .ok (.aload_n 0, 1) := by decide +kernel
theorem dX9_record_86 : decode cX9_record 86 = .ok (.dup, 1) := by decide +kernel
theorem dX9_record_87 : decode cX9_record 87 = .ok (.getfield 66, 3) := by decide +kernel
theorem dX9_record_90 : decode cX9_record 90 = .ok (.iconst 1, 1) := by decide +kernel
theorem dX9_record_91 : decode cX9_record 91 = .ok (.iadd, 1) := by decide +kernel
theorem dX9_record_92 : decode cX9_record 92 = .ok (.putfield 66, 3) := by decide +kernel
theorem dX9_record_95 : decode cX9_record 95 = .ok (.return_, 1) := by decide +kernel
theorem dX9_placeOf_0 : decode cX9_placeOf 0 = .ok (.bipush (-5), 2) := by decide +kernel
theorem dX9_placeOf_2 : decode cX9_placeOf 2 = .ok (.istore_n 2, 1) := by decide +kernel
theorem dX9_placeOf_3 : decode cX9_placeOf 3 = .ok (.iconst 0, 1) := by decide +kernel
theorem dX9_placeOf_4 : decode cX9_placeOf 4 = .ok (.istore_n 3, 1) := by decide +kernel
theorem dX9_placeOf_5 : decode cX9_placeOf 5 = .ok (.iload_n 3, 1) := by decide +kernel
theorem dX9_placeOf_6 : decode cX9_placeOf 6 = .ok (.bipush 10, 2) := by decide +kernel
theorem dX9_placeOf_8 : decode cX9_placeOf 8 = .ok (.if_icmp .ge 27, 3) := by decide +kernel
theorem dX9_placeOf_11 : decode cX9_placeOf 11 = .ok (.aload_n 0, 1) := by decide +kernel
theorem dX9_placeOf_12 : decode cX9_placeOf 12 = .ok (.getfield 7, 3) := by decide +kernel
theorem dX9_placeOf_15 : decode cX9_placeOf 15 = .ok (.iconst 0, 1) := by decide +kernel
theorem dX9_placeOf_16 : decode cX9_placeOf 16 = .ok (.iload_n 3, 1) := by decide +kernel
theorem dX9_placeOf_17 : decode cX9_placeOf 17 = .ok (.iadd, 1) := by decide +kernel
theorem dX9_placeOf_18 : decode cX9_placeOf 18 = .ok (.iaload, 1) := by decide +kernel
theorem dX9_placeOf_19 : decode cX9_placeOf 19 = .ok (.iload_n 1, 1) := by decide +kernel
theorem dX9_placeOf_20 : decode cX9_placeOf 20 = .ok (.if_icmp .ne 7, 3) := by decide +kernel
theorem dX9_placeOf_23 : decode cX9_placeOf 23 = .ok (.iload_n 3, 1) := by decide +kernel
theorem dX9_placeOf_24 : decode cX9_placeOf 24 = .ok (.goto 4, 3) := by decide +kernel
theorem dX9_placeOf_27 : decode cX9_placeOf 27 = .ok (.iload_n 2, 1) := by decide +kernel
theorem dX9_placeOf_28 : decode cX9_placeOf 28 = .ok (.istore_n 2, 1) := by decide +kernel
theorem dX9_placeOf_29 : decode cX9_placeOf 29 = .ok (.iinc 3 1, 3) := by decide +kernel
theorem dX9_placeOf_32 : decode cX9_placeOf 32 = .ok (.goto (-27), 3) := by decide +kernel
theorem dX9_placeOf_35 : decode cX9_placeOf 35 = .ok (.iload_n 2, 1) := by decide +kernel
theorem dX9_placeOf_36 : decode cX9_placeOf 36 = .ok (.ireturn, 1) := by decide +kernel
theorem dX9_atHome_0 : decode cX9_atHome 0 = .ok (.iconst 0, 1) := by decide +kernel
theorem dX9_atHome_1 : decode cX9_atHome 1 = .ok (.istore_n 2, 1) := by decide +kernel
theorem dX9_atHome_2 : decode cX9_atHome 2 = .ok (.iconst 0, 1) := by decide +kernel
theorem dX9_atHome_3 : decode cX9_atHome 3 = .ok (.istore_n 3, 1) := by decide +kernel
theorem dX9_atHome_4 : decode cX9_atHome 4 = .ok (.iload_n 3, 1) := by decide +kernel
theorem dX9_atHome_5 : decode cX9_atHome 5 = .ok (.bipush 10, 2) := by decide +kernel
theorem dX9_atHome_7 : decode cX9_atHome 7 = .ok (.if_icmp .ge 45, 3) := by decide +kernel
theorem dX9_atHome_10 : decode cX9_atHome 10 = .ok (.iload_n 2, 1) := by decide +kernel
theorem dX9_atHome_11 : decode cX9_atHome 11 = .ok (.aload_n 0, 1) := by decide +kernel
theorem dX9_atHome_12 : decode cX9_atHome 12 = .ok (.getfield 7, 3) := by decide +kernel
theorem dX9_atHome_15 : decode cX9_atHome 15 = .ok (.iconst 0, 1) := by decide +kernel
theorem dX9_atHome_16 : decode cX9_atHome 16 = .ok (.iload_n 3, 1) := by decide +kernel
theorem dX9_atHome_17 : decode cX9_atHome 17 = .ok (.iadd, 1) := by decide +kernel
theorem dX9_atHome_18 : decode cX9_atHome 18 = .ok (.iaload, 1) := by decide +kernel
theorem dX9_atHome_19 : decode cX9_atHome 19 = .ok (.iload_n 3, 1) := by decide +kernel
theorem dX9_atHome_20 : decode cX9_atHome 20 = .ok (.if_icmp .ne 23, 3) := by decide +kernel
theorem dX9_atHome_23 : decode cX9_atHome 23 = .ok (.iload_n 1, 1) := by decide +kernel
theorem dX9_atHome_24 : decode cX9_atHome 24 = .ok (.ifCond .eq 15, 3) := by decide +kernel
theorem dX9_atHome_27 : decode cX9_atHome 27 = .ok (.aload_n 0, 1) := by decide +kernel
theorem dX9_atHome_28 : decode cX9_atHome 28 = .ok (.getfield 7, 3) := by decide +kernel
theorem dX9_atHome_31 : decode cX9_atHome 31 = .ok (.bipush 10, 2) := by decide +kernel
theorem dX9_atHome_33 : decode cX9_atHome 33 = .ok (.iload_n 3, 1) := by decide +kernel
theorem dX9_atHome_34 : decode cX9_atHome 34 = .ok (.iadd, 1) := by decide +kernel
theorem dX9_atHome_35 : decode cX9_atHome 35 = .ok (.iaload, 1) := by decide +kernel
theorem dX9_atHome_36 : decode cX9_atHome 36 = .ok (.ifCond .ne 7, 3) := by decide +kernel
theorem dX9_atHome_39 : decode cX9_atHome 39 = .ok (.iconst 1, 1) := by decide +kernel
theorem dX9_atHome_40 : decode cX9_atHome 40 = .ok (.goto 4, 3) := by decide +kernel
theorem dX9_atHome_43 : decode cX9_atHome 43 = .ok (.iconst 0, 1) := by decide +kernel
theorem dX9_atHome_44 : decode cX9_atHome 44 = .ok (.iadd, 1) := by decide +kernel
theorem dX9_atHome_45 : decode cX9_atHome 45 = .ok (.istore_n 2, 1) := by decide +kernel
theorem dX9_atHome_46 : decode cX9_atHome 46 = .ok (.iinc 3 1, 3) := by decide +kernel
theorem dX9_atHome_49 : decode cX9_atHome 49 = .ok (.goto (-45), 3) := by decide +kernel
theorem dX9_atHome_52 : decode cX9_atHome 52 = .ok (.iload_n 2, 1) := by decide +kernel
theorem dX9_atHome_53 : decode cX9_atHome 53 = .ok (.ireturn, 1) := by decide +kernel
theorem dX9_undo_0 : decode cX9_undo 0 = .ok (.aload_n 0, 1) := by decide +kernel
theorem dX9_undo_1 : decode cX9_undo 1 = .ok (.getfield 66, 3) := by decide +kernel
theorem dX9_undo_4 : decode cX9_undo 4 = .ok (.ifCond .ne 6, 3) := by decide +kernel
theorem dX9_undo_7 : decode cX9_undo 7 = .ok (.bipush (-5), 2) := by decide +kernel
theorem dX9_undo_9 : decode cX9_undo 9 = .ok (.ireturn, 1) := by decide +kernel
theorem dX9_undo_10 : decode cX9_undo 10 = .ok (.aload_n 0, 1) := by decide +kernel
theorem dX9_undo_11 : decode cX9_undo 11 = .ok (.dup, 1) := by decide +kernel
theorem dX9_undo_12 : decode cX9_undo 12 = .ok (.getfield 66, 3) := by decide +kernel
theorem dX9_undo_15 : decode cX9_undo 15 = .ok (.iconst 1, 1) := by decide +kernel
theorem dX9_undo_16 : decode cX9_undo 16 = .ok (.isub, 1) := by decide +kernel
theorem dX9_undo_17 : decode cX9_undo 17 = .ok (.putfield 66, 3) := by decide +kernel
theorem dX9_undo_20 : decode cX9_undo 20 = .ok (.iconst 0, 1) := by decide +kernel
theorem dX9_undo_21 : decode cX9_undo 21 = .ok (.istore_n 1, 1) := by decide +kernel
theorem dX9_undo_22 : decode cX9_undo 22 = .ok (.iload_n 1, 1) := by decide +kernel
theorem dX9_undo_23 : decode cX9_undo 23 = .ok (.sipush 281, 3) := by decide +kernel
theorem dX9_undo_26 : decode cX9_undo 26 = .ok (.if_icmp .ge 30, 3) := by decide +kernel
theorem dX9_undo_29 : decode cX9_undo 29 = .ok (.aload_n 0, 1) := by decide +kernel
theorem dX9_undo_30 : decode cX9_undo 30 = .ok (.getfield 7, 3) := by decide +kernel
theorem dX9_undo_33 : decode cX9_undo 33 = .ok (.iload_n 1, 1) := by decide +kernel
theorem dX9_undo_34 : decode cX9_undo 34 = .ok (.aload_n 0, 1) := by decide +kernel
theorem dX9_undo_35 : decode cX9_undo 35 = .ok (.getfield 13, 3) := by decide +kernel
theorem dX9_undo_38 : decode cX9_undo 38 = .ok (.sipush 281, 3) := by decide +kernel
theorem dX9_undo_41 : decode cX9_undo 41 = .ok (.aload_n 0, 1) := by decide +kernel
theorem dX9_undo_42 : decode cX9_undo 42 = .ok (.getfield 66, 3) := by decide +kernel
theorem dX9_undo_45 : decode cX9_undo 45 = .ok (.imul, 1) := by decide +kernel
theorem dX9_undo_46 : decode cX9_undo 46 = .ok (.iload_n 1, 1) := by decide +kernel
theorem dX9_undo_47 : decode cX9_undo 47 = .ok (.iadd, 1) := by decide +kernel
theorem dX9_undo_48 : decode cX9_undo 48 = .ok (.iaload, 1) := by decide +kernel
theorem dX9_undo_49 : decode cX9_undo 49 = .ok (.iastore, 1) := by decide +kernel
theorem dX9_undo_50 : decode cX9_undo 50 = .ok (.iinc 1 1, 3) := by decide +kernel
theorem dX9_undo_53 : decode cX9_undo 53 = .ok (.goto (-31), 3) := by decide +kernel
theorem dX9_undo_56 : decode cX9_undo 56 = .ok (.aload_n 0, 1) := by decide +kernel
theorem dX9_undo_57 : decode cX9_undo 57 = .ok (.getfield 66, 3) := by decide +kernel
theorem dX9_undo_60 : decode cX9_undo 60 = .ok (.ireturn, 1) := by decide +kernel
theorem dX9_save_0 : decode cX9_save 0 = .ok (.iconst 0, 1) := by decide +kernel
theorem dX9_save_1 : decode cX9_save 1 = .ok (.istore_n 1, 1) := by decide +kernel
theorem dX9_save_2 : decode cX9_save 2 = .ok (.iload_n 1, 1) := by decide +kernel
theorem dX9_save_3 : decode cX9_save 3 = .ok (.sipush 281, 3) := by decide +kernel
theorem dX9_save_6 : decode cX9_save 6 = .ok (.if_icmp .ge 21, 3) := by decide +kernel
theorem dX9_save_9 : decode cX9_save 9 = .ok (.aload_n 0, 1) := by decide +kernel
theorem dX9_save_10 : decode cX9_save 10 = .ok (.getfield 16, 3) := by decide +kernel
theorem dX9_save_13 : decode cX9_save 13 = .ok (.iload_n 1, 1) := by decide +kernel
theorem dX9_save_14 : decode cX9_save 14 = .ok (.aload_n 0, 1) := by decide +kernel
theorem dX9_save_15 : decode cX9_save 15 = .ok (.getfield 7, 3) := by decide +kernel
theorem dX9_save_18 : decode cX9_save 18 = .ok (.iload_n 1, 1) := by decide +kernel
theorem dX9_save_19 : decode cX9_save 19 = .ok (.iaload, 1) := by decide +kernel
theorem dX9_save_20 : decode cX9_save 20 = .ok (.iastore, 1) := by decide +kernel
theorem dX9_save_21 : decode cX9_save 21 = .ok (.iinc 1 1, 3) := by decide +kernel
theorem dX9_save_24 : decode cX9_save 24 = .ok (.goto (-22), 3) := by decide +kernel
theorem dX9_save_27 : decode cX9_save 27 = .ok (.aload_n 0, 1) := by decide +kernel
theorem dX9_save_28 : decode cX9_save 28 = .ok (.iconst 1, 1) := by decide +kernel
theorem dX9_save_29 : decode cX9_save 29 = .ok (.putfield 70, 3) := by decide +kernel
theorem dX9_save_32 : decode cX9_save 32 = .ok (.aload_n 0, 1) := by decide +kernel
theorem dX9_save_33 : decode cX9_save 33 = .ok (.iconst 1, 1) := by decide +kernel
theorem dX9_save_34 : decode cX9_save 34 = .ok (.invokevirtual 74, 3) := by decide +kernel
theorem dX9_save_37 : decode cX9_save 37 = .ok (.ireturn, 1) := by decide +kernel
theorem dX9_restore_0 : decode cX9_restore 0 = .ok (.aload_n 0, 1) := by decide +kernel
theorem dX9_restore_1 : decode cX9_restore 1 = .ok (.getfield 70, 3) := by decide +kernel
theorem dX9_restore_4 : decode cX9_restore 4 = .ok (.ifCond .ne 6, 3) := by decide +kernel
theorem dX9_restore_7 : decode cX9_restore 7 = .ok (.bipush (-4), 2) := by decide +kernel
theorem dX9_restore_9 : decode cX9_restore 9 = .ok (.ireturn, 1) := by decide +kernel
theorem dX9_restore_10 : decode cX9_restore 10 = .ok (.aload_n 0, 1) := by decide +kernel
theorem dX9_restore_11 : decode cX9_restore 11 = .ok (.invokevirtual 78, 3) := by decide +kernel
theorem dX9_restore_14 : decode cX9_restore 14 = .ok (.iconst 0, 1) := by decide +kernel
theorem dX9_restore_15 : decode cX9_restore 15 = .ok (.istore_n 1, 1) := by decide +kernel
theorem dX9_restore_16 : decode cX9_restore 16 = .ok (.iload_n 1, 1) := by decide +kernel
theorem dX9_restore_17 : decode cX9_restore 17 = .ok (.sipush 281, 3) := by decide +kernel
theorem dX9_restore_20 : decode cX9_restore 20 = .ok (.if_icmp .ge 21, 3) := by decide +kernel
theorem dX9_restore_23 : decode cX9_restore 23 = .ok (.aload_n 0, 1) := by decide +kernel
theorem dX9_restore_24 : decode cX9_restore 24 = .ok (.getfield 7, 3) := by decide +kernel
theorem dX9_restore_27 : decode cX9_restore 27 = .ok (.iload_n 1, 1) := by decide +kernel
theorem dX9_restore_28 : decode cX9_restore 28 = .ok (.aload_n 0, 1) := by decide +kernel
theorem dX9_restore_29 : decode cX9_restore 29 = .ok (.getfield 16, 3) := by decide +kernel
theorem dX9_restore_32 : decode cX9_restore 32 = .ok (.iload_n 1, 1) := by decide +kernel
theorem dX9_restore_33 : decode cX9_restore 33 = .ok (.iaload, 1) := by decide +kernel
theorem dX9_restore_34 : decode cX9_restore 34 = .ok (.iastore, 1) := by decide +kernel
theorem dX9_restore_35 : decode cX9_restore 35 = .ok (.iinc 1 1, 3) := by decide +kernel
theorem dX9_restore_38 : decode cX9_restore 38 = .ok (.goto (-22), 3) := by decide +kernel
theorem dX9_restore_41 : decode cX9_restore 41 = .ok (.aload_n 0, 1) := by decide +kernel
theorem dX9_restore_42 : decode cX9_restore 42 = .ok (.iconst 1, 1) := by decide +kernel
theorem dX9_restore_43 : decode cX9_restore 43 = .ok (.invokevirtual 74, 3) := by decide +kernel
theorem dX9_restore_46 : decode cX9_restore 46 = .ok (.ireturn, 1) := by decide +kernel
theorem dX9_unroll_0 : decode cX9_unroll 0 = .ok (.iconst 0, 1) := by decide +kernel
theorem dX9_unroll_1 : decode cX9_unroll 1 = .ok (.istore_n 1, 1) := by decide +kernel
theorem dX9_unroll_2 : decode cX9_unroll 2 = .ok (.iload_n 1, 1) := by decide +kernel
theorem dX9_unroll_3 : decode cX9_unroll 3 = .ok (.bipush 8, 2) := by decide +kernel
theorem dX9_unroll_5 : decode cX9_unroll 5 = .ok (.if_icmp .ge 85, 3) := by decide +kernel
theorem dX9_unroll_8 : decode cX9_unroll 8 = .ok (.aload_n 0, 1) := by decide +kernel
theorem dX9_unroll_9 : decode cX9_unroll 9 = .ok (.getfield 19, 3) := by decide +kernel
theorem dX9_unroll_12 : decode cX9_unroll 12 = .ok (.iload_n 1, 1) := by decide +kernel
theorem dX9_unroll_13 : decode cX9_unroll 13 = .ok (.iconst 0, 1) := by decide +kernel
theorem dX9_unroll_14 : decode cX9_unroll 14 = .ok (.iastore, 1) := by decide +kernel
theorem dX9_unroll_15 : decode cX9_unroll 15 = .ok (.iconst 0, 1) := by decide +kernel
theorem dX9_unroll_16 : decode cX9_unroll 16 = .ok (.istore_n 2, 1) := by decide +kernel
theorem dX9_unroll_17 : decode cX9_unroll 17 = .ok (.iload_n 2, 1) := by decide +kernel
theorem dX9_unroll_18 : decode cX9_unroll 18 = .ok (.aload_n 0, 1) := by decide +kernel
theorem dX9_unroll_19 : decode cX9_unroll 19 = .ok (.iload_n 1, 1) := by decide +kernel
theorem dX9_unroll_20 : decode cX9_unroll 20 = .ok (.invokevirtual 81, 3) := by decide +kernel
theorem dX9_unroll_23 : decode cX9_unroll 23 = .ok (.if_icmp .ge 61, 3) := by decide +kernel
theorem dX9_unroll_26 : decode cX9_unroll 26 = .ok (.aload_n 0, 1) := by decide +kernel
theorem dX9_unroll_27 : decode cX9_unroll 27 = .ok (.iload_n 1, 1) := by decide +kernel
theorem dX9_unroll_28 : decode cX9_unroll 28 = .ok (.iload_n 2, 1) := by decide +kernel
theorem dX9_unroll_29 : decode cX9_unroll 29 = .ok (.iconst 0, 1) := by decide +kernel
theorem dX9_unroll_30 : decode cX9_unroll 30 = .ok (.invokevirtual 85, 3) := by decide +kernel
theorem dX9_unroll_33 : decode cX9_unroll 33 = .ok (.iconst 4, 1) := by decide +kernel
theorem dX9_unroll_34 : decode cX9_unroll 34 = .ok (.if_icmp .ne 18, 3) := by decide +kernel
theorem dX9_unroll_37 : decode cX9_unroll 37 = .ok (.aload_n 0, 1) := by decide +kernel
theorem dX9_unroll_38 : decode cX9_unroll 38 = .ok (.iload_n 1, 1) := by decide +kernel
theorem dX9_unroll_39 : decode cX9_unroll 39 = .ok (.aload_n 0, 1) := by decide +kernel
theorem dX9_unroll_40 : decode cX9_unroll 40 = .ok (.iload_n 1, 1) := by decide +kernel
theorem dX9_unroll_41 : decode cX9_unroll 41 = .ok (.iload_n 2, 1) := by decide +kernel
theorem dX9_unroll_42 : decode cX9_unroll 42 = .ok (.iconst 1, 1) := by decide +kernel
theorem dX9_unroll_43 : decode cX9_unroll 43 = .ok (.invokevirtual 85, 3) := by decide +kernel
theorem dX9_unroll_46 : decode cX9_unroll 46 = .ok (.invokevirtual 89, 3) := by decide +kernel
theorem dX9_unroll_49 : decode cX9_unroll 49 = .ok (.goto 29, 3) := by decide +kernel
theorem dX9_unroll_52 : decode cX9_unroll 52 = .ok (.aload_n 0, 1) := by decide +kernel
theorem dX9_unroll_53 : decode cX9_unroll 53 = .ok (.iload_n 1, 1) := by decide +kernel
theorem dX9_unroll_54 : decode cX9_unroll 54 = .ok (.aload_n 0, 1) := by decide +kernel
theorem dX9_unroll_55 : decode cX9_unroll 55 = .ok (.iload_n 1, 1) := by decide +kernel
theorem dX9_unroll_56 : decode cX9_unroll 56 = .ok (.iload_n 2, 1) := by decide +kernel
theorem dX9_unroll_57 : decode cX9_unroll 57 = .ok (.iconst 0, 1) := by decide +kernel
theorem dX9_unroll_58 : decode cX9_unroll 58 = .ok (.invokevirtual 85, 3) := by decide +kernel
theorem dX9_unroll_61 : decode cX9_unroll 61 = .ok (.aload_n 0, 1) := by decide +kernel
theorem dX9_unroll_62 : decode cX9_unroll 62 = .ok (.iload_n 1, 1) := by decide +kernel
theorem dX9_unroll_63 : decode cX9_unroll 63 = .ok (.iload_n 2, 1) := by decide +kernel
theorem dX9_unroll_64 : decode cX9_unroll 64 = .ok (.iconst 1, 1) := by decide +kernel
theorem dX9_unroll_65 : decode cX9_unroll 65 = .ok (.invokevirtual 85, 3) := by decide +kernel
theorem dX9_unroll_68 : decode cX9_unroll 68 = .ok (.aload_n 0, 1) := by decide +kernel
theorem dX9_unroll_69 : decode cX9_unroll 69 = .ok (.iload_n 1, 1) := by decide +kernel
theorem dX9_unroll_70 : decode cX9_unroll 70 = .ok (.iload_n 2, 1) := by decide +kernel
theorem dX9_unroll_71 : decode cX9_unroll 71 = .ok (.iconst 2, 1) := by decide +kernel
theorem dX9_unroll_72 : decode cX9_unroll 72 = .ok (.invokevirtual 85, 3) := by decide +kernel
theorem dX9_unroll_75 : decode cX9_unroll 75 = .ok (.invokevirtual 93, 3) := by decide +kernel
theorem dX9_unroll_78 : decode cX9_unroll 78 = .ok (.iinc 2 1, 3) := by decide +kernel
theorem dX9_unroll_81 : decode cX9_unroll 81 = .ok (.goto (-64), 3) := by decide +kernel
theorem dX9_unroll_84 : decode cX9_unroll 84 = .ok (.iinc 1 1, 3) := by decide +kernel
theorem dX9_unroll_87 : decode cX9_unroll 87 = .ok (.goto (-85), 3) := by decide +kernel
theorem dX9_unroll_90 : decode cX9_unroll 90 = .ok (.return_, 1) := by decide +kernel
theorem dX9_addStep_0 : decode cX9_addStep 0 = .ok (.iconst 3, 1) := by decide +kernel
theorem dX9_addStep_1 : decode cX9_addStep 1 = .ok (.bipush 120, 2) := by decide +kernel
theorem dX9_addStep_3 : decode cX9_addStep 3 = .ok (.iload_n 1, 1) := by decide +kernel
theorem dX9_addStep_4 : decode cX9_addStep 4 = .ok (.imul, 1) := by decide +kernel
theorem dX9_addStep_5 : decode cX9_addStep 5 = .ok (.aload_n 0, 1) := by decide +kernel
theorem dX9_addStep_6 : decode cX9_addStep 6 = .ok (.getfield 19, 3) := by decide +kernel
theorem dX9_addStep_9 : decode cX9_addStep 9 = .ok (.iload_n 1, 1) := by decide +kernel
theorem dX9_addStep_10 : decode cX9_addStep 10 = .ok (.iaload, 1) := by decide +kernel
theorem dX9_addStep_11 : decode cX9_addStep 11 = .ok (.iadd, 1) := by decide +kernel
theorem dX9_addStep_12 : decode cX9_addStep 12 = .ok (.imul, 1) := by decide +kernel
theorem dX9_addStep_13 : decode cX9_addStep 13 = .ok (.istore 5, 2) := by decide +kernel
theorem dX9_addStep_15 : decode cX9_addStep 15 = .ok (.aload_n 0, 1) := by decide +kernel
theorem dX9_addStep_16 : decode cX9_addStep 16 = .ok (.getfield 22, 3) := by decide +kernel
theorem dX9_addStep_19 : decode cX9_addStep 19 = .ok (.iload 5, 2) := by decide +kernel
theorem dX9_addStep_21 : decode cX9_addStep 21 = .ok (.iload_n 2, 1) := by decide +kernel
theorem dX9_addStep_22 : decode cX9_addStep 22 = .ok (.iastore, 1) := by decide +kernel
theorem dX9_addStep_23 : decode cX9_addStep 23 = .ok (.aload_n 0, 1) := by decide +kernel
theorem dX9_addStep_24 : decode cX9_addStep 24 = .ok (.getfield 22, 3) := by decide +kernel
theorem dX9_addStep_27 : decode cX9_addStep 27 = .ok (.iload 5, 2) := by decide +kernel
theorem dX9_addStep_29 : decode cX9_addStep 29 = .ok (.iconst 1, 1) := by decide +kernel
theorem dX9_addStep_30 : decode cX9_addStep 30 = .ok (.iadd, 1) := by decide +kernel
theorem dX9_addStep_31 : decode cX9_addStep 31 = .ok (.iload_n 3, 1) := by decide +kernel
theorem dX9_addStep_32 : decode cX9_addStep 32 = .ok (.iastore, 1) := by decide +kernel
theorem dX9_addStep_33 : decode cX9_addStep 33 = .ok (.aload_n 0, 1) := by decide +kernel
theorem dX9_addStep_34 : decode cX9_addStep 34 = .ok (.getfield 22, 3) := by decide +kernel
theorem dX9_addStep_37 : decode cX9_addStep 37 = .ok (.iload 5, 2) := by decide +kernel
theorem dX9_addStep_39 : decode cX9_addStep 39 = .ok (.iconst 2, 1) := by decide +kernel
theorem dX9_addStep_40 : decode cX9_addStep 40 = .ok (.iadd, 1) := by decide +kernel
theorem dX9_addStep_41 : decode cX9_addStep 41 = .ok (.iload 4, 2) := by decide +kernel
theorem dX9_addStep_43 : decode cX9_addStep 43 = .ok (.iastore, 1) := by decide +kernel
theorem dX9_addStep_44 : decode cX9_addStep 44 = .ok (.aload_n 0, 1) := by decide +kernel
theorem dX9_addStep_45 : decode cX9_addStep 45 = .ok (.getfield 19, 3) := by decide +kernel
theorem dX9_addStep_48 : decode cX9_addStep 48 = .ok (.iload_n 1, 1) := by decide +kernel
theorem dX9_addStep_49 : decode cX9_addStep 49 = .ok (.dup2, 1) := by decide +kernel
theorem dX9_addStep_50 : decode cX9_addStep 50 = .ok (.iaload, 1) := by decide +kernel
theorem dX9_addStep_51 : decode cX9_addStep 51 = .ok (.iconst 1, 1) := by decide +kernel
theorem dX9_addStep_52 : decode cX9_addStep 52 = .ok (.iadd, 1) := by decide +kernel
theorem dX9_addStep_53 : decode cX9_addStep 53 = .ok (.iastore, 1) := by decide +kernel
theorem dX9_addStep_54 : decode cX9_addStep 54 = .ok (.return_, 1) := by decide +kernel
theorem dX9_addAll_0 : decode cX9_addAll 0 = .ok (.iconst 0, 1) := by decide +kernel
theorem dX9_addAll_1 : decode cX9_addAll 1 = .ok (.istore_n 3, 1) := by decide +kernel
theorem dX9_addAll_2 : decode cX9_addAll 2 = .ok (.iload_n 3, 1) := by decide +kernel
theorem dX9_addAll_3 : decode cX9_addAll 3 = .ok (.aload_n 0, 1) := by decide +kernel
theorem dX9_addAll_4 : decode cX9_addAll 4 = .ok (.getfield 19, 3) := by decide +kernel
theorem dX9_addAll_7 : decode cX9_addAll 7 = .ok (.iload_n 2, 1) := by decide +kernel
theorem dX9_addAll_8 : decode cX9_addAll 8 = .ok (.iaload, 1) := by decide +kernel
theorem dX9_addAll_9 : decode cX9_addAll 9 = .ok (.if_icmp .ge 49, 3) := by decide +kernel
theorem dX9_addAll_12 : decode cX9_addAll 12 = .ok (.iconst 3, 1) := by decide +kernel
theorem dX9_addAll_13 : decode cX9_addAll 13 = .ok (.bipush 120, 2) := by decide +kernel
theorem dX9_addAll_15 : decode cX9_addAll 15 = .ok (.iload_n 2, 1) := by decide +kernel
theorem dX9_addAll_16 : decode cX9_addAll 16 = .ok (.imul, 1) := by decide +kernel
theorem dX9_addAll_17 : decode cX9_addAll 17 = .ok (.iload_n 3, 1) := by decide +kernel
theorem dX9_addAll_18 : decode cX9_addAll 18 = .ok (.iadd, 1) := by decide +kernel
theorem dX9_addAll_19 : decode cX9_addAll 19 = .ok (.imul, 1) := by decide +kernel
theorem dX9_addAll_20 : decode cX9_addAll 20 = .ok (.istore 4, 2) := by decide +kernel
theorem dX9_addAll_22 : decode cX9_addAll 22 = .ok (.aload_n 0, 1) := by decide +kernel
theorem dX9_addAll_23 : decode cX9_addAll 23 = .ok (.iload_n 1, 1) := by decide +kernel
theorem dX9_addAll_24 : decode cX9_addAll 24 = .ok (.aload_n 0, 1) := by decide +kernel
theorem dX9_addAll_25 : decode cX9_addAll 25 = .ok (.getfield 22, 3) := by decide +kernel
theorem dX9_addAll_28 : decode cX9_addAll 28 = .ok (.iload 4, 2) := by decide +kernel
theorem dX9_addAll_30 : decode cX9_addAll 30 = .ok (.iaload, 1) := by decide +kernel
theorem dX9_addAll_31 : decode cX9_addAll 31 = .ok (.aload_n 0, 1) := by decide +kernel
theorem dX9_addAll_32 : decode cX9_addAll 32 = .ok (.getfield 22, 3) := by decide +kernel
theorem dX9_addAll_35 : decode cX9_addAll 35 = .ok (.iload 4, 2) := by decide +kernel
theorem dX9_addAll_37 : decode cX9_addAll 37 = .ok (.iconst 1, 1) := by decide +kernel
theorem dX9_addAll_38 : decode cX9_addAll 38 = .ok (.iadd, 1) := by decide +kernel
theorem dX9_addAll_39 : decode cX9_addAll 39 = .ok (.iaload, 1) := by decide +kernel
theorem dX9_addAll_40 : decode cX9_addAll 40 = .ok (.aload_n 0, 1) := by decide +kernel
theorem dX9_addAll_41 : decode cX9_addAll 41 = .ok (.getfield 22, 3) := by decide +kernel
theorem dX9_addAll_44 : decode cX9_addAll 44 = .ok (.iload 4, 2) := by decide +kernel
theorem dX9_addAll_46 : decode cX9_addAll 46 = .ok (.iconst 2, 1) := by decide +kernel
theorem dX9_addAll_47 : decode cX9_addAll 47 = .ok (.iadd, 1) := by decide +kernel
theorem dX9_addAll_48 : decode cX9_addAll 48 = .ok (.iaload, 1) := by decide +kernel
theorem dX9_addAll_49 : decode cX9_addAll 49 = .ok (.invokevirtual 93, 3) := by decide +kernel
theorem dX9_addAll_52 : decode cX9_addAll 52 = .ok (.iinc 3 1, 3) := by decide +kernel
theorem dX9_addAll_55 : decode cX9_addAll 55 = .ok (.goto (-53), 3) := by decide +kernel
theorem dX9_addAll_58 : decode cX9_addAll 58 = .ok (.return_, 1) := by decide +kernel
theorem dX9_isRoom_0 : decode cX9_isRoom 0 = .ok (.iconst 1, 1) := by decide +kernel
theorem dX9_isRoom_1 : decode cX9_isRoom 1 = .ok (.istore_n 3, 1) := by decide +kernel
theorem dX9_isRoom_2 : decode cX9_isRoom 2 = .ok (.iconst 0, 1) := by decide +kernel
theorem dX9_isRoom_3 : decode cX9_isRoom 3 = .ok (.istore 4, 2) := by decide +kernel
theorem dX9_isRoom_5 : decode cX9_isRoom 5 = .ok (.iload 4, 2) := by decide +kernel
theorem dX9_isRoom_7 : decode cX9_isRoom 7 = .ok (.bipush 8, 2) := by decide +kernel
theorem dX9_isRoom_9 : decode cX9_isRoom 9 = .ok (.if_icmp .ge 110, 3) := by decide +kernel
theorem dX9_isRoom_12 : decode cX9_isRoom 12 = .ok (.aload_n 0, 1) := by decide +kernel
theorem dX9_isRoom_13 : decode cX9_isRoom 13 = .ok (.getfield 25, 3) := by decide +kernel
theorem dX9_isRoom_16 : decode cX9_isRoom 16 = .ok (.iload 4, 2) := by decide +kernel
theorem dX9_isRoom_18 : decode cX9_isRoom 18 = .ok (.iload 4, 2) := by decide +kernel
theorem dX9_isRoom_20 : decode cX9_isRoom 20 = .ok (.iload_n 1, 1) := by decide +kernel
theorem dX9_isRoom_21 : decode cX9_isRoom 21 = .ok (.if_icmp .ne 7, 3) := by decide +kernel
theorem dX9_isRoom_24 : decode cX9_isRoom 24 = .ok (.iload_n 2, 1) := by decide +kernel
theorem dX9_isRoom_25 : decode cX9_isRoom 25 = .ok (.goto 4, 3) := by decide +kernel
theorem dX9_isRoom_28 : decode cX9_isRoom 28 = .ok (.iconst 0, 1) := by decide +kernel
theorem dX9_isRoom_29 : decode cX9_isRoom 29 = .ok (.iastore, 1) := by decide +kernel
theorem dX9_isRoom_30 : decode cX9_isRoom 30 = .ok (.iconst 0, 1) := by decide +kernel
theorem dX9_isRoom_31 : decode cX9_isRoom 31 = .ok (.istore 5, 2) := by decide +kernel
theorem dX9_isRoom_33 : decode cX9_isRoom 33 = .ok (.iload 5, 2) := by decide +kernel
theorem dX9_isRoom_35 : decode cX9_isRoom 35 = .ok (.aload_n 0, 1) := by decide +kernel
theorem dX9_isRoom_36 : decode cX9_isRoom 36 = .ok (.iload 4, 2) := by decide +kernel
theorem dX9_isRoom_38 : decode cX9_isRoom 38 = .ok (.invokevirtual 81, 3) := by decide +kernel
theorem dX9_isRoom_41 : decode cX9_isRoom 41 = .ok (.if_icmp .ge 50, 3) := by decide +kernel
theorem dX9_isRoom_44 : decode cX9_isRoom 44 = .ok (.aload_n 0, 1) := by decide +kernel
theorem dX9_isRoom_45 : decode cX9_isRoom 45 = .ok (.getfield 25, 3) := by decide +kernel
theorem dX9_isRoom_48 : decode cX9_isRoom 48 = .ok (.iload 4, 2) := by decide +kernel
theorem dX9_isRoom_50 : decode cX9_isRoom 50 = .ok (.dup2, 1) := by decide +kernel
theorem dX9_isRoom_51 : decode cX9_isRoom 51 = .ok (.iaload, 1) := by decide +kernel
theorem dX9_isRoom_52 : decode cX9_isRoom 52 = .ok (.aload_n 0, 1) := by decide +kernel
theorem dX9_isRoom_53 : decode cX9_isRoom 53 = .ok (.iload 4, 2) := by decide +kernel
theorem dX9_isRoom_55 : decode cX9_isRoom 55 = .ok (.iload 5, 2) := by decide +kernel
theorem dX9_isRoom_57 : decode cX9_isRoom 57 = .ok (.iconst 0, 1) := by decide +kernel
theorem dX9_isRoom_58 : decode cX9_isRoom 58 = .ok (.invokevirtual 85, 3) := by decide +kernel
theorem dX9_isRoom_61 : decode cX9_isRoom 61 = .ok (.iconst 4, 1) := by decide +kernel
theorem dX9_isRoom_62 : decode cX9_isRoom 62 = .ok (.if_icmp .ne 20, 3) := by decide +kernel
theorem dX9_isRoom_65 : decode cX9_isRoom 65 = .ok (.aload_n 0, 1) := by decide +kernel
theorem dX9_isRoom_66 : decode cX9_isRoom 66 = .ok (.getfield 25, 3) := by decide +kernel
theorem dX9_isRoom_69 : decode cX9_isRoom 69 = .ok (.aload_n 0, 1) := by decide +kernel
theorem dX9_isRoom_70 : decode cX9_isRoom 70 = .ok (.iload 4, 2) := by decide +kernel
theorem dX9_isRoom_72 : decode cX9_isRoom 72 = .ok (.iload 5, 2) := by decide +kernel
theorem dX9_isRoom_74 : decode cX9_isRoom 74 = .ok (.iconst 1, 1) := by decide +kernel
theorem dX9_isRoom_75 : decode cX9_isRoom 75 = .ok (.invokevirtual 85, 3) := by decide +kernel
theorem dX9_isRoom_78 : decode cX9_isRoom 78 = .ok (.iaload, 1) := by decide +kernel
theorem dX9_isRoom_79 : decode cX9_isRoom 79 = .ok (.goto 4, 3) := by decide +kernel
theorem dX9_isRoom_82 : decode cX9_isRoom 82 = .ok (.iconst 1, 1) := by decide +kernel
theorem dX9_isRoom_83 : decode cX9_isRoom 83 = .ok (.iadd, 1) := by decide +kernel
theorem dX9_isRoom_84 : decode cX9_isRoom 84 = .ok (.iastore, 1) := by decide +kernel
theorem dX9_isRoom_85 : decode cX9_isRoom 85 = .ok (.iinc 5 1, 3) := by decide +kernel
theorem dX9_isRoom_88 : decode cX9_isRoom 88 = .ok (.goto (-55), 3) := by decide +kernel
theorem dX9_isRoom_91 : decode cX9_isRoom 91 = .ok (.iload_n 3, 1) := by decide +kernel
theorem dX9_isRoom_92 : decode cX9_isRoom 92 = .ok (.ifCond .eq 19, 3) := by decide +kernel
theorem dX9_isRoom_95 : decode cX9_isRoom 95 = .ok (.aload_n 0, 1) := by decide +kernel
theorem dX9_isRoom_96 : decode cX9_isRoom 96 = .ok (.getfield 25, 3) := by decide +kernel
theorem dX9_isRoom_99 : decode cX9_isRoom 99 = .ok (.iload 4, 2) := by decide +kernel
theorem dX9_isRoom_101 : decode cX9_isRoom 101 = .ok (.iaload, 1) := by decide +kernel
theorem dX9_isRoom_102 : decode cX9_isRoom 102 = .ok (.bipush 120, 2) := by decide +kernel
theorem dX9_isRoom_104 : decode cX9_isRoom 104 = .ok (.if_icmp .gt 7, 3) := by decide +kernel
theorem dX9_isRoom_107 : decode cX9_isRoom 107 = .ok (.iconst 1, 1) := by decide +kernel
theorem dX9_isRoom_108 : decode cX9_isRoom 108 = .ok (.goto 4, 3) := by decide +kernel
theorem dX9_isRoom_111 : decode cX9_isRoom 111 = .ok (.iconst 0, 1) := by decide +kernel
theorem dX9_isRoom_112 : decode cX9_isRoom 112 = .ok (.istore_n 3, 1) := by decide +kernel
theorem dX9_isRoom_113 : decode cX9_isRoom 113 = .ok (.iinc 4 1, 3) := by decide +kernel
theorem dX9_isRoom_116 : decode cX9_isRoom 116 = .ok (.goto (-111), 3) := by decide +kernel
theorem dX9_isRoom_119 : decode cX9_isRoom 119 = .ok (.iload_n 3, 1) := by decide +kernel
theorem dX9_isRoom_120 : decode cX9_isRoom 120 = .ok (.ireturn, 1) := by decide +kernel
theorem dX9_isMove_0 : decode cX9_isMove 0 = .ok (.iload_n 1, 1) := by decide +kernel
theorem dX9_isMove_1 : decode cX9_isMove 1 = .ok (.tableswitch 129 0 4 #[35, 63, 88, 35, 108], 35) := by decide +kernel
theorem dX9_isMove_36 : decode cX9_isMove 36 = .ok (.iload_n 2, 1) := by decide +kernel
theorem dX9_isMove_37 : decode cX9_isMove 37 = .ok (.iconst 0, 1) := by decide +kernel
theorem dX9_isMove_38 : decode cX9_isMove 38 = .ok (.bipush 8, 2) := by decide +kernel
theorem dX9_isMove_40 : decode cX9_isMove 40 = .ok (.invokestatic 62, 3) := by decide +kernel
theorem dX9_isMove_43 : decode cX9_isMove 43 = .ok (.ifCond .eq 19, 3) := by decide +kernel
theorem dX9_isMove_46 : decode cX9_isMove 46 = .ok (.iload_n 3, 1) := by decide +kernel
theorem dX9_isMove_47 : decode cX9_isMove 47 = .ok (.iload_n 2, 1) := by decide +kernel
theorem dX9_isMove_48 : decode cX9_isMove 48 = .ok (.iconst 1, 1) := by decide +kernel
theorem dX9_isMove_49 : decode cX9_isMove 49 = .ok (.iadd, 1) := by decide +kernel
theorem dX9_isMove_50 : decode cX9_isMove 50 = .ok (.bipush 9, 2) := by decide +kernel
theorem dX9_isMove_52 : decode cX9_isMove 52 = .ok (.invokestatic 62, 3) := by decide +kernel
theorem dX9_isMove_55 : decode cX9_isMove 55 = .ok (.ifCond .eq 7, 3) := by decide +kernel
theorem dX9_isMove_58 : decode cX9_isMove 58 = .ok (.iconst 1, 1) := by decide +kernel
theorem dX9_isMove_59 : decode cX9_isMove 59 = .ok (.goto 4, 3) := by decide +kernel
theorem dX9_isMove_62 : decode cX9_isMove 62 = .ok (.iconst 0, 1) := by decide +kernel
theorem dX9_isMove_63 : decode cX9_isMove 63 = .ok (.ireturn, 1) := by decide +kernel
theorem dX9_isMove_64 : decode cX9_isMove 64 = .ok (.iload_n 2, 1) := by decide +kernel
theorem dX9_isMove_65 : decode cX9_isMove 65 = .ok (.iconst 0, 1) := by decide +kernel
theorem dX9_isMove_66 : decode cX9_isMove 66 = .ok (.bipush 9, 2) := by decide +kernel
theorem dX9_isMove_68 : decode cX9_isMove 68 = .ok (.invokestatic 62, 3) := by decide +kernel
theorem dX9_isMove_71 : decode cX9_isMove 71 = .ok (.ifCond .eq 16, 3) := by decide +kernel
theorem dX9_isMove_74 : decode cX9_isMove 74 = .ok (.iload_n 3, 1) := by decide +kernel
theorem dX9_isMove_75 : decode cX9_isMove 75 = .ok (.iconst 1, 1) := by decide +kernel
theorem dX9_isMove_76 : decode cX9_isMove 76 = .ok (.iconst 3, 1) := by decide +kernel
theorem dX9_isMove_77 : decode cX9_isMove 77 = .ok (.invokestatic 62, 3) := by decide +kernel
theorem dX9_isMove_80 : decode cX9_isMove 80 = .ok (.ifCond .eq 7, 3) := by decide +kernel
theorem dX9_isMove_83 : decode cX9_isMove 83 = .ok (.iconst 1, 1) := by decide +kernel
theorem dX9_isMove_84 : decode cX9_isMove 84 = .ok (.goto 4, 3) := by decide +kernel
theorem dX9_isMove_87 : decode cX9_isMove 87 = .ok (.iconst 0, 1) := by decide +kernel
theorem dX9_isMove_88 : decode cX9_isMove 88 = .ok (.ireturn, 1) := by decide +kernel
theorem dX9_isMove_89 : decode cX9_isMove 89 = .ok (.iload_n 2, 1) := by decide +kernel
theorem dX9_isMove_90 : decode cX9_isMove 90 = .ok (.iconst 1, 1) := by decide +kernel
theorem dX9_isMove_91 : decode cX9_isMove 91 = .ok (.bipush 9, 2) := by decide +kernel
theorem dX9_isMove_93 : decode cX9_isMove 93 = .ok (.invokestatic 62, 3) := by decide +kernel
theorem dX9_isMove_96 : decode cX9_isMove 96 = .ok (.ifCond .eq 11, 3) := by decide +kernel
theorem dX9_isMove_99 : decode cX9_isMove 99 = .ok (.iload_n 3, 1) := by decide +kernel
theorem dX9_isMove_100 : decode cX9_isMove 100 = .ok (.ifCond .ne 7, 3) := by decide +kernel
theorem dX9_isMove_103 : decode cX9_isMove 103 = .ok (.iconst 1, 1) := by decide +kernel
theorem dX9_isMove_104 : decode cX9_isMove 104 = .ok (.goto 4, 3) := by decide +kernel
theorem dX9_isMove_107 : decode cX9_isMove 107 = .ok (.iconst 0, 1) := by decide +kernel
theorem dX9_isMove_108 : decode cX9_isMove 108 = .ok (.ireturn, 1) := by decide +kernel
theorem dX9_isMove_109 : decode cX9_isMove 109 = .ok (.iload_n 2, 1) := by decide +kernel
theorem dX9_isMove_110 : decode cX9_isMove 110 = .ok (.iconst 0, 1) := by decide +kernel
theorem dX9_isMove_111 : decode cX9_isMove 111 = .ok (.iload_n 0, 1) := by decide +kernel
theorem dX9_isMove_112 : decode cX9_isMove 112 = .ok (.iconst 1, 1) := by decide +kernel
theorem dX9_isMove_113 : decode cX9_isMove 113 = .ok (.isub, 1) := by decide +kernel
theorem dX9_isMove_114 : decode cX9_isMove 114 = .ok (.invokestatic 62, 3) := by decide +kernel
theorem dX9_isMove_117 : decode cX9_isMove 117 = .ok (.ifCond .eq 11, 3) := by decide +kernel
theorem dX9_isMove_120 : decode cX9_isMove 120 = .ok (.iload_n 3, 1) := by decide +kernel
theorem dX9_isMove_121 : decode cX9_isMove 121 = .ok (.ifCond .ne 7, 3) := by decide +kernel
theorem dX9_isMove_124 : decode cX9_isMove 124 = .ok (.iconst 1, 1) := by decide +kernel
theorem dX9_isMove_125 : decode cX9_isMove 125 = .ok (.goto 4, 3) := by decide +kernel
theorem dX9_isMove_128 : decode cX9_isMove 128 = .ok (.iconst 0, 1) := by decide +kernel
theorem dX9_isMove_129 : decode cX9_isMove 129 = .ok (.ireturn, 1) := by decide +kernel
theorem dX9_isMove_130 : decode cX9_isMove 130 = .ok (.iconst 0, 1) := by decide +kernel
theorem dX9_isMove_131 : decode cX9_isMove 131 = .ok (.ireturn, 1) := by decide +kernel
theorem dX9_add_0 : decode cX9_add 0 = .ok (.iload_n 1, 1) := by decide +kernel
theorem dX9_add_1 : decode cX9_add 1 = .ok (.invokestatic 97, 3) := by decide +kernel
theorem dX9_add_4 : decode cX9_add 4 = .ok (.ifCond .ne 5, 3) := by decide +kernel
theorem dX9_add_7 : decode cX9_add 7 = .ok (.iconst (-1), 1) := by decide +kernel
theorem dX9_add_8 : decode cX9_add 8 = .ok (.ireturn, 1) := by decide +kernel
theorem dX9_add_9 : decode cX9_add 9 = .ok (.iload_n 1, 1) := by decide +kernel
theorem dX9_add_10 : decode cX9_add 10 = .ok (.iload_n 2, 1) := by decide +kernel
theorem dX9_add_11 : decode cX9_add 11 = .ok (.iload_n 3, 1) := by decide +kernel
theorem dX9_add_12 : decode cX9_add 12 = .ok (.iload 4, 2) := by decide +kernel
theorem dX9_add_14 : decode cX9_add 14 = .ok (.invokestatic 101, 3) := by decide +kernel
theorem dX9_add_17 : decode cX9_add 17 = .ok (.ifCond .ne 6, 3) := by decide +kernel
theorem dX9_add_20 : decode cX9_add 20 = .ok (.bipush (-2), 2) := by decide +kernel
theorem dX9_add_22 : decode cX9_add 22 = .ok (.ireturn, 1) := by decide +kernel
theorem dX9_add_23 : decode cX9_add 23 = .ok (.aload_n 0, 1) := by decide +kernel
theorem dX9_add_24 : decode cX9_add 24 = .ok (.iload_n 1, 1) := by decide +kernel
theorem dX9_add_25 : decode cX9_add 25 = .ok (.invokevirtual 81, 3) := by decide +kernel
theorem dX9_add_28 : decode cX9_add 28 = .ok (.bipush 10, 2) := by decide +kernel
theorem dX9_add_30 : decode cX9_add 30 = .ok (.if_icmp .eq 25, 3) := by decide +kernel
theorem dX9_add_33 : decode cX9_add 33 = .ok (.aload_n 0, 1) := by decide +kernel
theorem dX9_add_34 : decode cX9_add 34 = .ok (.iload_n 1, 1) := by decide +kernel
theorem dX9_add_35 : decode cX9_add 35 = .ok (.iload_n 2, 1) := by decide +kernel
theorem dX9_add_36 : decode cX9_add 36 = .ok (.iconst 4, 1) := by decide +kernel
theorem dX9_add_37 : decode cX9_add 37 = .ok (.if_icmp .ne 11, 3) := by decide +kernel
theorem dX9_add_40 : decode cX9_add 40 = .ok (.aload_n 0, 1) := by decide +kernel
theorem dX9_add_41 : decode cX9_add 41 = .ok (.iload_n 3, 1) := by decide +kernel
theorem dX9_add_42 : decode cX9_add 42 = .ok (.invokevirtual 105, 3) := by decide +kernel
theorem dX9_add_45 : decode cX9_add 45 = .ok (.goto 4, 3) := by decide +kernel
theorem dX9_add_48 : decode cX9_add 48 = .ok (.iconst 1, 1) := by decide +kernel
theorem dX9_add_49 : decode cX9_add 49 = .ok (.invokevirtual 108, 3) := by decide +kernel
theorem dX9_add_52 : decode cX9_add 52 = .ok (.ifCond .ne 6, 3) := by decide +kernel
theorem dX9_add_55 : decode cX9_add 55 = .ok (.bipush (-3), 2) := by decide +kernel
theorem dX9_add_57 : decode cX9_add 57 = .ok (.ireturn, 1) := by decide +kernel
theorem dX9_add_58 : decode cX9_add 58 = .ok (.aload_n 0, 1) := by decide +kernel
theorem dX9_add_59 : decode cX9_add 59 = .ok (.invokevirtual 78, 3) := by decide +kernel
theorem dX9_add_62 : decode cX9_add 62 = .ok (.bipush 30, 2) := by decide +kernel
theorem dX9_add_64 : decode cX9_add 64 = .ok (.bipush 31, 2) := by decide +kernel
theorem dX9_add_66 : decode cX9_add 66 = .ok (.iload_n 1, 1) := by decide +kernel
theorem dX9_add_67 : decode cX9_add 67 = .ok (.imul, 1) := by decide +kernel
theorem dX9_add_68 : decode cX9_add 68 = .ok (.iadd, 1) := by decide +kernel
theorem dX9_add_69 : decode cX9_add 69 = .ok (.iconst 1, 1) := by decide +kernel
theorem dX9_add_70 : decode cX9_add 70 = .ok (.iadd, 1) := by decide +kernel
theorem dX9_add_71 : decode cX9_add 71 = .ok (.iconst 3, 1) := by decide +kernel
theorem dX9_add_72 : decode cX9_add 72 = .ok (.aload_n 0, 1) := by decide +kernel
theorem dX9_add_73 : decode cX9_add 73 = .ok (.iload_n 1, 1) := by decide +kernel
theorem dX9_add_74 : decode cX9_add 74 = .ok (.invokevirtual 81, 3) := by decide +kernel
theorem dX9_add_77 : decode cX9_add 77 = .ok (.imul, 1) := by decide +kernel
theorem dX9_add_78 : decode cX9_add 78 = .ok (.iadd, 1) := by decide +kernel
theorem dX9_add_79 : decode cX9_add 79 = .ok (.istore 5, 2) := by decide +kernel
theorem dX9_add_81 : decode cX9_add 81 = .ok (.aload_n 0, 1) := by decide +kernel
theorem dX9_add_82 : decode cX9_add 82 = .ok (.getfield 7, 3) := by decide +kernel
theorem dX9_add_85 : decode cX9_add 85 = .ok (.iload 5, 2) := by decide +kernel
theorem dX9_add_87 : decode cX9_add 87 = .ok (.iload_n 2, 1) := by decide +kernel
theorem dX9_add_88 : decode cX9_add 88 = .ok (.iastore, 1) := by decide +kernel
theorem dX9_add_89 : decode cX9_add 89 = .ok (.aload_n 0, 1) := by decide +kernel
theorem dX9_add_90 : decode cX9_add 90 = .ok (.getfield 7, 3) := by decide +kernel
theorem dX9_add_93 : decode cX9_add 93 = .ok (.iload 5, 2) := by decide +kernel
theorem dX9_add_95 : decode cX9_add 95 = .ok (.iconst 1, 1) := by decide +kernel
theorem dX9_add_96 : decode cX9_add 96 = .ok (.iadd, 1) := by decide +kernel
theorem dX9_add_97 : decode cX9_add 97 = .ok (.iload_n 3, 1) := by decide +kernel
theorem dX9_add_98 : decode cX9_add 98 = .ok (.iastore, 1) := by decide +kernel
theorem dX9_add_99 : decode cX9_add 99 = .ok (.aload_n 0, 1) := by decide +kernel
theorem dX9_add_100 : decode cX9_add 100 = .ok (.getfield 7, 3) := by decide +kernel
theorem dX9_add_103 : decode cX9_add 103 = .ok (.iload 5, 2) := by decide +kernel
theorem dX9_add_105 : decode cX9_add 105 = .ok (.iconst 2, 1) := by decide +kernel
theorem dX9_add_106 : decode cX9_add 106 = .ok (.iadd, 1) := by decide +kernel
theorem dX9_add_107 : decode cX9_add 107 = .ok (.iload 4, 2) := by decide +kernel
theorem dX9_add_109 : decode cX9_add 109 = .ok (.iastore, 1) := by decide +kernel
theorem dX9_add_110 : decode cX9_add 110 = .ok (.aload_n 0, 1) := by decide +kernel
theorem dX9_add_111 : decode cX9_add 111 = .ok (.getfield 7, 3) := by decide +kernel
theorem dX9_add_114 : decode cX9_add 114 = .ok (.bipush 30, 2) := by decide +kernel
theorem dX9_add_116 : decode cX9_add 116 = .ok (.bipush 31, 2) := by decide +kernel
theorem dX9_add_118 : decode cX9_add 118 = .ok (.iload_n 1, 1) := by decide +kernel
theorem dX9_add_119 : decode cX9_add 119 = .ok (.imul, 1) := by decide +kernel
theorem dX9_add_120 : decode cX9_add 120 = .ok (.iadd, 1) := by decide +kernel
theorem dX9_add_121 : decode cX9_add 121 = .ok (.dup2, 1) := by decide +kernel
theorem dX9_add_122 : decode cX9_add 122 = .ok (.iaload, 1) := by decide +kernel
theorem dX9_add_123 : decode cX9_add 123 = .ok (.iconst 1, 1) := by decide +kernel
theorem dX9_add_124 : decode cX9_add 124 = .ok (.iadd, 1) := by decide +kernel
theorem dX9_add_125 : decode cX9_add 125 = .ok (.iastore, 1) := by decide +kernel
theorem dX9_add_126 : decode cX9_add 126 = .ok (.aload_n 0, 1) := by decide +kernel
theorem dX9_add_127 : decode cX9_add 127 = .ok (.iload_n 1, 1) := by decide +kernel
theorem dX9_add_128 : decode cX9_add 128 = .ok (.invokevirtual 81, 3) := by decide +kernel
theorem dX9_add_131 : decode cX9_add 131 = .ok (.ireturn, 1) := by decide +kernel
theorem dX9_stepsOf_0 : decode cX9_stepsOf 0 = .ok (.aload_n 0, 1) := by decide +kernel
theorem dX9_stepsOf_1 : decode cX9_stepsOf 1 = .ok (.invokevirtual 112, 3) := by decide +kernel
theorem dX9_stepsOf_4 : decode cX9_stepsOf 4 = .ok (.aload_n 0, 1) := by decide +kernel
theorem dX9_stepsOf_5 : decode cX9_stepsOf 5 = .ok (.getfield 19, 3) := by decide +kernel
theorem dX9_stepsOf_8 : decode cX9_stepsOf 8 = .ok (.iload_n 1, 1) := by decide +kernel
theorem dX9_stepsOf_9 : decode cX9_stepsOf 9 = .ok (.iaload, 1) := by decide +kernel
theorem dX9_stepsOf_10 : decode cX9_stepsOf 10 = .ok (.ireturn, 1) := by decide +kernel
theorem dX9_drop_0 : decode cX9_drop 0 = .ok (.iload_n 1, 1) := by decide +kernel
theorem dX9_drop_1 : decode cX9_drop 1 = .ok (.invokestatic 97, 3) := by decide +kernel
theorem dX9_drop_4 : decode cX9_drop 4 = .ok (.ifCond .ne 5, 3) := by decide +kernel
theorem dX9_drop_7 : decode cX9_drop 7 = .ok (.iconst (-1), 1) := by decide +kernel
theorem dX9_drop_8 : decode cX9_drop 8 = .ok (.ireturn, 1) := by decide +kernel
theorem dX9_drop_9 : decode cX9_drop 9 = .ok (.aload_n 0, 1) := by decide +kernel
theorem dX9_drop_10 : decode cX9_drop 10 = .ok (.iload_n 1, 1) := by decide +kernel
theorem dX9_drop_11 : decode cX9_drop 11 = .ok (.invokevirtual 81, 3) := by decide +kernel
theorem dX9_drop_14 : decode cX9_drop 14 = .ok (.ifCond .ne 6, 3) := by decide +kernel
theorem dX9_drop_17 : decode cX9_drop 17 = .ok (.bipush (-4), 2) := by decide +kernel
theorem dX9_drop_19 : decode cX9_drop 19 = .ok (.ireturn, 1) := by decide +kernel
theorem dX9_drop_20 : decode cX9_drop 20 = .ok (.aload_n 0, 1) := by decide +kernel
theorem dX9_drop_21 : decode cX9_drop 21 = .ok (.invokevirtual 78, 3) := by decide +kernel
theorem dX9_drop_24 : decode cX9_drop 24 = .ok (.aload_n 0, 1) := by decide +kernel
theorem dX9_drop_25 : decode cX9_drop 25 = .ok (.getfield 7, 3) := by decide +kernel
theorem dX9_drop_28 : decode cX9_drop 28 = .ok (.bipush 30, 2) := by decide +kernel
theorem dX9_drop_30 : decode cX9_drop 30 = .ok (.bipush 31, 2) := by decide +kernel
theorem dX9_drop_32 : decode cX9_drop 32 = .ok (.iload_n 1, 1) := by decide +kernel
theorem dX9_drop_33 : decode cX9_drop 33 = .ok (.imul, 1) := by decide +kernel
theorem dX9_drop_34 : decode cX9_drop 34 = .ok (.iadd, 1) := by decide +kernel
theorem dX9_drop_35 : decode cX9_drop 35 = .ok (.dup2, 1) := by decide +kernel
theorem dX9_drop_36 : decode cX9_drop 36 = .ok (.iaload, 1) := by decide +kernel
theorem dX9_drop_37 : decode cX9_drop 37 = .ok (.iconst 1, 1) := by decide +kernel
theorem dX9_drop_38 : decode cX9_drop 38 = .ok (.isub, 1) := by decide +kernel
theorem dX9_drop_39 : decode cX9_drop 39 = .ok (.iastore, 1) := by decide +kernel
theorem dX9_drop_40 : decode cX9_drop 40 = .ok (.bipush 30, 2) := by decide +kernel
theorem dX9_drop_42 : decode cX9_drop 42 = .ok (.bipush 31, 2) := by decide +kernel
theorem dX9_drop_44 : decode cX9_drop 44 = .ok (.iload_n 1, 1) := by decide +kernel
theorem dX9_drop_45 : decode cX9_drop 45 = .ok (.imul, 1) := by decide +kernel
theorem dX9_drop_46 : decode cX9_drop 46 = .ok (.iadd, 1) := by decide +kernel
theorem dX9_drop_47 : decode cX9_drop 47 = .ok (.iconst 1, 1) := by decide +kernel
theorem dX9_drop_48 : decode cX9_drop 48 = .ok (.iadd, 1) := by decide +kernel
theorem dX9_drop_49 : decode cX9_drop 49 = .ok (.iconst 3, 1) := by decide +kernel
theorem dX9_drop_50 : decode cX9_drop 50 = .ok (.aload_n 0, 1) := by decide +kernel
theorem dX9_drop_51 : decode cX9_drop 51 = .ok (.iload_n 1, 1) := by decide +kernel
theorem dX9_drop_52 : decode cX9_drop 52 = .ok (.invokevirtual 81, 3) := by decide +kernel
theorem dX9_drop_55 : decode cX9_drop 55 = .ok (.imul, 1) := by decide +kernel
theorem dX9_drop_56 : decode cX9_drop 56 = .ok (.iadd, 1) := by decide +kernel
theorem dX9_drop_57 : decode cX9_drop 57 = .ok (.istore_n 2, 1) := by decide +kernel
theorem dX9_drop_58 : decode cX9_drop 58 = .ok (.aload_n 0, 1) := by decide +kernel
theorem dX9_drop_59 : decode cX9_drop 59 = .ok (.getfield 7, 3) := by decide +kernel
theorem dX9_drop_62 : decode cX9_drop 62 = .ok (.iload_n 2, 1) := by decide +kernel
theorem dX9_drop_63 : decode cX9_drop 63 = .ok (.iconst 0, 1) := by decide +kernel
theorem dX9_drop_64 : decode cX9_drop 64 = .ok (.iastore, 1) := by decide +kernel
theorem dX9_drop_65 : decode cX9_drop 65 = .ok (.aload_n 0, 1) := by decide +kernel
theorem dX9_drop_66 : decode cX9_drop 66 = .ok (.getfield 7, 3) := by decide +kernel
theorem dX9_drop_69 : decode cX9_drop 69 = .ok (.iload_n 2, 1) := by decide +kernel
theorem dX9_drop_70 : decode cX9_drop 70 = .ok (.iconst 1, 1) := by decide +kernel
theorem dX9_drop_71 : decode cX9_drop 71 = .ok (.iadd, 1) := by decide +kernel
theorem dX9_drop_72 : decode cX9_drop 72 = .ok (.iconst 0, 1) := by decide +kernel
theorem dX9_drop_73 : decode cX9_drop 73 = .ok (.iastore, 1) := by decide +kernel
theorem dX9_drop_74 : decode cX9_drop 74 = .ok (.aload_n 0, 1) := by decide +kernel
theorem dX9_drop_75 : decode cX9_drop 75 = .ok (.getfield 7, 3) := by decide +kernel
theorem dX9_drop_78 : decode cX9_drop 78 = .ok (.iload_n 2, 1) := by decide +kernel
theorem dX9_drop_79 : decode cX9_drop 79 = .ok (.iconst 2, 1) := by decide +kernel
theorem dX9_drop_80 : decode cX9_drop 80 = .ok (.iadd, 1) := by decide +kernel
theorem dX9_drop_81 : decode cX9_drop 81 = .ok (.iconst 0, 1) := by decide +kernel
theorem dX9_drop_82 : decode cX9_drop 82 = .ok (.iastore, 1) := by decide +kernel
theorem dX9_drop_83 : decode cX9_drop 83 = .ok (.aload_n 0, 1) := by decide +kernel
theorem dX9_drop_84 : decode cX9_drop 84 = .ok (.iload_n 1, 1) := by decide +kernel
theorem dX9_drop_85 : decode cX9_drop 85 = .ok (.invokevirtual 81, 3) := by decide +kernel
theorem dX9_drop_88 : decode cX9_drop 88 = .ok (.ireturn, 1) := by decide +kernel
theorem dX9_lay_0 : decode cX9_lay 0 = .ok (.iconst 0, 1) := by decide +kernel
theorem dX9_lay_1 : decode cX9_lay 1 = .ok (.istore 4, 2) := by decide +kernel
theorem dX9_lay_3 : decode cX9_lay 3 = .ok (.iload 4, 2) := by decide +kernel
theorem dX9_lay_5 : decode cX9_lay 5 = .ok (.bipush 10, 2) := by decide +kernel
theorem dX9_lay_7 : decode cX9_lay 7 = .ok (.if_icmp .ge 128, 3) := by decide +kernel
theorem dX9_lay_10 : decode cX9_lay 10 = .ok (.iload_n 1, 1) := by decide +kernel
theorem dX9_lay_11 : decode cX9_lay 11 = .ok (.iconst 3, 1) := by decide +kernel
theorem dX9_lay_12 : decode cX9_lay 12 = .ok (.if_icmp .ne 17, 3) := by decide +kernel
theorem dX9_lay_15 : decode cX9_lay 15 = .ok (.iload 4, 2) := by decide +kernel
theorem dX9_lay_17 : decode cX9_lay 17 = .ok (.iload_n 2, 1) := by decide +kernel
theorem dX9_lay_18 : decode cX9_lay 18 = .ok (.iload_n 3, 1) := by decide +kernel
theorem dX9_lay_19 : decode cX9_lay 19 = .ok (.invokestatic 62, 3) := by decide +kernel
theorem dX9_lay_22 : decode cX9_lay 22 = .ok (.ifCond .eq 7, 3) := by decide +kernel
theorem dX9_lay_25 : decode cX9_lay 25 = .ok (.iconst 1, 1) := by decide +kernel
theorem dX9_lay_26 : decode cX9_lay 26 = .ok (.goto 4, 3) := by decide +kernel
theorem dX9_lay_29 : decode cX9_lay 29 = .ok (.iconst 0, 1) := by decide +kernel
theorem dX9_lay_30 : decode cX9_lay 30 = .ok (.istore 5, 2) := by decide +kernel
theorem dX9_lay_32 : decode cX9_lay 32 = .ok (.iload_n 1, 1) := by decide +kernel
theorem dX9_lay_33 : decode cX9_lay 33 = .ok (.ifCond .ne 19, 3) := by decide +kernel
theorem dX9_lay_36 : decode cX9_lay 36 = .ok (.iload 4, 2) := by decide +kernel
theorem dX9_lay_38 : decode cX9_lay 38 = .ok (.iload_n 2, 1) := by decide +kernel
theorem dX9_lay_39 : decode cX9_lay 39 = .ok (.if_icmp .eq 9, 3) := by decide +kernel
theorem dX9_lay_42 : decode cX9_lay 42 = .ok (.iload 4, 2) := by decide +kernel
theorem dX9_lay_44 : decode cX9_lay 44 = .ok (.iload_n 3, 1) := by decide +kernel
theorem dX9_lay_45 : decode cX9_lay 45 = .ok (.if_icmp .ne 7, 3) := by decide +kernel
theorem dX9_lay_48 : decode cX9_lay 48 = .ok (.iconst 1, 1) := by decide +kernel
theorem dX9_lay_49 : decode cX9_lay 49 = .ok (.goto 4, 3) := by decide +kernel
theorem dX9_lay_52 : decode cX9_lay 52 = .ok (.iconst 0, 1) := by decide +kernel
theorem dX9_lay_53 : decode cX9_lay 53 = .ok (.istore 6, 2) := by decide +kernel
theorem dX9_lay_55 : decode cX9_lay 55 = .ok (.aload_n 0, 1) := by decide +kernel
theorem dX9_lay_56 : decode cX9_lay 56 = .ok (.getfield 28, 3) := by decide +kernel
theorem dX9_lay_59 : decode cX9_lay 59 = .ok (.iload 4, 2) := by decide +kernel
theorem dX9_lay_61 : decode cX9_lay 61 = .ok (.iload 5, 2) := by decide +kernel
theorem dX9_lay_63 : decode cX9_lay 63 = .ok (.ifCond .ne 8, 3) := by decide +kernel
theorem dX9_lay_66 : decode cX9_lay 66 = .ok (.iload 6, 2) := by decide +kernel
theorem dX9_lay_68 : decode cX9_lay 68 = .ok (.ifCond .eq 12, 3) := by decide +kernel
theorem dX9_lay_71 : decode cX9_lay 71 = .ok (.iload_n 2, 1) := by decide +kernel
theorem dX9_lay_72 : decode cX9_lay 72 = .ok (.iload_n 3, 1) := by decide +kernel
theorem dX9_lay_73 : decode cX9_lay 73 = .ok (.iadd, 1) := by decide +kernel
theorem dX9_lay_74 : decode cX9_lay 74 = .ok (.iload 4, 2) := by decide +kernel
theorem dX9_lay_76 : decode cX9_lay 76 = .ok (.isub, 1) := by decide +kernel
theorem dX9_lay_77 : decode cX9_lay 77 = .ok (.goto 19, 3) := by decide +kernel
theorem dX9_lay_80 : decode cX9_lay 80 = .ok (.iload_n 1, 1) := by decide +kernel
theorem dX9_lay_81 : decode cX9_lay 81 = .ok (.iconst 2, 1) := by decide +kernel
theorem dX9_lay_82 : decode cX9_lay 82 = .ok (.if_icmp .ne 12, 3) := by decide +kernel
theorem dX9_lay_85 : decode cX9_lay 85 = .ok (.iload 4, 2) := by decide +kernel
theorem dX9_lay_87 : decode cX9_lay 87 = .ok (.iload_n 2, 1) := by decide +kernel
theorem dX9_lay_88 : decode cX9_lay 88 = .ok (.invokestatic 115, 3) := by decide +kernel
theorem dX9_lay_91 : decode cX9_lay 91 = .ok (.goto 5, 3) := by decide +kernel
theorem dX9_lay_94 : decode cX9_lay 94 = .ok (.iload 4, 2) := by decide +kernel
theorem dX9_lay_96 : decode cX9_lay 96 = .ok (.iastore, 1) := by decide +kernel
theorem dX9_lay_97 : decode cX9_lay 97 = .ok (.aload_n 0, 1) := by decide +kernel
theorem dX9_lay_98 : decode cX9_lay 98 = .ok (.getfield 31, 3) := by decide +kernel
theorem dX9_lay_101 : decode cX9_lay 101 = .ok (.iload 4, 2) := by decide +kernel
theorem dX9_lay_103 : decode cX9_lay 103 = .ok (.iload 5, 2) := by decide +kernel
theorem dX9_lay_105 : decode cX9_lay 105 = .ok (.ifCond .eq 7, 3) := by decide +kernel
theorem dX9_lay_108 : decode cX9_lay 108 = .ok (.iconst 2, 1) := by decide +kernel
theorem dX9_lay_109 : decode cX9_lay 109 = .ok (.goto 19, 3) := by decide +kernel
theorem dX9_lay_112 : decode cX9_lay 112 = .ok (.iload_n 1, 1) := by decide +kernel
theorem dX9_lay_113 : decode cX9_lay 113 = .ok (.iconst 1, 1) := by decide +kernel
theorem dX9_lay_114 : decode cX9_lay 114 = .ok (.if_icmp .ne 13, 3) := by decide +kernel
theorem dX9_lay_117 : decode cX9_lay 117 = .ok (.iload 4, 2) := by decide +kernel
theorem dX9_lay_119 : decode cX9_lay 119 = .ok (.iload_n 2, 1) := by decide +kernel
theorem dX9_lay_120 : decode cX9_lay 120 = .ok (.if_icmp .ne 7, 3) := by decide +kernel
theorem dX9_lay_123 : decode cX9_lay 123 = .ok (.iload_n 3, 1) := by decide +kernel
theorem dX9_lay_124 : decode cX9_lay 124 = .ok (.goto 4, 3) := by decide +kernel
theorem dX9_lay_127 : decode cX9_lay 127 = .ok (.iconst 0, 1) := by decide +kernel
theorem dX9_lay_128 : decode cX9_lay 128 = .ok (.iastore, 1) := by decide +kernel
theorem dX9_lay_129 : decode cX9_lay 129 = .ok (.iinc 4 1, 3) := by decide +kernel
theorem dX9_lay_132 : decode cX9_lay 132 = .ok (.goto (-129), 3) := by decide +kernel
theorem dX9_lay_135 : decode cX9_lay 135 = .ok (.return_, 1) := by decide +kernel
theorem dX9_layStep_0 : decode cX9_layStep 0 = .ok (.iconst 3, 1) := by decide +kernel
theorem dX9_layStep_1 : decode cX9_layStep 1 = .ok (.bipush 120, 2) := by decide +kernel
theorem dX9_layStep_3 : decode cX9_layStep 3 = .ok (.iload_n 1, 1) := by decide +kernel
theorem dX9_layStep_4 : decode cX9_layStep 4 = .ok (.imul, 1) := by decide +kernel
theorem dX9_layStep_5 : decode cX9_layStep 5 = .ok (.iload_n 3, 1) := by decide +kernel
theorem dX9_layStep_6 : decode cX9_layStep 6 = .ok (.ifCond .eq 16, 3) := by decide +kernel
theorem dX9_layStep_9 : decode cX9_layStep 9 = .ok (.aload_n 0, 1) := by decide +kernel
theorem dX9_layStep_10 : decode cX9_layStep 10 = .ok (.getfield 19, 3) := by decide +kernel
theorem dX9_layStep_13 : decode cX9_layStep 13 = .ok (.iload_n 1, 1) := by decide +kernel
theorem dX9_layStep_14 : decode cX9_layStep 14 = .ok (.iaload, 1) := by decide +kernel
theorem dX9_layStep_15 : decode cX9_layStep 15 = .ok (.iconst 1, 1) := by decide +kernel
theorem dX9_layStep_16 : decode cX9_layStep 16 = .ok (.isub, 1) := by decide +kernel
theorem dX9_layStep_17 : decode cX9_layStep 17 = .ok (.iload_n 2, 1) := by decide +kernel
theorem dX9_layStep_18 : decode cX9_layStep 18 = .ok (.isub, 1) := by decide +kernel
theorem dX9_layStep_19 : decode cX9_layStep 19 = .ok (.goto 4, 3) := by decide +kernel
theorem dX9_layStep_22 : decode cX9_layStep 22 = .ok (.iload_n 2, 1) := by decide +kernel
theorem dX9_layStep_23 : decode cX9_layStep 23 = .ok (.iadd, 1) := by decide +kernel
theorem dX9_layStep_24 : decode cX9_layStep 24 = .ok (.imul, 1) := by decide +kernel
theorem dX9_layStep_25 : decode cX9_layStep 25 = .ok (.istore 4, 2) := by decide +kernel
theorem dX9_layStep_27 : decode cX9_layStep 27 = .ok (.aload_n 0, 1) := by decide +kernel
theorem dX9_layStep_28 : decode cX9_layStep 28 = .ok (.getfield 22, 3) := by decide +kernel
theorem dX9_layStep_31 : decode cX9_layStep 31 = .ok (.iload 4, 2) := by decide +kernel
theorem dX9_layStep_33 : decode cX9_layStep 33 = .ok (.iaload, 1) := by decide +kernel
theorem dX9_layStep_34 : decode cX9_layStep 34 = .ok (.istore 5, 2) := by decide +kernel
theorem dX9_layStep_36 : decode cX9_layStep 36 = .ok (.aload_n 0, 1) := by decide +kernel
theorem dX9_layStep_37 : decode cX9_layStep 37 = .ok (.getfield 22, 3) := by decide +kernel
theorem dX9_layStep_40 : decode cX9_layStep 40 = .ok (.iload 4, 2) := by decide +kernel
theorem dX9_layStep_42 : decode cX9_layStep 42 = .ok (.iconst 1, 1) := by decide +kernel
theorem dX9_layStep_43 : decode cX9_layStep 43 = .ok (.iadd, 1) := by decide +kernel
theorem dX9_layStep_44 : decode cX9_layStep 44 = .ok (.iaload, 1) := by decide +kernel
theorem dX9_layStep_45 : decode cX9_layStep 45 = .ok (.istore 6, 2) := by decide +kernel
theorem dX9_layStep_47 : decode cX9_layStep 47 = .ok (.aload_n 0, 1) := by decide +kernel
theorem dX9_layStep_48 : decode cX9_layStep 48 = .ok (.getfield 22, 3) := by decide +kernel
theorem dX9_layStep_51 : decode cX9_layStep 51 = .ok (.iload 4, 2) := by decide +kernel
theorem dX9_layStep_53 : decode cX9_layStep 53 = .ok (.iconst 2, 1) := by decide +kernel
theorem dX9_layStep_54 : decode cX9_layStep 54 = .ok (.iadd, 1) := by decide +kernel
theorem dX9_layStep_55 : decode cX9_layStep 55 = .ok (.iaload, 1) := by decide +kernel
theorem dX9_layStep_56 : decode cX9_layStep 56 = .ok (.istore 7, 2) := by decide +kernel
theorem dX9_layStep_58 : decode cX9_layStep 58 = .ok (.aload_n 0, 1) := by decide +kernel
theorem dX9_layStep_59 : decode cX9_layStep 59 = .ok (.iload 5, 2) := by decide +kernel
theorem dX9_layStep_61 : decode cX9_layStep 61 = .ok (.iload_n 3, 1) := by decide +kernel
theorem dX9_layStep_62 : decode cX9_layStep 62 = .ok (.ifCond .eq 17, 3) := by decide +kernel
theorem dX9_layStep_65 : decode cX9_layStep 65 = .ok (.iload 5, 2) := by decide +kernel
theorem dX9_layStep_67 : decode cX9_layStep 67 = .ok (.iconst 2, 1) := by decide +kernel
theorem dX9_layStep_68 : decode cX9_layStep 68 = .ok (.if_icmp .ne 11, 3) := by decide +kernel
theorem dX9_layStep_71 : decode cX9_layStep 71 = .ok (.bipush 10, 2) := by decide +kernel
theorem dX9_layStep_73 : decode cX9_layStep 73 = .ok (.iload 6, 2) := by decide +kernel
theorem dX9_layStep_75 : decode cX9_layStep 75 = .ok (.isub, 1) := by decide +kernel
theorem dX9_layStep_76 : decode cX9_layStep 76 = .ok (.goto 5, 3) := by decide +kernel
theorem dX9_layStep_79 : decode cX9_layStep 79 = .ok (.iload 6, 2) := by decide +kernel
theorem dX9_layStep_81 : decode cX9_layStep 81 = .ok (.iload_n 3, 1) := by decide +kernel
theorem dX9_layStep_82 : decode cX9_layStep 82 = .ok (.ifCond .eq 16, 3) := by decide +kernel
theorem dX9_layStep_85 : decode cX9_layStep 85 = .ok (.iload 5, 2) := by decide +kernel
theorem dX9_layStep_87 : decode cX9_layStep 87 = .ok (.iconst 1, 1) := by decide +kernel
theorem dX9_layStep_88 : decode cX9_layStep 88 = .ok (.if_icmp .ne 10, 3) := by decide +kernel
theorem dX9_layStep_91 : decode cX9_layStep 91 = .ok (.iconst 4, 1) := by decide +kernel
theorem dX9_layStep_92 : decode cX9_layStep 92 = .ok (.iload 7, 2) := by decide +kernel
theorem dX9_layStep_94 : decode cX9_layStep 94 = .ok (.isub, 1) := by decide +kernel
theorem dX9_layStep_95 : decode cX9_layStep 95 = .ok (.goto 5, 3) := by decide +kernel
theorem dX9_layStep_98 : decode cX9_layStep 98 = .ok (.iload 7, 2) := by decide +kernel
theorem dX9_layStep_100 : decode cX9_layStep 100 = .ok (.invokevirtual 119, 3) := by decide +kernel
theorem dX9_layStep_103 : decode cX9_layStep 103 = .ok (.return_, 1) := by decide +kernel
theorem dX9_areNeighbors_0 : decode cX9_areNeighbors 0 = .ok (.iload_n 0, 1) := by decide +kernel
theorem dX9_areNeighbors_1 : decode cX9_areNeighbors 1 = .ok (.iconst 1, 1) := by decide +kernel
theorem dX9_areNeighbors_2 : decode cX9_areNeighbors 2 = .ok (.invokestatic 115, 3) := by decide +kernel
theorem dX9_areNeighbors_5 : decode cX9_areNeighbors 5 = .ok (.iload_n 1, 1) := by decide +kernel
theorem dX9_areNeighbors_6 : decode cX9_areNeighbors 6 = .ok (.if_icmp .eq 12, 3) := by decide +kernel
theorem dX9_areNeighbors_9 : decode cX9_areNeighbors 9 = .ok (.iload_n 1, 1) := by decide +kernel
theorem dX9_areNeighbors_10 : decode cX9_areNeighbors 10 = .ok (.iconst 1, 1) := by decide +kernel
theorem dX9_areNeighbors_11 : decode cX9_areNeighbors 11 = .ok (.invokestatic 115, 3) := by decide +kernel
theorem dX9_areNeighbors_14 : decode cX9_areNeighbors 14 = .ok (.iload_n 0, 1) := by decide +kernel
theorem dX9_areNeighbors_15 : decode cX9_areNeighbors 15 = .ok (.if_icmp .ne 7, 3) := by decide +kernel
theorem dX9_areNeighbors_18 : decode cX9_areNeighbors 18 = .ok (.iconst 1, 1) := by decide +kernel
theorem dX9_areNeighbors_19 : decode cX9_areNeighbors 19 = .ok (.goto 4, 3) := by decide +kernel
theorem dX9_areNeighbors_22 : decode cX9_areNeighbors 22 = .ok (.iconst 0, 1) := by decide +kernel
theorem dX9_areNeighbors_23 : decode cX9_areNeighbors 23 = .ok (.ireturn, 1) := by decide +kernel
theorem dX9_isAllowed_0 : decode cX9_isAllowed 0 = .ok (.iconst 1, 1) := by decide +kernel
theorem dX9_isAllowed_1 : decode cX9_isAllowed 1 = .ok (.istore_n 1, 1) := by decide +kernel
theorem dX9_isAllowed_2 : decode cX9_isAllowed 2 = .ok (.iconst 0, 1) := by decide +kernel
theorem dX9_isAllowed_3 : decode cX9_isAllowed 3 = .ok (.istore_n 2, 1) := by decide +kernel
theorem dX9_isAllowed_4 : decode cX9_isAllowed 4 = .ok (.iload_n 2, 1) := by decide +kernel
theorem dX9_isAllowed_5 : decode cX9_isAllowed 5 = .ok (.bipush 10, 2) := by decide +kernel
theorem dX9_isAllowed_7 : decode cX9_isAllowed 7 = .ok (.if_icmp .ge 64, 3) := by decide +kernel
theorem dX9_isAllowed_10 : decode cX9_isAllowed 10 = .ok (.aload_n 0, 1) := by decide +kernel
theorem dX9_isAllowed_11 : decode cX9_isAllowed 11 = .ok (.getfield 7, 3) := by decide +kernel
theorem dX9_isAllowed_14 : decode cX9_isAllowed 14 = .ok (.bipush 20, 2) := by decide +kernel
theorem dX9_isAllowed_16 : decode cX9_isAllowed 16 = .ok (.aload_n 0, 1) := by decide +kernel
theorem dX9_isAllowed_17 : decode cX9_isAllowed 17 = .ok (.getfield 7, 3) := by decide +kernel
theorem dX9_isAllowed_20 : decode cX9_isAllowed 20 = .ok (.iconst 0, 1) := by decide +kernel
theorem dX9_isAllowed_21 : decode cX9_isAllowed 21 = .ok (.iload_n 2, 1) := by decide +kernel
theorem dX9_isAllowed_22 : decode cX9_isAllowed 22 = .ok (.iadd, 1) := by decide +kernel
theorem dX9_isAllowed_23 : decode cX9_isAllowed 23 = .ok (.iaload, 1) := by decide +kernel
theorem dX9_isAllowed_24 : decode cX9_isAllowed 24 = .ok (.iadd, 1) := by decide +kernel
theorem dX9_isAllowed_25 : decode cX9_isAllowed 25 = .ok (.iaload, 1) := by decide +kernel
theorem dX9_isAllowed_26 : decode cX9_isAllowed 26 = .ok (.istore_n 3, 1) := by decide +kernel
theorem dX9_isAllowed_27 : decode cX9_isAllowed 27 = .ok (.iload_n 1, 1) := by decide +kernel
theorem dX9_isAllowed_28 : decode cX9_isAllowed 28 = .ok (.ifCond .eq 35, 3) := by decide +kernel
theorem dX9_isAllowed_31 : decode cX9_isAllowed 31 = .ok (.iload_n 3, 1) := by decide +kernel
theorem dX9_isAllowed_32 : decode cX9_isAllowed 32 = .ok (.bipush (-5), 2) := by decide +kernel
theorem dX9_isAllowed_34 : decode cX9_isAllowed 34 = .ok (.if_icmp .eq 25, 3) := by decide +kernel
theorem dX9_isAllowed_37 : decode cX9_isAllowed 37 = .ok (.aload_n 0, 1) := by decide +kernel
theorem dX9_isAllowed_38 : decode cX9_isAllowed 38 = .ok (.getfield 28, 3) := by decide +kernel
theorem dX9_isAllowed_41 : decode cX9_isAllowed 41 = .ok (.iload_n 2, 1) := by decide +kernel
theorem dX9_isAllowed_42 : decode cX9_isAllowed 42 = .ok (.iaload, 1) := by decide +kernel
theorem dX9_isAllowed_43 : decode cX9_isAllowed 43 = .ok (.aload_n 0, 1) := by decide +kernel
theorem dX9_isAllowed_44 : decode cX9_isAllowed 44 = .ok (.getfield 28, 3) := by decide +kernel
theorem dX9_isAllowed_47 : decode cX9_isAllowed 47 = .ok (.aload_n 0, 1) := by decide +kernel
theorem dX9_isAllowed_48 : decode cX9_isAllowed 48 = .ok (.iload_n 3, 1) := by decide +kernel
theorem dX9_isAllowed_49 : decode cX9_isAllowed 49 = .ok (.invokevirtual 123, 3) := by decide +kernel
theorem dX9_isAllowed_52 : decode cX9_isAllowed 52 = .ok (.iaload, 1) := by decide +kernel
theorem dX9_isAllowed_53 : decode cX9_isAllowed 53 = .ok (.invokestatic 126, 3) := by decide +kernel
theorem dX9_isAllowed_56 : decode cX9_isAllowed 56 = .ok (.ifCond .eq 7, 3) := by decide +kernel
theorem dX9_isAllowed_59 : decode cX9_isAllowed 59 = .ok (.iconst 1, 1) := by decide +kernel
theorem dX9_isAllowed_60 : decode cX9_isAllowed 60 = .ok (.goto 4, 3) := by decide +kernel
theorem dX9_isAllowed_63 : decode cX9_isAllowed 63 = .ok (.iconst 0, 1) := by decide +kernel
theorem dX9_isAllowed_64 : decode cX9_isAllowed 64 = .ok (.istore_n 1, 1) := by decide +kernel
theorem dX9_isAllowed_65 : decode cX9_isAllowed 65 = .ok (.iinc 2 1, 3) := by decide +kernel
theorem dX9_isAllowed_68 : decode cX9_isAllowed 68 = .ok (.goto (-64), 3) := by decide +kernel
theorem dX9_isAllowed_71 : decode cX9_isAllowed 71 = .ok (.iload_n 1, 1) := by decide +kernel
theorem dX9_isAllowed_72 : decode cX9_isAllowed 72 = .ok (.ireturn, 1) := by decide +kernel
theorem dX9_make_0 : decode cX9_make 0 = .ok (.iconst 0, 1) := by decide +kernel
theorem dX9_make_1 : decode cX9_make 1 = .ok (.istore_n 1, 1) := by decide +kernel
theorem dX9_make_2 : decode cX9_make 2 = .ok (.iload_n 1, 1) := by decide +kernel
theorem dX9_make_3 : decode cX9_make 3 = .ok (.bipush 10, 2) := by decide +kernel
theorem dX9_make_5 : decode cX9_make 5 = .ok (.if_icmp .ge 57, 3) := by decide +kernel
theorem dX9_make_8 : decode cX9_make 8 = .ok (.aload_n 0, 1) := by decide +kernel
theorem dX9_make_9 : decode cX9_make 9 = .ok (.getfield 7, 3) := by decide +kernel
theorem dX9_make_12 : decode cX9_make 12 = .ok (.iconst 0, 1) := by decide +kernel
theorem dX9_make_13 : decode cX9_make 13 = .ok (.iload_n 1, 1) := by decide +kernel
theorem dX9_make_14 : decode cX9_make 14 = .ok (.iadd, 1) := by decide +kernel
theorem dX9_make_15 : decode cX9_make 15 = .ok (.iaload, 1) := by decide +kernel
theorem dX9_make_16 : decode cX9_make 16 = .ok (.istore_n 2, 1) := by decide +kernel
theorem dX9_make_17 : decode cX9_make 17 = .ok (.aload_n 0, 1) := by decide +kernel
theorem dX9_make_18 : decode cX9_make 18 = .ok (.getfield 34, 3) := by decide +kernel
theorem dX9_make_21 : decode cX9_make 21 = .ok (.aload_n 0, 1) := by decide +kernel
theorem dX9_make_22 : decode cX9_make 22 = .ok (.getfield 28, 3) := by decide +kernel
theorem dX9_make_25 : decode cX9_make 25 = .ok (.iload_n 1, 1) := by decide +kernel
theorem dX9_make_26 : decode cX9_make 26 = .ok (.iaload, 1) := by decide +kernel
theorem dX9_make_27 : decode cX9_make 27 = .ok (.iload_n 2, 1) := by decide +kernel
theorem dX9_make_28 : decode cX9_make 28 = .ok (.iastore, 1) := by decide +kernel
theorem dX9_make_29 : decode cX9_make 29 = .ok (.aload_n 0, 1) := by decide +kernel
theorem dX9_make_30 : decode cX9_make 30 = .ok (.getfield 7, 3) := by decide +kernel
theorem dX9_make_33 : decode cX9_make 33 = .ok (.bipush 10, 2) := by decide +kernel
theorem dX9_make_35 : decode cX9_make 35 = .ok (.iload_n 2, 1) := by decide +kernel
theorem dX9_make_36 : decode cX9_make 36 = .ok (.iadd, 1) := by decide +kernel
theorem dX9_make_37 : decode cX9_make 37 = .ok (.aload_n 0, 1) := by decide +kernel
theorem dX9_make_38 : decode cX9_make 38 = .ok (.getfield 7, 3) := by decide +kernel
theorem dX9_make_41 : decode cX9_make 41 = .ok (.bipush 10, 2) := by decide +kernel
theorem dX9_make_43 : decode cX9_make 43 = .ok (.iload_n 2, 1) := by decide +kernel
theorem dX9_make_44 : decode cX9_make 44 = .ok (.iadd, 1) := by decide +kernel
theorem dX9_make_45 : decode cX9_make 45 = .ok (.iaload, 1) := by decide +kernel
theorem dX9_make_46 : decode cX9_make 46 = .ok (.aload_n 0, 1) := by decide +kernel
theorem dX9_make_47 : decode cX9_make 47 = .ok (.getfield 31, 3) := by decide +kernel
theorem dX9_make_50 : decode cX9_make 50 = .ok (.iload_n 1, 1) := by decide +kernel
theorem dX9_make_51 : decode cX9_make 51 = .ok (.iaload, 1) := by decide +kernel
theorem dX9_make_52 : decode cX9_make 52 = .ok (.iadd, 1) := by decide +kernel
theorem dX9_make_53 : decode cX9_make 53 = .ok (.iconst 4, 1) := by decide +kernel
theorem dX9_make_54 : decode cX9_make 54 = .ok (.irem, 1) := by decide +kernel
theorem dX9_make_55 : decode cX9_make 55 = .ok (.iastore, 1) := by decide +kernel
theorem dX9_make_56 : decode cX9_make 56 = .ok (.iinc 1 1, 3) := by decide +kernel
theorem dX9_make_59 : decode cX9_make 59 = .ok (.goto (-57), 3) := by decide +kernel
theorem dX9_make_62 : decode cX9_make 62 = .ok (.iconst 0, 1) := by decide +kernel
theorem dX9_make_63 : decode cX9_make 63 = .ok (.istore_n 1, 1) := by decide +kernel
theorem dX9_make_64 : decode cX9_make 64 = .ok (.iload_n 1, 1) := by decide +kernel
theorem dX9_make_65 : decode cX9_make 65 = .ok (.bipush 10, 2) := by decide +kernel
theorem dX9_make_67 : decode cX9_make 67 = .ok (.if_icmp .ge 23, 3) := by decide +kernel
theorem dX9_make_70 : decode cX9_make 70 = .ok (.aload_n 0, 1) := by decide +kernel
theorem dX9_make_71 : decode cX9_make 71 = .ok (.getfield 7, 3) := by decide +kernel
theorem dX9_make_74 : decode cX9_make 74 = .ok (.iconst 0, 1) := by decide +kernel
theorem dX9_make_75 : decode cX9_make 75 = .ok (.iload_n 1, 1) := by decide +kernel
theorem dX9_make_76 : decode cX9_make 76 = .ok (.iadd, 1) := by decide +kernel
theorem dX9_make_77 : decode cX9_make 77 = .ok (.aload_n 0, 1) := by decide +kernel
theorem dX9_make_78 : decode cX9_make 78 = .ok (.getfield 34, 3) := by decide +kernel
theorem dX9_make_81 : decode cX9_make 81 = .ok (.iload_n 1, 1) := by decide +kernel
theorem dX9_make_82 : decode cX9_make 82 = .ok (.iaload, 1) := by decide +kernel
theorem dX9_make_83 : decode cX9_make 83 = .ok (.iastore, 1) := by decide +kernel
theorem dX9_make_84 : decode cX9_make 84 = .ok (.iinc 1 1, 3) := by decide +kernel
theorem dX9_make_87 : decode cX9_make 87 = .ok (.goto (-23), 3) := by decide +kernel
theorem dX9_make_90 : decode cX9_make 90 = .ok (.return_, 1) := by decide +kernel
theorem dX9_go_0 : decode cX9_go 0 = .ok (.aload_n 0, 1) := by decide +kernel
theorem dX9_go_1 : decode cX9_go 1 = .ok (.invokevirtual 112, 3) := by decide +kernel
theorem dX9_go_4 : decode cX9_go 4 = .ok (.iconst 0, 1) := by decide +kernel
theorem dX9_go_5 : decode cX9_go 5 = .ok (.istore 4, 2) := by decide +kernel
theorem dX9_go_7 : decode cX9_go 7 = .ok (.iload 4, 2) := by decide +kernel
theorem dX9_go_9 : decode cX9_go 9 = .ok (.bipush 20, 2) := by decide +kernel
theorem dX9_go_11 : decode cX9_go 11 = .ok (.if_icmp .ge 23, 3) := by decide +kernel
theorem dX9_go_14 : decode cX9_go 14 = .ok (.aload_n 0, 1) := by decide +kernel
theorem dX9_go_15 : decode cX9_go 15 = .ok (.getfield 37, 3) := by decide +kernel
theorem dX9_go_18 : decode cX9_go 18 = .ok (.iload 4, 2) := by decide +kernel
theorem dX9_go_20 : decode cX9_go 20 = .ok (.aload_n 0, 1) := by decide +kernel
theorem dX9_go_21 : decode cX9_go 21 = .ok (.getfield 7, 3) := by decide +kernel
theorem dX9_go_24 : decode cX9_go 24 = .ok (.iload 4, 2) := by decide +kernel
theorem dX9_go_26 : decode cX9_go 26 = .ok (.iaload, 1) := by decide +kernel
theorem dX9_go_27 : decode cX9_go 27 = .ok (.iastore, 1) := by decide +kernel
theorem dX9_go_28 : decode cX9_go 28 = .ok (.iinc 4 1, 3) := by decide +kernel
theorem dX9_go_31 : decode cX9_go 31 = .ok (.goto (-24), 3) := by decide +kernel
theorem dX9_go_34 : decode cX9_go 34 = .ok (.iconst 0, 1) := by decide +kernel
theorem dX9_go_35 : decode cX9_go 35 = .ok (.istore 4, 2) := by decide +kernel
theorem dX9_go_37 : decode cX9_go 37 = .ok (.iconst 1, 1) := by decide +kernel
theorem dX9_go_38 : decode cX9_go 38 = .ok (.istore 5, 2) := by decide +kernel
theorem dX9_go_40 : decode cX9_go 40 = .ok (.iload 5, 2) := by decide +kernel
theorem dX9_go_42 : decode cX9_go 42 = .ok (.ifCond .eq 52, 3) := by decide +kernel
theorem dX9_go_45 : decode cX9_go 45 = .ok (.iload 4, 2) := by decide +kernel
theorem dX9_go_47 : decode cX9_go 47 = .ok (.iload_n 2, 1) := by decide +kernel
theorem dX9_go_48 : decode cX9_go 48 = .ok (.aload_n 0, 1) := by decide +kernel
theorem dX9_go_49 : decode cX9_go 49 = .ok (.getfield 19, 3) := by decide +kernel
theorem dX9_go_52 : decode cX9_go 52 = .ok (.iload_n 1, 1) := by decide +kernel
theorem dX9_go_53 : decode cX9_go 53 = .ok (.iaload, 1) := by decide +kernel
theorem dX9_go_54 : decode cX9_go 54 = .ok (.imul, 1) := by decide +kernel
theorem dX9_go_55 : decode cX9_go 55 = .ok (.if_icmp .ge 39, 3) := by decide +kernel
theorem dX9_go_58 : decode cX9_go 58 = .ok (.aload_n 0, 1) := by decide +kernel
theorem dX9_go_59 : decode cX9_go 59 = .ok (.iload_n 1, 1) := by decide +kernel
theorem dX9_go_60 : decode cX9_go 60 = .ok (.iload 4, 2) := by decide +kernel
theorem dX9_go_62 : decode cX9_go 62 = .ok (.aload_n 0, 1) := by decide +kernel
theorem dX9_go_63 : decode cX9_go 63 = .ok (.getfield 19, 3) := by decide +kernel
theorem dX9_go_66 : decode cX9_go 66 = .ok (.iload_n 1, 1) := by decide +kernel
theorem dX9_go_67 : decode cX9_go 67 = .ok (.iaload, 1) := by decide +kernel
theorem dX9_go_68 : decode cX9_go 68 = .ok (.irem, 1) := by decide +kernel
theorem dX9_go_69 : decode cX9_go 69 = .ok (.iload_n 3, 1) := by decide +kernel
theorem dX9_go_70 : decode cX9_go 70 = .ok (.invokevirtual 129, 3) := by decide +kernel
theorem dX9_go_73 : decode cX9_go 73 = .ok (.aload_n 0, 1) := by decide +kernel
theorem dX9_go_74 : decode cX9_go 74 = .ok (.invokevirtual 133, 3) := by decide +kernel
theorem dX9_go_77 : decode cX9_go 77 = .ok (.istore 5, 2) := by decide +kernel
theorem dX9_go_79 : decode cX9_go 79 = .ok (.iload 5, 2) := by decide +kernel
theorem dX9_go_81 : decode cX9_go 81 = .ok (.ifCond .eq (-41), 3) := by decide +kernel
theorem dX9_go_84 : decode cX9_go 84 = .ok (.aload_n 0, 1) := by decide +kernel
theorem dX9_go_85 : decode cX9_go 85 = .ok (.invokevirtual 137, 3) := by decide +kernel
theorem dX9_go_88 : decode cX9_go 88 = .ok (.iinc 4 1, 3) := by decide +kernel
theorem dX9_go_91 : decode cX9_go 91 = .ok (.goto (-51), 3) := by decide +kernel
theorem dX9_go_94 : decode cX9_go 94 = .ok (.iload 4, 2) := by decide +kernel
theorem dX9_go_96 : decode cX9_go 96 = .ok (.ireturn, 1) := by decide +kernel
theorem dX9_goBack_0 : decode cX9_goBack 0 = .ok (.iconst 0, 1) := by decide +kernel
theorem dX9_goBack_1 : decode cX9_goBack 1 = .ok (.istore_n 1, 1) := by decide +kernel
theorem dX9_goBack_2 : decode cX9_goBack 2 = .ok (.iload_n 1, 1) := by decide +kernel
theorem dX9_goBack_3 : decode cX9_goBack 3 = .ok (.bipush 20, 2) := by decide +kernel
theorem dX9_goBack_5 : decode cX9_goBack 5 = .ok (.if_icmp .ge 21, 3) := by decide +kernel
theorem dX9_goBack_8 : decode cX9_goBack 8 = .ok (.aload_n 0, 1) := by decide +kernel
theorem dX9_goBack_9 : decode cX9_goBack 9 = .ok (.getfield 7, 3) := by decide +kernel
theorem dX9_goBack_12 : decode cX9_goBack 12 = .ok (.iload_n 1, 1) := by decide +kernel
theorem dX9_goBack_13 : decode cX9_goBack 13 = .ok (.aload_n 0, 1) := by decide +kernel
theorem dX9_goBack_14 : decode cX9_goBack 14 = .ok (.getfield 37, 3) := by decide +kernel
theorem dX9_goBack_17 : decode cX9_goBack 17 = .ok (.iload_n 1, 1) := by decide +kernel
theorem dX9_goBack_18 : decode cX9_goBack 18 = .ok (.iaload, 1) := by decide +kernel
theorem dX9_goBack_19 : decode cX9_goBack 19 = .ok (.iastore, 1) := by decide +kernel
theorem dX9_goBack_20 : decode cX9_goBack 20 = .ok (.iinc 1 1, 3) := by decide +kernel
theorem dX9_goBack_23 : decode cX9_goBack 23 = .ok (.goto (-21), 3) := by decide +kernel
theorem dX9_goBack_26 : decode cX9_goBack 26 = .ok (.return_, 1) := by decide +kernel
theorem dX9_danceNow_0 : decode cX9_danceNow 0 = .ok (.aload_n 0, 1) := by decide +kernel
theorem dX9_danceNow_1 : decode cX9_danceNow 1 = .ok (.iload_n 1, 1) := by decide +kernel
theorem dX9_danceNow_2 : decode cX9_danceNow 2 = .ok (.iload_n 2, 1) := by decide +kernel
theorem dX9_danceNow_3 : decode cX9_danceNow 3 = .ok (.iload_n 3, 1) := by decide +kernel
theorem dX9_danceNow_4 : decode cX9_danceNow 4 = .ok (.invokevirtual 140, 3) := by decide +kernel
theorem dX9_danceNow_7 : decode cX9_danceNow 7 = .ok (.istore 4, 2) := by decide +kernel
theorem dX9_danceNow_9 : decode cX9_danceNow 9 = .ok (.iload 4, 2) := by decide +kernel
theorem dX9_danceNow_11 : decode cX9_danceNow 11 = .ok (.iload_n 2, 1) := by decide +kernel
theorem dX9_danceNow_12 : decode cX9_danceNow 12 = .ok (.aload_n 0, 1) := by decide +kernel
theorem dX9_danceNow_13 : decode cX9_danceNow 13 = .ok (.getfield 19, 3) := by decide +kernel
theorem dX9_danceNow_16 : decode cX9_danceNow 16 = .ok (.iload_n 1, 1) := by decide +kernel
theorem dX9_danceNow_17 : decode cX9_danceNow 17 = .ok (.iaload, 1) := by decide +kernel
theorem dX9_danceNow_18 : decode cX9_danceNow 18 = .ok (.imul, 1) := by decide +kernel
theorem dX9_danceNow_19 : decode cX9_danceNow 19 = .ok (.if_icmp .ge 13, 3) := by decide +kernel
theorem dX9_danceNow_22 : decode cX9_danceNow 22 = .ok (.aload_n 0, 1) := by decide +kernel
theorem dX9_danceNow_23 : decode cX9_danceNow 23 = .ok (.invokevirtual 144, 3) := by decide +kernel
theorem dX9_danceNow_26 : decode cX9_danceNow 26 = .ok (.bipush (-100), 2) := by decide +kernel
theorem dX9_danceNow_28 : decode cX9_danceNow 28 = .ok (.iload 4, 2) := by decide +kernel
theorem dX9_danceNow_30 : decode cX9_danceNow 30 = .ok (.isub, 1) := by decide +kernel
theorem dX9_danceNow_31 : decode cX9_danceNow 31 = .ok (.ireturn, 1) := by decide +kernel
theorem dX9_danceNow_32 : decode cX9_danceNow 32 = .ok (.aload_n 0, 1) := by decide +kernel
theorem dX9_danceNow_33 : decode cX9_danceNow 33 = .ok (.getfield 7, 3) := by decide +kernel
theorem dX9_danceNow_36 : decode cX9_danceNow 36 = .ok (.sipush 278, 3) := by decide +kernel
theorem dX9_danceNow_39 : decode cX9_danceNow 39 = .ok (.dup2, 1) := by decide +kernel
theorem dX9_danceNow_40 : decode cX9_danceNow 40 = .ok (.iaload, 1) := by decide +kernel
theorem dX9_danceNow_41 : decode cX9_danceNow 41 = .ok (.iconst 1, 1) := by decide +kernel
theorem dX9_danceNow_42 : decode cX9_danceNow 42 = .ok (.iadd, 1) := by decide +kernel
theorem dX9_danceNow_43 : decode cX9_danceNow 43 = .ok (.iastore, 1) := by decide +kernel
theorem dX9_danceNow_44 : decode cX9_danceNow 44 = .ok (.aload_n 0, 1) := by decide +kernel
theorem dX9_danceNow_45 : decode cX9_danceNow 45 = .ok (.getfield 7, 3) := by decide +kernel
theorem dX9_danceNow_48 : decode cX9_danceNow 48 = .ok (.sipush 279, 3) := by decide +kernel
theorem dX9_danceNow_51 : decode cX9_danceNow 51 = .ok (.dup2, 1) := by decide +kernel
theorem dX9_danceNow_52 : decode cX9_danceNow 52 = .ok (.iaload, 1) := by decide +kernel
theorem dX9_danceNow_53 : decode cX9_danceNow 53 = .ok (.iload 4, 2) := by decide +kernel
theorem dX9_danceNow_55 : decode cX9_danceNow 55 = .ok (.iadd, 1) := by decide +kernel
theorem dX9_danceNow_56 : decode cX9_danceNow 56 = .ok (.iastore, 1) := by decide +kernel
theorem dX9_danceNow_57 : decode cX9_danceNow 57 = .ok (.iload 4, 2) := by decide +kernel
theorem dX9_danceNow_59 : decode cX9_danceNow 59 = .ok (.ireturn, 1) := by decide +kernel
theorem dX9_pairs_0 : decode cX9_pairs 0 = .ok (.iconst 0, 1) := by decide +kernel
theorem dX9_pairs_1 : decode cX9_pairs 1 = .ok (.istore_n 1, 1) := by decide +kernel
theorem dX9_pairs_2 : decode cX9_pairs 2 = .ok (.iconst 0, 1) := by decide +kernel
theorem dX9_pairs_3 : decode cX9_pairs 3 = .ok (.istore_n 2, 1) := by decide +kernel
theorem dX9_pairs_4 : decode cX9_pairs 4 = .ok (.iload_n 2, 1) := by decide +kernel
theorem dX9_pairs_5 : decode cX9_pairs 5 = .ok (.bipush 10, 2) := by decide +kernel
theorem dX9_pairs_7 : decode cX9_pairs 7 = .ok (.if_icmp .ge 31, 3) := by decide +kernel
theorem dX9_pairs_10 : decode cX9_pairs 10 = .ok (.iload_n 1, 1) := by decide +kernel
theorem dX9_pairs_11 : decode cX9_pairs 11 = .ok (.aload_n 0, 1) := by decide +kernel
theorem dX9_pairs_12 : decode cX9_pairs 12 = .ok (.getfield 7, 3) := by decide +kernel
theorem dX9_pairs_15 : decode cX9_pairs 15 = .ok (.bipush 20, 2) := by decide +kernel
theorem dX9_pairs_17 : decode cX9_pairs 17 = .ok (.iload_n 2, 1) := by decide +kernel
theorem dX9_pairs_18 : decode cX9_pairs 18 = .ok (.iadd, 1) := by decide +kernel
theorem dX9_pairs_19 : decode cX9_pairs 19 = .ok (.iaload, 1) := by decide +kernel
theorem dX9_pairs_20 : decode cX9_pairs 20 = .ok (.bipush (-5), 2) := by decide +kernel
theorem dX9_pairs_22 : decode cX9_pairs 22 = .ok (.if_icmp .eq 7, 3) := by decide +kernel
theorem dX9_pairs_25 : decode cX9_pairs 25 = .ok (.iconst 1, 1) := by decide +kernel
theorem dX9_pairs_26 : decode cX9_pairs 26 = .ok (.goto 4, 3) := by decide +kernel
theorem dX9_pairs_29 : decode cX9_pairs 29 = .ok (.iconst 0, 1) := by decide +kernel
theorem dX9_pairs_30 : decode cX9_pairs 30 = .ok (.iadd, 1) := by decide +kernel
theorem dX9_pairs_31 : decode cX9_pairs 31 = .ok (.istore_n 1, 1) := by decide +kernel
theorem dX9_pairs_32 : decode cX9_pairs 32 = .ok (.iinc 2 1, 3) := by decide +kernel
theorem dX9_pairs_35 : decode cX9_pairs 35 = .ok (.goto (-31), 3) := by decide +kernel
theorem dX9_pairs_38 : decode cX9_pairs 38 = .ok (.iload_n 1, 1) := by decide +kernel
theorem dX9_pairs_39 : decode cX9_pairs 39 = .ok (.iconst 2, 1) := by decide +kernel
theorem dX9_pairs_40 : decode cX9_pairs 40 = .ok (.idiv, 1) := by decide +kernel
theorem dX9_pairs_41 : decode cX9_pairs 41 = .ok (.ireturn, 1) := by decide +kernel
theorem dX9_hold_0 : decode cX9_hold 0 = .ok (.iload_n 1, 1) := by decide +kernel
theorem dX9_hold_1 : decode cX9_hold 1 = .ok (.invokestatic 147, 3) := by decide +kernel
theorem dX9_hold_4 : decode cX9_hold 4 = .ok (.ifCond .eq 10, 3) := by decide +kernel
theorem dX9_hold_7 : decode cX9_hold 7 = .ok (.iload_n 2, 1) := by decide +kernel
theorem dX9_hold_8 : decode cX9_hold 8 = .ok (.invokestatic 147, 3) := by decide +kernel
theorem dX9_hold_11 : decode cX9_hold 11 = .ok (.ifCond .ne 5, 3) := by decide +kernel
theorem dX9_hold_14 : decode cX9_hold 14 = .ok (.iconst (-1), 1) := by decide +kernel
theorem dX9_hold_15 : decode cX9_hold 15 = .ok (.ireturn, 1) := by decide +kernel
theorem dX9_hold_16 : decode cX9_hold 16 = .ok (.iload_n 1, 1) := by decide +kernel
theorem dX9_hold_17 : decode cX9_hold 17 = .ok (.iload_n 2, 1) := by decide +kernel
theorem dX9_hold_18 : decode cX9_hold 18 = .ok (.if_icmp .ne 6, 3) := by decide +kernel
theorem dX9_hold_21 : decode cX9_hold 21 = .ok (.bipush (-2), 2) := by decide +kernel
theorem dX9_hold_23 : decode cX9_hold 23 = .ok (.ireturn, 1) := by decide +kernel
theorem dX9_hold_24 : decode cX9_hold 24 = .ok (.aload_n 0, 1) := by decide +kernel
theorem dX9_hold_25 : decode cX9_hold 25 = .ok (.getfield 7, 3) := by decide +kernel
theorem dX9_hold_28 : decode cX9_hold 28 = .ok (.bipush 20, 2) := by decide +kernel
theorem dX9_hold_30 : decode cX9_hold 30 = .ok (.iload_n 1, 1) := by decide +kernel
theorem dX9_hold_31 : decode cX9_hold 31 = .ok (.iadd, 1) := by decide +kernel
theorem dX9_hold_32 : decode cX9_hold 32 = .ok (.iaload, 1) := by decide +kernel
theorem dX9_hold_33 : decode cX9_hold 33 = .ok (.bipush (-5), 2) := by decide +kernel
theorem dX9_hold_35 : decode cX9_hold 35 = .ok (.if_icmp .ne 33, 3) := by decide +kernel
theorem dX9_hold_38 : decode cX9_hold 38 = .ok (.aload_n 0, 1) := by decide +kernel
theorem dX9_hold_39 : decode cX9_hold 39 = .ok (.getfield 7, 3) := by decide +kernel
theorem dX9_hold_42 : decode cX9_hold 42 = .ok (.bipush 20, 2) := by decide +kernel
theorem dX9_hold_44 : decode cX9_hold 44 = .ok (.iload_n 2, 1) := by decide +kernel
theorem dX9_hold_45 : decode cX9_hold 45 = .ok (.iadd, 1) := by decide +kernel
theorem dX9_hold_46 : decode cX9_hold 46 = .ok (.iaload, 1) := by decide +kernel
theorem dX9_hold_47 : decode cX9_hold 47 = .ok (.bipush (-5), 2) := by decide +kernel
theorem dX9_hold_49 : decode cX9_hold 49 = .ok (.if_icmp .ne 19, 3) := by decide +kernel
theorem dX9_hold_52 : decode cX9_hold 52 = .ok (.aload_n 0, 1) := by decide +kernel
theorem dX9_hold_53 : decode cX9_hold 53 = .ok (.iload_n 1, 1) := by decide +kernel
theorem dX9_hold_54 : decode cX9_hold 54 = .ok (.invokevirtual 123, 3) := by decide +kernel
theorem dX9_hold_57 : decode cX9_hold 57 = .ok (.aload_n 0, 1) := by decide +kernel
theorem dX9_hold_58 : decode cX9_hold 58 = .ok (.iload_n 2, 1) := by decide +kernel
theorem dX9_hold_59 : decode cX9_hold 59 = .ok (.invokevirtual 123, 3) := by decide +kernel
theorem dX9_hold_62 : decode cX9_hold 62 = .ok (.invokestatic 126, 3) := by decide +kernel
theorem dX9_hold_65 : decode cX9_hold 65 = .ok (.ifCond .ne 6, 3) := by decide +kernel
theorem dX9_hold_68 : decode cX9_hold 68 = .ok (.bipush (-4), 2) := by decide +kernel
theorem dX9_hold_70 : decode cX9_hold 70 = .ok (.ireturn, 1) := by decide +kernel
theorem dX9_hold_71 : decode cX9_hold 71 = .ok (.aload_n 0, 1) := by decide +kernel
theorem dX9_hold_72 : decode cX9_hold 72 = .ok (.invokevirtual 78, 3) := by decide +kernel
theorem dX9_hold_75 : decode cX9_hold 75 = .ok (.aload_n 0, 1) := by decide +kernel
theorem dX9_hold_76 : decode cX9_hold 76 = .ok (.getfield 7, 3) := by decide +kernel
theorem dX9_hold_79 : decode cX9_hold 79 = .ok (.bipush 20, 2) := by decide +kernel
theorem dX9_hold_81 : decode cX9_hold 81 = .ok (.iload_n 1, 1) := by decide +kernel
theorem dX9_hold_82 : decode cX9_hold 82 = .ok (.iadd, 1) := by decide +kernel
theorem dX9_hold_83 : decode cX9_hold 83 = .ok (.iload_n 2, 1) := by decide +kernel
theorem dX9_hold_84 : decode cX9_hold 84 = .ok (.iastore, 1) := by decide +kernel
theorem dX9_hold_85 : decode cX9_hold 85 = .ok (.aload_n 0, 1) := by decide +kernel
theorem dX9_hold_86 : decode cX9_hold 86 = .ok (.getfield 7, 3) := by decide +kernel
theorem dX9_hold_89 : decode cX9_hold 89 = .ok (.bipush 20, 2) := by decide +kernel
theorem dX9_hold_91 : decode cX9_hold 91 = .ok (.iload_n 2, 1) := by decide +kernel
theorem dX9_hold_92 : decode cX9_hold 92 = .ok (.iadd, 1) := by decide +kernel
theorem dX9_hold_93 : decode cX9_hold 93 = .ok (.iload_n 1, 1) := by decide +kernel
theorem dX9_hold_94 : decode cX9_hold 94 = .ok (.iastore, 1) := by decide +kernel
theorem dX9_hold_95 : decode cX9_hold 95 = .ok (.aload_n 0, 1) := by decide +kernel
theorem dX9_hold_96 : decode cX9_hold 96 = .ok (.invokevirtual 150, 3) := by decide +kernel
theorem dX9_hold_99 : decode cX9_hold 99 = .ok (.ireturn, 1) := by decide +kernel
theorem dX9_release_0 : decode cX9_release 0 = .ok (.iload_n 1, 1) := by decide +kernel
theorem dX9_release_1 : decode cX9_release 1 = .ok (.invokestatic 147, 3) := by decide +kernel
theorem dX9_release_4 : decode cX9_release 4 = .ok (.ifCond .ne 5, 3) := by decide +kernel
theorem dX9_release_7 : decode cX9_release 7 = .ok (.iconst (-1), 1) := by decide +kernel
theorem dX9_release_8 : decode cX9_release 8 = .ok (.ireturn, 1) := by decide +kernel
theorem dX9_release_9 : decode cX9_release 9 = .ok (.aload_n 0, 1) := by decide +kernel
theorem dX9_release_10 : decode cX9_release 10 = .ok (.getfield 7, 3) := by decide +kernel
theorem dX9_release_13 : decode cX9_release 13 = .ok (.bipush 20, 2) := by decide +kernel
theorem dX9_release_15 : decode cX9_release 15 = .ok (.iload_n 1, 1) := by decide +kernel
theorem dX9_release_16 : decode cX9_release 16 = .ok (.iadd, 1) := by decide +kernel
theorem dX9_release_17 : decode cX9_release 17 = .ok (.iaload, 1) := by decide +kernel
theorem dX9_release_18 : decode cX9_release 18 = .ok (.bipush (-5), 2) := by decide +kernel
theorem dX9_release_20 : decode cX9_release 20 = .ok (.if_icmp .ne 6, 3) := by decide +kernel
theorem dX9_release_23 : decode cX9_release 23 = .ok (.bipush (-4), 2) := by decide +kernel
theorem dX9_release_25 : decode cX9_release 25 = .ok (.ireturn, 1) := by decide +kernel
theorem dX9_release_26 : decode cX9_release 26 = .ok (.aload_n 0, 1) := by decide +kernel
theorem dX9_release_27 : decode cX9_release 27 = .ok (.invokevirtual 78, 3) := by decide +kernel
theorem dX9_release_30 : decode cX9_release 30 = .ok (.aload_n 0, 1) := by decide +kernel
theorem dX9_release_31 : decode cX9_release 31 = .ok (.getfield 7, 3) := by decide +kernel
theorem dX9_release_34 : decode cX9_release 34 = .ok (.bipush 20, 2) := by decide +kernel
theorem dX9_release_36 : decode cX9_release 36 = .ok (.iload_n 1, 1) := by decide +kernel
theorem dX9_release_37 : decode cX9_release 37 = .ok (.iadd, 1) := by decide +kernel
theorem dX9_release_38 : decode cX9_release 38 = .ok (.iaload, 1) := by decide +kernel
theorem dX9_release_39 : decode cX9_release 39 = .ok (.istore_n 2, 1) := by decide +kernel
theorem dX9_release_40 : decode cX9_release 40 = .ok (.aload_n 0, 1) := by decide +kernel
theorem dX9_release_41 : decode cX9_release 41 = .ok (.getfield 7, 3) := by decide +kernel
theorem dX9_release_44 : decode cX9_release 44 = .ok (.bipush 20, 2) := by decide +kernel
theorem dX9_release_46 : decode cX9_release 46 = .ok (.iload_n 1, 1) := by decide +kernel
theorem dX9_release_47 : decode cX9_release 47 = .ok (.iadd, 1) := by decide +kernel
theorem dX9_release_48 : decode cX9_release 48 = .ok (.bipush (-5), 2) := by decide +kernel
theorem dX9_release_50 : decode cX9_release 50 = .ok (.iastore, 1) := by decide +kernel
theorem dX9_release_51 : decode cX9_release 51 = .ok (.aload_n 0, 1) := by decide +kernel
theorem dX9_release_52 : decode cX9_release 52 = .ok (.getfield 7, 3) := by decide +kernel
theorem dX9_release_55 : decode cX9_release 55 = .ok (.bipush 20, 2) := by decide +kernel
theorem dX9_release_57 : decode cX9_release 57 = .ok (.iload_n 2, 1) := by decide +kernel
theorem dX9_release_58 : decode cX9_release 58 = .ok (.iadd, 1) := by decide +kernel
theorem dX9_release_59 : decode cX9_release 59 = .ok (.bipush (-5), 2) := by decide +kernel
theorem dX9_release_61 : decode cX9_release 61 = .ok (.iastore, 1) := by decide +kernel
theorem dX9_release_62 : decode cX9_release 62 = .ok (.iload_n 2, 1) := by decide +kernel
theorem dX9_release_63 : decode cX9_release 63 = .ok (.ireturn, 1) := by decide +kernel
theorem dX9_dance_0 : decode cX9_dance 0 = .ok (.iload_n 1, 1) := by decide +kernel
theorem dX9_dance_1 : decode cX9_dance 1 = .ok (.invokestatic 97, 3) := by decide +kernel
theorem dX9_dance_4 : decode cX9_dance 4 = .ok (.ifCond .ne 5, 3) := by decide +kernel
theorem dX9_dance_7 : decode cX9_dance 7 = .ok (.iconst (-1), 1) := by decide +kernel
theorem dX9_dance_8 : decode cX9_dance 8 = .ok (.ireturn, 1) := by decide +kernel
theorem dX9_dance_9 : decode cX9_dance 9 = .ok (.iload_n 2, 1) := by decide +kernel
theorem dX9_dance_10 : decode cX9_dance 10 = .ok (.iconst 1, 1) := by decide +kernel
theorem dX9_dance_11 : decode cX9_dance 11 = .ok (.bipush 9, 2) := by decide +kernel
theorem dX9_dance_13 : decode cX9_dance 13 = .ok (.invokestatic 62, 3) := by decide +kernel
theorem dX9_dance_16 : decode cX9_dance 16 = .ok (.ifCond .ne 6, 3) := by decide +kernel
theorem dX9_dance_19 : decode cX9_dance 19 = .ok (.bipush (-2), 2) := by decide +kernel
theorem dX9_dance_21 : decode cX9_dance 21 = .ok (.ireturn, 1) := by decide +kernel
theorem dX9_dance_22 : decode cX9_dance 22 = .ok (.aload_n 0, 1) := by decide +kernel
theorem dX9_dance_23 : decode cX9_dance 23 = .ok (.iload_n 1, 1) := by decide +kernel
theorem dX9_dance_24 : decode cX9_dance 24 = .ok (.iload_n 2, 1) := by decide +kernel
theorem dX9_dance_25 : decode cX9_dance 25 = .ok (.iload_n 3, 1) := by decide +kernel
theorem dX9_dance_26 : decode cX9_dance 26 = .ok (.invokevirtual 140, 3) := by decide +kernel
theorem dX9_dance_29 : decode cX9_dance 29 = .ok (.istore 4, 2) := by decide +kernel
theorem dX9_dance_31 : decode cX9_dance 31 = .ok (.aload_n 0, 1) := by decide +kernel
theorem dX9_dance_32 : decode cX9_dance 32 = .ok (.invokevirtual 144, 3) := by decide +kernel
theorem dX9_dance_35 : decode cX9_dance 35 = .ok (.iload 4, 2) := by decide +kernel
theorem dX9_dance_37 : decode cX9_dance 37 = .ok (.iload_n 2, 1) := by decide +kernel
theorem dX9_dance_38 : decode cX9_dance 38 = .ok (.aload_n 0, 1) := by decide +kernel
theorem dX9_dance_39 : decode cX9_dance 39 = .ok (.getfield 19, 3) := by decide +kernel
theorem dX9_dance_42 : decode cX9_dance 42 = .ok (.iload_n 1, 1) := by decide +kernel
theorem dX9_dance_43 : decode cX9_dance 43 = .ok (.iaload, 1) := by decide +kernel
theorem dX9_dance_44 : decode cX9_dance 44 = .ok (.imul, 1) := by decide +kernel
theorem dX9_dance_45 : decode cX9_dance 45 = .ok (.if_icmp .ge 9, 3) := by decide +kernel
theorem dX9_dance_48 : decode cX9_dance 48 = .ok (.bipush (-100), 2) := by decide +kernel
theorem dX9_dance_50 : decode cX9_dance 50 = .ok (.iload 4, 2) := by decide +kernel
theorem dX9_dance_52 : decode cX9_dance 52 = .ok (.isub, 1) := by decide +kernel
theorem dX9_dance_53 : decode cX9_dance 53 = .ok (.ireturn, 1) := by decide +kernel
theorem dX9_dance_54 : decode cX9_dance 54 = .ok (.aload_n 0, 1) := by decide +kernel
theorem dX9_dance_55 : decode cX9_dance 55 = .ok (.invokevirtual 78, 3) := by decide +kernel
theorem dX9_dance_58 : decode cX9_dance 58 = .ok (.aload_n 0, 1) := by decide +kernel
theorem dX9_dance_59 : decode cX9_dance 59 = .ok (.iload_n 1, 1) := by decide +kernel
theorem dX9_dance_60 : decode cX9_dance 60 = .ok (.iload_n 2, 1) := by decide +kernel
theorem dX9_dance_61 : decode cX9_dance 61 = .ok (.iload_n 3, 1) := by decide +kernel
theorem dX9_dance_62 : decode cX9_dance 62 = .ok (.invokevirtual 154, 3) := by decide +kernel
theorem dX9_dance_65 : decode cX9_dance 65 = .ok (.ireturn, 1) := by decide +kernel
theorem dX9_goHome_0 : decode cX9_goHome 0 = .ok (.aload_n 0, 1) := by decide +kernel
theorem dX9_goHome_1 : decode cX9_goHome 1 = .ok (.invokevirtual 78, 3) := by decide +kernel
theorem dX9_goHome_4 : decode cX9_goHome 4 = .ok (.bipush 10, 2) := by decide +kernel
theorem dX9_goHome_6 : decode cX9_goHome 6 = .ok (.aload_n 0, 1) := by decide +kernel
theorem dX9_goHome_7 : decode cX9_goHome 7 = .ok (.iconst 1, 1) := by decide +kernel
theorem dX9_goHome_8 : decode cX9_goHome 8 = .ok (.invokevirtual 74, 3) := by decide +kernel
theorem dX9_goHome_11 : decode cX9_goHome 11 = .ok (.isub, 1) := by decide +kernel
theorem dX9_goHome_12 : decode cX9_goHome 12 = .ok (.istore_n 1, 1) := by decide +kernel
theorem dX9_goHome_13 : decode cX9_goHome 13 = .ok (.iconst 0, 1) := by decide +kernel
theorem dX9_goHome_14 : decode cX9_goHome 14 = .ok (.istore_n 2, 1) := by decide +kernel
theorem dX9_goHome_15 : decode cX9_goHome 15 = .ok (.iload_n 2, 1) := by decide +kernel
theorem dX9_goHome_16 : decode cX9_goHome 16 = .ok (.bipush 10, 2) := by decide +kernel
theorem dX9_goHome_18 : decode cX9_goHome 18 = .ok (.if_icmp .ge 28, 3) := by decide +kernel
theorem dX9_goHome_21 : decode cX9_goHome 21 = .ok (.aload_n 0, 1) := by decide +kernel
theorem dX9_goHome_22 : decode cX9_goHome 22 = .ok (.getfield 7, 3) := by decide +kernel
theorem dX9_goHome_25 : decode cX9_goHome 25 = .ok (.iconst 0, 1) := by decide +kernel
theorem dX9_goHome_26 : decode cX9_goHome 26 = .ok (.iload_n 2, 1) := by decide +kernel
theorem dX9_goHome_27 : decode cX9_goHome 27 = .ok (.iadd, 1) := by decide +kernel
theorem dX9_goHome_28 : decode cX9_goHome 28 = .ok (.iload_n 2, 1) := by decide +kernel
theorem dX9_goHome_29 : decode cX9_goHome 29 = .ok (.iastore, 1) := by decide +kernel
theorem dX9_goHome_30 : decode cX9_goHome 30 = .ok (.aload_n 0, 1) := by decide +kernel
theorem dX9_goHome_31 : decode cX9_goHome 31 = .ok (.getfield 7, 3) := by decide +kernel
theorem dX9_goHome_34 : decode cX9_goHome 34 = .ok (.bipush 10, 2) := by decide +kernel
theorem dX9_goHome_36 : decode cX9_goHome 36 = .ok (.iload_n 2, 1) := by decide +kernel
theorem dX9_goHome_37 : decode cX9_goHome 37 = .ok (.iadd, 1) := by decide +kernel
theorem dX9_goHome_38 : decode cX9_goHome 38 = .ok (.iconst 0, 1) := by decide +kernel
theorem dX9_goHome_39 : decode cX9_goHome 39 = .ok (.iastore, 1) := by decide +kernel
theorem dX9_goHome_40 : decode cX9_goHome 40 = .ok (.iinc 2 1, 3) := by decide +kernel
theorem dX9_goHome_43 : decode cX9_goHome 43 = .ok (.goto (-28), 3) := by decide +kernel
theorem dX9_goHome_46 : decode cX9_goHome 46 = .ok (.iconst 0, 1) := by decide +kernel
theorem dX9_goHome_47 : decode cX9_goHome 47 = .ok (.istore_n 2, 1) := by decide +kernel
theorem dX9_goHome_48 : decode cX9_goHome 48 = .ok (.iload_n 2, 1) := by decide +kernel
theorem dX9_goHome_49 : decode cX9_goHome 49 = .ok (.bipush 10, 2) := by decide +kernel
end
section
theorem dX9_goHome_51 : decode cX9_goHome 51 = .ok (.if_icmp .ge 67, 3) := by decide +kernel
theorem dX9_goHome_54 : decode cX9_goHome 54 = .ok (.aload_n 0, 1) := by decide +kernel
theorem dX9_goHome_55 : decode cX9_goHome 55 = .ok (.getfield 7, 3) := by decide +kernel
theorem dX9_goHome_58 : decode cX9_goHome 58 = .ok (.bipush 20, 2) := by decide +kernel
theorem dX9_goHome_60 : decode cX9_goHome 60 = .ok (.iload_n 2, 1) := by decide +kernel
theorem dX9_goHome_61 : decode cX9_goHome 61 = .ok (.iadd, 1) := by decide +kernel
theorem dX9_goHome_62 : decode cX9_goHome 62 = .ok (.iaload, 1) := by decide +kernel
theorem dX9_goHome_63 : decode cX9_goHome 63 = .ok (.istore_n 3, 1) := by decide +kernel
theorem dX9_goHome_64 : decode cX9_goHome 64 = .ok (.iload_n 3, 1) := by decide +kernel
theorem dX9_goHome_65 : decode cX9_goHome 65 = .ok (.bipush (-5), 2) := by decide +kernel
theorem dX9_goHome_67 : decode cX9_goHome 67 = .ok (.if_icmp .eq 45, 3) := by decide +kernel
theorem dX9_goHome_70 : decode cX9_goHome 70 = .ok (.iload_n 2, 1) := by decide +kernel
theorem dX9_goHome_71 : decode cX9_goHome 71 = .ok (.iload_n 3, 1) := by decide +kernel
theorem dX9_goHome_72 : decode cX9_goHome 72 = .ok (.invokestatic 126, 3) := by decide +kernel
theorem dX9_goHome_75 : decode cX9_goHome 75 = .ok (.ifCond .ne 37, 3) := by decide +kernel
theorem dX9_goHome_78 : decode cX9_goHome 78 = .ok (.aload_n 0, 1) := by decide +kernel
theorem dX9_goHome_79 : decode cX9_goHome 79 = .ok (.getfield 7, 3) := by decide +kernel
theorem dX9_goHome_82 : decode cX9_goHome 82 = .ok (.bipush 20, 2) := by decide +kernel
theorem dX9_goHome_84 : decode cX9_goHome 84 = .ok (.iload_n 2, 1) := by decide +kernel
theorem dX9_goHome_85 : decode cX9_goHome 85 = .ok (.iadd, 1) := by decide +kernel
theorem dX9_goHome_86 : decode cX9_goHome 86 = .ok (.bipush (-5), 2) := by decide +kernel
theorem dX9_goHome_88 : decode cX9_goHome 88 = .ok (.iastore, 1) := by decide +kernel
theorem dX9_goHome_89 : decode cX9_goHome 89 = .ok (.aload_n 0, 1) := by decide +kernel
theorem dX9_goHome_90 : decode cX9_goHome 90 = .ok (.getfield 7, 3) := by decide +kernel
theorem dX9_goHome_93 : decode cX9_goHome 93 = .ok (.bipush 20, 2) := by decide +kernel
theorem dX9_goHome_95 : decode cX9_goHome 95 = .ok (.iload_n 3, 1) := by decide +kernel
theorem dX9_goHome_96 : decode cX9_goHome 96 = .ok (.iadd, 1) := by decide +kernel
theorem dX9_goHome_97 : decode cX9_goHome 97 = .ok (.bipush (-5), 2) := by decide +kernel
theorem dX9_goHome_99 : decode cX9_goHome 99 = .ok (.iastore, 1) := by decide +kernel
theorem dX9_goHome_100 : decode cX9_goHome 100 = .ok (.aload_n 0, 1) := by decide +kernel
theorem dX9_goHome_101 : decode cX9_goHome 101 = .ok (.getfield 7, 3) := by decide +kernel
theorem dX9_goHome_104 : decode cX9_goHome 104 = .ok (.sipush 280, 3) := by decide +kernel
theorem dX9_goHome_107 : decode cX9_goHome 107 = .ok (.dup2, 1) := by decide +kernel
theorem dX9_goHome_108 : decode cX9_goHome 108 = .ok (.iaload, 1) := by decide +kernel
theorem dX9_goHome_109 : decode cX9_goHome 109 = .ok (.iconst 1, 1) := by decide +kernel
theorem dX9_goHome_110 : decode cX9_goHome 110 = .ok (.iadd, 1) := by decide +kernel
theorem dX9_goHome_111 : decode cX9_goHome 111 = .ok (.iastore, 1) := by decide +kernel
theorem dX9_goHome_112 : decode cX9_goHome 112 = .ok (.iinc 2 1, 3) := by decide +kernel
theorem dX9_goHome_115 : decode cX9_goHome 115 = .ok (.goto (-67), 3) := by decide +kernel
theorem dX9_goHome_118 : decode cX9_goHome 118 = .ok (.iload_n 1, 1) := by decide +kernel
theorem dX9_goHome_119 : decode cX9_goHome 119 = .ok (.ireturn, 1) := by decide +kernel
theorem dX9_append_0 : decode cX9_append 0 = .ok (.iload_n 1, 1) := by decide +kernel
theorem dX9_append_1 : decode cX9_append 1 = .ok (.bipush 32, 2) := by decide +kernel
theorem dX9_append_3 : decode cX9_append 3 = .ok (.bipush 126, 2) := by decide +kernel
theorem dX9_append_5 : decode cX9_append 5 = .ok (.invokestatic 62, 3) := by decide +kernel
theorem dX9_append_8 : decode cX9_append 8 = .ok (.ifCond .ne 6, 3) := by decide +kernel
theorem dX9_append_11 : decode cX9_append 11 = .ok (.bipush (-2), 2) := by decide +kernel
theorem dX9_append_13 : decode cX9_append 13 = .ok (.ireturn, 1) := by decide +kernel
theorem dX9_append_14 : decode cX9_append 14 = .ok (.aload_n 0, 1) := by decide +kernel
theorem dX9_append_15 : decode cX9_append 15 = .ok (.getfield 157, 3) := by decide +kernel
theorem dX9_append_18 : decode cX9_append 18 = .ok (.bipush 80, 2) := by decide +kernel
theorem dX9_append_20 : decode cX9_append 20 = .ok (.if_icmp .ne 6, 3) := by decide +kernel
theorem dX9_append_23 : decode cX9_append 23 = .ok (.bipush (-3), 2) := by decide +kernel
theorem dX9_append_25 : decode cX9_append 25 = .ok (.ireturn, 1) := by decide +kernel
theorem dX9_append_26 : decode cX9_append 26 = .ok (.aload_n 0, 1) := by decide +kernel
theorem dX9_append_27 : decode cX9_append 27 = .ok (.getfield 40, 3) := by decide +kernel
theorem dX9_append_30 : decode cX9_append 30 = .ok (.aload_n 0, 1) := by decide +kernel
theorem dX9_append_31 : decode cX9_append 31 = .ok (.getfield 157, 3) := by decide +kernel
theorem dX9_append_34 : decode cX9_append 34 = .ok (.iload_n 1, 1) := by decide +kernel
theorem dX9_append_35 : decode cX9_append 35 = .ok (.iastore, 1) := by decide +kernel
theorem dX9_append_36 : decode cX9_append 36 = .ok (.aload_n 0, 1) := by decide +kernel
theorem dX9_append_37 : decode cX9_append 37 = .ok (.dup, 1) := by decide +kernel
theorem dX9_append_38 : decode cX9_append 38 = .ok (.getfield 157, 3) := by decide +kernel
theorem dX9_append_41 : decode cX9_append 41 = .ok (.iconst 1, 1) := by decide +kernel
theorem dX9_append_42 : decode cX9_append 42 = .ok (.iadd, 1) := by decide +kernel
theorem dX9_append_43 : decode cX9_append 43 = .ok (.putfield 157, 3) := by decide +kernel
theorem dX9_append_46 : decode cX9_append 46 = .ok (.aload_n 0, 1) := by decide +kernel
theorem dX9_append_47 : decode cX9_append 47 = .ok (.getfield 157, 3) := by decide +kernel
theorem dX9_append_50 : decode cX9_append 50 = .ok (.ireturn, 1) := by decide +kernel
theorem dX9_clearText_0 : decode cX9_clearText 0 = .ok (.aload_n 0, 1) := by decide +kernel
theorem dX9_clearText_1 : decode cX9_clearText 1 = .ok (.getfield 157, 3) := by decide +kernel
theorem dX9_clearText_4 : decode cX9_clearText 4 = .ok (.istore_n 1, 1) := by decide +kernel
theorem dX9_clearText_5 : decode cX9_clearText 5 = .ok (.aload_n 0, 1) := by decide +kernel
theorem dX9_clearText_6 : decode cX9_clearText 6 = .ok (.iconst 0, 1) := by decide +kernel
theorem dX9_clearText_7 : decode cX9_clearText 7 = .ok (.putfield 157, 3) := by decide +kernel
theorem dX9_clearText_10 : decode cX9_clearText 10 = .ok (.iload_n 1, 1) := by decide +kernel
theorem dX9_clearText_11 : decode cX9_clearText 11 = .ok (.ireturn, 1) := by decide +kernel
theorem dX9_takes_0 : decode cX9_takes 0 = .ok (.aload_n 0, 1) := by decide +kernel
theorem dX9_takes_1 : decode cX9_takes 1 = .ok (.getfield 160, 3) := by decide +kernel
theorem dX9_takes_4 : decode cX9_takes 4 = .ok (.aload_n 0, 1) := by decide +kernel
theorem dX9_takes_5 : decode cX9_takes 5 = .ok (.getfield 157, 3) := by decide +kernel
theorem dX9_takes_8 : decode cX9_takes 8 = .ok (.if_icmp .ge 24, 3) := by decide +kernel
theorem dX9_takes_11 : decode cX9_takes 11 = .ok (.aload_n 0, 1) := by decide +kernel
theorem dX9_takes_12 : decode cX9_takes 12 = .ok (.getfield 40, 3) := by decide +kernel
theorem dX9_takes_15 : decode cX9_takes 15 = .ok (.aload_n 0, 1) := by decide +kernel
theorem dX9_takes_16 : decode cX9_takes 16 = .ok (.getfield 160, 3) := by decide +kernel
theorem dX9_takes_19 : decode cX9_takes 19 = .ok (.iaload, 1) := by decide +kernel
theorem dX9_takes_20 : decode cX9_takes 20 = .ok (.iload_n 1, 1) := by decide +kernel
theorem dX9_takes_21 : decode cX9_takes 21 = .ok (.iload_n 2, 1) := by decide +kernel
theorem dX9_takes_22 : decode cX9_takes 22 = .ok (.invokestatic 62, 3) := by decide +kernel
theorem dX9_takes_25 : decode cX9_takes 25 = .ok (.ifCond .eq 7, 3) := by decide +kernel
theorem dX9_takes_28 : decode cX9_takes 28 = .ok (.iconst 1, 1) := by decide +kernel
theorem dX9_takes_29 : decode cX9_takes 29 = .ok (.goto 4, 3) := by decide +kernel
theorem dX9_takes_32 : decode cX9_takes 32 = .ok (.iconst 0, 1) := by decide +kernel
theorem dX9_takes_33 : decode cX9_takes 33 = .ok (.istore_n 3, 1) := by decide +kernel
theorem dX9_takes_34 : decode cX9_takes 34 = .ok (.aload_n 0, 1) := by decide +kernel
theorem dX9_takes_35 : decode cX9_takes 35 = .ok (.dup, 1) := by decide +kernel
theorem dX9_takes_36 : decode cX9_takes 36 = .ok (.getfield 160, 3) := by decide +kernel
theorem dX9_takes_39 : decode cX9_takes 39 = .ok (.iload_n 3, 1) := by decide +kernel
theorem dX9_takes_40 : decode cX9_takes 40 = .ok (.ifCond .eq 7, 3) := by decide +kernel
theorem dX9_takes_43 : decode cX9_takes 43 = .ok (.iconst 1, 1) := by decide +kernel
theorem dX9_takes_44 : decode cX9_takes 44 = .ok (.goto 4, 3) := by decide +kernel
theorem dX9_takes_47 : decode cX9_takes 47 = .ok (.iconst 0, 1) := by decide +kernel
theorem dX9_takes_48 : decode cX9_takes 48 = .ok (.iadd, 1) := by decide +kernel
theorem dX9_takes_49 : decode cX9_takes 49 = .ok (.putfield 160, 3) := by decide +kernel
theorem dX9_takes_52 : decode cX9_takes 52 = .ok (.iload_n 3, 1) := by decide +kernel
theorem dX9_takes_53 : decode cX9_takes 53 = .ok (.ireturn, 1) := by decide +kernel
theorem dX9_readCall_0 : decode cX9_readCall 0 = .ok (.aload_n 0, 1) := by decide +kernel
theorem dX9_readCall_1 : decode cX9_readCall 1 = .ok (.bipush 65, 2) := by decide +kernel
theorem dX9_readCall_3 : decode cX9_readCall 3 = .ok (.bipush 72, 2) := by decide +kernel
theorem dX9_readCall_5 : decode cX9_readCall 5 = .ok (.invokevirtual 163, 3) := by decide +kernel
theorem dX9_readCall_8 : decode cX9_readCall 8 = .ok (.ifCond .ne 5, 3) := by decide +kernel
theorem dX9_readCall_11 : decode cX9_readCall 11 = .ok (.iconst 0, 1) := by decide +kernel
theorem dX9_readCall_12 : decode cX9_readCall 12 = .ok (.ireturn, 1) := by decide +kernel
theorem dX9_readCall_13 : decode cX9_readCall 13 = .ok (.aload_n 0, 1) := by decide +kernel
theorem dX9_readCall_14 : decode cX9_readCall 14 = .ok (.getfield 43, 3) := by decide +kernel
theorem dX9_readCall_17 : decode cX9_readCall 17 = .ok (.aload_n 0, 1) := by decide +kernel
theorem dX9_readCall_18 : decode cX9_readCall 18 = .ok (.getfield 166, 3) := by decide +kernel
theorem dX9_readCall_21 : decode cX9_readCall 21 = .ok (.aload_n 0, 1) := by decide +kernel
theorem dX9_readCall_22 : decode cX9_readCall 22 = .ok (.getfield 40, 3) := by decide +kernel
theorem dX9_readCall_25 : decode cX9_readCall 25 = .ok (.aload_n 0, 1) := by decide +kernel
theorem dX9_readCall_26 : decode cX9_readCall 26 = .ok (.getfield 160, 3) := by decide +kernel
theorem dX9_readCall_29 : decode cX9_readCall 29 = .ok (.iconst 1, 1) := by decide +kernel
theorem dX9_readCall_30 : decode cX9_readCall 30 = .ok (.isub, 1) := by decide +kernel
theorem dX9_readCall_31 : decode cX9_readCall 31 = .ok (.iaload, 1) := by decide +kernel
theorem dX9_readCall_32 : decode cX9_readCall 32 = .ok (.bipush 65, 2) := by decide +kernel
theorem dX9_readCall_34 : decode cX9_readCall 34 = .ok (.isub, 1) := by decide +kernel
theorem dX9_readCall_35 : decode cX9_readCall 35 = .ok (.iastore, 1) := by decide +kernel
theorem dX9_readCall_36 : decode cX9_readCall 36 = .ok (.aload_n 0, 1) := by decide +kernel
theorem dX9_readCall_37 : decode cX9_readCall 37 = .ok (.getfield 46, 3) := by decide +kernel
theorem dX9_readCall_40 : decode cX9_readCall 40 = .ok (.aload_n 0, 1) := by decide +kernel
theorem dX9_readCall_41 : decode cX9_readCall 41 = .ok (.getfield 166, 3) := by decide +kernel
theorem dX9_readCall_44 : decode cX9_readCall 44 = .ok (.aload_n 0, 1) := by decide +kernel
theorem dX9_readCall_45 : decode cX9_readCall 45 = .ok (.bipush 50, 2) := by decide +kernel
theorem dX9_readCall_47 : decode cX9_readCall 47 = .ok (.bipush 57, 2) := by decide +kernel
theorem dX9_readCall_49 : decode cX9_readCall 49 = .ok (.invokevirtual 163, 3) := by decide +kernel
theorem dX9_readCall_52 : decode cX9_readCall 52 = .ok (.ifCond .eq 20, 3) := by decide +kernel
theorem dX9_readCall_55 : decode cX9_readCall 55 = .ok (.aload_n 0, 1) := by decide +kernel
theorem dX9_readCall_56 : decode cX9_readCall 56 = .ok (.getfield 40, 3) := by decide +kernel
theorem dX9_readCall_59 : decode cX9_readCall 59 = .ok (.aload_n 0, 1) := by decide +kernel
theorem dX9_readCall_60 : decode cX9_readCall 60 = .ok (.getfield 160, 3) := by decide +kernel
theorem dX9_readCall_63 : decode cX9_readCall 63 = .ok (.iconst 1, 1) := by decide +kernel
theorem dX9_readCall_64 : decode cX9_readCall 64 = .ok (.isub, 1) := by decide +kernel
theorem dX9_readCall_65 : decode cX9_readCall 65 = .ok (.iaload, 1) := by decide +kernel
theorem dX9_readCall_66 : decode cX9_readCall 66 = .ok (.bipush 48, 2) := by decide +kernel
theorem dX9_readCall_68 : decode cX9_readCall 68 = .ok (.isub, 1) := by decide +kernel
theorem dX9_readCall_69 : decode cX9_readCall 69 = .ok (.goto 4, 3) := by decide +kernel
theorem dX9_readCall_72 : decode cX9_readCall 72 = .ok (.iconst 1, 1) := by decide +kernel
theorem dX9_readCall_73 : decode cX9_readCall 73 = .ok (.iastore, 1) := by decide +kernel
theorem dX9_readCall_74 : decode cX9_readCall 74 = .ok (.aload_n 0, 1) := by decide +kernel
theorem dX9_readCall_75 : decode cX9_readCall 75 = .ok (.getfield 49, 3) := by decide +kernel
theorem dX9_readCall_78 : decode cX9_readCall 78 = .ok (.aload_n 0, 1) := by decide +kernel
theorem dX9_readCall_79 : decode cX9_readCall 79 = .ok (.getfield 166, 3) := by decide +kernel
theorem dX9_readCall_82 : decode cX9_readCall 82 = .ok (.aload_n 0, 1) := by decide +kernel
theorem dX9_readCall_83 : decode cX9_readCall 83 = .ok (.bipush 39, 2) := by decide +kernel
theorem dX9_readCall_85 : decode cX9_readCall 85 = .ok (.bipush 39, 2) := by decide +kernel
theorem dX9_readCall_87 : decode cX9_readCall 87 = .ok (.invokevirtual 163, 3) := by decide +kernel
theorem dX9_readCall_90 : decode cX9_readCall 90 = .ok (.bastore, 1) := by decide +kernel
theorem dX9_readCall_91 : decode cX9_readCall 91 = .ok (.aload_n 0, 1) := by decide +kernel
theorem dX9_readCall_92 : decode cX9_readCall 92 = .ok (.dup, 1) := by decide +kernel
theorem dX9_readCall_93 : decode cX9_readCall 93 = .ok (.getfield 166, 3) := by decide +kernel
theorem dX9_readCall_96 : decode cX9_readCall 96 = .ok (.iconst 1, 1) := by decide +kernel
theorem dX9_readCall_97 : decode cX9_readCall 97 = .ok (.iadd, 1) := by decide +kernel
theorem dX9_readCall_98 : decode cX9_readCall 98 = .ok (.putfield 166, 3) := by decide +kernel
theorem dX9_readCall_101 : decode cX9_readCall 101 = .ok (.iconst 1, 1) := by decide +kernel
theorem dX9_readCall_102 : decode cX9_readCall 102 = .ok (.ireturn, 1) := by decide +kernel
theorem dX9_isScript_0 : decode cX9_isScript 0 = .ok (.aload_n 0, 1) := by decide +kernel
theorem dX9_isScript_1 : decode cX9_isScript 1 = .ok (.iconst 0, 1) := by decide +kernel
theorem dX9_isScript_2 : decode cX9_isScript 2 = .ok (.putfield 160, 3) := by decide +kernel
theorem dX9_isScript_5 : decode cX9_isScript 5 = .ok (.aload_n 0, 1) := by decide +kernel
theorem dX9_isScript_6 : decode cX9_isScript 6 = .ok (.iconst 0, 1) := by decide +kernel
theorem dX9_isScript_7 : decode cX9_isScript 7 = .ok (.putfield 166, 3) := by decide +kernel
theorem dX9_isScript_10 : decode cX9_isScript 10 = .ok (.aload_n 0, 1) := by decide +kernel
theorem dX9_isScript_11 : decode cX9_isScript 11 = .ok (.invokevirtual 169, 3) := by decide +kernel
theorem dX9_isScript_14 : decode cX9_isScript 14 = .ok (.istore_n 1, 1) := by decide +kernel
theorem dX9_isScript_15 : decode cX9_isScript 15 = .ok (.iload_n 1, 1) := by decide +kernel
theorem dX9_isScript_16 : decode cX9_isScript 16 = .ok (.ifCond .eq 22, 3) := by decide +kernel
theorem dX9_isScript_19 : decode cX9_isScript 19 = .ok (.aload_n 0, 1) := by decide +kernel
theorem dX9_isScript_20 : decode cX9_isScript 20 = .ok (.bipush 32, 2) := by decide +kernel
theorem dX9_isScript_22 : decode cX9_isScript 22 = .ok (.bipush 32, 2) := by decide +kernel
theorem dX9_isScript_24 : decode cX9_isScript 24 = .ok (.invokevirtual 163, 3) := by decide +kernel
theorem dX9_isScript_27 : decode cX9_isScript 27 = .ok (.ifCond .eq 11, 3) := by decide +kernel
theorem dX9_isScript_30 : decode cX9_isScript 30 = .ok (.aload_n 0, 1) := by decide +kernel
theorem dX9_isScript_31 : decode cX9_isScript 31 = .ok (.invokevirtual 169, 3) := by decide +kernel
theorem dX9_isScript_34 : decode cX9_isScript 34 = .ok (.istore_n 1, 1) := by decide +kernel
theorem dX9_isScript_35 : decode cX9_isScript 35 = .ok (.goto (-20), 3) := by decide +kernel
theorem dX9_isScript_38 : decode cX9_isScript 38 = .ok (.iload_n 1, 1) := by decide +kernel
theorem dX9_isScript_39 : decode cX9_isScript 39 = .ok (.ifCond .eq 18, 3) := by decide +kernel
theorem dX9_isScript_42 : decode cX9_isScript 42 = .ok (.aload_n 0, 1) := by decide +kernel
theorem dX9_isScript_43 : decode cX9_isScript 43 = .ok (.getfield 160, 3) := by decide +kernel
theorem dX9_isScript_46 : decode cX9_isScript 46 = .ok (.aload_n 0, 1) := by decide +kernel
theorem dX9_isScript_47 : decode cX9_isScript 47 = .ok (.getfield 157, 3) := by decide +kernel
theorem dX9_isScript_50 : decode cX9_isScript 50 = .ok (.if_icmp .ne 7, 3) := by decide +kernel
theorem dX9_isScript_53 : decode cX9_isScript 53 = .ok (.iconst 1, 1) := by decide +kernel
theorem dX9_isScript_54 : decode cX9_isScript 54 = .ok (.goto 4, 3) := by decide +kernel
theorem dX9_isScript_57 : decode cX9_isScript 57 = .ok (.iconst 0, 1) := by decide +kernel
theorem dX9_isScript_58 : decode cX9_isScript 58 = .ok (.ireturn, 1) := by decide +kernel
theorem dX9_fault_0 : decode cX9_fault 0 = .ok (.aload_n 0, 1) := by decide +kernel
theorem dX9_fault_1 : decode cX9_fault 1 = .ok (.invokevirtual 172, 3) := by decide +kernel
theorem dX9_fault_4 : decode cX9_fault 4 = .ok (.ifCond .eq 8, 3) := by decide +kernel
theorem dX9_fault_7 : decode cX9_fault 7 = .ok (.bipush (-5), 2) := by decide +kernel
theorem dX9_fault_9 : decode cX9_fault 9 = .ok (.goto 7, 3) := by decide +kernel
theorem dX9_fault_12 : decode cX9_fault 12 = .ok (.aload_n 0, 1) := by decide +kernel
theorem dX9_fault_13 : decode cX9_fault 13 = .ok (.getfield 160, 3) := by decide +kernel
theorem dX9_fault_16 : decode cX9_fault 16 = .ok (.ireturn, 1) := by decide +kernel
theorem dX9_run_0 : decode cX9_run 0 = .ok (.aload_n 0, 1) := by decide +kernel
theorem dX9_run_1 : decode cX9_run 1 = .ok (.invokevirtual 172, 3) := by decide +kernel
theorem dX9_run_4 : decode cX9_run 4 = .ok (.ifCond .ne 11, 3) := by decide +kernel
theorem dX9_run_7 : decode cX9_run 7 = .ok (.bipush (-100), 2) := by decide +kernel
theorem dX9_run_9 : decode cX9_run 9 = .ok (.aload_n 0, 1) := by decide +kernel
theorem dX9_run_10 : decode cX9_run 10 = .ok (.getfield 160, 3) := by decide +kernel
theorem dX9_run_13 : decode cX9_run 13 = .ok (.isub, 1) := by decide +kernel
theorem dX9_run_14 : decode cX9_run 14 = .ok (.ireturn, 1) := by decide +kernel
theorem dX9_run_15 : decode cX9_run 15 = .ok (.aload_n 0, 1) := by decide +kernel
theorem dX9_run_16 : decode cX9_run 16 = .ok (.invokevirtual 78, 3) := by decide +kernel
theorem dX9_run_19 : decode cX9_run 19 = .ok (.iconst 0, 1) := by decide +kernel
theorem dX9_run_20 : decode cX9_run 20 = .ok (.istore_n 1, 1) := by decide +kernel
theorem dX9_run_21 : decode cX9_run 21 = .ok (.iconst 1, 1) := by decide +kernel
theorem dX9_run_22 : decode cX9_run 22 = .ok (.istore_n 2, 1) := by decide +kernel
theorem dX9_run_23 : decode cX9_run 23 = .ok (.iload_n 1, 1) := by decide +kernel
theorem dX9_run_24 : decode cX9_run 24 = .ok (.aload_n 0, 1) := by decide +kernel
theorem dX9_run_25 : decode cX9_run 25 = .ok (.getfield 166, 3) := by decide +kernel
theorem dX9_run_28 : decode cX9_run 28 = .ok (.if_icmp .ge 53, 3) := by decide +kernel
theorem dX9_run_31 : decode cX9_run 31 = .ok (.iload_n 2, 1) := by decide +kernel
theorem dX9_run_32 : decode cX9_run 32 = .ok (.ifCond .eq 49, 3) := by decide +kernel
theorem dX9_run_35 : decode cX9_run 35 = .ok (.aload_n 0, 1) := by decide +kernel
theorem dX9_run_36 : decode cX9_run 36 = .ok (.aload_n 0, 1) := by decide +kernel
theorem dX9_run_37 : decode cX9_run 37 = .ok (.getfield 43, 3) := by decide +kernel
theorem dX9_run_40 : decode cX9_run 40 = .ok (.iload_n 1, 1) := by decide +kernel
theorem dX9_run_41 : decode cX9_run 41 = .ok (.iaload, 1) := by decide +kernel
theorem dX9_run_42 : decode cX9_run 42 = .ok (.aload_n 0, 1) := by decide +kernel
theorem dX9_run_43 : decode cX9_run 43 = .ok (.getfield 46, 3) := by decide +kernel
theorem dX9_run_46 : decode cX9_run 46 = .ok (.iload_n 1, 1) := by decide +kernel
theorem dX9_run_47 : decode cX9_run 47 = .ok (.iaload, 1) := by decide +kernel
theorem dX9_run_48 : decode cX9_run 48 = .ok (.aload_n 0, 1) := by decide +kernel
theorem dX9_run_49 : decode cX9_run 49 = .ok (.getfield 49, 3) := by decide +kernel
theorem dX9_run_52 : decode cX9_run 52 = .ok (.iload_n 1, 1) := by decide +kernel
theorem dX9_run_53 : decode cX9_run 53 = .ok (.baload, 1) := by decide +kernel
theorem dX9_run_54 : decode cX9_run 54 = .ok (.invokevirtual 154, 3) := by decide +kernel
theorem dX9_run_57 : decode cX9_run 57 = .ok (.ifCond .lt 7, 3) := by decide +kernel
theorem dX9_run_60 : decode cX9_run 60 = .ok (.iconst 1, 1) := by decide +kernel
theorem dX9_run_61 : decode cX9_run 61 = .ok (.goto 4, 3) := by decide +kernel
theorem dX9_run_64 : decode cX9_run 64 = .ok (.iconst 0, 1) := by decide +kernel
theorem dX9_run_65 : decode cX9_run 65 = .ok (.istore_n 2, 1) := by decide +kernel
theorem dX9_run_66 : decode cX9_run 66 = .ok (.iload_n 1, 1) := by decide +kernel
theorem dX9_run_67 : decode cX9_run 67 = .ok (.iload_n 2, 1) := by decide +kernel
theorem dX9_run_68 : decode cX9_run 68 = .ok (.ifCond .eq 7, 3) := by decide +kernel
theorem dX9_run_71 : decode cX9_run 71 = .ok (.iconst 1, 1) := by decide +kernel
theorem dX9_run_72 : decode cX9_run 72 = .ok (.goto 4, 3) := by decide +kernel
theorem dX9_run_75 : decode cX9_run 75 = .ok (.iconst 0, 1) := by decide +kernel
theorem dX9_run_76 : decode cX9_run 76 = .ok (.iadd, 1) := by decide +kernel
theorem dX9_run_77 : decode cX9_run 77 = .ok (.istore_n 1, 1) := by decide +kernel
theorem dX9_run_78 : decode cX9_run 78 = .ok (.goto (-55), 3) := by decide +kernel
theorem dX9_run_81 : decode cX9_run 81 = .ok (.iload_n 1, 1) := by decide +kernel
theorem dX9_run_82 : decode cX9_run 82 = .ok (.ireturn, 1) := by decide +kernel
theorem dX9_dancer_0 : decode cX9_dancer 0 = .ok (.iload_n 1, 1) := by decide +kernel
theorem dX9_dancer_1 : decode cX9_dancer 1 = .ok (.invokestatic 147, 3) := by decide +kernel
theorem dX9_dancer_4 : decode cX9_dancer 4 = .ok (.ifCond .ne 5, 3) := by decide +kernel
theorem dX9_dancer_7 : decode cX9_dancer 7 = .ok (.iconst (-1), 1) := by decide +kernel
theorem dX9_dancer_8 : decode cX9_dancer 8 = .ok (.ireturn, 1) := by decide +kernel
theorem dX9_dancer_9 : decode cX9_dancer 9 = .ok (.iload_n 2, 1) := by decide +kernel
theorem dX9_dancer_10 : decode cX9_dancer 10 = .ok (.ifCond .ne 11, 3) := by decide +kernel
theorem dX9_dancer_13 : decode cX9_dancer 13 = .ok (.aload_n 0, 1) := by decide +kernel
theorem dX9_dancer_14 : decode cX9_dancer 14 = .ok (.iload_n 1, 1) := by decide +kernel
theorem dX9_dancer_15 : decode cX9_dancer 15 = .ok (.invokevirtual 123, 3) := by decide +kernel
theorem dX9_dancer_18 : decode cX9_dancer 18 = .ok (.goto 39, 3) := by decide +kernel
theorem dX9_dancer_21 : decode cX9_dancer 21 = .ok (.iload_n 2, 1) := by decide +kernel
theorem dX9_dancer_22 : decode cX9_dancer 22 = .ok (.iconst 1, 1) := by decide +kernel
theorem dX9_dancer_23 : decode cX9_dancer 23 = .ok (.if_icmp .ne 15, 3) := by decide +kernel
theorem dX9_dancer_26 : decode cX9_dancer 26 = .ok (.aload_n 0, 1) := by decide +kernel
theorem dX9_dancer_27 : decode cX9_dancer 27 = .ok (.getfield 7, 3) := by decide +kernel
theorem dX9_dancer_30 : decode cX9_dancer 30 = .ok (.bipush 10, 2) := by decide +kernel
theorem dX9_dancer_32 : decode cX9_dancer 32 = .ok (.iload_n 1, 1) := by decide +kernel
theorem dX9_dancer_33 : decode cX9_dancer 33 = .ok (.iadd, 1) := by decide +kernel
theorem dX9_dancer_34 : decode cX9_dancer 34 = .ok (.iaload, 1) := by decide +kernel
theorem dX9_dancer_35 : decode cX9_dancer 35 = .ok (.goto 22, 3) := by decide +kernel
theorem dX9_dancer_38 : decode cX9_dancer 38 = .ok (.iload_n 2, 1) := by decide +kernel
theorem dX9_dancer_39 : decode cX9_dancer 39 = .ok (.iconst 2, 1) := by decide +kernel
theorem dX9_dancer_40 : decode cX9_dancer 40 = .ok (.if_icmp .ne 15, 3) := by decide +kernel
theorem dX9_dancer_43 : decode cX9_dancer 43 = .ok (.aload_n 0, 1) := by decide +kernel
theorem dX9_dancer_44 : decode cX9_dancer 44 = .ok (.getfield 7, 3) := by decide +kernel
theorem dX9_dancer_47 : decode cX9_dancer 47 = .ok (.bipush 20, 2) := by decide +kernel
theorem dX9_dancer_49 : decode cX9_dancer 49 = .ok (.iload_n 1, 1) := by decide +kernel
theorem dX9_dancer_50 : decode cX9_dancer 50 = .ok (.iadd, 1) := by decide +kernel
theorem dX9_dancer_51 : decode cX9_dancer 51 = .ok (.iaload, 1) := by decide +kernel
theorem dX9_dancer_52 : decode cX9_dancer 52 = .ok (.goto 5, 3) := by decide +kernel
theorem dX9_dancer_55 : decode cX9_dancer 55 = .ok (.bipush (-2), 2) := by decide +kernel
theorem dX9_dancer_57 : decode cX9_dancer 57 = .ok (.ireturn, 1) := by decide +kernel
theorem dX9_at_0 : decode cX9_at 0 = .ok (.iload_n 1, 1) := by decide +kernel
theorem dX9_at_1 : decode cX9_at 1 = .ok (.invokestatic 147, 3) := by decide +kernel
theorem dX9_at_4 : decode cX9_at 4 = .ok (.ifCond .eq 14, 3) := by decide +kernel
theorem dX9_at_7 : decode cX9_at 7 = .ok (.aload_n 0, 1) := by decide +kernel
theorem dX9_at_8 : decode cX9_at 8 = .ok (.getfield 7, 3) := by decide +kernel
theorem dX9_at_11 : decode cX9_at 11 = .ok (.iconst 0, 1) := by decide +kernel
theorem dX9_at_12 : decode cX9_at 12 = .ok (.iload_n 1, 1) := by decide +kernel
theorem dX9_at_13 : decode cX9_at 13 = .ok (.iadd, 1) := by decide +kernel
theorem dX9_at_14 : decode cX9_at 14 = .ok (.iaload, 1) := by decide +kernel
theorem dX9_at_15 : decode cX9_at 15 = .ok (.goto 4, 3) := by decide +kernel
theorem dX9_at_18 : decode cX9_at 18 = .ok (.iconst (-1), 1) := by decide +kernel
theorem dX9_at_19 : decode cX9_at 19 = .ok (.ireturn, 1) := by decide +kernel
theorem dX9_move_0 : decode cX9_move 0 = .ok (.iload_n 1, 1) := by decide +kernel
theorem dX9_move_1 : decode cX9_move 1 = .ok (.invokestatic 97, 3) := by decide +kernel
theorem dX9_move_4 : decode cX9_move 4 = .ok (.ifCond .eq 18, 3) := by decide +kernel
theorem dX9_move_7 : decode cX9_move 7 = .ok (.iload_n 2, 1) := by decide +kernel
theorem dX9_move_8 : decode cX9_move 8 = .ok (.iconst 0, 1) := by decide +kernel
theorem dX9_move_9 : decode cX9_move 9 = .ok (.aload_n 0, 1) := by decide +kernel
theorem dX9_move_10 : decode cX9_move 10 = .ok (.iload_n 1, 1) := by decide +kernel
theorem dX9_move_11 : decode cX9_move 11 = .ok (.invokevirtual 81, 3) := by decide +kernel
theorem dX9_move_14 : decode cX9_move 14 = .ok (.iconst 1, 1) := by decide +kernel
theorem dX9_move_15 : decode cX9_move 15 = .ok (.isub, 1) := by decide +kernel
theorem dX9_move_16 : decode cX9_move 16 = .ok (.invokestatic 62, 3) := by decide +kernel
theorem dX9_move_19 : decode cX9_move 19 = .ok (.ifCond .ne 5, 3) := by decide +kernel
theorem dX9_move_22 : decode cX9_move 22 = .ok (.iconst (-1), 1) := by decide +kernel
theorem dX9_move_23 : decode cX9_move 23 = .ok (.ireturn, 1) := by decide +kernel
theorem dX9_move_24 : decode cX9_move 24 = .ok (.iload_n 3, 1) := by decide +kernel
theorem dX9_move_25 : decode cX9_move 25 = .ok (.iconst 0, 1) := by decide +kernel
theorem dX9_move_26 : decode cX9_move 26 = .ok (.iconst 2, 1) := by decide +kernel
theorem dX9_move_27 : decode cX9_move 27 = .ok (.invokestatic 62, 3) := by decide +kernel
theorem dX9_move_30 : decode cX9_move 30 = .ok (.ifCond .eq 13, 3) := by decide +kernel
theorem dX9_move_33 : decode cX9_move 33 = .ok (.aload_n 0, 1) := by decide +kernel
theorem dX9_move_34 : decode cX9_move 34 = .ok (.iload_n 1, 1) := by decide +kernel
theorem dX9_move_35 : decode cX9_move 35 = .ok (.iload_n 2, 1) := by decide +kernel
theorem dX9_move_36 : decode cX9_move 36 = .ok (.iload_n 3, 1) := by decide +kernel
theorem dX9_move_37 : decode cX9_move 37 = .ok (.invokevirtual 85, 3) := by decide +kernel
theorem dX9_move_40 : decode cX9_move 40 = .ok (.goto 5, 3) := by decide +kernel
theorem dX9_move_43 : decode cX9_move 43 = .ok (.bipush (-2), 2) := by decide +kernel
theorem dX9_move_45 : decode cX9_move 45 = .ok (.ireturn, 1) := by decide +kernel
theorem dX9_follow_0 : decode cX9_follow 0 = .ok (.iconst 0, 1) := by decide +kernel
theorem dX9_follow_1 : decode cX9_follow 1 = .ok (.istore_n 2, 1) := by decide +kernel
theorem dX9_follow_2 : decode cX9_follow 2 = .ok (.iload_n 2, 1) := by decide +kernel
theorem dX9_follow_3 : decode cX9_follow 3 = .ok (.bipush 10, 2) := by decide +kernel
theorem dX9_follow_5 : decode cX9_follow 5 = .ok (.if_icmp .ge 33, 3) := by decide +kernel
theorem dX9_follow_8 : decode cX9_follow 8 = .ok (.aload_n 0, 1) := by decide +kernel
theorem dX9_follow_9 : decode cX9_follow 9 = .ok (.getfield 53, 3) := by decide +kernel
theorem dX9_follow_12 : decode cX9_follow 12 = .ok (.bipush 10, 2) := by decide +kernel
theorem dX9_follow_14 : decode cX9_follow 14 = .ok (.iload_n 1, 1) := by decide +kernel
theorem dX9_follow_15 : decode cX9_follow 15 = .ok (.imul, 1) := by decide +kernel
theorem dX9_follow_16 : decode cX9_follow 16 = .ok (.iload_n 2, 1) := by decide +kernel
theorem dX9_follow_17 : decode cX9_follow 17 = .ok (.iadd, 1) := by decide +kernel
theorem dX9_follow_18 : decode cX9_follow 18 = .ok (.iload_n 2, 1) := by decide +kernel
theorem dX9_follow_19 : decode cX9_follow 19 = .ok (.iastore, 1) := by decide +kernel
theorem dX9_follow_20 : decode cX9_follow 20 = .ok (.aload_n 0, 1) := by decide +kernel
theorem dX9_follow_21 : decode cX9_follow 21 = .ok (.getfield 56, 3) := by decide +kernel
theorem dX9_follow_24 : decode cX9_follow 24 = .ok (.bipush 10, 2) := by decide +kernel
theorem dX9_follow_26 : decode cX9_follow 26 = .ok (.iload_n 1, 1) := by decide +kernel
theorem dX9_follow_27 : decode cX9_follow 27 = .ok (.imul, 1) := by decide +kernel
theorem dX9_follow_28 : decode cX9_follow 28 = .ok (.iload_n 2, 1) := by decide +kernel
theorem dX9_follow_29 : decode cX9_follow 29 = .ok (.iadd, 1) := by decide +kernel
theorem dX9_follow_30 : decode cX9_follow 30 = .ok (.iconst 0, 1) := by decide +kernel
theorem dX9_follow_31 : decode cX9_follow 31 = .ok (.iastore, 1) := by decide +kernel
theorem dX9_follow_32 : decode cX9_follow 32 = .ok (.iinc 2 1, 3) := by decide +kernel
theorem dX9_follow_35 : decode cX9_follow 35 = .ok (.goto (-33), 3) := by decide +kernel
theorem dX9_follow_38 : decode cX9_follow 38 = .ok (.iconst 0, 1) := by decide +kernel
theorem dX9_follow_39 : decode cX9_follow 39 = .ok (.istore_n 2, 1) := by decide +kernel
theorem dX9_follow_40 : decode cX9_follow 40 = .ok (.iload_n 2, 1) := by decide +kernel
theorem dX9_follow_41 : decode cX9_follow 41 = .ok (.aload_n 0, 1) := by decide +kernel
theorem dX9_follow_42 : decode cX9_follow 42 = .ok (.getfield 19, 3) := by decide +kernel
theorem dX9_follow_45 : decode cX9_follow 45 = .ok (.iload_n 1, 1) := by decide +kernel
theorem dX9_follow_46 : decode cX9_follow 46 = .ok (.iaload, 1) := by decide +kernel
theorem dX9_follow_47 : decode cX9_follow 47 = .ok (.if_icmp .ge 81, 3) := by decide +kernel
theorem dX9_follow_50 : decode cX9_follow 50 = .ok (.aload_n 0, 1) := by decide +kernel
theorem dX9_follow_51 : decode cX9_follow 51 = .ok (.iload_n 1, 1) := by decide +kernel
theorem dX9_follow_52 : decode cX9_follow 52 = .ok (.iload_n 2, 1) := by decide +kernel
theorem dX9_follow_53 : decode cX9_follow 53 = .ok (.iconst 0, 1) := by decide +kernel
theorem dX9_follow_54 : decode cX9_follow 54 = .ok (.invokevirtual 129, 3) := by decide +kernel
theorem dX9_follow_57 : decode cX9_follow 57 = .ok (.bipush 10, 2) := by decide +kernel
theorem dX9_follow_59 : decode cX9_follow 59 = .ok (.iload_n 1, 1) := by decide +kernel
theorem dX9_follow_60 : decode cX9_follow 60 = .ok (.imul, 1) := by decide +kernel
theorem dX9_follow_61 : decode cX9_follow 61 = .ok (.istore_n 3, 1) := by decide +kernel
theorem dX9_follow_62 : decode cX9_follow 62 = .ok (.iload_n 3, 1) := by decide +kernel
theorem dX9_follow_63 : decode cX9_follow 63 = .ok (.bipush 10, 2) := by decide +kernel
theorem dX9_follow_65 : decode cX9_follow 65 = .ok (.iload_n 1, 1) := by decide +kernel
theorem dX9_follow_66 : decode cX9_follow 66 = .ok (.imul, 1) := by decide +kernel
theorem dX9_follow_67 : decode cX9_follow 67 = .ok (.bipush 10, 2) := by decide +kernel
theorem dX9_follow_69 : decode cX9_follow 69 = .ok (.iadd, 1) := by decide +kernel
theorem dX9_follow_70 : decode cX9_follow 70 = .ok (.if_icmp .ge 52, 3) := by decide +kernel
theorem dX9_follow_73 : decode cX9_follow 73 = .ok (.aload_n 0, 1) := by decide +kernel
theorem dX9_follow_74 : decode cX9_follow 74 = .ok (.getfield 56, 3) := by decide +kernel
theorem dX9_follow_77 : decode cX9_follow 77 = .ok (.iload_n 3, 1) := by decide +kernel
theorem dX9_follow_78 : decode cX9_follow 78 = .ok (.aload_n 0, 1) := by decide +kernel
theorem dX9_follow_79 : decode cX9_follow 79 = .ok (.getfield 56, 3) := by decide +kernel
theorem dX9_follow_82 : decode cX9_follow 82 = .ok (.iload_n 3, 1) := by decide +kernel
theorem dX9_follow_83 : decode cX9_follow 83 = .ok (.iaload, 1) := by decide +kernel
theorem dX9_follow_84 : decode cX9_follow 84 = .ok (.aload_n 0, 1) := by decide +kernel
theorem dX9_follow_85 : decode cX9_follow 85 = .ok (.getfield 31, 3) := by decide +kernel
theorem dX9_follow_88 : decode cX9_follow 88 = .ok (.aload_n 0, 1) := by decide +kernel
theorem dX9_follow_89 : decode cX9_follow 89 = .ok (.getfield 53, 3) := by decide +kernel
theorem dX9_follow_92 : decode cX9_follow 92 = .ok (.iload_n 3, 1) := by decide +kernel
theorem dX9_follow_93 : decode cX9_follow 93 = .ok (.iaload, 1) := by decide +kernel
theorem dX9_follow_94 : decode cX9_follow 94 = .ok (.iaload, 1) := by decide +kernel
theorem dX9_follow_95 : decode cX9_follow 95 = .ok (.iadd, 1) := by decide +kernel
theorem dX9_follow_96 : decode cX9_follow 96 = .ok (.iconst 4, 1) := by decide +kernel
theorem dX9_follow_97 : decode cX9_follow 97 = .ok (.irem, 1) := by decide +kernel
theorem dX9_follow_98 : decode cX9_follow 98 = .ok (.iastore, 1) := by decide +kernel
theorem dX9_follow_99 : decode cX9_follow 99 = .ok (.aload_n 0, 1) := by decide +kernel
theorem dX9_follow_100 : decode cX9_follow 100 = .ok (.getfield 53, 3) := by decide +kernel
theorem dX9_follow_103 : decode cX9_follow 103 = .ok (.iload_n 3, 1) := by decide +kernel
theorem dX9_follow_104 : decode cX9_follow 104 = .ok (.aload_n 0, 1) := by decide +kernel
theorem dX9_follow_105 : decode cX9_follow 105 = .ok (.getfield 28, 3) := by decide +kernel
theorem dX9_follow_108 : decode cX9_follow 108 = .ok (.aload_n 0, 1) := by decide +kernel
theorem dX9_follow_109 : decode cX9_follow 109 = .ok (.getfield 53, 3) := by decide +kernel
theorem dX9_follow_112 : decode cX9_follow 112 = .ok (.iload_n 3, 1) := by decide +kernel
theorem dX9_follow_113 : decode cX9_follow 113 = .ok (.iaload, 1) := by decide +kernel
theorem dX9_follow_114 : decode cX9_follow 114 = .ok (.iaload, 1) := by decide +kernel
theorem dX9_follow_115 : decode cX9_follow 115 = .ok (.iastore, 1) := by decide +kernel
theorem dX9_follow_116 : decode cX9_follow 116 = .ok (.iinc 3 1, 3) := by decide +kernel
theorem dX9_follow_119 : decode cX9_follow 119 = .ok (.goto (-57), 3) := by decide +kernel
theorem dX9_follow_122 : decode cX9_follow 122 = .ok (.iinc 2 1, 3) := by decide +kernel
theorem dX9_follow_125 : decode cX9_follow 125 = .ok (.goto (-85), 3) := by decide +kernel
theorem dX9_follow_128 : decode cX9_follow 128 = .ok (.return_, 1) := by decide +kernel
theorem dX9_followAll_0 : decode cX9_followAll 0 = .ok (.aload_n 0, 1) := by decide +kernel
theorem dX9_followAll_1 : decode cX9_followAll 1 = .ok (.invokevirtual 112, 3) := by decide +kernel
theorem dX9_followAll_4 : decode cX9_followAll 4 = .ok (.iconst 0, 1) := by decide +kernel
theorem dX9_followAll_5 : decode cX9_followAll 5 = .ok (.istore_n 1, 1) := by decide +kernel
theorem dX9_followAll_6 : decode cX9_followAll 6 = .ok (.iload_n 1, 1) := by decide +kernel
theorem dX9_followAll_7 : decode cX9_followAll 7 = .ok (.bipush 8, 2) := by decide +kernel
theorem dX9_followAll_9 : decode cX9_followAll 9 = .ok (.if_icmp .ge 14, 3) := by decide +kernel
theorem dX9_followAll_12 : decode cX9_followAll 12 = .ok (.aload_n 0, 1) := by decide +kernel
theorem dX9_followAll_13 : decode cX9_followAll 13 = .ok (.iload_n 1, 1) := by decide +kernel
theorem dX9_followAll_14 : decode cX9_followAll 14 = .ok (.invokevirtual 175, 3) := by decide +kernel
theorem dX9_followAll_17 : decode cX9_followAll 17 = .ok (.iinc 1 1, 3) := by decide +kernel
theorem dX9_followAll_20 : decode cX9_followAll 20 = .ok (.goto (-14), 3) := by decide +kernel
theorem dX9_followAll_23 : decode cX9_followAll 23 = .ok (.return_, 1) := by decide +kernel
theorem dX9_multiple_0 : decode cX9_multiple 0 = .ok (.iload_n 0, 1) := by decide +kernel
theorem dX9_multiple_1 : decode cX9_multiple 1 = .ok (.istore_n 2, 1) := by decide +kernel
theorem dX9_multiple_2 : decode cX9_multiple 2 = .ok (.iload_n 2, 1) := by decide +kernel
theorem dX9_multiple_3 : decode cX9_multiple 3 = .ok (.iload_n 1, 1) := by decide +kernel
theorem dX9_multiple_4 : decode cX9_multiple 4 = .ok (.irem, 1) := by decide +kernel
theorem dX9_multiple_5 : decode cX9_multiple 5 = .ok (.ifCond .eq 10, 3) := by decide +kernel
theorem dX9_multiple_8 : decode cX9_multiple 8 = .ok (.iload_n 2, 1) := by decide +kernel
theorem dX9_multiple_9 : decode cX9_multiple 9 = .ok (.iload_n 0, 1) := by decide +kernel
theorem dX9_multiple_10 : decode cX9_multiple 10 = .ok (.iadd, 1) := by decide +kernel
theorem dX9_multiple_11 : decode cX9_multiple 11 = .ok (.istore_n 2, 1) := by decide +kernel
theorem dX9_multiple_12 : decode cX9_multiple 12 = .ok (.goto (-10), 3) := by decide +kernel
theorem dX9_multiple_15 : decode cX9_multiple 15 = .ok (.iload_n 2, 1) := by decide +kernel
theorem dX9_multiple_16 : decode cX9_multiple 16 = .ok (.ireturn, 1) := by decide +kernel
theorem dX9_back_0 : decode cX9_back 0 = .ok (.iload_n 2, 1) := by decide +kernel
theorem dX9_back_1 : decode cX9_back 1 = .ok (.istore_n 3, 1) := by decide +kernel
theorem dX9_back_2 : decode cX9_back 2 = .ok (.iconst 0, 1) := by decide +kernel
theorem dX9_back_3 : decode cX9_back 3 = .ok (.istore 4, 2) := by decide +kernel
theorem dX9_back_5 : decode cX9_back 5 = .ok (.iconst 0, 1) := by decide +kernel
theorem dX9_back_6 : decode cX9_back 6 = .ok (.istore 5, 2) := by decide +kernel
theorem dX9_back_8 : decode cX9_back 8 = .ok (.iload 5, 2) := by decide +kernel
theorem dX9_back_10 : decode cX9_back 10 = .ok (.ifCond .eq 13, 3) := by decide +kernel
theorem dX9_back_13 : decode cX9_back 13 = .ok (.iload_n 3, 1) := by decide +kernel
theorem dX9_back_14 : decode cX9_back 14 = .ok (.iload_n 2, 1) := by decide +kernel
theorem dX9_back_15 : decode cX9_back 15 = .ok (.if_icmp .ne 8, 3) := by decide +kernel
theorem dX9_back_18 : decode cX9_back 18 = .ok (.iload 4, 2) := by decide +kernel
theorem dX9_back_20 : decode cX9_back 20 = .ok (.ifCond .eq 39, 3) := by decide +kernel
theorem dX9_back_23 : decode cX9_back 23 = .ok (.iload 4, 2) := by decide +kernel
theorem dX9_back_25 : decode cX9_back 25 = .ok (.aload_n 0, 1) := by decide +kernel
theorem dX9_back_26 : decode cX9_back 26 = .ok (.getfield 56, 3) := by decide +kernel
theorem dX9_back_29 : decode cX9_back 29 = .ok (.bipush 10, 2) := by decide +kernel
theorem dX9_back_31 : decode cX9_back 31 = .ok (.iload_n 1, 1) := by decide +kernel
theorem dX9_back_32 : decode cX9_back 32 = .ok (.imul, 1) := by decide +kernel
theorem dX9_back_33 : decode cX9_back 33 = .ok (.iload_n 3, 1) := by decide +kernel
theorem dX9_back_34 : decode cX9_back 34 = .ok (.iadd, 1) := by decide +kernel
theorem dX9_back_35 : decode cX9_back 35 = .ok (.iaload, 1) := by decide +kernel
theorem dX9_back_36 : decode cX9_back 36 = .ok (.iadd, 1) := by decide +kernel
theorem dX9_back_37 : decode cX9_back 37 = .ok (.iconst 4, 1) := by decide +kernel
theorem dX9_back_38 : decode cX9_back 38 = .ok (.irem, 1) := by decide +kernel
theorem dX9_back_39 : decode cX9_back 39 = .ok (.istore 4, 2) := by decide +kernel
theorem dX9_back_41 : decode cX9_back 41 = .ok (.aload_n 0, 1) := by decide +kernel
theorem dX9_back_42 : decode cX9_back 42 = .ok (.getfield 53, 3) := by decide +kernel
theorem dX9_back_45 : decode cX9_back 45 = .ok (.bipush 10, 2) := by decide +kernel
theorem dX9_back_47 : decode cX9_back 47 = .ok (.iload_n 1, 1) := by decide +kernel
theorem dX9_back_48 : decode cX9_back 48 = .ok (.imul, 1) := by decide +kernel
theorem dX9_back_49 : decode cX9_back 49 = .ok (.iload_n 3, 1) := by decide +kernel
theorem dX9_back_50 : decode cX9_back 50 = .ok (.iadd, 1) := by decide +kernel
theorem dX9_back_51 : decode cX9_back 51 = .ok (.iaload, 1) := by decide +kernel
theorem dX9_back_52 : decode cX9_back 52 = .ok (.istore_n 3, 1) := by decide +kernel
theorem dX9_back_53 : decode cX9_back 53 = .ok (.iinc 5 1, 3) := by decide +kernel
theorem dX9_back_56 : decode cX9_back 56 = .ok (.goto (-48), 3) := by decide +kernel
theorem dX9_back_59 : decode cX9_back 59 = .ok (.iload 5, 2) := by decide +kernel
theorem dX9_back_61 : decode cX9_back 61 = .ok (.ireturn, 1) := by decide +kernel
theorem dX9_order_0 : decode cX9_order 0 = .ok (.iconst 1, 1) := by decide +kernel
theorem dX9_order_1 : decode cX9_order 1 = .ok (.istore_n 2, 1) := by decide +kernel
theorem dX9_order_2 : decode cX9_order 2 = .ok (.iconst 0, 1) := by decide +kernel
theorem dX9_order_3 : decode cX9_order 3 = .ok (.istore_n 3, 1) := by decide +kernel
theorem dX9_order_4 : decode cX9_order 4 = .ok (.iload_n 3, 1) := by decide +kernel
theorem dX9_order_5 : decode cX9_order 5 = .ok (.bipush 10, 2) := by decide +kernel
theorem dX9_order_7 : decode cX9_order 7 = .ok (.if_icmp .ge 20, 3) := by decide +kernel
theorem dX9_order_10 : decode cX9_order 10 = .ok (.iload_n 2, 1) := by decide +kernel
theorem dX9_order_11 : decode cX9_order 11 = .ok (.aload_n 0, 1) := by decide +kernel
theorem dX9_order_12 : decode cX9_order 12 = .ok (.iload_n 1, 1) := by decide +kernel
theorem dX9_order_13 : decode cX9_order 13 = .ok (.iload_n 3, 1) := by decide +kernel
theorem dX9_order_14 : decode cX9_order 14 = .ok (.invokevirtual 179, 3) := by decide +kernel
theorem dX9_order_17 : decode cX9_order 17 = .ok (.invokestatic 182, 3) := by decide +kernel
theorem dX9_order_20 : decode cX9_order 20 = .ok (.istore_n 2, 1) := by decide +kernel
theorem dX9_order_21 : decode cX9_order 21 = .ok (.iinc 3 1, 3) := by decide +kernel
theorem dX9_order_24 : decode cX9_order 24 = .ok (.goto (-20), 3) := by decide +kernel
theorem dX9_order_27 : decode cX9_order 27 = .ok (.iload_n 2, 1) := by decide +kernel
theorem dX9_order_28 : decode cX9_order 28 = .ok (.ireturn, 1) := by decide +kernel
theorem dX9_odd_0 : decode cX9_odd 0 = .ok (.iconst 0, 1) := by decide +kernel
theorem dX9_odd_1 : decode cX9_odd 1 = .ok (.istore_n 2, 1) := by decide +kernel
theorem dX9_odd_2 : decode cX9_odd 2 = .ok (.iconst 0, 1) := by decide +kernel
theorem dX9_odd_3 : decode cX9_odd 3 = .ok (.istore_n 3, 1) := by decide +kernel
theorem dX9_odd_4 : decode cX9_odd 4 = .ok (.iload_n 3, 1) := by decide +kernel
theorem dX9_odd_5 : decode cX9_odd 5 = .ok (.bipush 10, 2) := by decide +kernel
theorem dX9_odd_7 : decode cX9_odd 7 = .ok (.if_icmp .ge 58, 3) := by decide +kernel
theorem dX9_odd_10 : decode cX9_odd 10 = .ok (.iconst 0, 1) := by decide +kernel
theorem dX9_odd_11 : decode cX9_odd 11 = .ok (.istore 4, 2) := by decide +kernel
theorem dX9_odd_13 : decode cX9_odd 13 = .ok (.iload 4, 2) := by decide +kernel
theorem dX9_odd_15 : decode cX9_odd 15 = .ok (.iload_n 3, 1) := by decide +kernel
theorem dX9_odd_16 : decode cX9_odd 16 = .ok (.if_icmp .ge 43, 3) := by decide +kernel
theorem dX9_odd_19 : decode cX9_odd 19 = .ok (.iload_n 2, 1) := by decide +kernel
theorem dX9_odd_20 : decode cX9_odd 20 = .ok (.aload_n 0, 1) := by decide +kernel
theorem dX9_odd_21 : decode cX9_odd 21 = .ok (.getfield 53, 3) := by decide +kernel
theorem dX9_odd_24 : decode cX9_odd 24 = .ok (.bipush 10, 2) := by decide +kernel
theorem dX9_odd_26 : decode cX9_odd 26 = .ok (.iload_n 1, 1) := by decide +kernel
theorem dX9_odd_27 : decode cX9_odd 27 = .ok (.imul, 1) := by decide +kernel
theorem dX9_odd_28 : decode cX9_odd 28 = .ok (.iload 4, 2) := by decide +kernel
theorem dX9_odd_30 : decode cX9_odd 30 = .ok (.iadd, 1) := by decide +kernel
theorem dX9_odd_31 : decode cX9_odd 31 = .ok (.iaload, 1) := by decide +kernel
theorem dX9_odd_32 : decode cX9_odd 32 = .ok (.aload_n 0, 1) := by decide +kernel
theorem dX9_odd_33 : decode cX9_odd 33 = .ok (.getfield 53, 3) := by decide +kernel
theorem dX9_odd_36 : decode cX9_odd 36 = .ok (.bipush 10, 2) := by decide +kernel
theorem dX9_odd_38 : decode cX9_odd 38 = .ok (.iload_n 1, 1) := by decide +kernel
theorem dX9_odd_39 : decode cX9_odd 39 = .ok (.imul, 1) := by decide +kernel
theorem dX9_odd_40 : decode cX9_odd 40 = .ok (.iload_n 3, 1) := by decide +kernel
theorem dX9_odd_41 : decode cX9_odd 41 = .ok (.iadd, 1) := by decide +kernel
theorem dX9_odd_42 : decode cX9_odd 42 = .ok (.iaload, 1) := by decide +kernel
theorem dX9_odd_43 : decode cX9_odd 43 = .ok (.if_icmp .le 7, 3) := by decide +kernel
theorem dX9_odd_46 : decode cX9_odd 46 = .ok (.iconst 1, 1) := by decide +kernel
theorem dX9_odd_47 : decode cX9_odd 47 = .ok (.goto 4, 3) := by decide +kernel
theorem dX9_odd_50 : decode cX9_odd 50 = .ok (.iconst 0, 1) := by decide +kernel
theorem dX9_odd_51 : decode cX9_odd 51 = .ok (.iadd, 1) := by decide +kernel
theorem dX9_odd_52 : decode cX9_odd 52 = .ok (.istore_n 2, 1) := by decide +kernel
theorem dX9_odd_53 : decode cX9_odd 53 = .ok (.iinc 4 1, 3) := by decide +kernel
theorem dX9_odd_56 : decode cX9_odd 56 = .ok (.goto (-43), 3) := by decide +kernel
theorem dX9_odd_59 : decode cX9_odd 59 = .ok (.iinc 3 1, 3) := by decide +kernel
theorem dX9_odd_62 : decode cX9_odd 62 = .ok (.goto (-58), 3) := by decide +kernel
theorem dX9_odd_65 : decode cX9_odd 65 = .ok (.iload_n 2, 1) := by decide +kernel
theorem dX9_odd_66 : decode cX9_odd 66 = .ok (.iconst 2, 1) := by decide +kernel
theorem dX9_odd_67 : decode cX9_odd 67 = .ok (.irem, 1) := by decide +kernel
theorem dX9_odd_68 : decode cX9_odd 68 = .ok (.ireturn, 1) := by decide +kernel
theorem dX9_calledBy_0 : decode cX9_calledBy 0 = .ok (.iconst 0, 1) := by decide +kernel
theorem dX9_calledBy_1 : decode cX9_calledBy 1 = .ok (.istore_n 2, 1) := by decide +kernel
theorem dX9_calledBy_2 : decode cX9_calledBy 2 = .ok (.iload_n 1, 1) := by decide +kernel
theorem dX9_calledBy_3 : decode cX9_calledBy 3 = .ok (.istore_n 3, 1) := by decide +kernel
theorem dX9_calledBy_4 : decode cX9_calledBy 4 = .ok (.iload_n 3, 1) := by decide +kernel
theorem dX9_calledBy_5 : decode cX9_calledBy 5 = .ok (.ifCond .lt 71, 3) := by decide +kernel
theorem dX9_calledBy_8 : decode cX9_calledBy 8 = .ok (.iconst 0, 1) := by decide +kernel
theorem dX9_calledBy_9 : decode cX9_calledBy 9 = .ok (.istore 4, 2) := by decide +kernel
theorem dX9_calledBy_11 : decode cX9_calledBy 11 = .ok (.iload 4, 2) := by decide +kernel
theorem dX9_calledBy_13 : decode cX9_calledBy 13 = .ok (.aload_n 0, 1) := by decide +kernel
theorem dX9_calledBy_14 : decode cX9_calledBy 14 = .ok (.iload_n 3, 1) := by decide +kernel
theorem dX9_calledBy_15 : decode cX9_calledBy 15 = .ok (.invokevirtual 81, 3) := by decide +kernel
theorem dX9_calledBy_18 : decode cX9_calledBy 18 = .ok (.if_icmp .ge 52, 3) := by decide +kernel
theorem dX9_calledBy_21 : decode cX9_calledBy 21 = .ok (.iload_n 3, 1) := by decide +kernel
theorem dX9_calledBy_22 : decode cX9_calledBy 22 = .ok (.iload_n 1, 1) := by decide +kernel
theorem dX9_calledBy_23 : decode cX9_calledBy 23 = .ok (.if_icmp .eq 12, 3) := by decide +kernel
theorem dX9_calledBy_26 : decode cX9_calledBy 26 = .ok (.iload_n 2, 1) := by decide +kernel
theorem dX9_calledBy_27 : decode cX9_calledBy 27 = .ok (.iload_n 3, 1) := by decide +kernel
theorem dX9_calledBy_28 : decode cX9_calledBy 28 = .ok (.ishr, 1) := by decide +kernel
theorem dX9_calledBy_29 : decode cX9_calledBy 29 = .ok (.iconst 1, 1) := by decide +kernel
theorem dX9_calledBy_30 : decode cX9_calledBy 30 = .ok (.iand, 1) := by decide +kernel
theorem dX9_calledBy_31 : decode cX9_calledBy 31 = .ok (.iconst 1, 1) := by decide +kernel
theorem dX9_calledBy_32 : decode cX9_calledBy 32 = .ok (.if_icmp .ne 38, 3) := by decide +kernel
theorem dX9_calledBy_35 : decode cX9_calledBy 35 = .ok (.iload_n 2, 1) := by decide +kernel
theorem dX9_calledBy_36 : decode cX9_calledBy 36 = .ok (.aload_n 0, 1) := by decide +kernel
theorem dX9_calledBy_37 : decode cX9_calledBy 37 = .ok (.iload_n 3, 1) := by decide +kernel
theorem dX9_calledBy_38 : decode cX9_calledBy 38 = .ok (.iload 4, 2) := by decide +kernel
theorem dX9_calledBy_40 : decode cX9_calledBy 40 = .ok (.iconst 0, 1) := by decide +kernel
theorem dX9_calledBy_41 : decode cX9_calledBy 41 = .ok (.invokevirtual 85, 3) := by decide +kernel
theorem dX9_calledBy_44 : decode cX9_calledBy 44 = .ok (.iconst 4, 1) := by decide +kernel
theorem dX9_calledBy_45 : decode cX9_calledBy 45 = .ok (.if_icmp .ne 16, 3) := by decide +kernel
theorem dX9_calledBy_48 : decode cX9_calledBy 48 = .ok (.iconst 1, 1) := by decide +kernel
theorem dX9_calledBy_49 : decode cX9_calledBy 49 = .ok (.aload_n 0, 1) := by decide +kernel
theorem dX9_calledBy_50 : decode cX9_calledBy 50 = .ok (.iload_n 3, 1) := by decide +kernel
theorem dX9_calledBy_51 : decode cX9_calledBy 51 = .ok (.iload 4, 2) := by decide +kernel
theorem dX9_calledBy_53 : decode cX9_calledBy 53 = .ok (.iconst 1, 1) := by decide +kernel
theorem dX9_calledBy_54 : decode cX9_calledBy 54 = .ok (.invokevirtual 85, 3) := by decide +kernel
theorem dX9_calledBy_57 : decode cX9_calledBy 57 = .ok (.ishl, 1) := by decide +kernel
theorem dX9_calledBy_58 : decode cX9_calledBy 58 = .ok (.goto 4, 3) := by decide +kernel
theorem dX9_calledBy_61 : decode cX9_calledBy 61 = .ok (.iconst 0, 1) := by decide +kernel
theorem dX9_calledBy_62 : decode cX9_calledBy 62 = .ok (.ior, 1) := by decide +kernel
theorem dX9_calledBy_63 : decode cX9_calledBy 63 = .ok (.istore_n 2, 1) := by decide +kernel
theorem dX9_calledBy_64 : decode cX9_calledBy 64 = .ok (.iinc 4 1, 3) := by decide +kernel
theorem dX9_calledBy_67 : decode cX9_calledBy 67 = .ok (.goto (-56), 3) := by decide +kernel
theorem dX9_calledBy_70 : decode cX9_calledBy 70 = .ok (.iinc 3 (-1), 3) := by decide +kernel
theorem dX9_calledBy_73 : decode cX9_calledBy 73 = .ok (.goto (-69), 3) := by decide +kernel
theorem dX9_calledBy_76 : decode cX9_calledBy 76 = .ok (.iload_n 2, 1) := by decide +kernel
theorem dX9_calledBy_77 : decode cX9_calledBy 77 = .ok (.ireturn, 1) := by decide +kernel
theorem dX9_callers_0 : decode cX9_callers 0 = .ok (.iconst 0, 1) := by decide +kernel
theorem dX9_callers_1 : decode cX9_callers 1 = .ok (.istore_n 2, 1) := by decide +kernel
theorem dX9_callers_2 : decode cX9_callers 2 = .ok (.iload_n 1, 1) := by decide +kernel
theorem dX9_callers_3 : decode cX9_callers 3 = .ok (.iconst 1, 1) := by decide +kernel
theorem dX9_callers_4 : decode cX9_callers 4 = .ok (.iadd, 1) := by decide +kernel
theorem dX9_callers_5 : decode cX9_callers 5 = .ok (.istore_n 3, 1) := by decide +kernel
theorem dX9_callers_6 : decode cX9_callers 6 = .ok (.iload_n 3, 1) := by decide +kernel
theorem dX9_callers_7 : decode cX9_callers 7 = .ok (.bipush 8, 2) := by decide +kernel
theorem dX9_callers_9 : decode cX9_callers 9 = .ok (.if_icmp .ge 23, 3) := by decide +kernel
theorem dX9_callers_12 : decode cX9_callers 12 = .ok (.iload_n 2, 1) := by decide +kernel
theorem dX9_callers_13 : decode cX9_callers 13 = .ok (.aload_n 0, 1) := by decide +kernel
theorem dX9_callers_14 : decode cX9_callers 14 = .ok (.iload_n 3, 1) := by decide +kernel
theorem dX9_callers_15 : decode cX9_callers 15 = .ok (.invokevirtual 185, 3) := by decide +kernel
theorem dX9_callers_18 : decode cX9_callers 18 = .ok (.iload_n 1, 1) := by decide +kernel
theorem dX9_callers_19 : decode cX9_callers 19 = .ok (.ishr, 1) := by decide +kernel
theorem dX9_callers_20 : decode cX9_callers 20 = .ok (.iconst 1, 1) := by decide +kernel
theorem dX9_callers_21 : decode cX9_callers 21 = .ok (.iand, 1) := by decide +kernel
theorem dX9_callers_22 : decode cX9_callers 22 = .ok (.iload_n 3, 1) := by decide +kernel
theorem dX9_callers_23 : decode cX9_callers 23 = .ok (.ishl, 1) := by decide +kernel
theorem dX9_callers_24 : decode cX9_callers 24 = .ok (.ior, 1) := by decide +kernel
theorem dX9_callers_25 : decode cX9_callers 25 = .ok (.istore_n 2, 1) := by decide +kernel
theorem dX9_callers_26 : decode cX9_callers 26 = .ok (.iinc 3 1, 3) := by decide +kernel
theorem dX9_callers_29 : decode cX9_callers 29 = .ok (.goto (-23), 3) := by decide +kernel
theorem dX9_callers_32 : decode cX9_callers 32 = .ok (.iload_n 2, 1) := by decide +kernel
theorem dX9_callers_33 : decode cX9_callers 33 = .ok (.ireturn, 1) := by decide +kernel
theorem dX9_moved_0 : decode cX9_moved 0 = .ok (.iconst 0, 1) := by decide +kernel
theorem dX9_moved_1 : decode cX9_moved 1 = .ok (.istore_n 3, 1) := by decide +kernel
theorem dX9_moved_2 : decode cX9_moved 2 = .ok (.iconst 0, 1) := by decide +kernel
theorem dX9_moved_3 : decode cX9_moved 3 = .ok (.istore 4, 2) := by decide +kernel
theorem dX9_moved_5 : decode cX9_moved 5 = .ok (.iload 4, 2) := by decide +kernel
theorem dX9_moved_7 : decode cX9_moved 7 = .ok (.bipush 10, 2) := by decide +kernel
theorem dX9_moved_9 : decode cX9_moved 9 = .ok (.if_icmp .ge 73, 3) := by decide +kernel
theorem dX9_moved_12 : decode cX9_moved 12 = .ok (.iload_n 2, 1) := by decide +kernel
theorem dX9_moved_13 : decode cX9_moved 13 = .ok (.ifCond .eq 26, 3) := by decide +kernel
theorem dX9_moved_16 : decode cX9_moved 16 = .ok (.aload_n 0, 1) := by decide +kernel
theorem dX9_moved_17 : decode cX9_moved 17 = .ok (.getfield 56, 3) := by decide +kernel
theorem dX9_moved_20 : decode cX9_moved 20 = .ok (.bipush 10, 2) := by decide +kernel
theorem dX9_moved_22 : decode cX9_moved 22 = .ok (.iload_n 1, 1) := by decide +kernel
theorem dX9_moved_23 : decode cX9_moved 23 = .ok (.imul, 1) := by decide +kernel
theorem dX9_moved_24 : decode cX9_moved 24 = .ok (.iload 4, 2) := by decide +kernel
theorem dX9_moved_26 : decode cX9_moved 26 = .ok (.iadd, 1) := by decide +kernel
theorem dX9_moved_27 : decode cX9_moved 27 = .ok (.iaload, 1) := by decide +kernel
theorem dX9_moved_28 : decode cX9_moved 28 = .ok (.ifCond .le 7, 3) := by decide +kernel
theorem dX9_moved_31 : decode cX9_moved 31 = .ok (.iconst 1, 1) := by decide +kernel
theorem dX9_moved_32 : decode cX9_moved 32 = .ok (.goto 29, 3) := by decide +kernel
theorem dX9_moved_35 : decode cX9_moved 35 = .ok (.iconst 0, 1) := by decide +kernel
theorem dX9_moved_36 : decode cX9_moved 36 = .ok (.goto 25, 3) := by decide +kernel
theorem dX9_moved_39 : decode cX9_moved 39 = .ok (.aload_n 0, 1) := by decide +kernel
theorem dX9_moved_40 : decode cX9_moved 40 = .ok (.getfield 53, 3) := by decide +kernel
theorem dX9_moved_43 : decode cX9_moved 43 = .ok (.bipush 10, 2) := by decide +kernel
theorem dX9_moved_45 : decode cX9_moved 45 = .ok (.iload_n 1, 1) := by decide +kernel
theorem dX9_moved_46 : decode cX9_moved 46 = .ok (.imul, 1) := by decide +kernel
theorem dX9_moved_47 : decode cX9_moved 47 = .ok (.iload 4, 2) := by decide +kernel
theorem dX9_moved_49 : decode cX9_moved 49 = .ok (.iadd, 1) := by decide +kernel
theorem dX9_moved_50 : decode cX9_moved 50 = .ok (.iaload, 1) := by decide +kernel
theorem dX9_moved_51 : decode cX9_moved 51 = .ok (.iload 4, 2) := by decide +kernel
theorem dX9_moved_53 : decode cX9_moved 53 = .ok (.if_icmp .eq 7, 3) := by decide +kernel
theorem dX9_moved_56 : decode cX9_moved 56 = .ok (.iconst 1, 1) := by decide +kernel
theorem dX9_moved_57 : decode cX9_moved 57 = .ok (.goto 4, 3) := by decide +kernel
theorem dX9_moved_60 : decode cX9_moved 60 = .ok (.iconst 0, 1) := by decide +kernel
theorem dX9_moved_61 : decode cX9_moved 61 = .ok (.istore 5, 2) := by decide +kernel
theorem dX9_moved_63 : decode cX9_moved 63 = .ok (.iload_n 3, 1) := by decide +kernel
theorem dX9_moved_64 : decode cX9_moved 64 = .ok (.iload 5, 2) := by decide +kernel
theorem dX9_moved_66 : decode cX9_moved 66 = .ok (.ifCond .eq 7, 3) := by decide +kernel
theorem dX9_moved_69 : decode cX9_moved 69 = .ok (.iconst 1, 1) := by decide +kernel
theorem dX9_moved_70 : decode cX9_moved 70 = .ok (.goto 4, 3) := by decide +kernel
theorem dX9_moved_73 : decode cX9_moved 73 = .ok (.iconst 0, 1) := by decide +kernel
theorem dX9_moved_74 : decode cX9_moved 74 = .ok (.iadd, 1) := by decide +kernel
theorem dX9_moved_75 : decode cX9_moved 75 = .ok (.istore_n 3, 1) := by decide +kernel
theorem dX9_moved_76 : decode cX9_moved 76 = .ok (.iinc 4 1, 3) := by decide +kernel
theorem dX9_moved_79 : decode cX9_moved 79 = .ok (.goto (-74), 3) := by decide +kernel
theorem dX9_moved_82 : decode cX9_moved 82 = .ok (.iload_n 3, 1) := by decide +kernel
theorem dX9_moved_83 : decode cX9_moved 83 = .ok (.ireturn, 1) := by decide +kernel
theorem dX9_ofFigure_0 : decode cX9_ofFigure 0 = .ok (.aload_n 0, 1) := by decide +kernel
theorem dX9_ofFigure_1 : decode cX9_ofFigure 1 = .ok (.invokevirtual 188, 3) := by decide +kernel
theorem dX9_ofFigure_4 : decode cX9_ofFigure 4 = .ok (.iload_n 2, 1) := by decide +kernel
theorem dX9_ofFigure_5 : decode cX9_ofFigure 5 = .ok (.tableswitch 88 0 6 #[43, 49, 56, 62, 69, 76, 82], 43) := by decide +kernel
theorem dX9_ofFigure_48 : decode cX9_ofFigure 48 = .ok (.aload_n 0, 1) := by decide +kernel
theorem dX9_ofFigure_49 : decode cX9_ofFigure 49 = .ok (.iload_n 1, 1) := by decide +kernel
theorem dX9_ofFigure_50 : decode cX9_ofFigure 50 = .ok (.invokevirtual 81, 3) := by decide +kernel
theorem dX9_ofFigure_53 : decode cX9_ofFigure 53 = .ok (.ireturn, 1) := by decide +kernel
theorem dX9_ofFigure_54 : decode cX9_ofFigure 54 = .ok (.aload_n 0, 1) := by decide +kernel
theorem dX9_ofFigure_55 : decode cX9_ofFigure 55 = .ok (.getfield 19, 3) := by decide +kernel
theorem dX9_ofFigure_58 : decode cX9_ofFigure 58 = .ok (.iload_n 1, 1) := by decide +kernel
theorem dX9_ofFigure_59 : decode cX9_ofFigure 59 = .ok (.iaload, 1) := by decide +kernel
theorem dX9_ofFigure_60 : decode cX9_ofFigure 60 = .ok (.ireturn, 1) := by decide +kernel
theorem dX9_ofFigure_61 : decode cX9_ofFigure 61 = .ok (.aload_n 0, 1) := by decide +kernel
theorem dX9_ofFigure_62 : decode cX9_ofFigure 62 = .ok (.iload_n 1, 1) := by decide +kernel
theorem dX9_ofFigure_63 : decode cX9_ofFigure 63 = .ok (.invokevirtual 191, 3) := by decide +kernel
theorem dX9_ofFigure_66 : decode cX9_ofFigure 66 = .ok (.ireturn, 1) := by decide +kernel
theorem dX9_ofFigure_67 : decode cX9_ofFigure 67 = .ok (.aload_n 0, 1) := by decide +kernel
theorem dX9_ofFigure_68 : decode cX9_ofFigure 68 = .ok (.iload_n 1, 1) := by decide +kernel
theorem dX9_ofFigure_69 : decode cX9_ofFigure 69 = .ok (.iconst 0, 1) := by decide +kernel
theorem dX9_ofFigure_70 : decode cX9_ofFigure 70 = .ok (.invokevirtual 194, 3) := by decide +kernel
theorem dX9_ofFigure_73 : decode cX9_ofFigure 73 = .ok (.ireturn, 1) := by decide +kernel
theorem dX9_ofFigure_74 : decode cX9_ofFigure 74 = .ok (.aload_n 0, 1) := by decide +kernel
theorem dX9_ofFigure_75 : decode cX9_ofFigure 75 = .ok (.iload_n 1, 1) := by decide +kernel
theorem dX9_ofFigure_76 : decode cX9_ofFigure 76 = .ok (.iconst 1, 1) := by decide +kernel
theorem dX9_ofFigure_77 : decode cX9_ofFigure 77 = .ok (.invokevirtual 194, 3) := by decide +kernel
theorem dX9_ofFigure_80 : decode cX9_ofFigure 80 = .ok (.ireturn, 1) := by decide +kernel
theorem dX9_ofFigure_81 : decode cX9_ofFigure 81 = .ok (.aload_n 0, 1) := by decide +kernel
theorem dX9_ofFigure_82 : decode cX9_ofFigure 82 = .ok (.iload_n 1, 1) := by decide +kernel
theorem dX9_ofFigure_83 : decode cX9_ofFigure 83 = .ok (.invokevirtual 198, 3) := by decide +kernel
theorem dX9_ofFigure_86 : decode cX9_ofFigure 86 = .ok (.ireturn, 1) := by decide +kernel
theorem dX9_ofFigure_87 : decode cX9_ofFigure 87 = .ok (.aload_n 0, 1) := by decide +kernel
theorem dX9_ofFigure_88 : decode cX9_ofFigure 88 = .ok (.iload_n 1, 1) := by decide +kernel
theorem dX9_ofFigure_89 : decode cX9_ofFigure 89 = .ok (.invokevirtual 185, 3) := by decide +kernel
theorem dX9_ofFigure_92 : decode cX9_ofFigure 92 = .ok (.ireturn, 1) := by decide +kernel
theorem dX9_ofFigure_93 : decode cX9_ofFigure 93 = .ok (.aload_n 0, 1) := by decide +kernel
theorem dX9_ofFigure_94 : decode cX9_ofFigure 94 = .ok (.iload_n 1, 1) := by decide +kernel
theorem dX9_ofFigure_95 : decode cX9_ofFigure 95 = .ok (.invokevirtual 201, 3) := by decide +kernel
theorem dX9_ofFigure_98 : decode cX9_ofFigure 98 = .ok (.ireturn, 1) := by decide +kernel
theorem dX9_figure_0 : decode cX9_figure 0 = .ok (.iload_n 1, 1) := by decide +kernel
theorem dX9_figure_1 : decode cX9_figure 1 = .ok (.invokestatic 97, 3) := by decide +kernel
theorem dX9_figure_4 : decode cX9_figure 4 = .ok (.ifCond .ne 5, 3) := by decide +kernel
theorem dX9_figure_7 : decode cX9_figure 7 = .ok (.iconst (-1), 1) := by decide +kernel
theorem dX9_figure_8 : decode cX9_figure 8 = .ok (.ireturn, 1) := by decide +kernel
theorem dX9_figure_9 : decode cX9_figure 9 = .ok (.iload_n 2, 1) := by decide +kernel
theorem dX9_figure_10 : decode cX9_figure 10 = .ok (.iconst 0, 1) := by decide +kernel
theorem dX9_figure_11 : decode cX9_figure 11 = .ok (.bipush 7, 2) := by decide +kernel
theorem dX9_figure_13 : decode cX9_figure 13 = .ok (.invokestatic 62, 3) := by decide +kernel
theorem dX9_figure_16 : decode cX9_figure 16 = .ok (.ifCond .eq 12, 3) := by decide +kernel
theorem dX9_figure_19 : decode cX9_figure 19 = .ok (.aload_n 0, 1) := by decide +kernel
theorem dX9_figure_20 : decode cX9_figure 20 = .ok (.iload_n 1, 1) := by decide +kernel
theorem dX9_figure_21 : decode cX9_figure 21 = .ok (.iload_n 2, 1) := by decide +kernel
theorem dX9_figure_22 : decode cX9_figure 22 = .ok (.invokevirtual 204, 3) := by decide +kernel
theorem dX9_figure_25 : decode cX9_figure 25 = .ok (.goto 5, 3) := by decide +kernel
theorem dX9_figure_28 : decode cX9_figure 28 = .ok (.bipush (-2), 2) := by decide +kernel
theorem dX9_figure_30 : decode cX9_figure 30 = .ok (.ireturn, 1) := by decide +kernel
theorem dX9_effect_0 : decode cX9_effect 0 = .ok (.iload_n 1, 1) := by decide +kernel
theorem dX9_effect_1 : decode cX9_effect 1 = .ok (.invokestatic 97, 3) := by decide +kernel
theorem dX9_effect_4 : decode cX9_effect 4 = .ok (.ifCond .eq 10, 3) := by decide +kernel
theorem dX9_effect_7 : decode cX9_effect 7 = .ok (.iload_n 2, 1) := by decide +kernel
theorem dX9_effect_8 : decode cX9_effect 8 = .ok (.invokestatic 147, 3) := by decide +kernel
theorem dX9_effect_11 : decode cX9_effect 11 = .ok (.ifCond .ne 5, 3) := by decide +kernel
theorem dX9_effect_14 : decode cX9_effect 14 = .ok (.iconst (-1), 1) := by decide +kernel
theorem dX9_effect_15 : decode cX9_effect 15 = .ok (.ireturn, 1) := by decide +kernel
theorem dX9_effect_16 : decode cX9_effect 16 = .ok (.aload_n 0, 1) := by decide +kernel
theorem dX9_effect_17 : decode cX9_effect 17 = .ok (.invokevirtual 188, 3) := by decide +kernel
theorem dX9_effect_20 : decode cX9_effect 20 = .ok (.iload_n 3, 1) := by decide +kernel
theorem dX9_effect_21 : decode cX9_effect 21 = .ok (.ifCond .eq 17, 3) := by decide +kernel
theorem dX9_effect_24 : decode cX9_effect 24 = .ok (.aload_n 0, 1) := by decide +kernel
theorem dX9_effect_25 : decode cX9_effect 25 = .ok (.getfield 56, 3) := by decide +kernel
theorem dX9_effect_28 : decode cX9_effect 28 = .ok (.bipush 10, 2) := by decide +kernel
theorem dX9_effect_30 : decode cX9_effect 30 = .ok (.iload_n 1, 1) := by decide +kernel
theorem dX9_effect_31 : decode cX9_effect 31 = .ok (.imul, 1) := by decide +kernel
theorem dX9_effect_32 : decode cX9_effect 32 = .ok (.iload_n 2, 1) := by decide +kernel
theorem dX9_effect_33 : decode cX9_effect 33 = .ok (.iadd, 1) := by decide +kernel
theorem dX9_effect_34 : decode cX9_effect 34 = .ok (.iaload, 1) := by decide +kernel
theorem dX9_effect_35 : decode cX9_effect 35 = .ok (.goto 14, 3) := by decide +kernel
theorem dX9_effect_38 : decode cX9_effect 38 = .ok (.aload_n 0, 1) := by decide +kernel
theorem dX9_effect_39 : decode cX9_effect 39 = .ok (.getfield 53, 3) := by decide +kernel
theorem dX9_effect_42 : decode cX9_effect 42 = .ok (.bipush 10, 2) := by decide +kernel
theorem dX9_effect_44 : decode cX9_effect 44 = .ok (.iload_n 1, 1) := by decide +kernel
theorem dX9_effect_45 : decode cX9_effect 45 = .ok (.imul, 1) := by decide +kernel
theorem dX9_effect_46 : decode cX9_effect 46 = .ok (.iload_n 2, 1) := by decide +kernel
theorem dX9_effect_47 : decode cX9_effect 47 = .ok (.iadd, 1) := by decide +kernel
theorem dX9_effect_48 : decode cX9_effect 48 = .ok (.iaload, 1) := by decide +kernel
theorem dX9_effect_49 : decode cX9_effect 49 = .ok (.ireturn, 1) := by decide +kernel
theorem dX9_alike_0 : decode cX9_alike 0 = .ok (.iload_n 1, 1) := by decide +kernel
theorem dX9_alike_1 : decode cX9_alike 1 = .ok (.invokestatic 97, 3) := by decide +kernel
theorem dX9_alike_4 : decode cX9_alike 4 = .ok (.ifCond .eq 10, 3) := by decide +kernel
theorem dX9_alike_7 : decode cX9_alike 7 = .ok (.iload_n 2, 1) := by decide +kernel
theorem dX9_alike_8 : decode cX9_alike 8 = .ok (.invokestatic 97, 3) := by decide +kernel
theorem dX9_alike_11 : decode cX9_alike 11 = .ok (.ifCond .ne 5, 3) := by decide +kernel
theorem dX9_alike_14 : decode cX9_alike 14 = .ok (.iconst (-1), 1) := by decide +kernel
theorem dX9_alike_15 : decode cX9_alike 15 = .ok (.ireturn, 1) := by decide +kernel
theorem dX9_alike_16 : decode cX9_alike 16 = .ok (.aload_n 0, 1) := by decide +kernel
theorem dX9_alike_17 : decode cX9_alike 17 = .ok (.invokevirtual 188, 3) := by decide +kernel
theorem dX9_alike_20 : decode cX9_alike 20 = .ok (.iconst 1, 1) := by decide +kernel
theorem dX9_alike_21 : decode cX9_alike 21 = .ok (.istore_n 3, 1) := by decide +kernel
theorem dX9_alike_22 : decode cX9_alike 22 = .ok (.iconst 0, 1) := by decide +kernel
theorem dX9_alike_23 : decode cX9_alike 23 = .ok (.istore 4, 2) := by decide +kernel
theorem dX9_alike_25 : decode cX9_alike 25 = .ok (.iload 4, 2) := by decide +kernel
theorem dX9_alike_27 : decode cX9_alike 27 = .ok (.bipush 10, 2) := by decide +kernel
theorem dX9_alike_29 : decode cX9_alike 29 = .ok (.if_icmp .ge 73, 3) := by decide +kernel
theorem dX9_alike_32 : decode cX9_alike 32 = .ok (.iload_n 3, 1) := by decide +kernel
theorem dX9_alike_33 : decode cX9_alike 33 = .ok (.ifCond .eq 61, 3) := by decide +kernel
theorem dX9_alike_36 : decode cX9_alike 36 = .ok (.aload_n 0, 1) := by decide +kernel
theorem dX9_alike_37 : decode cX9_alike 37 = .ok (.getfield 53, 3) := by decide +kernel
theorem dX9_alike_40 : decode cX9_alike 40 = .ok (.bipush 10, 2) := by decide +kernel
theorem dX9_alike_42 : decode cX9_alike 42 = .ok (.iload_n 1, 1) := by decide +kernel
theorem dX9_alike_43 : decode cX9_alike 43 = .ok (.imul, 1) := by decide +kernel
theorem dX9_alike_44 : decode cX9_alike 44 = .ok (.iload 4, 2) := by decide +kernel
theorem dX9_alike_46 : decode cX9_alike 46 = .ok (.iadd, 1) := by decide +kernel
theorem dX9_alike_47 : decode cX9_alike 47 = .ok (.iaload, 1) := by decide +kernel
theorem dX9_alike_48 : decode cX9_alike 48 = .ok (.aload_n 0, 1) := by decide +kernel
theorem dX9_alike_49 : decode cX9_alike 49 = .ok (.getfield 53, 3) := by decide +kernel
theorem dX9_alike_52 : decode cX9_alike 52 = .ok (.bipush 10, 2) := by decide +kernel
theorem dX9_alike_54 : decode cX9_alike 54 = .ok (.iload_n 2, 1) := by decide +kernel
theorem dX9_alike_55 : decode cX9_alike 55 = .ok (.imul, 1) := by decide +kernel
theorem dX9_alike_56 : decode cX9_alike 56 = .ok (.iload 4, 2) := by decide +kernel
theorem dX9_alike_58 : decode cX9_alike 58 = .ok (.iadd, 1) := by decide +kernel
theorem dX9_alike_59 : decode cX9_alike 59 = .ok (.iaload, 1) := by decide +kernel
theorem dX9_alike_60 : decode cX9_alike 60 = .ok (.if_icmp .ne 34, 3) := by decide +kernel
theorem dX9_alike_63 : decode cX9_alike 63 = .ok (.aload_n 0, 1) := by decide +kernel
theorem dX9_alike_64 : decode cX9_alike 64 = .ok (.getfield 56, 3) := by decide +kernel
theorem dX9_alike_67 : decode cX9_alike 67 = .ok (.bipush 10, 2) := by decide +kernel
theorem dX9_alike_69 : decode cX9_alike 69 = .ok (.iload_n 1, 1) := by decide +kernel
theorem dX9_alike_70 : decode cX9_alike 70 = .ok (.imul, 1) := by decide +kernel
theorem dX9_alike_71 : decode cX9_alike 71 = .ok (.iload 4, 2) := by decide +kernel
theorem dX9_alike_73 : decode cX9_alike 73 = .ok (.iadd, 1) := by decide +kernel
theorem dX9_alike_74 : decode cX9_alike 74 = .ok (.iaload, 1) := by decide +kernel
theorem dX9_alike_75 : decode cX9_alike 75 = .ok (.aload_n 0, 1) := by decide +kernel
theorem dX9_alike_76 : decode cX9_alike 76 = .ok (.getfield 56, 3) := by decide +kernel
theorem dX9_alike_79 : decode cX9_alike 79 = .ok (.bipush 10, 2) := by decide +kernel
theorem dX9_alike_81 : decode cX9_alike 81 = .ok (.iload_n 2, 1) := by decide +kernel
theorem dX9_alike_82 : decode cX9_alike 82 = .ok (.imul, 1) := by decide +kernel
theorem dX9_alike_83 : decode cX9_alike 83 = .ok (.iload 4, 2) := by decide +kernel
theorem dX9_alike_85 : decode cX9_alike 85 = .ok (.iadd, 1) := by decide +kernel
theorem dX9_alike_86 : decode cX9_alike 86 = .ok (.iaload, 1) := by decide +kernel
theorem dX9_alike_87 : decode cX9_alike 87 = .ok (.if_icmp .ne 7, 3) := by decide +kernel
theorem dX9_alike_90 : decode cX9_alike 90 = .ok (.iconst 1, 1) := by decide +kernel
theorem dX9_alike_91 : decode cX9_alike 91 = .ok (.goto 4, 3) := by decide +kernel
theorem dX9_alike_94 : decode cX9_alike 94 = .ok (.iconst 0, 1) := by decide +kernel
theorem dX9_alike_95 : decode cX9_alike 95 = .ok (.istore_n 3, 1) := by decide +kernel
theorem dX9_alike_96 : decode cX9_alike 96 = .ok (.iinc 4 1, 3) := by decide +kernel
theorem dX9_alike_99 : decode cX9_alike 99 = .ok (.goto (-74), 3) := by decide +kernel
theorem dX9_alike_102 : decode cX9_alike 102 = .ok (.iload_n 3, 1) := by decide +kernel
theorem dX9_alike_103 : decode cX9_alike 103 = .ok (.ifCond .eq 7, 3) := by decide +kernel
theorem dX9_alike_106 : decode cX9_alike 106 = .ok (.iconst 1, 1) := by decide +kernel
theorem dX9_alike_107 : decode cX9_alike 107 = .ok (.goto 4, 3) := by decide +kernel
theorem dX9_alike_110 : decode cX9_alike 110 = .ok (.iconst 0, 1) := by decide +kernel
theorem dX9_alike_111 : decode cX9_alike 111 = .ok (.ireturn, 1) := by decide +kernel
theorem dX9_commute_0 : decode cX9_commute 0 = .ok (.iload_n 1, 1) := by decide +kernel
theorem dX9_commute_1 : decode cX9_commute 1 = .ok (.invokestatic 97, 3) := by decide +kernel
theorem dX9_commute_4 : decode cX9_commute 4 = .ok (.ifCond .eq 10, 3) := by decide +kernel
theorem dX9_commute_7 : decode cX9_commute 7 = .ok (.iload_n 2, 1) := by decide +kernel
theorem dX9_commute_8 : decode cX9_commute 8 = .ok (.invokestatic 97, 3) := by decide +kernel
theorem dX9_commute_11 : decode cX9_commute 11 = .ok (.ifCond .ne 5, 3) := by decide +kernel
theorem dX9_commute_14 : decode cX9_commute 14 = .ok (.iconst (-1), 1) := by decide +kernel
theorem dX9_commute_15 : decode cX9_commute 15 = .ok (.ireturn, 1) := by decide +kernel
theorem dX9_commute_16 : decode cX9_commute 16 = .ok (.aload_n 0, 1) := by decide +kernel
theorem dX9_commute_17 : decode cX9_commute 17 = .ok (.invokevirtual 188, 3) := by decide +kernel
theorem dX9_commute_20 : decode cX9_commute 20 = .ok (.iconst 1, 1) := by decide +kernel
theorem dX9_commute_21 : decode cX9_commute 21 = .ok (.istore_n 3, 1) := by decide +kernel
theorem dX9_commute_22 : decode cX9_commute 22 = .ok (.iconst 0, 1) := by decide +kernel
theorem dX9_commute_23 : decode cX9_commute 23 = .ok (.istore 4, 2) := by decide +kernel
theorem dX9_commute_25 : decode cX9_commute 25 = .ok (.iload 4, 2) := by decide +kernel
theorem dX9_commute_27 : decode cX9_commute 27 = .ok (.bipush 10, 2) := by decide +kernel
theorem dX9_commute_29 : decode cX9_commute 29 = .ok (.if_icmp .ge 139, 3) := by decide +kernel
theorem dX9_commute_32 : decode cX9_commute 32 = .ok (.aload_n 0, 1) := by decide +kernel
theorem dX9_commute_33 : decode cX9_commute 33 = .ok (.getfield 53, 3) := by decide +kernel
theorem dX9_commute_36 : decode cX9_commute 36 = .ok (.bipush 10, 2) := by decide +kernel
theorem dX9_commute_38 : decode cX9_commute 38 = .ok (.iload_n 1, 1) := by decide +kernel
theorem dX9_commute_39 : decode cX9_commute 39 = .ok (.imul, 1) := by decide +kernel
theorem dX9_commute_40 : decode cX9_commute 40 = .ok (.iload 4, 2) := by decide +kernel
theorem dX9_commute_42 : decode cX9_commute 42 = .ok (.iadd, 1) := by decide +kernel
theorem dX9_commute_43 : decode cX9_commute 43 = .ok (.iaload, 1) := by decide +kernel
theorem dX9_commute_44 : decode cX9_commute 44 = .ok (.istore 5, 2) := by decide +kernel
theorem dX9_commute_46 : decode cX9_commute 46 = .ok (.aload_n 0, 1) := by decide +kernel
theorem dX9_commute_47 : decode cX9_commute 47 = .ok (.getfield 53, 3) := by decide +kernel
theorem dX9_commute_50 : decode cX9_commute 50 = .ok (.bipush 10, 2) := by decide +kernel
theorem dX9_commute_52 : decode cX9_commute 52 = .ok (.iload_n 2, 1) := by decide +kernel
theorem dX9_commute_53 : decode cX9_commute 53 = .ok (.imul, 1) := by decide +kernel
theorem dX9_commute_54 : decode cX9_commute 54 = .ok (.iload 4, 2) := by decide +kernel
theorem dX9_commute_56 : decode cX9_commute 56 = .ok (.iadd, 1) := by decide +kernel
theorem dX9_commute_57 : decode cX9_commute 57 = .ok (.iaload, 1) := by decide +kernel
theorem dX9_commute_58 : decode cX9_commute 58 = .ok (.istore 6, 2) := by decide +kernel
theorem dX9_commute_60 : decode cX9_commute 60 = .ok (.aload_n 0, 1) := by decide +kernel
theorem dX9_commute_61 : decode cX9_commute 61 = .ok (.getfield 56, 3) := by decide +kernel
theorem dX9_commute_64 : decode cX9_commute 64 = .ok (.bipush 10, 2) := by decide +kernel
theorem dX9_commute_66 : decode cX9_commute 66 = .ok (.iload_n 1, 1) := by decide +kernel
theorem dX9_commute_67 : decode cX9_commute 67 = .ok (.imul, 1) := by decide +kernel
theorem dX9_commute_68 : decode cX9_commute 68 = .ok (.iload 4, 2) := by decide +kernel
theorem dX9_commute_70 : decode cX9_commute 70 = .ok (.iadd, 1) := by decide +kernel
theorem dX9_commute_71 : decode cX9_commute 71 = .ok (.iaload, 1) := by decide +kernel
theorem dX9_commute_72 : decode cX9_commute 72 = .ok (.aload_n 0, 1) := by decide +kernel
theorem dX9_commute_73 : decode cX9_commute 73 = .ok (.getfield 56, 3) := by decide +kernel
theorem dX9_commute_76 : decode cX9_commute 76 = .ok (.bipush 10, 2) := by decide +kernel
theorem dX9_commute_78 : decode cX9_commute 78 = .ok (.iload_n 2, 1) := by decide +kernel
theorem dX9_commute_79 : decode cX9_commute 79 = .ok (.imul, 1) := by decide +kernel
theorem dX9_commute_80 : decode cX9_commute 80 = .ok (.iload 5, 2) := by decide +kernel
theorem dX9_commute_82 : decode cX9_commute 82 = .ok (.iadd, 1) := by decide +kernel
theorem dX9_commute_83 : decode cX9_commute 83 = .ok (.iaload, 1) := by decide +kernel
theorem dX9_commute_84 : decode cX9_commute 84 = .ok (.iadd, 1) := by decide +kernel
theorem dX9_commute_85 : decode cX9_commute 85 = .ok (.istore 7, 2) := by decide +kernel
theorem dX9_commute_87 : decode cX9_commute 87 = .ok (.aload_n 0, 1) := by decide +kernel
theorem dX9_commute_88 : decode cX9_commute 88 = .ok (.getfield 56, 3) := by decide +kernel
theorem dX9_commute_91 : decode cX9_commute 91 = .ok (.bipush 10, 2) := by decide +kernel
theorem dX9_commute_93 : decode cX9_commute 93 = .ok (.iload_n 2, 1) := by decide +kernel
theorem dX9_commute_94 : decode cX9_commute 94 = .ok (.imul, 1) := by decide +kernel
theorem dX9_commute_95 : decode cX9_commute 95 = .ok (.iload 4, 2) := by decide +kernel
theorem dX9_commute_97 : decode cX9_commute 97 = .ok (.iadd, 1) := by decide +kernel
theorem dX9_commute_98 : decode cX9_commute 98 = .ok (.iaload, 1) := by decide +kernel
theorem dX9_commute_99 : decode cX9_commute 99 = .ok (.aload_n 0, 1) := by decide +kernel
theorem dX9_commute_100 : decode cX9_commute 100 = .ok (.getfield 56, 3) := by decide +kernel
theorem dX9_commute_103 : decode cX9_commute 103 = .ok (.bipush 10, 2) := by decide +kernel
theorem dX9_commute_105 : decode cX9_commute 105 = .ok (.iload_n 1, 1) := by decide +kernel
theorem dX9_commute_106 : decode cX9_commute 106 = .ok (.imul, 1) := by decide +kernel
theorem dX9_commute_107 : decode cX9_commute 107 = .ok (.iload 6, 2) := by decide +kernel
theorem dX9_commute_109 : decode cX9_commute 109 = .ok (.iadd, 1) := by decide +kernel
theorem dX9_commute_110 : decode cX9_commute 110 = .ok (.iaload, 1) := by decide +kernel
theorem dX9_commute_111 : decode cX9_commute 111 = .ok (.iadd, 1) := by decide +kernel
theorem dX9_commute_112 : decode cX9_commute 112 = .ok (.istore 8, 2) := by decide +kernel
theorem dX9_commute_114 : decode cX9_commute 114 = .ok (.iload_n 3, 1) := by decide +kernel
theorem dX9_commute_115 : decode cX9_commute 115 = .ok (.ifCond .eq 45, 3) := by decide +kernel
theorem dX9_commute_118 : decode cX9_commute 118 = .ok (.aload_n 0, 1) := by decide +kernel
theorem dX9_commute_119 : decode cX9_commute 119 = .ok (.getfield 53, 3) := by decide +kernel
theorem dX9_commute_122 : decode cX9_commute 122 = .ok (.bipush 10, 2) := by decide +kernel
theorem dX9_commute_124 : decode cX9_commute 124 = .ok (.iload_n 2, 1) := by decide +kernel
theorem dX9_commute_125 : decode cX9_commute 125 = .ok (.imul, 1) := by decide +kernel
theorem dX9_commute_126 : decode cX9_commute 126 = .ok (.iload 5, 2) := by decide +kernel
theorem dX9_commute_128 : decode cX9_commute 128 = .ok (.iadd, 1) := by decide +kernel
theorem dX9_commute_129 : decode cX9_commute 129 = .ok (.iaload, 1) := by decide +kernel
theorem dX9_commute_130 : decode cX9_commute 130 = .ok (.aload_n 0, 1) := by decide +kernel
theorem dX9_commute_131 : decode cX9_commute 131 = .ok (.getfield 53, 3) := by decide +kernel
theorem dX9_commute_134 : decode cX9_commute 134 = .ok (.bipush 10, 2) := by decide +kernel
theorem dX9_commute_136 : decode cX9_commute 136 = .ok (.iload_n 1, 1) := by decide +kernel
theorem dX9_commute_137 : decode cX9_commute 137 = .ok (.imul, 1) := by decide +kernel
theorem dX9_commute_138 : decode cX9_commute 138 = .ok (.iload 6, 2) := by decide +kernel
theorem dX9_commute_140 : decode cX9_commute 140 = .ok (.iadd, 1) := by decide +kernel
theorem dX9_commute_141 : decode cX9_commute 141 = .ok (.iaload, 1) := by decide +kernel
theorem dX9_commute_142 : decode cX9_commute 142 = .ok (.if_icmp .ne 18, 3) := by decide +kernel
theorem dX9_commute_145 : decode cX9_commute 145 = .ok (.iload 7, 2) := by decide +kernel
theorem dX9_commute_147 : decode cX9_commute 147 = .ok (.iconst 4, 1) := by decide +kernel
theorem dX9_commute_148 : decode cX9_commute 148 = .ok (.irem, 1) := by decide +kernel
theorem dX9_commute_149 : decode cX9_commute 149 = .ok (.iload 8, 2) := by decide +kernel
theorem dX9_commute_151 : decode cX9_commute 151 = .ok (.iconst 4, 1) := by decide +kernel
theorem dX9_commute_152 : decode cX9_commute 152 = .ok (.irem, 1) := by decide +kernel
theorem dX9_commute_153 : decode cX9_commute 153 = .ok (.if_icmp .ne 7, 3) := by decide +kernel
theorem dX9_commute_156 : decode cX9_commute 156 = .ok (.iconst 1, 1) := by decide +kernel
theorem dX9_commute_157 : decode cX9_commute 157 = .ok (.goto 4, 3) := by decide +kernel
theorem dX9_commute_160 : decode cX9_commute 160 = .ok (.iconst 0, 1) := by decide +kernel
theorem dX9_commute_161 : decode cX9_commute 161 = .ok (.istore_n 3, 1) := by decide +kernel
theorem dX9_commute_162 : decode cX9_commute 162 = .ok (.iinc 4 1, 3) := by decide +kernel
theorem dX9_commute_165 : decode cX9_commute 165 = .ok (.goto (-140), 3) := by decide +kernel
theorem dX9_commute_168 : decode cX9_commute 168 = .ok (.iload_n 3, 1) := by decide +kernel
theorem dX9_commute_169 : decode cX9_commute 169 = .ok (.ifCond .eq 7, 3) := by decide +kernel
theorem dX9_commute_172 : decode cX9_commute 172 = .ok (.iconst 1, 1) := by decide +kernel
theorem dX9_commute_173 : decode cX9_commute 173 = .ok (.goto 4, 3) := by decide +kernel
theorem dX9_commute_176 : decode cX9_commute 176 = .ok (.iconst 0, 1) := by decide +kernel
theorem dX9_commute_177 : decode cX9_commute 177 = .ok (.ireturn, 1) := by decide +kernel
theorem dX9_figuresWithMoves_0 : decode cX9_figuresWithMoves 0 = .ok (.iconst 0, 1) := by decide +kernel
theorem dX9_figuresWithMoves_1 : decode cX9_figuresWithMoves 1 = .ok (.istore_n 1, 1) := by decide +kernel
theorem dX9_figuresWithMoves_2 : decode cX9_figuresWithMoves 2 = .ok (.iconst 0, 1) := by decide +kernel
theorem dX9_figuresWithMoves_3 : decode cX9_figuresWithMoves 3 = .ok (.istore_n 2, 1) := by decide +kernel
theorem dX9_figuresWithMoves_4 : decode cX9_figuresWithMoves 4 = .ok (.iload_n 2, 1) := by decide +kernel
theorem dX9_figuresWithMoves_5 : decode cX9_figuresWithMoves 5 = .ok (.bipush 8, 2) := by decide +kernel
theorem dX9_figuresWithMoves_7 : decode cX9_figuresWithMoves 7 = .ok (.if_icmp .ge 25, 3) := by decide +kernel
theorem dX9_figuresWithMoves_10 : decode cX9_figuresWithMoves 10 = .ok (.iload_n 1, 1) := by decide +kernel
theorem dX9_figuresWithMoves_11 : decode cX9_figuresWithMoves 11 = .ok (.aload_n 0, 1) := by decide +kernel
theorem dX9_figuresWithMoves_12 : decode cX9_figuresWithMoves 12 = .ok (.iload_n 2, 1) := by decide +kernel
theorem dX9_figuresWithMoves_13 : decode cX9_figuresWithMoves 13 = .ok (.invokevirtual 81, 3) := by decide +kernel
theorem dX9_figuresWithMoves_16 : decode cX9_figuresWithMoves 16 = .ok (.ifCond .le 7, 3) := by decide +kernel
theorem dX9_figuresWithMoves_19 : decode cX9_figuresWithMoves 19 = .ok (.iconst 1, 1) := by decide +kernel
theorem dX9_figuresWithMoves_20 : decode cX9_figuresWithMoves 20 = .ok (.goto 4, 3) := by decide +kernel
theorem dX9_figuresWithMoves_23 : decode cX9_figuresWithMoves 23 = .ok (.iconst 0, 1) := by decide +kernel
theorem dX9_figuresWithMoves_24 : decode cX9_figuresWithMoves 24 = .ok (.iadd, 1) := by decide +kernel
theorem dX9_figuresWithMoves_25 : decode cX9_figuresWithMoves 25 = .ok (.istore_n 1, 1) := by decide +kernel
theorem dX9_figuresWithMoves_26 : decode cX9_figuresWithMoves 26 = .ok (.iinc 2 1, 3) := by decide +kernel
theorem dX9_figuresWithMoves_29 : decode cX9_figuresWithMoves 29 = .ok (.goto (-25), 3) := by decide +kernel
theorem dX9_figuresWithMoves_32 : decode cX9_figuresWithMoves 32 = .ok (.iload_n 1, 1) := by decide +kernel
theorem dX9_figuresWithMoves_33 : decode cX9_figuresWithMoves 33 = .ok (.ireturn, 1) := by decide +kernel
theorem dX9_count_0 : decode cX9_count 0 = .ok (.iload_n 1, 1) := by decide +kernel
theorem dX9_count_1 : decode cX9_count 1 = .ok (.tableswitch 71 0 5 #[39, 45, 51, 56, 61, 66], 39) := by decide +kernel
theorem dX9_count_40 : decode cX9_count 40 = .ok (.aload_n 0, 1) := by decide +kernel
theorem dX9_count_41 : decode cX9_count 41 = .ok (.iconst 1, 1) := by decide +kernel
theorem dX9_count_42 : decode cX9_count 42 = .ok (.invokevirtual 74, 3) := by decide +kernel
theorem dX9_count_45 : decode cX9_count 45 = .ok (.ireturn, 1) := by decide +kernel
theorem dX9_count_46 : decode cX9_count 46 = .ok (.aload_n 0, 1) := by decide +kernel
theorem dX9_count_47 : decode cX9_count 47 = .ok (.iconst 0, 1) := by decide +kernel
theorem dX9_count_48 : decode cX9_count 48 = .ok (.invokevirtual 74, 3) := by decide +kernel
theorem dX9_count_51 : decode cX9_count 51 = .ok (.ireturn, 1) := by decide +kernel
theorem dX9_count_52 : decode cX9_count 52 = .ok (.aload_n 0, 1) := by decide +kernel
theorem dX9_count_53 : decode cX9_count 53 = .ok (.invokevirtual 150, 3) := by decide +kernel
theorem dX9_count_56 : decode cX9_count 56 = .ok (.ireturn, 1) := by decide +kernel
theorem dX9_count_57 : decode cX9_count 57 = .ok (.aload_n 0, 1) := by decide +kernel
theorem dX9_count_58 : decode cX9_count 58 = .ok (.invokevirtual 207, 3) := by decide +kernel
theorem dX9_count_61 : decode cX9_count 61 = .ok (.ireturn, 1) := by decide +kernel
theorem dX9_count_62 : decode cX9_count 62 = .ok (.aload_n 0, 1) := by decide +kernel
theorem dX9_count_63 : decode cX9_count 63 = .ok (.getfield 66, 3) := by decide +kernel
theorem dX9_count_66 : decode cX9_count 66 = .ok (.ireturn, 1) := by decide +kernel
theorem dX9_count_67 : decode cX9_count 67 = .ok (.aload_n 0, 1) := by decide +kernel
theorem dX9_count_68 : decode cX9_count 68 = .ok (.getfield 157, 3) := by decide +kernel
theorem dX9_count_71 : decode cX9_count 71 = .ok (.ireturn, 1) := by decide +kernel
theorem dX9_count_72 : decode cX9_count 72 = .ok (.bipush (-2), 2) := by decide +kernel
theorem dX9_count_74 : decode cX9_count 74 = .ok (.ireturn, 1) := by decide +kernel
theorem dX9_total_0 : decode cX9_total 0 = .ok (.iload_n 1, 1) := by decide +kernel
theorem dX9_total_1 : decode cX9_total 1 = .ok (.iconst 0, 1) := by decide +kernel
theorem dX9_total_2 : decode cX9_total 2 = .ok (.iconst 2, 1) := by decide +kernel
theorem dX9_total_3 : decode cX9_total 3 = .ok (.invokestatic 62, 3) := by decide +kernel
theorem dX9_total_6 : decode cX9_total 6 = .ok (.ifCond .eq 16, 3) := by decide +kernel
theorem dX9_total_9 : decode cX9_total 9 = .ok (.aload_n 0, 1) := by decide +kernel
theorem dX9_total_10 : decode cX9_total 10 = .ok (.getfield 7, 3) := by decide +kernel
theorem dX9_total_13 : decode cX9_total 13 = .ok (.sipush 278, 3) := by decide +kernel
theorem dX9_total_16 : decode cX9_total 16 = .ok (.iload_n 1, 1) := by decide +kernel
theorem dX9_total_17 : decode cX9_total 17 = .ok (.iadd, 1) := by decide +kernel
theorem dX9_total_18 : decode cX9_total 18 = .ok (.iaload, 1) := by decide +kernel
theorem dX9_total_19 : decode cX9_total 19 = .ok (.goto 5, 3) := by decide +kernel
theorem dX9_total_22 : decode cX9_total 22 = .ok (.bipush (-2), 2) := by decide +kernel
theorem dX9_total_24 : decode cX9_total 24 = .ok (.ireturn, 1) := by decide +kernel
theorem dX9_blockedAt_0 : decode cX9_blockedAt 0 = .ok (.iload_n 1, 1) := by decide +kernel
theorem dX9_blockedAt_1 : decode cX9_blockedAt 1 = .ok (.invokestatic 97, 3) := by decide +kernel
theorem dX9_blockedAt_4 : decode cX9_blockedAt 4 = .ok (.ifCond .ne 5, 3) := by decide +kernel
theorem dX9_blockedAt_7 : decode cX9_blockedAt 7 = .ok (.iconst (-1), 1) := by decide +kernel
theorem dX9_blockedAt_8 : decode cX9_blockedAt 8 = .ok (.ireturn, 1) := by decide +kernel
theorem dX9_blockedAt_9 : decode cX9_blockedAt 9 = .ok (.aload_n 0, 1) := by decide +kernel
theorem dX9_blockedAt_10 : decode cX9_blockedAt 10 = .ok (.iload_n 1, 1) := by decide +kernel
theorem dX9_blockedAt_11 : decode cX9_blockedAt 11 = .ok (.iconst 1, 1) := by decide +kernel
theorem dX9_blockedAt_12 : decode cX9_blockedAt 12 = .ok (.iload_n 2, 1) := by decide +kernel
theorem dX9_blockedAt_13 : decode cX9_blockedAt 13 = .ok (.invokevirtual 140, 3) := by decide +kernel
theorem dX9_blockedAt_16 : decode cX9_blockedAt 16 = .ok (.istore_n 3, 1) := by decide +kernel
theorem dX9_blockedAt_17 : decode cX9_blockedAt 17 = .ok (.aload_n 0, 1) := by decide +kernel
theorem dX9_blockedAt_18 : decode cX9_blockedAt 18 = .ok (.invokevirtual 144, 3) := by decide +kernel
theorem dX9_blockedAt_21 : decode cX9_blockedAt 21 = .ok (.iload_n 3, 1) := by decide +kernel
theorem dX9_blockedAt_22 : decode cX9_blockedAt 22 = .ok (.aload_n 0, 1) := by decide +kernel
theorem dX9_blockedAt_23 : decode cX9_blockedAt 23 = .ok (.getfield 19, 3) := by decide +kernel
theorem dX9_blockedAt_26 : decode cX9_blockedAt 26 = .ok (.iload_n 1, 1) := by decide +kernel
theorem dX9_blockedAt_27 : decode cX9_blockedAt 27 = .ok (.iaload, 1) := by decide +kernel
theorem dX9_blockedAt_28 : decode cX9_blockedAt 28 = .ok (.if_icmp .ge 7, 3) := by decide +kernel
theorem dX9_blockedAt_31 : decode cX9_blockedAt 31 = .ok (.iload_n 3, 1) := by decide +kernel
theorem dX9_blockedAt_32 : decode cX9_blockedAt 32 = .ok (.goto 5, 3) := by decide +kernel
theorem dX9_blockedAt_35 : decode cX9_blockedAt 35 = .ok (.bipush (-5), 2) := by decide +kernel
theorem dX9_blockedAt_37 : decode cX9_blockedAt 37 = .ok (.ireturn, 1) := by decide +kernel
theorem dX9_begin_0 : decode cX9_begin 0 = .ok (.iconst 0, 1) := by decide +kernel
theorem dX9_begin_1 : decode cX9_begin 1 = .ok (.istore_n 1, 1) := by decide +kernel
theorem dX9_begin_2 : decode cX9_begin 2 = .ok (.iload_n 1, 1) := by decide +kernel
theorem dX9_begin_3 : decode cX9_begin 3 = .ok (.bipush 10, 2) := by decide +kernel
theorem dX9_begin_5 : decode cX9_begin 5 = .ok (.if_icmp .ge 38, 3) := by decide +kernel
theorem dX9_begin_8 : decode cX9_begin 8 = .ok (.aload_n 0, 1) := by decide +kernel
theorem dX9_begin_9 : decode cX9_begin 9 = .ok (.getfield 59, 3) := by decide +kernel
theorem dX9_begin_12 : decode cX9_begin 12 = .ok (.iload_n 1, 1) := by decide +kernel
theorem dX9_begin_13 : decode cX9_begin 13 = .ok (.aload_n 0, 1) := by decide +kernel
theorem dX9_begin_14 : decode cX9_begin 14 = .ok (.iload_n 1, 1) := by decide +kernel
theorem dX9_begin_15 : decode cX9_begin 15 = .ok (.invokevirtual 123, 3) := by decide +kernel
theorem dX9_begin_18 : decode cX9_begin 18 = .ok (.iastore, 1) := by decide +kernel
theorem dX9_begin_19 : decode cX9_begin 19 = .ok (.aload_n 0, 1) := by decide +kernel
theorem dX9_begin_20 : decode cX9_begin 20 = .ok (.getfield 59, 3) := by decide +kernel
theorem dX9_begin_23 : decode cX9_begin 23 = .ok (.bipush 10, 2) := by decide +kernel
theorem dX9_begin_25 : decode cX9_begin 25 = .ok (.iload_n 1, 1) := by decide +kernel
theorem dX9_begin_26 : decode cX9_begin 26 = .ok (.iadd, 1) := by decide +kernel
theorem dX9_begin_27 : decode cX9_begin 27 = .ok (.aload_n 0, 1) := by decide +kernel
theorem dX9_begin_28 : decode cX9_begin 28 = .ok (.getfield 7, 3) := by decide +kernel
theorem dX9_begin_31 : decode cX9_begin 31 = .ok (.bipush 10, 2) := by decide +kernel
theorem dX9_begin_33 : decode cX9_begin 33 = .ok (.iload_n 1, 1) := by decide +kernel
theorem dX9_begin_34 : decode cX9_begin 34 = .ok (.iadd, 1) := by decide +kernel
theorem dX9_begin_35 : decode cX9_begin 35 = .ok (.iaload, 1) := by decide +kernel
theorem dX9_begin_36 : decode cX9_begin 36 = .ok (.iastore, 1) := by decide +kernel
theorem dX9_begin_37 : decode cX9_begin 37 = .ok (.iinc 1 1, 3) := by decide +kernel
theorem dX9_begin_40 : decode cX9_begin 40 = .ok (.goto (-38), 3) := by decide +kernel
theorem dX9_begin_43 : decode cX9_begin 43 = .ok (.return_, 1) := by decide +kernel
theorem dX9_apply_0 : decode cX9_apply 0 = .ok (.iconst 0, 1) := by decide +kernel
theorem dX9_apply_1 : decode cX9_apply 1 = .ok (.istore_n 2, 1) := by decide +kernel
theorem dX9_apply_2 : decode cX9_apply 2 = .ok (.iload_n 2, 1) := by decide +kernel
theorem dX9_apply_3 : decode cX9_apply 3 = .ok (.bipush 10, 2) := by decide +kernel
theorem dX9_apply_5 : decode cX9_apply 5 = .ok (.if_icmp .ge 60, 3) := by decide +kernel
theorem dX9_apply_8 : decode cX9_apply 8 = .ok (.bipush 10, 2) := by decide +kernel
theorem dX9_apply_10 : decode cX9_apply 10 = .ok (.iload_n 1, 1) := by decide +kernel
theorem dX9_apply_11 : decode cX9_apply 11 = .ok (.imul, 1) := by decide +kernel
theorem dX9_apply_12 : decode cX9_apply 12 = .ok (.aload_n 0, 1) := by decide +kernel
theorem dX9_apply_13 : decode cX9_apply 13 = .ok (.getfield 59, 3) := by decide +kernel
theorem dX9_apply_16 : decode cX9_apply 16 = .ok (.iload_n 2, 1) := by decide +kernel
theorem dX9_apply_17 : decode cX9_apply 17 = .ok (.iaload, 1) := by decide +kernel
theorem dX9_apply_18 : decode cX9_apply 18 = .ok (.iadd, 1) := by decide +kernel
theorem dX9_apply_19 : decode cX9_apply 19 = .ok (.istore_n 3, 1) := by decide +kernel
theorem dX9_apply_20 : decode cX9_apply 20 = .ok (.aload_n 0, 1) := by decide +kernel
theorem dX9_apply_21 : decode cX9_apply 21 = .ok (.getfield 59, 3) := by decide +kernel
theorem dX9_apply_24 : decode cX9_apply 24 = .ok (.bipush 10, 2) := by decide +kernel
theorem dX9_apply_26 : decode cX9_apply 26 = .ok (.iload_n 2, 1) := by decide +kernel
theorem dX9_apply_27 : decode cX9_apply 27 = .ok (.iadd, 1) := by decide +kernel
theorem dX9_apply_28 : decode cX9_apply 28 = .ok (.aload_n 0, 1) := by decide +kernel
theorem dX9_apply_29 : decode cX9_apply 29 = .ok (.getfield 59, 3) := by decide +kernel
theorem dX9_apply_32 : decode cX9_apply 32 = .ok (.bipush 10, 2) := by decide +kernel
theorem dX9_apply_34 : decode cX9_apply 34 = .ok (.iload_n 2, 1) := by decide +kernel
theorem dX9_apply_35 : decode cX9_apply 35 = .ok (.iadd, 1) := by decide +kernel
theorem dX9_apply_36 : decode cX9_apply 36 = .ok (.iaload, 1) := by decide +kernel
theorem dX9_apply_37 : decode cX9_apply 37 = .ok (.aload_n 0, 1) := by decide +kernel
theorem dX9_apply_38 : decode cX9_apply 38 = .ok (.getfield 56, 3) := by decide +kernel
theorem dX9_apply_41 : decode cX9_apply 41 = .ok (.iload_n 3, 1) := by decide +kernel
theorem dX9_apply_42 : decode cX9_apply 42 = .ok (.iaload, 1) := by decide +kernel
theorem dX9_apply_43 : decode cX9_apply 43 = .ok (.iadd, 1) := by decide +kernel
theorem dX9_apply_44 : decode cX9_apply 44 = .ok (.iconst 4, 1) := by decide +kernel
theorem dX9_apply_45 : decode cX9_apply 45 = .ok (.irem, 1) := by decide +kernel
theorem dX9_apply_46 : decode cX9_apply 46 = .ok (.iastore, 1) := by decide +kernel
theorem dX9_apply_47 : decode cX9_apply 47 = .ok (.aload_n 0, 1) := by decide +kernel
theorem dX9_apply_48 : decode cX9_apply 48 = .ok (.getfield 59, 3) := by decide +kernel
theorem dX9_apply_51 : decode cX9_apply 51 = .ok (.iload_n 2, 1) := by decide +kernel
theorem dX9_apply_52 : decode cX9_apply 52 = .ok (.aload_n 0, 1) := by decide +kernel
theorem dX9_apply_53 : decode cX9_apply 53 = .ok (.getfield 53, 3) := by decide +kernel
theorem dX9_apply_56 : decode cX9_apply 56 = .ok (.iload_n 3, 1) := by decide +kernel
theorem dX9_apply_57 : decode cX9_apply 57 = .ok (.iaload, 1) := by decide +kernel
theorem dX9_apply_58 : decode cX9_apply 58 = .ok (.iastore, 1) := by decide +kernel
theorem dX9_apply_59 : decode cX9_apply 59 = .ok (.iinc 2 1, 3) := by decide +kernel
theorem dX9_apply_62 : decode cX9_apply 62 = .ok (.goto (-60), 3) := by decide +kernel
theorem dX9_apply_65 : decode cX9_apply 65 = .ok (.return_, 1) := by decide +kernel
theorem dX9_isHome_0 : decode cX9_isHome 0 = .ok (.iconst 1, 1) := by decide +kernel
theorem dX9_isHome_1 : decode cX9_isHome 1 = .ok (.istore_n 1, 1) := by decide +kernel
theorem dX9_isHome_2 : decode cX9_isHome 2 = .ok (.iconst 0, 1) := by decide +kernel
theorem dX9_isHome_3 : decode cX9_isHome 3 = .ok (.istore_n 2, 1) := by decide +kernel
theorem dX9_isHome_4 : decode cX9_isHome 4 = .ok (.iload_n 2, 1) := by decide +kernel
theorem dX9_isHome_5 : decode cX9_isHome 5 = .ok (.bipush 10, 2) := by decide +kernel
theorem dX9_isHome_7 : decode cX9_isHome 7 = .ok (.if_icmp .ge 41, 3) := by decide +kernel
theorem dX9_isHome_10 : decode cX9_isHome 10 = .ok (.iload_n 1, 1) := by decide +kernel
theorem dX9_isHome_11 : decode cX9_isHome 11 = .ok (.ifCond .eq 29, 3) := by decide +kernel
theorem dX9_isHome_14 : decode cX9_isHome 14 = .ok (.aload_n 0, 1) := by decide +kernel
theorem dX9_isHome_15 : decode cX9_isHome 15 = .ok (.getfield 59, 3) := by decide +kernel
theorem dX9_isHome_18 : decode cX9_isHome 18 = .ok (.iload_n 2, 1) := by decide +kernel
theorem dX9_isHome_19 : decode cX9_isHome 19 = .ok (.iaload, 1) := by decide +kernel
theorem dX9_isHome_20 : decode cX9_isHome 20 = .ok (.iload_n 2, 1) := by decide +kernel
theorem dX9_isHome_21 : decode cX9_isHome 21 = .ok (.if_icmp .ne 19, 3) := by decide +kernel
theorem dX9_isHome_24 : decode cX9_isHome 24 = .ok (.aload_n 0, 1) := by decide +kernel
theorem dX9_isHome_25 : decode cX9_isHome 25 = .ok (.getfield 59, 3) := by decide +kernel
theorem dX9_isHome_28 : decode cX9_isHome 28 = .ok (.bipush 10, 2) := by decide +kernel
theorem dX9_isHome_30 : decode cX9_isHome 30 = .ok (.iload_n 2, 1) := by decide +kernel
theorem dX9_isHome_31 : decode cX9_isHome 31 = .ok (.iadd, 1) := by decide +kernel
theorem dX9_isHome_32 : decode cX9_isHome 32 = .ok (.iaload, 1) := by decide +kernel
theorem dX9_isHome_33 : decode cX9_isHome 33 = .ok (.ifCond .ne 7, 3) := by decide +kernel
theorem dX9_isHome_36 : decode cX9_isHome 36 = .ok (.iconst 1, 1) := by decide +kernel
theorem dX9_isHome_37 : decode cX9_isHome 37 = .ok (.goto 4, 3) := by decide +kernel
theorem dX9_isHome_40 : decode cX9_isHome 40 = .ok (.iconst 0, 1) := by decide +kernel
theorem dX9_isHome_41 : decode cX9_isHome 41 = .ok (.istore_n 1, 1) := by decide +kernel
theorem dX9_isHome_42 : decode cX9_isHome 42 = .ok (.iinc 2 1, 3) := by decide +kernel
theorem dX9_isHome_45 : decode cX9_isHome 45 = .ok (.goto (-41), 3) := by decide +kernel
theorem dX9_isHome_48 : decode cX9_isHome 48 = .ok (.iload_n 1, 1) := by decide +kernel
theorem dX9_isHome_49 : decode cX9_isHome 49 = .ok (.ireturn, 1) := by decide +kernel
theorem dX9_homeIn_0 : decode cX9_homeIn 0 = .ok (.iload_n 1, 1) := by decide +kernel
theorem dX9_homeIn_1 : decode cX9_homeIn 1 = .ok (.invokestatic 97, 3) := by decide +kernel
theorem dX9_homeIn_4 : decode cX9_homeIn 4 = .ok (.ifCond .ne 5, 3) := by decide +kernel
theorem dX9_homeIn_7 : decode cX9_homeIn 7 = .ok (.iconst (-1), 1) := by decide +kernel
theorem dX9_homeIn_8 : decode cX9_homeIn 8 = .ok (.ireturn, 1) := by decide +kernel
theorem dX9_homeIn_9 : decode cX9_homeIn 9 = .ok (.aload_n 0, 1) := by decide +kernel
theorem dX9_homeIn_10 : decode cX9_homeIn 10 = .ok (.invokevirtual 188, 3) := by decide +kernel
theorem dX9_homeIn_13 : decode cX9_homeIn 13 = .ok (.aload_n 0, 1) := by decide +kernel
theorem dX9_homeIn_14 : decode cX9_homeIn 14 = .ok (.iload_n 1, 1) := by decide +kernel
theorem dX9_homeIn_15 : decode cX9_homeIn 15 = .ok (.invokevirtual 191, 3) := by decide +kernel
theorem dX9_homeIn_18 : decode cX9_homeIn 18 = .ok (.istore_n 2, 1) := by decide +kernel
theorem dX9_homeIn_19 : decode cX9_homeIn 19 = .ok (.aload_n 0, 1) := by decide +kernel
theorem dX9_homeIn_20 : decode cX9_homeIn 20 = .ok (.invokevirtual 210, 3) := by decide +kernel
theorem dX9_homeIn_23 : decode cX9_homeIn 23 = .ok (.iconst 0, 1) := by decide +kernel
theorem dX9_homeIn_24 : decode cX9_homeIn 24 = .ok (.istore_n 3, 1) := by decide +kernel
theorem dX9_homeIn_25 : decode cX9_homeIn 25 = .ok (.iload_n 3, 1) := by decide +kernel
theorem dX9_homeIn_26 : decode cX9_homeIn 26 = .ok (.iload_n 2, 1) := by decide +kernel
theorem dX9_homeIn_27 : decode cX9_homeIn 27 = .ok (.if_icmp .ge 21, 3) := by decide +kernel
theorem dX9_homeIn_30 : decode cX9_homeIn 30 = .ok (.aload_n 0, 1) := by decide +kernel
theorem dX9_homeIn_31 : decode cX9_homeIn 31 = .ok (.invokevirtual 213, 3) := by decide +kernel
theorem dX9_homeIn_34 : decode cX9_homeIn 34 = .ok (.ifCond .ne 14, 3) := by decide +kernel
theorem dX9_homeIn_37 : decode cX9_homeIn 37 = .ok (.aload_n 0, 1) := by decide +kernel
theorem dX9_homeIn_38 : decode cX9_homeIn 38 = .ok (.iload_n 1, 1) := by decide +kernel
theorem dX9_homeIn_39 : decode cX9_homeIn 39 = .ok (.invokevirtual 216, 3) := by decide +kernel
theorem dX9_homeIn_42 : decode cX9_homeIn 42 = .ok (.iinc 3 1, 3) := by decide +kernel
theorem dX9_homeIn_45 : decode cX9_homeIn 45 = .ok (.goto (-20), 3) := by decide +kernel
theorem dX9_homeIn_48 : decode cX9_homeIn 48 = .ok (.aload_n 0, 1) := by decide +kernel
theorem dX9_homeIn_49 : decode cX9_homeIn 49 = .ok (.invokevirtual 213, 3) := by decide +kernel
theorem dX9_homeIn_52 : decode cX9_homeIn 52 = .ok (.ifCond .eq 7, 3) := by decide +kernel
theorem dX9_homeIn_55 : decode cX9_homeIn 55 = .ok (.iload_n 3, 1) := by decide +kernel
theorem dX9_homeIn_56 : decode cX9_homeIn 56 = .ok (.goto 5, 3) := by decide +kernel
theorem dX9_homeIn_59 : decode cX9_homeIn 59 = .ok (.bipush (-5), 2) := by decide +kernel
theorem dX9_homeIn_61 : decode cX9_homeIn 61 = .ok (.ireturn, 1) := by decide +kernel
theorem dX9_shortest_0 : decode cX9_shortest 0 = .ok (.aload_n 0, 1) := by decide +kernel
theorem dX9_shortest_1 : decode cX9_shortest 1 = .ok (.invokevirtual 188, 3) := by decide +kernel
theorem dX9_shortest_4 : decode cX9_shortest 4 = .ok (.iconst 0, 1) := by decide +kernel
theorem dX9_shortest_5 : decode cX9_shortest 5 = .ok (.istore_n 1, 1) := by decide +kernel
theorem dX9_shortest_6 : decode cX9_shortest 6 = .ok (.iload_n 1, 1) := by decide +kernel
theorem dX9_shortest_7 : decode cX9_shortest 7 = .ok (.iconst 4, 1) := by decide +kernel
theorem dX9_shortest_8 : decode cX9_shortest 8 = .ok (.if_icmp .gt 69, 3) := by decide +kernel
theorem dX9_shortest_11 : decode cX9_shortest 11 = .ok (.iconst 1, 1) := by decide +kernel
theorem dX9_shortest_12 : decode cX9_shortest 12 = .ok (.iconst 3, 1) := by decide +kernel
theorem dX9_shortest_13 : decode cX9_shortest 13 = .ok (.iload_n 1, 1) := by decide +kernel
theorem dX9_shortest_14 : decode cX9_shortest 14 = .ok (.imul, 1) := by decide +kernel
theorem dX9_shortest_15 : decode cX9_shortest 15 = .ok (.ishl, 1) := by decide +kernel
theorem dX9_shortest_16 : decode cX9_shortest 16 = .ok (.istore_n 2, 1) := by decide +kernel
theorem dX9_shortest_17 : decode cX9_shortest 17 = .ok (.iload_n 2, 1) := by decide +kernel
theorem dX9_shortest_18 : decode cX9_shortest 18 = .ok (.iconst 2, 1) := by decide +kernel
theorem dX9_shortest_19 : decode cX9_shortest 19 = .ok (.iconst 3, 1) := by decide +kernel
theorem dX9_shortest_20 : decode cX9_shortest 20 = .ok (.iload_n 1, 1) := by decide +kernel
theorem dX9_shortest_21 : decode cX9_shortest 21 = .ok (.imul, 1) := by decide +kernel
theorem dX9_shortest_22 : decode cX9_shortest 22 = .ok (.ishl, 1) := by decide +kernel
theorem dX9_shortest_23 : decode cX9_shortest 23 = .ok (.if_icmp .ge 48, 3) := by decide +kernel
theorem dX9_shortest_26 : decode cX9_shortest 26 = .ok (.aload_n 0, 1) := by decide +kernel
theorem dX9_shortest_27 : decode cX9_shortest 27 = .ok (.invokevirtual 210, 3) := by decide +kernel
theorem dX9_shortest_30 : decode cX9_shortest 30 = .ok (.iload_n 1, 1) := by decide +kernel
theorem dX9_shortest_31 : decode cX9_shortest 31 = .ok (.iconst 1, 1) := by decide +kernel
theorem dX9_shortest_32 : decode cX9_shortest 32 = .ok (.isub, 1) := by decide +kernel
theorem dX9_shortest_33 : decode cX9_shortest 33 = .ok (.istore_n 3, 1) := by decide +kernel
theorem dX9_shortest_34 : decode cX9_shortest 34 = .ok (.iload_n 3, 1) := by decide +kernel
theorem dX9_shortest_35 : decode cX9_shortest 35 = .ok (.ifCond .lt 21, 3) := by decide +kernel
theorem dX9_shortest_38 : decode cX9_shortest 38 = .ok (.aload_n 0, 1) := by decide +kernel
theorem dX9_shortest_39 : decode cX9_shortest 39 = .ok (.iload_n 2, 1) := by decide +kernel
theorem dX9_shortest_40 : decode cX9_shortest 40 = .ok (.iconst 3, 1) := by decide +kernel
theorem dX9_shortest_41 : decode cX9_shortest 41 = .ok (.iload_n 3, 1) := by decide +kernel
theorem dX9_shortest_42 : decode cX9_shortest 42 = .ok (.imul, 1) := by decide +kernel
theorem dX9_shortest_43 : decode cX9_shortest 43 = .ok (.ishr, 1) := by decide +kernel
theorem dX9_shortest_44 : decode cX9_shortest 44 = .ok (.bipush 7, 2) := by decide +kernel
theorem dX9_shortest_46 : decode cX9_shortest 46 = .ok (.iand, 1) := by decide +kernel
theorem dX9_shortest_47 : decode cX9_shortest 47 = .ok (.invokevirtual 216, 3) := by decide +kernel
theorem dX9_shortest_50 : decode cX9_shortest 50 = .ok (.iinc 3 (-1), 3) := by decide +kernel
theorem dX9_shortest_53 : decode cX9_shortest 53 = .ok (.goto (-19), 3) := by decide +kernel
theorem dX9_shortest_56 : decode cX9_shortest 56 = .ok (.aload_n 0, 1) := by decide +kernel
theorem dX9_shortest_57 : decode cX9_shortest 57 = .ok (.invokevirtual 213, 3) := by decide +kernel
theorem dX9_shortest_60 : decode cX9_shortest 60 = .ok (.ifCond .eq 5, 3) := by decide +kernel
theorem dX9_shortest_63 : decode cX9_shortest 63 = .ok (.iload_n 2, 1) := by decide +kernel
theorem dX9_shortest_64 : decode cX9_shortest 64 = .ok (.ireturn, 1) := by decide +kernel
theorem dX9_shortest_65 : decode cX9_shortest 65 = .ok (.iinc 2 1, 3) := by decide +kernel
theorem dX9_shortest_68 : decode cX9_shortest 68 = .ok (.goto (-51), 3) := by decide +kernel
theorem dX9_shortest_71 : decode cX9_shortest 71 = .ok (.iinc 1 1, 3) := by decide +kernel
theorem dX9_shortest_74 : decode cX9_shortest 74 = .ok (.goto (-68), 3) := by decide +kernel
theorem dX9_shortest_77 : decode cX9_shortest 77 = .ok (.iconst 0, 1) := by decide +kernel
theorem dX9_shortest_78 : decode cX9_shortest 78 = .ok (.ireturn, 1) := by decide +kernel
theorem dX9_wayHome_0 : decode cX9_wayHome 0 = .ok (.iload_n 1, 1) := by decide +kernel
theorem dX9_wayHome_1 : decode cX9_wayHome 1 = .ok (.iconst 0, 1) := by decide +kernel
theorem dX9_wayHome_2 : decode cX9_wayHome 2 = .ok (.iconst 4, 1) := by decide +kernel
theorem dX9_wayHome_3 : decode cX9_wayHome 3 = .ok (.invokestatic 62, 3) := by decide +kernel
theorem dX9_wayHome_6 : decode cX9_wayHome 6 = .ok (.ifCond .ne 6, 3) := by decide +kernel
theorem dX9_wayHome_9 : decode cX9_wayHome 9 = .ok (.bipush (-2), 2) := by decide +kernel
theorem dX9_wayHome_11 : decode cX9_wayHome 11 = .ok (.ireturn, 1) := by decide +kernel
theorem dX9_wayHome_12 : decode cX9_wayHome 12 = .ok (.aload_n 0, 1) := by decide +kernel
theorem dX9_wayHome_13 : decode cX9_wayHome 13 = .ok (.invokevirtual 219, 3) := by decide +kernel
theorem dX9_wayHome_16 : decode cX9_wayHome 16 = .ok (.istore_n 2, 1) := by decide +kernel
theorem dX9_wayHome_17 : decode cX9_wayHome 17 = .ok (.iload_n 2, 1) := by decide +kernel
theorem dX9_wayHome_18 : decode cX9_wayHome 18 = .ok (.ifCond .ne 8, 3) := by decide +kernel
theorem dX9_wayHome_21 : decode cX9_wayHome 21 = .ok (.bipush (-5), 2) := by decide +kernel
theorem dX9_wayHome_23 : decode cX9_wayHome 23 = .ok (.goto 46, 3) := by decide +kernel
theorem dX9_wayHome_26 : decode cX9_wayHome 26 = .ok (.iload_n 2, 1) := by decide +kernel
theorem dX9_wayHome_27 : decode cX9_wayHome 27 = .ok (.bipush 8, 2) := by decide +kernel
theorem dX9_wayHome_29 : decode cX9_wayHome 29 = .ok (.if_icmp .ge 7, 3) := by decide +kernel
theorem dX9_wayHome_32 : decode cX9_wayHome 32 = .ok (.iconst 0, 1) := by decide +kernel
theorem dX9_wayHome_33 : decode cX9_wayHome 33 = .ok (.goto 36, 3) := by decide +kernel
theorem dX9_wayHome_36 : decode cX9_wayHome 36 = .ok (.iload_n 2, 1) := by decide +kernel
theorem dX9_wayHome_37 : decode cX9_wayHome 37 = .ok (.bipush 64, 2) := by decide +kernel
theorem dX9_wayHome_39 : decode cX9_wayHome 39 = .ok (.if_icmp .ge 7, 3) := by decide +kernel
theorem dX9_wayHome_42 : decode cX9_wayHome 42 = .ok (.iconst 1, 1) := by decide +kernel
theorem dX9_wayHome_43 : decode cX9_wayHome 43 = .ok (.goto 26, 3) := by decide +kernel
theorem dX9_wayHome_46 : decode cX9_wayHome 46 = .ok (.iload_n 2, 1) := by decide +kernel
theorem dX9_wayHome_47 : decode cX9_wayHome 47 = .ok (.sipush 512, 3) := by decide +kernel
theorem dX9_wayHome_50 : decode cX9_wayHome 50 = .ok (.if_icmp .ge 7, 3) := by decide +kernel
theorem dX9_wayHome_53 : decode cX9_wayHome 53 = .ok (.iconst 2, 1) := by decide +kernel
theorem dX9_wayHome_54 : decode cX9_wayHome 54 = .ok (.goto 15, 3) := by decide +kernel
theorem dX9_wayHome_57 : decode cX9_wayHome 57 = .ok (.iload_n 2, 1) := by decide +kernel
theorem dX9_wayHome_58 : decode cX9_wayHome 58 = .ok (.sipush 4096, 3) := by decide +kernel
theorem dX9_wayHome_61 : decode cX9_wayHome 61 = .ok (.if_icmp .ge 7, 3) := by decide +kernel
theorem dX9_wayHome_64 : decode cX9_wayHome 64 = .ok (.iconst 3, 1) := by decide +kernel
theorem dX9_wayHome_65 : decode cX9_wayHome 65 = .ok (.goto 4, 3) := by decide +kernel
theorem dX9_wayHome_68 : decode cX9_wayHome 68 = .ok (.iconst 4, 1) := by decide +kernel
theorem dX9_wayHome_69 : decode cX9_wayHome 69 = .ok (.istore_n 3, 1) := by decide +kernel
theorem dX9_wayHome_70 : decode cX9_wayHome 70 = .ok (.iload_n 1, 1) := by decide +kernel
theorem dX9_wayHome_71 : decode cX9_wayHome 71 = .ok (.ifCond .ne 7, 3) := by decide +kernel
theorem dX9_wayHome_74 : decode cX9_wayHome 74 = .ok (.iload_n 3, 1) := by decide +kernel
theorem dX9_wayHome_75 : decode cX9_wayHome 75 = .ok (.goto 23, 3) := by decide +kernel
theorem dX9_wayHome_78 : decode cX9_wayHome 78 = .ok (.iload_n 1, 1) := by decide +kernel
theorem dX9_wayHome_79 : decode cX9_wayHome 79 = .ok (.iload_n 3, 1) := by decide +kernel
theorem dX9_wayHome_80 : decode cX9_wayHome 80 = .ok (.if_icmp .le 8, 3) := by decide +kernel
theorem dX9_wayHome_83 : decode cX9_wayHome 83 = .ok (.bipush (-5), 2) := by decide +kernel
theorem dX9_wayHome_85 : decode cX9_wayHome 85 = .ok (.goto 13, 3) := by decide +kernel
theorem dX9_wayHome_88 : decode cX9_wayHome 88 = .ok (.iload_n 2, 1) := by decide +kernel
theorem dX9_wayHome_89 : decode cX9_wayHome 89 = .ok (.iconst 3, 1) := by decide +kernel
theorem dX9_wayHome_90 : decode cX9_wayHome 90 = .ok (.iload_n 3, 1) := by decide +kernel
theorem dX9_wayHome_91 : decode cX9_wayHome 91 = .ok (.iload_n 1, 1) := by decide +kernel
theorem dX9_wayHome_92 : decode cX9_wayHome 92 = .ok (.isub, 1) := by decide +kernel
theorem dX9_wayHome_93 : decode cX9_wayHome 93 = .ok (.imul, 1) := by decide +kernel
theorem dX9_wayHome_94 : decode cX9_wayHome 94 = .ok (.ishr, 1) := by decide +kernel
theorem dX9_wayHome_95 : decode cX9_wayHome 95 = .ok (.bipush 7, 2) := by decide +kernel
theorem dX9_wayHome_97 : decode cX9_wayHome 97 = .ok (.iand, 1) := by decide +kernel
theorem dX9_wayHome_98 : decode cX9_wayHome 98 = .ok (.ireturn, 1) := by decide +kernel
theorem dX9_distance_0 : decode cX9_distance 0 = .ok (.iconst 0, 1) := by decide +kernel
theorem dX9_distance_1 : decode cX9_distance 1 = .ok (.istore_n 1, 1) := by decide +kernel
theorem dX9_distance_2 : decode cX9_distance 2 = .ok (.iconst 0, 1) := by decide +kernel
theorem dX9_distance_3 : decode cX9_distance 3 = .ok (.istore_n 2, 1) := by decide +kernel
theorem dX9_distance_4 : decode cX9_distance 4 = .ok (.iload_n 2, 1) := by decide +kernel
theorem dX9_distance_5 : decode cX9_distance 5 = .ok (.bipush 10, 2) := by decide +kernel
theorem dX9_distance_7 : decode cX9_distance 7 = .ok (.if_icmp .ge 39, 3) := by decide +kernel
theorem dX9_distance_10 : decode cX9_distance 10 = .ok (.aload_n 0, 1) := by decide +kernel
theorem dX9_distance_11 : decode cX9_distance 11 = .ok (.iload_n 2, 1) := by decide +kernel
theorem dX9_distance_12 : decode cX9_distance 12 = .ok (.invokevirtual 123, 3) := by decide +kernel
theorem dX9_distance_15 : decode cX9_distance 15 = .ok (.iload_n 2, 1) := by decide +kernel
theorem dX9_distance_16 : decode cX9_distance 16 = .ok (.isub, 1) := by decide +kernel
theorem dX9_distance_17 : decode cX9_distance 17 = .ok (.bipush 10, 2) := by decide +kernel
theorem dX9_distance_19 : decode cX9_distance 19 = .ok (.iadd, 1) := by decide +kernel
theorem dX9_distance_20 : decode cX9_distance 20 = .ok (.bipush 10, 2) := by decide +kernel
theorem dX9_distance_22 : decode cX9_distance 22 = .ok (.irem, 1) := by decide +kernel
theorem dX9_distance_23 : decode cX9_distance 23 = .ok (.istore_n 3, 1) := by decide +kernel
theorem dX9_distance_24 : decode cX9_distance 24 = .ok (.iload_n 1, 1) := by decide +kernel
theorem dX9_distance_25 : decode cX9_distance 25 = .ok (.iload_n 3, 1) := by decide +kernel
theorem dX9_distance_26 : decode cX9_distance 26 = .ok (.iconst 5, 1) := by decide +kernel
theorem dX9_distance_27 : decode cX9_distance 27 = .ok (.if_icmp .le 10, 3) := by decide +kernel
theorem dX9_distance_30 : decode cX9_distance 30 = .ok (.bipush 10, 2) := by decide +kernel
theorem dX9_distance_32 : decode cX9_distance 32 = .ok (.iload_n 3, 1) := by decide +kernel
theorem dX9_distance_33 : decode cX9_distance 33 = .ok (.isub, 1) := by decide +kernel
theorem dX9_distance_34 : decode cX9_distance 34 = .ok (.goto 4, 3) := by decide +kernel
theorem dX9_distance_37 : decode cX9_distance 37 = .ok (.iload_n 3, 1) := by decide +kernel
theorem dX9_distance_38 : decode cX9_distance 38 = .ok (.iadd, 1) := by decide +kernel
theorem dX9_distance_39 : decode cX9_distance 39 = .ok (.istore_n 1, 1) := by decide +kernel
theorem dX9_distance_40 : decode cX9_distance 40 = .ok (.iinc 2 1, 3) := by decide +kernel
theorem dX9_distance_43 : decode cX9_distance 43 = .ok (.goto (-39), 3) := by decide +kernel
theorem dX9_distance_46 : decode cX9_distance 46 = .ok (.iload_n 1, 1) := by decide +kernel
theorem dX9_distance_47 : decode cX9_distance 47 = .ok (.i2d, 1) := by decide +kernel
theorem dX9_distance_48 : decode cX9_distance 48 = .ok (.ldc2_w 222, 3) := by decide +kernel
theorem dX9_distance_51 : decode cX9_distance 51 = .ok (.ddiv, 1) := by decide +kernel
theorem dX9_distance_52 : decode cX9_distance 52 = .ok (.dreturn, 1) := by decide +kernel
end
section
theorem dL_law_0 : decode code 0 = .ok (.new 7, 3) := by decide +kernel
theorem dL_law_3 : decode code 3 = .ok (.dup, 1) := by decide +kernel
theorem dL_law_4 : decode code 4 = .ok (.invokespecial 9, 3) := by decide +kernel
theorem dL_law_7 : decode code 7 = .ok (.astore_n 1, 1) := by decide +kernel
theorem dL_law_8 : decode code 8 = .ok (.new 10, 3) := by decide +kernel
theorem dL_law_11 : decode code 11 = .ok (.dup, 1) := by decide +kernel
theorem dL_law_12 : decode code 12 = .ok (.invokespecial 12, 3) := by decide +kernel
theorem dL_law_15 : decode code 15 = .ok (.astore_n 2, 1) := by decide +kernel
theorem dL_law_16 : decode code 16 = .ok (.iconst 0, 1) := by decide +kernel
theorem dL_law_17 : decode code 17 = .ok (.istore_n 3, 1) := by decide +kernel
theorem dL_law_18 : decode code 18 = .ok (.iload_n 3, 1) := by decide +kernel
theorem dL_law_19 : decode code 19 = .ok (.aload_n 0, 1) := by decide +kernel
theorem dL_law_20 : decode code 20 = .ok (.arraylength, 1) := by decide +kernel
theorem dL_law_21 : decode code 21 = .ok (.iconst 5, 1) := by decide +kernel
theorem dL_law_22 : decode code 22 = .ok (.isub, 1) := by decide +kernel
theorem dL_law_23 : decode code 23 = .ok (.if_icmp .gt 879, 3) := by decide +kernel
theorem dL_law_26 : decode code 26 = .ok (.aload_n 0, 1) := by decide +kernel
theorem dL_law_27 : decode code 27 = .ok (.iload_n 3, 1) := by decide +kernel
theorem dL_law_28 : decode code 28 = .ok (.iaload, 1) := by decide +kernel
theorem dL_law_29 : decode code 29 = .ok (.bipush 31, 2) := by decide +kernel
theorem dL_law_31 : decode code 31 = .ok (.iand, 1) := by decide +kernel
theorem dL_law_32 : decode code 32 = .ok (.tableswitch 864 0 25 #[120, 173, 196, 229, 252, 311, 324, 347, 360, 373, 386, 399, 412, 425, 458, 481, 524, 557, 616, 649, 682, 705, 728, 777, 800, 823], 120) := by decide +kernel
theorem dL_law_152 : decode code 152 = .ok (.aload_n 1, 1) := by decide +kernel
theorem dL_law_153 : decode code 153 = .ok (.aload_n 0, 1) := by decide +kernel
theorem dL_law_154 : decode code 154 = .ok (.iload_n 3, 1) := by decide +kernel
theorem dL_law_155 : decode code 155 = .ok (.iconst 1, 1) := by decide +kernel
theorem dL_law_156 : decode code 156 = .ok (.iadd, 1) := by decide +kernel
theorem dL_law_157 : decode code 157 = .ok (.iaload, 1) := by decide +kernel
theorem dL_law_158 : decode code 158 = .ok (.aload_n 0, 1) := by decide +kernel
theorem dL_law_159 : decode code 159 = .ok (.iload_n 3, 1) := by decide +kernel
theorem dL_law_160 : decode code 160 = .ok (.iconst 2, 1) := by decide +kernel
theorem dL_law_161 : decode code 161 = .ok (.iadd, 1) := by decide +kernel
theorem dL_law_162 : decode code 162 = .ok (.iaload, 1) := by decide +kernel
theorem dL_law_163 : decode code 163 = .ok (.aload_n 0, 1) := by decide +kernel
theorem dL_law_164 : decode code 164 = .ok (.iload_n 3, 1) := by decide +kernel
theorem dL_law_165 : decode code 165 = .ok (.iconst 3, 1) := by decide +kernel
theorem dL_law_166 : decode code 166 = .ok (.iadd, 1) := by decide +kernel
theorem dL_law_167 : decode code 167 = .ok (.iaload, 1) := by decide +kernel
theorem dL_law_168 : decode code 168 = .ok (.aload_n 0, 1) := by decide +kernel
theorem dL_law_169 : decode code 169 = .ok (.iload_n 3, 1) := by decide +kernel
theorem dL_law_170 : decode code 170 = .ok (.iconst 4, 1) := by decide +kernel
theorem dL_law_171 : decode code 171 = .ok (.iadd, 1) := by decide +kernel
theorem dL_law_172 : decode code 172 = .ok (.iaload, 1) := by decide +kernel
theorem dL_law_173 : decode code 173 = .ok (.invokevirtual 13, 3) := by decide +kernel
theorem dL_law_176 : decode code 176 = .ok (.aload_n 2, 1) := by decide +kernel
theorem dL_law_177 : decode code 177 = .ok (.aload_n 0, 1) := by decide +kernel
theorem dL_law_178 : decode code 178 = .ok (.iload_n 3, 1) := by decide +kernel
theorem dL_law_179 : decode code 179 = .ok (.iconst 1, 1) := by decide +kernel
theorem dL_law_180 : decode code 180 = .ok (.iadd, 1) := by decide +kernel
theorem dL_law_181 : decode code 181 = .ok (.iaload, 1) := by decide +kernel
theorem dL_law_182 : decode code 182 = .ok (.aload_n 0, 1) := by decide +kernel
theorem dL_law_183 : decode code 183 = .ok (.iload_n 3, 1) := by decide +kernel
theorem dL_law_184 : decode code 184 = .ok (.iconst 2, 1) := by decide +kernel
theorem dL_law_185 : decode code 185 = .ok (.iadd, 1) := by decide +kernel
theorem dL_law_186 : decode code 186 = .ok (.iaload, 1) := by decide +kernel
theorem dL_law_187 : decode code 187 = .ok (.aload_n 0, 1) := by decide +kernel
theorem dL_law_188 : decode code 188 = .ok (.iload_n 3, 1) := by decide +kernel
theorem dL_law_189 : decode code 189 = .ok (.iconst 3, 1) := by decide +kernel
theorem dL_law_190 : decode code 190 = .ok (.iadd, 1) := by decide +kernel
theorem dL_law_191 : decode code 191 = .ok (.iaload, 1) := by decide +kernel
theorem dL_law_192 : decode code 192 = .ok (.aload_n 0, 1) := by decide +kernel
theorem dL_law_193 : decode code 193 = .ok (.iload_n 3, 1) := by decide +kernel
theorem dL_law_194 : decode code 194 = .ok (.iconst 4, 1) := by decide +kernel
theorem dL_law_195 : decode code 195 = .ok (.iadd, 1) := by decide +kernel
theorem dL_law_196 : decode code 196 = .ok (.iaload, 1) := by decide +kernel
theorem dL_law_197 : decode code 197 = .ok (.invokevirtual 17, 3) := by decide +kernel
theorem dL_law_200 : decode code 200 = .ok (.if_icmp .eq 696, 3) := by decide +kernel
theorem dL_law_203 : decode code 203 = .ok (.iconst 0, 1) := by decide +kernel
theorem dL_law_204 : decode code 204 = .ok (.ireturn, 1) := by decide +kernel
theorem dL_law_205 : decode code 205 = .ok (.aload_n 1, 1) := by decide +kernel
theorem dL_law_206 : decode code 206 = .ok (.aload_n 0, 1) := by decide +kernel
theorem dL_law_207 : decode code 207 = .ok (.iload_n 3, 1) := by decide +kernel
theorem dL_law_208 : decode code 208 = .ok (.iconst 1, 1) := by decide +kernel
theorem dL_law_209 : decode code 209 = .ok (.iadd, 1) := by decide +kernel
theorem dL_law_210 : decode code 210 = .ok (.iaload, 1) := by decide +kernel
theorem dL_law_211 : decode code 211 = .ok (.invokevirtual 18, 3) := by decide +kernel
theorem dL_law_214 : decode code 214 = .ok (.aload_n 2, 1) := by decide +kernel
theorem dL_law_215 : decode code 215 = .ok (.aload_n 0, 1) := by decide +kernel
theorem dL_law_216 : decode code 216 = .ok (.iload_n 3, 1) := by decide +kernel
theorem dL_law_217 : decode code 217 = .ok (.iconst 1, 1) := by decide +kernel
theorem dL_law_218 : decode code 218 = .ok (.iadd, 1) := by decide +kernel
theorem dL_law_219 : decode code 219 = .ok (.iaload, 1) := by decide +kernel
theorem dL_law_220 : decode code 220 = .ok (.invokevirtual 22, 3) := by decide +kernel
theorem dL_law_223 : decode code 223 = .ok (.if_icmp .eq 673, 3) := by decide +kernel
theorem dL_law_226 : decode code 226 = .ok (.iconst 0, 1) := by decide +kernel
theorem dL_law_227 : decode code 227 = .ok (.ireturn, 1) := by decide +kernel
theorem dL_law_228 : decode code 228 = .ok (.aload_n 1, 1) := by decide +kernel
theorem dL_law_229 : decode code 229 = .ok (.aload_n 0, 1) := by decide +kernel
theorem dL_law_230 : decode code 230 = .ok (.iload_n 3, 1) := by decide +kernel
theorem dL_law_231 : decode code 231 = .ok (.iconst 1, 1) := by decide +kernel
theorem dL_law_232 : decode code 232 = .ok (.iadd, 1) := by decide +kernel
theorem dL_law_233 : decode code 233 = .ok (.iaload, 1) := by decide +kernel
theorem dL_law_234 : decode code 234 = .ok (.aload_n 0, 1) := by decide +kernel
theorem dL_law_235 : decode code 235 = .ok (.iload_n 3, 1) := by decide +kernel
theorem dL_law_236 : decode code 236 = .ok (.iconst 2, 1) := by decide +kernel
theorem dL_law_237 : decode code 237 = .ok (.iadd, 1) := by decide +kernel
theorem dL_law_238 : decode code 238 = .ok (.iaload, 1) := by decide +kernel
theorem dL_law_239 : decode code 239 = .ok (.invokevirtual 23, 3) := by decide +kernel
theorem dL_law_242 : decode code 242 = .ok (.aload_n 2, 1) := by decide +kernel
theorem dL_law_243 : decode code 243 = .ok (.aload_n 0, 1) := by decide +kernel
theorem dL_law_244 : decode code 244 = .ok (.iload_n 3, 1) := by decide +kernel
theorem dL_law_245 : decode code 245 = .ok (.iconst 1, 1) := by decide +kernel
theorem dL_law_246 : decode code 246 = .ok (.iadd, 1) := by decide +kernel
theorem dL_law_247 : decode code 247 = .ok (.iaload, 1) := by decide +kernel
theorem dL_law_248 : decode code 248 = .ok (.aload_n 0, 1) := by decide +kernel
theorem dL_law_249 : decode code 249 = .ok (.iload_n 3, 1) := by decide +kernel
theorem dL_law_250 : decode code 250 = .ok (.iconst 2, 1) := by decide +kernel
theorem dL_law_251 : decode code 251 = .ok (.iadd, 1) := by decide +kernel
theorem dL_law_252 : decode code 252 = .ok (.iaload, 1) := by decide +kernel
theorem dL_law_253 : decode code 253 = .ok (.invokevirtual 27, 3) := by decide +kernel
theorem dL_law_256 : decode code 256 = .ok (.if_icmp .eq 640, 3) := by decide +kernel
theorem dL_law_259 : decode code 259 = .ok (.iconst 0, 1) := by decide +kernel
theorem dL_law_260 : decode code 260 = .ok (.ireturn, 1) := by decide +kernel
theorem dL_law_261 : decode code 261 = .ok (.aload_n 1, 1) := by decide +kernel
theorem dL_law_262 : decode code 262 = .ok (.aload_n 0, 1) := by decide +kernel
theorem dL_law_263 : decode code 263 = .ok (.iload_n 3, 1) := by decide +kernel
theorem dL_law_264 : decode code 264 = .ok (.iconst 1, 1) := by decide +kernel
theorem dL_law_265 : decode code 265 = .ok (.iadd, 1) := by decide +kernel
theorem dL_law_266 : decode code 266 = .ok (.iaload, 1) := by decide +kernel
theorem dL_law_267 : decode code 267 = .ok (.invokevirtual 28, 3) := by decide +kernel
theorem dL_law_270 : decode code 270 = .ok (.aload_n 2, 1) := by decide +kernel
theorem dL_law_271 : decode code 271 = .ok (.aload_n 0, 1) := by decide +kernel
theorem dL_law_272 : decode code 272 = .ok (.iload_n 3, 1) := by decide +kernel
theorem dL_law_273 : decode code 273 = .ok (.iconst 1, 1) := by decide +kernel
theorem dL_law_274 : decode code 274 = .ok (.iadd, 1) := by decide +kernel
theorem dL_law_275 : decode code 275 = .ok (.iaload, 1) := by decide +kernel
theorem dL_law_276 : decode code 276 = .ok (.invokevirtual 31, 3) := by decide +kernel
theorem dL_law_279 : decode code 279 = .ok (.if_icmp .eq 617, 3) := by decide +kernel
theorem dL_law_282 : decode code 282 = .ok (.iconst 0, 1) := by decide +kernel
theorem dL_law_283 : decode code 283 = .ok (.ireturn, 1) := by decide +kernel
theorem dL_law_284 : decode code 284 = .ok (.aload_n 1, 1) := by decide +kernel
theorem dL_law_285 : decode code 285 = .ok (.aload_n 0, 1) := by decide +kernel
theorem dL_law_286 : decode code 286 = .ok (.iload_n 3, 1) := by decide +kernel
theorem dL_law_287 : decode code 287 = .ok (.iconst 1, 1) := by decide +kernel
theorem dL_law_288 : decode code 288 = .ok (.iadd, 1) := by decide +kernel
theorem dL_law_289 : decode code 289 = .ok (.iaload, 1) := by decide +kernel
theorem dL_law_290 : decode code 290 = .ok (.aload_n 0, 1) := by decide +kernel
theorem dL_law_291 : decode code 291 = .ok (.iload_n 3, 1) := by decide +kernel
theorem dL_law_292 : decode code 292 = .ok (.iconst 2, 1) := by decide +kernel
theorem dL_law_293 : decode code 293 = .ok (.iadd, 1) := by decide +kernel
theorem dL_law_294 : decode code 294 = .ok (.iaload, 1) := by decide +kernel
theorem dL_law_295 : decode code 295 = .ok (.aload_n 0, 1) := by decide +kernel
theorem dL_law_296 : decode code 296 = .ok (.iload_n 3, 1) := by decide +kernel
theorem dL_law_297 : decode code 297 = .ok (.iconst 3, 1) := by decide +kernel
theorem dL_law_298 : decode code 298 = .ok (.iadd, 1) := by decide +kernel
theorem dL_law_299 : decode code 299 = .ok (.iaload, 1) := by decide +kernel
theorem dL_law_300 : decode code 300 = .ok (.ifCond .eq 7, 3) := by decide +kernel
theorem dL_law_303 : decode code 303 = .ok (.iconst 1, 1) := by decide +kernel
theorem dL_law_304 : decode code 304 = .ok (.goto 4, 3) := by decide +kernel
theorem dL_law_307 : decode code 307 = .ok (.iconst 0, 1) := by decide +kernel
theorem dL_law_308 : decode code 308 = .ok (.invokevirtual 32, 3) := by decide +kernel
theorem dL_law_311 : decode code 311 = .ok (.aload_n 2, 1) := by decide +kernel
theorem dL_law_312 : decode code 312 = .ok (.aload_n 0, 1) := by decide +kernel
theorem dL_law_313 : decode code 313 = .ok (.iload_n 3, 1) := by decide +kernel
theorem dL_law_314 : decode code 314 = .ok (.iconst 1, 1) := by decide +kernel
theorem dL_law_315 : decode code 315 = .ok (.iadd, 1) := by decide +kernel
theorem dL_law_316 : decode code 316 = .ok (.iaload, 1) := by decide +kernel
theorem dL_law_317 : decode code 317 = .ok (.aload_n 0, 1) := by decide +kernel
theorem dL_law_318 : decode code 318 = .ok (.iload_n 3, 1) := by decide +kernel
theorem dL_law_319 : decode code 319 = .ok (.iconst 2, 1) := by decide +kernel
theorem dL_law_320 : decode code 320 = .ok (.iadd, 1) := by decide +kernel
theorem dL_law_321 : decode code 321 = .ok (.iaload, 1) := by decide +kernel
theorem dL_law_322 : decode code 322 = .ok (.aload_n 0, 1) := by decide +kernel
theorem dL_law_323 : decode code 323 = .ok (.iload_n 3, 1) := by decide +kernel
theorem dL_law_324 : decode code 324 = .ok (.iconst 3, 1) := by decide +kernel
theorem dL_law_325 : decode code 325 = .ok (.iadd, 1) := by decide +kernel
theorem dL_law_326 : decode code 326 = .ok (.iaload, 1) := by decide +kernel
theorem dL_law_327 : decode code 327 = .ok (.ifCond .eq 7, 3) := by decide +kernel
theorem dL_law_330 : decode code 330 = .ok (.iconst 1, 1) := by decide +kernel
theorem dL_law_331 : decode code 331 = .ok (.goto 4, 3) := by decide +kernel
theorem dL_law_334 : decode code 334 = .ok (.iconst 0, 1) := by decide +kernel
theorem dL_law_335 : decode code 335 = .ok (.invokevirtual 36, 3) := by decide +kernel
theorem dL_law_338 : decode code 338 = .ok (.if_icmp .eq 558, 3) := by decide +kernel
theorem dL_law_341 : decode code 341 = .ok (.iconst 0, 1) := by decide +kernel
theorem dL_law_342 : decode code 342 = .ok (.ireturn, 1) := by decide +kernel
theorem dL_law_343 : decode code 343 = .ok (.aload_n 1, 1) := by decide +kernel
theorem dL_law_344 : decode code 344 = .ok (.invokevirtual 37, 3) := by decide +kernel
theorem dL_law_347 : decode code 347 = .ok (.aload_n 2, 1) := by decide +kernel
theorem dL_law_348 : decode code 348 = .ok (.invokevirtual 41, 3) := by decide +kernel
theorem dL_law_351 : decode code 351 = .ok (.if_icmp .eq 545, 3) := by decide +kernel
theorem dL_law_354 : decode code 354 = .ok (.iconst 0, 1) := by decide +kernel
theorem dL_law_355 : decode code 355 = .ok (.ireturn, 1) := by decide +kernel
theorem dL_law_356 : decode code 356 = .ok (.aload_n 1, 1) := by decide +kernel
theorem dL_law_357 : decode code 357 = .ok (.aload_n 0, 1) := by decide +kernel
theorem dL_law_358 : decode code 358 = .ok (.iload_n 3, 1) := by decide +kernel
theorem dL_law_359 : decode code 359 = .ok (.iconst 1, 1) := by decide +kernel
theorem dL_law_360 : decode code 360 = .ok (.iadd, 1) := by decide +kernel
theorem dL_law_361 : decode code 361 = .ok (.iaload, 1) := by decide +kernel
theorem dL_law_362 : decode code 362 = .ok (.invokevirtual 42, 3) := by decide +kernel
theorem dL_law_365 : decode code 365 = .ok (.aload_n 2, 1) := by decide +kernel
theorem dL_law_366 : decode code 366 = .ok (.aload_n 0, 1) := by decide +kernel
theorem dL_law_367 : decode code 367 = .ok (.iload_n 3, 1) := by decide +kernel
theorem dL_law_368 : decode code 368 = .ok (.iconst 1, 1) := by decide +kernel
theorem dL_law_369 : decode code 369 = .ok (.iadd, 1) := by decide +kernel
theorem dL_law_370 : decode code 370 = .ok (.iaload, 1) := by decide +kernel
theorem dL_law_371 : decode code 371 = .ok (.invokevirtual 45, 3) := by decide +kernel
theorem dL_law_374 : decode code 374 = .ok (.if_icmp .eq 522, 3) := by decide +kernel
theorem dL_law_377 : decode code 377 = .ok (.iconst 0, 1) := by decide +kernel
theorem dL_law_378 : decode code 378 = .ok (.ireturn, 1) := by decide +kernel
theorem dL_law_379 : decode code 379 = .ok (.aload_n 1, 1) := by decide +kernel
theorem dL_law_380 : decode code 380 = .ok (.invokevirtual 46, 3) := by decide +kernel
theorem dL_law_383 : decode code 383 = .ok (.aload_n 2, 1) := by decide +kernel
theorem dL_law_384 : decode code 384 = .ok (.invokevirtual 49, 3) := by decide +kernel
theorem dL_law_387 : decode code 387 = .ok (.if_icmp .eq 509, 3) := by decide +kernel
theorem dL_law_390 : decode code 390 = .ok (.iconst 0, 1) := by decide +kernel
theorem dL_law_391 : decode code 391 = .ok (.ireturn, 1) := by decide +kernel
theorem dL_law_392 : decode code 392 = .ok (.aload_n 1, 1) := by decide +kernel
theorem dL_law_393 : decode code 393 = .ok (.invokevirtual 50, 3) := by decide +kernel
theorem dL_law_396 : decode code 396 = .ok (.aload_n 2, 1) := by decide +kernel
theorem dL_law_397 : decode code 397 = .ok (.invokevirtual 53, 3) := by decide +kernel
theorem dL_law_400 : decode code 400 = .ok (.if_icmp .eq 496, 3) := by decide +kernel
theorem dL_law_403 : decode code 403 = .ok (.iconst 0, 1) := by decide +kernel
theorem dL_law_404 : decode code 404 = .ok (.ireturn, 1) := by decide +kernel
theorem dL_law_405 : decode code 405 = .ok (.aload_n 1, 1) := by decide +kernel
theorem dL_law_406 : decode code 406 = .ok (.invokevirtual 54, 3) := by decide +kernel
theorem dL_law_409 : decode code 409 = .ok (.aload_n 2, 1) := by decide +kernel
theorem dL_law_410 : decode code 410 = .ok (.invokevirtual 57, 3) := by decide +kernel
theorem dL_law_413 : decode code 413 = .ok (.if_icmp .eq 483, 3) := by decide +kernel
theorem dL_law_416 : decode code 416 = .ok (.iconst 0, 1) := by decide +kernel
theorem dL_law_417 : decode code 417 = .ok (.ireturn, 1) := by decide +kernel
theorem dL_law_418 : decode code 418 = .ok (.aload_n 1, 1) := by decide +kernel
theorem dL_law_419 : decode code 419 = .ok (.invokevirtual 58, 3) := by decide +kernel
theorem dL_law_422 : decode code 422 = .ok (.aload_n 2, 1) := by decide +kernel
theorem dL_law_423 : decode code 423 = .ok (.invokevirtual 61, 3) := by decide +kernel
theorem dL_law_426 : decode code 426 = .ok (.if_icmp .eq 470, 3) := by decide +kernel
theorem dL_law_429 : decode code 429 = .ok (.iconst 0, 1) := by decide +kernel
theorem dL_law_430 : decode code 430 = .ok (.ireturn, 1) := by decide +kernel
theorem dL_law_431 : decode code 431 = .ok (.aload_n 1, 1) := by decide +kernel
theorem dL_law_432 : decode code 432 = .ok (.invokevirtual 62, 3) := by decide +kernel
theorem dL_law_435 : decode code 435 = .ok (.aload_n 2, 1) := by decide +kernel
theorem dL_law_436 : decode code 436 = .ok (.invokevirtual 65, 3) := by decide +kernel
theorem dL_law_439 : decode code 439 = .ok (.if_icmp .eq 457, 3) := by decide +kernel
theorem dL_law_442 : decode code 442 = .ok (.iconst 0, 1) := by decide +kernel
theorem dL_law_443 : decode code 443 = .ok (.ireturn, 1) := by decide +kernel
theorem dL_law_444 : decode code 444 = .ok (.aload_n 1, 1) := by decide +kernel
theorem dL_law_445 : decode code 445 = .ok (.invokevirtual 66, 3) := by decide +kernel
theorem dL_law_448 : decode code 448 = .ok (.aload_n 2, 1) := by decide +kernel
theorem dL_law_449 : decode code 449 = .ok (.invokevirtual 69, 3) := by decide +kernel
theorem dL_law_452 : decode code 452 = .ok (.if_icmp .eq 444, 3) := by decide +kernel
theorem dL_law_455 : decode code 455 = .ok (.iconst 0, 1) := by decide +kernel
theorem dL_law_456 : decode code 456 = .ok (.ireturn, 1) := by decide +kernel
theorem dL_law_457 : decode code 457 = .ok (.aload_n 1, 1) := by decide +kernel
theorem dL_law_458 : decode code 458 = .ok (.aload_n 0, 1) := by decide +kernel
theorem dL_law_459 : decode code 459 = .ok (.iload_n 3, 1) := by decide +kernel
theorem dL_law_460 : decode code 460 = .ok (.iconst 1, 1) := by decide +kernel
theorem dL_law_461 : decode code 461 = .ok (.iadd, 1) := by decide +kernel
theorem dL_law_462 : decode code 462 = .ok (.iaload, 1) := by decide +kernel
theorem dL_law_463 : decode code 463 = .ok (.aload_n 0, 1) := by decide +kernel
theorem dL_law_464 : decode code 464 = .ok (.iload_n 3, 1) := by decide +kernel
theorem dL_law_465 : decode code 465 = .ok (.iconst 2, 1) := by decide +kernel
theorem dL_law_466 : decode code 466 = .ok (.iadd, 1) := by decide +kernel
theorem dL_law_467 : decode code 467 = .ok (.iaload, 1) := by decide +kernel
theorem dL_law_468 : decode code 468 = .ok (.invokevirtual 70, 3) := by decide +kernel
theorem dL_law_471 : decode code 471 = .ok (.aload_n 2, 1) := by decide +kernel
theorem dL_law_472 : decode code 472 = .ok (.aload_n 0, 1) := by decide +kernel
theorem dL_law_473 : decode code 473 = .ok (.iload_n 3, 1) := by decide +kernel
theorem dL_law_474 : decode code 474 = .ok (.iconst 1, 1) := by decide +kernel
theorem dL_law_475 : decode code 475 = .ok (.iadd, 1) := by decide +kernel
theorem dL_law_476 : decode code 476 = .ok (.iaload, 1) := by decide +kernel
theorem dL_law_477 : decode code 477 = .ok (.aload_n 0, 1) := by decide +kernel
theorem dL_law_478 : decode code 478 = .ok (.iload_n 3, 1) := by decide +kernel
theorem dL_law_479 : decode code 479 = .ok (.iconst 2, 1) := by decide +kernel
theorem dL_law_480 : decode code 480 = .ok (.iadd, 1) := by decide +kernel
theorem dL_law_481 : decode code 481 = .ok (.iaload, 1) := by decide +kernel
theorem dL_law_482 : decode code 482 = .ok (.invokevirtual 73, 3) := by decide +kernel
theorem dL_law_485 : decode code 485 = .ok (.if_icmp .eq 411, 3) := by decide +kernel
theorem dL_law_488 : decode code 488 = .ok (.iconst 0, 1) := by decide +kernel
theorem dL_law_489 : decode code 489 = .ok (.ireturn, 1) := by decide +kernel
theorem dL_law_490 : decode code 490 = .ok (.aload_n 1, 1) := by decide +kernel
theorem dL_law_491 : decode code 491 = .ok (.aload_n 0, 1) := by decide +kernel
theorem dL_law_492 : decode code 492 = .ok (.iload_n 3, 1) := by decide +kernel
theorem dL_law_493 : decode code 493 = .ok (.iconst 1, 1) := by decide +kernel
theorem dL_law_494 : decode code 494 = .ok (.iadd, 1) := by decide +kernel
theorem dL_law_495 : decode code 495 = .ok (.iaload, 1) := by decide +kernel
theorem dL_law_496 : decode code 496 = .ok (.invokevirtual 74, 3) := by decide +kernel
theorem dL_law_499 : decode code 499 = .ok (.aload_n 2, 1) := by decide +kernel
theorem dL_law_500 : decode code 500 = .ok (.aload_n 0, 1) := by decide +kernel
theorem dL_law_501 : decode code 501 = .ok (.iload_n 3, 1) := by decide +kernel
theorem dL_law_502 : decode code 502 = .ok (.iconst 1, 1) := by decide +kernel
theorem dL_law_503 : decode code 503 = .ok (.iadd, 1) := by decide +kernel
theorem dL_law_504 : decode code 504 = .ok (.iaload, 1) := by decide +kernel
theorem dL_law_505 : decode code 505 = .ok (.invokevirtual 77, 3) := by decide +kernel
theorem dL_law_508 : decode code 508 = .ok (.if_icmp .eq 388, 3) := by decide +kernel
theorem dL_law_511 : decode code 511 = .ok (.iconst 0, 1) := by decide +kernel
theorem dL_law_512 : decode code 512 = .ok (.ireturn, 1) := by decide +kernel
theorem dL_law_513 : decode code 513 = .ok (.aload_n 1, 1) := by decide +kernel
theorem dL_law_514 : decode code 514 = .ok (.aload_n 0, 1) := by decide +kernel
theorem dL_law_515 : decode code 515 = .ok (.iload_n 3, 1) := by decide +kernel
theorem dL_law_516 : decode code 516 = .ok (.iconst 1, 1) := by decide +kernel
theorem dL_law_517 : decode code 517 = .ok (.iadd, 1) := by decide +kernel
theorem dL_law_518 : decode code 518 = .ok (.iaload, 1) := by decide +kernel
theorem dL_law_519 : decode code 519 = .ok (.aload_n 0, 1) := by decide +kernel
theorem dL_law_520 : decode code 520 = .ok (.iload_n 3, 1) := by decide +kernel
theorem dL_law_521 : decode code 521 = .ok (.iconst 2, 1) := by decide +kernel
theorem dL_law_522 : decode code 522 = .ok (.iadd, 1) := by decide +kernel
theorem dL_law_523 : decode code 523 = .ok (.iaload, 1) := by decide +kernel
theorem dL_law_524 : decode code 524 = .ok (.aload_n 0, 1) := by decide +kernel
theorem dL_law_525 : decode code 525 = .ok (.iload_n 3, 1) := by decide +kernel
theorem dL_law_526 : decode code 526 = .ok (.iconst 3, 1) := by decide +kernel
theorem dL_law_527 : decode code 527 = .ok (.iadd, 1) := by decide +kernel
theorem dL_law_528 : decode code 528 = .ok (.iaload, 1) := by decide +kernel
theorem dL_law_529 : decode code 529 = .ok (.invokevirtual 78, 3) := by decide +kernel
theorem dL_law_532 : decode code 532 = .ok (.aload_n 2, 1) := by decide +kernel
theorem dL_law_533 : decode code 533 = .ok (.aload_n 0, 1) := by decide +kernel
theorem dL_law_534 : decode code 534 = .ok (.iload_n 3, 1) := by decide +kernel
theorem dL_law_535 : decode code 535 = .ok (.iconst 1, 1) := by decide +kernel
theorem dL_law_536 : decode code 536 = .ok (.iadd, 1) := by decide +kernel
theorem dL_law_537 : decode code 537 = .ok (.iaload, 1) := by decide +kernel
theorem dL_law_538 : decode code 538 = .ok (.aload_n 0, 1) := by decide +kernel
theorem dL_law_539 : decode code 539 = .ok (.iload_n 3, 1) := by decide +kernel
theorem dL_law_540 : decode code 540 = .ok (.iconst 2, 1) := by decide +kernel
theorem dL_law_541 : decode code 541 = .ok (.iadd, 1) := by decide +kernel
theorem dL_law_542 : decode code 542 = .ok (.iaload, 1) := by decide +kernel
theorem dL_law_543 : decode code 543 = .ok (.aload_n 0, 1) := by decide +kernel
theorem dL_law_544 : decode code 544 = .ok (.iload_n 3, 1) := by decide +kernel
theorem dL_law_545 : decode code 545 = .ok (.iconst 3, 1) := by decide +kernel
theorem dL_law_546 : decode code 546 = .ok (.iadd, 1) := by decide +kernel
theorem dL_law_547 : decode code 547 = .ok (.iaload, 1) := by decide +kernel
theorem dL_law_548 : decode code 548 = .ok (.invokevirtual 82, 3) := by decide +kernel
theorem dL_law_551 : decode code 551 = .ok (.if_icmp .eq 345, 3) := by decide +kernel
theorem dL_law_554 : decode code 554 = .ok (.iconst 0, 1) := by decide +kernel
theorem dL_law_555 : decode code 555 = .ok (.ireturn, 1) := by decide +kernel
theorem dL_law_556 : decode code 556 = .ok (.aload_n 1, 1) := by decide +kernel
theorem dL_law_557 : decode code 557 = .ok (.aload_n 0, 1) := by decide +kernel
theorem dL_law_558 : decode code 558 = .ok (.iload_n 3, 1) := by decide +kernel
theorem dL_law_559 : decode code 559 = .ok (.iconst 1, 1) := by decide +kernel
theorem dL_law_560 : decode code 560 = .ok (.iadd, 1) := by decide +kernel
theorem dL_law_561 : decode code 561 = .ok (.iaload, 1) := by decide +kernel
theorem dL_law_562 : decode code 562 = .ok (.aload_n 0, 1) := by decide +kernel
theorem dL_law_563 : decode code 563 = .ok (.iload_n 3, 1) := by decide +kernel
theorem dL_law_564 : decode code 564 = .ok (.iconst 2, 1) := by decide +kernel
theorem dL_law_565 : decode code 565 = .ok (.iadd, 1) := by decide +kernel
theorem dL_law_566 : decode code 566 = .ok (.iaload, 1) := by decide +kernel
theorem dL_law_567 : decode code 567 = .ok (.invokevirtual 83, 3) := by decide +kernel
theorem dL_law_570 : decode code 570 = .ok (.aload_n 2, 1) := by decide +kernel
theorem dL_law_571 : decode code 571 = .ok (.aload_n 0, 1) := by decide +kernel
theorem dL_law_572 : decode code 572 = .ok (.iload_n 3, 1) := by decide +kernel
theorem dL_law_573 : decode code 573 = .ok (.iconst 1, 1) := by decide +kernel
theorem dL_law_574 : decode code 574 = .ok (.iadd, 1) := by decide +kernel
theorem dL_law_575 : decode code 575 = .ok (.iaload, 1) := by decide +kernel
theorem dL_law_576 : decode code 576 = .ok (.aload_n 0, 1) := by decide +kernel
theorem dL_law_577 : decode code 577 = .ok (.iload_n 3, 1) := by decide +kernel
theorem dL_law_578 : decode code 578 = .ok (.iconst 2, 1) := by decide +kernel
theorem dL_law_579 : decode code 579 = .ok (.iadd, 1) := by decide +kernel
theorem dL_law_580 : decode code 580 = .ok (.iaload, 1) := by decide +kernel
theorem dL_law_581 : decode code 581 = .ok (.invokevirtual 86, 3) := by decide +kernel
theorem dL_law_584 : decode code 584 = .ok (.if_icmp .eq 312, 3) := by decide +kernel
theorem dL_law_587 : decode code 587 = .ok (.iconst 0, 1) := by decide +kernel
theorem dL_law_588 : decode code 588 = .ok (.ireturn, 1) := by decide +kernel
theorem dL_law_589 : decode code 589 = .ok (.aload_n 1, 1) := by decide +kernel
theorem dL_law_590 : decode code 590 = .ok (.aload_n 0, 1) := by decide +kernel
theorem dL_law_591 : decode code 591 = .ok (.iload_n 3, 1) := by decide +kernel
theorem dL_law_592 : decode code 592 = .ok (.iconst 1, 1) := by decide +kernel
theorem dL_law_593 : decode code 593 = .ok (.iadd, 1) := by decide +kernel
theorem dL_law_594 : decode code 594 = .ok (.iaload, 1) := by decide +kernel
theorem dL_law_595 : decode code 595 = .ok (.aload_n 0, 1) := by decide +kernel
theorem dL_law_596 : decode code 596 = .ok (.iload_n 3, 1) := by decide +kernel
theorem dL_law_597 : decode code 597 = .ok (.iconst 2, 1) := by decide +kernel
theorem dL_law_598 : decode code 598 = .ok (.iadd, 1) := by decide +kernel
theorem dL_law_599 : decode code 599 = .ok (.iaload, 1) := by decide +kernel
theorem dL_law_600 : decode code 600 = .ok (.aload_n 0, 1) := by decide +kernel
theorem dL_law_601 : decode code 601 = .ok (.iload_n 3, 1) := by decide +kernel
theorem dL_law_602 : decode code 602 = .ok (.iconst 3, 1) := by decide +kernel
theorem dL_law_603 : decode code 603 = .ok (.iadd, 1) := by decide +kernel
theorem dL_law_604 : decode code 604 = .ok (.iaload, 1) := by decide +kernel
theorem dL_law_605 : decode code 605 = .ok (.ifCond .eq 7, 3) := by decide +kernel
theorem dL_law_608 : decode code 608 = .ok (.iconst 1, 1) := by decide +kernel
theorem dL_law_609 : decode code 609 = .ok (.goto 4, 3) := by decide +kernel
theorem dL_law_612 : decode code 612 = .ok (.iconst 0, 1) := by decide +kernel
theorem dL_law_613 : decode code 613 = .ok (.invokevirtual 87, 3) := by decide +kernel
theorem dL_law_616 : decode code 616 = .ok (.aload_n 2, 1) := by decide +kernel
theorem dL_law_617 : decode code 617 = .ok (.aload_n 0, 1) := by decide +kernel
theorem dL_law_618 : decode code 618 = .ok (.iload_n 3, 1) := by decide +kernel
theorem dL_law_619 : decode code 619 = .ok (.iconst 1, 1) := by decide +kernel
theorem dL_law_620 : decode code 620 = .ok (.iadd, 1) := by decide +kernel
theorem dL_law_621 : decode code 621 = .ok (.iaload, 1) := by decide +kernel
theorem dL_law_622 : decode code 622 = .ok (.aload_n 0, 1) := by decide +kernel
theorem dL_law_623 : decode code 623 = .ok (.iload_n 3, 1) := by decide +kernel
theorem dL_law_624 : decode code 624 = .ok (.iconst 2, 1) := by decide +kernel
theorem dL_law_625 : decode code 625 = .ok (.iadd, 1) := by decide +kernel
theorem dL_law_626 : decode code 626 = .ok (.iaload, 1) := by decide +kernel
theorem dL_law_627 : decode code 627 = .ok (.aload_n 0, 1) := by decide +kernel
theorem dL_law_628 : decode code 628 = .ok (.iload_n 3, 1) := by decide +kernel
theorem dL_law_629 : decode code 629 = .ok (.iconst 3, 1) := by decide +kernel
theorem dL_law_630 : decode code 630 = .ok (.iadd, 1) := by decide +kernel
theorem dL_law_631 : decode code 631 = .ok (.iaload, 1) := by decide +kernel
theorem dL_law_632 : decode code 632 = .ok (.ifCond .eq 7, 3) := by decide +kernel
theorem dL_law_635 : decode code 635 = .ok (.iconst 1, 1) := by decide +kernel
theorem dL_law_636 : decode code 636 = .ok (.goto 4, 3) := by decide +kernel
theorem dL_law_639 : decode code 639 = .ok (.iconst 0, 1) := by decide +kernel
theorem dL_law_640 : decode code 640 = .ok (.invokevirtual 90, 3) := by decide +kernel
theorem dL_law_643 : decode code 643 = .ok (.if_icmp .eq 253, 3) := by decide +kernel
theorem dL_law_646 : decode code 646 = .ok (.iconst 0, 1) := by decide +kernel
theorem dL_law_647 : decode code 647 = .ok (.ireturn, 1) := by decide +kernel
theorem dL_law_648 : decode code 648 = .ok (.aload_n 1, 1) := by decide +kernel
theorem dL_law_649 : decode code 649 = .ok (.aload_n 0, 1) := by decide +kernel
theorem dL_law_650 : decode code 650 = .ok (.iload_n 3, 1) := by decide +kernel
theorem dL_law_651 : decode code 651 = .ok (.iconst 1, 1) := by decide +kernel
theorem dL_law_652 : decode code 652 = .ok (.iadd, 1) := by decide +kernel
theorem dL_law_653 : decode code 653 = .ok (.iaload, 1) := by decide +kernel
theorem dL_law_654 : decode code 654 = .ok (.aload_n 0, 1) := by decide +kernel
theorem dL_law_655 : decode code 655 = .ok (.iload_n 3, 1) := by decide +kernel
theorem dL_law_656 : decode code 656 = .ok (.iconst 2, 1) := by decide +kernel
theorem dL_law_657 : decode code 657 = .ok (.iadd, 1) := by decide +kernel
theorem dL_law_658 : decode code 658 = .ok (.iaload, 1) := by decide +kernel
theorem dL_law_659 : decode code 659 = .ok (.invokevirtual 91, 3) := by decide +kernel
theorem dL_law_662 : decode code 662 = .ok (.aload_n 2, 1) := by decide +kernel
theorem dL_law_663 : decode code 663 = .ok (.aload_n 0, 1) := by decide +kernel
theorem dL_law_664 : decode code 664 = .ok (.iload_n 3, 1) := by decide +kernel
theorem dL_law_665 : decode code 665 = .ok (.iconst 1, 1) := by decide +kernel
theorem dL_law_666 : decode code 666 = .ok (.iadd, 1) := by decide +kernel
theorem dL_law_667 : decode code 667 = .ok (.iaload, 1) := by decide +kernel
theorem dL_law_668 : decode code 668 = .ok (.aload_n 0, 1) := by decide +kernel
theorem dL_law_669 : decode code 669 = .ok (.iload_n 3, 1) := by decide +kernel
theorem dL_law_670 : decode code 670 = .ok (.iconst 2, 1) := by decide +kernel
theorem dL_law_671 : decode code 671 = .ok (.iadd, 1) := by decide +kernel
theorem dL_law_672 : decode code 672 = .ok (.iaload, 1) := by decide +kernel
theorem dL_law_673 : decode code 673 = .ok (.invokevirtual 94, 3) := by decide +kernel
theorem dL_law_676 : decode code 676 = .ok (.if_icmp .eq 220, 3) := by decide +kernel
theorem dL_law_679 : decode code 679 = .ok (.iconst 0, 1) := by decide +kernel
theorem dL_law_680 : decode code 680 = .ok (.ireturn, 1) := by decide +kernel
theorem dL_law_681 : decode code 681 = .ok (.aload_n 1, 1) := by decide +kernel
theorem dL_law_682 : decode code 682 = .ok (.aload_n 0, 1) := by decide +kernel
theorem dL_law_683 : decode code 683 = .ok (.iload_n 3, 1) := by decide +kernel
theorem dL_law_684 : decode code 684 = .ok (.iconst 1, 1) := by decide +kernel
theorem dL_law_685 : decode code 685 = .ok (.iadd, 1) := by decide +kernel
theorem dL_law_686 : decode code 686 = .ok (.iaload, 1) := by decide +kernel
theorem dL_law_687 : decode code 687 = .ok (.aload_n 0, 1) := by decide +kernel
theorem dL_law_688 : decode code 688 = .ok (.iload_n 3, 1) := by decide +kernel
theorem dL_law_689 : decode code 689 = .ok (.iconst 2, 1) := by decide +kernel
theorem dL_law_690 : decode code 690 = .ok (.iadd, 1) := by decide +kernel
theorem dL_law_691 : decode code 691 = .ok (.iaload, 1) := by decide +kernel
theorem dL_law_692 : decode code 692 = .ok (.invokevirtual 95, 3) := by decide +kernel
theorem dL_law_695 : decode code 695 = .ok (.aload_n 2, 1) := by decide +kernel
theorem dL_law_696 : decode code 696 = .ok (.aload_n 0, 1) := by decide +kernel
theorem dL_law_697 : decode code 697 = .ok (.iload_n 3, 1) := by decide +kernel
theorem dL_law_698 : decode code 698 = .ok (.iconst 1, 1) := by decide +kernel
theorem dL_law_699 : decode code 699 = .ok (.iadd, 1) := by decide +kernel
theorem dL_law_700 : decode code 700 = .ok (.iaload, 1) := by decide +kernel
theorem dL_law_701 : decode code 701 = .ok (.aload_n 0, 1) := by decide +kernel
theorem dL_law_702 : decode code 702 = .ok (.iload_n 3, 1) := by decide +kernel
theorem dL_law_703 : decode code 703 = .ok (.iconst 2, 1) := by decide +kernel
theorem dL_law_704 : decode code 704 = .ok (.iadd, 1) := by decide +kernel
theorem dL_law_705 : decode code 705 = .ok (.iaload, 1) := by decide +kernel
theorem dL_law_706 : decode code 706 = .ok (.invokevirtual 98, 3) := by decide +kernel
theorem dL_law_709 : decode code 709 = .ok (.if_icmp .eq 187, 3) := by decide +kernel
theorem dL_law_712 : decode code 712 = .ok (.iconst 0, 1) := by decide +kernel
theorem dL_law_713 : decode code 713 = .ok (.ireturn, 1) := by decide +kernel
theorem dL_law_714 : decode code 714 = .ok (.aload_n 1, 1) := by decide +kernel
theorem dL_law_715 : decode code 715 = .ok (.aload_n 0, 1) := by decide +kernel
theorem dL_law_716 : decode code 716 = .ok (.iload_n 3, 1) := by decide +kernel
theorem dL_law_717 : decode code 717 = .ok (.iconst 1, 1) := by decide +kernel
theorem dL_law_718 : decode code 718 = .ok (.iadd, 1) := by decide +kernel
theorem dL_law_719 : decode code 719 = .ok (.iaload, 1) := by decide +kernel
theorem dL_law_720 : decode code 720 = .ok (.invokevirtual 99, 3) := by decide +kernel
theorem dL_law_723 : decode code 723 = .ok (.aload_n 2, 1) := by decide +kernel
theorem dL_law_724 : decode code 724 = .ok (.aload_n 0, 1) := by decide +kernel
theorem dL_law_725 : decode code 725 = .ok (.iload_n 3, 1) := by decide +kernel
theorem dL_law_726 : decode code 726 = .ok (.iconst 1, 1) := by decide +kernel
theorem dL_law_727 : decode code 727 = .ok (.iadd, 1) := by decide +kernel
theorem dL_law_728 : decode code 728 = .ok (.iaload, 1) := by decide +kernel
theorem dL_law_729 : decode code 729 = .ok (.invokevirtual 102, 3) := by decide +kernel
theorem dL_law_732 : decode code 732 = .ok (.if_icmp .eq 164, 3) := by decide +kernel
theorem dL_law_735 : decode code 735 = .ok (.iconst 0, 1) := by decide +kernel
theorem dL_law_736 : decode code 736 = .ok (.ireturn, 1) := by decide +kernel
theorem dL_law_737 : decode code 737 = .ok (.aload_n 1, 1) := by decide +kernel
theorem dL_law_738 : decode code 738 = .ok (.aload_n 0, 1) := by decide +kernel
theorem dL_law_739 : decode code 739 = .ok (.iload_n 3, 1) := by decide +kernel
theorem dL_law_740 : decode code 740 = .ok (.iconst 1, 1) := by decide +kernel
theorem dL_law_741 : decode code 741 = .ok (.iadd, 1) := by decide +kernel
theorem dL_law_742 : decode code 742 = .ok (.iaload, 1) := by decide +kernel
theorem dL_law_743 : decode code 743 = .ok (.invokevirtual 103, 3) := by decide +kernel
theorem dL_law_746 : decode code 746 = .ok (.aload_n 2, 1) := by decide +kernel
theorem dL_law_747 : decode code 747 = .ok (.aload_n 0, 1) := by decide +kernel
theorem dL_law_748 : decode code 748 = .ok (.iload_n 3, 1) := by decide +kernel
theorem dL_law_749 : decode code 749 = .ok (.iconst 1, 1) := by decide +kernel
theorem dL_law_750 : decode code 750 = .ok (.iadd, 1) := by decide +kernel
theorem dL_law_751 : decode code 751 = .ok (.iaload, 1) := by decide +kernel
theorem dL_law_752 : decode code 752 = .ok (.invokevirtual 106, 3) := by decide +kernel
theorem dL_law_755 : decode code 755 = .ok (.if_icmp .eq 141, 3) := by decide +kernel
theorem dL_law_758 : decode code 758 = .ok (.iconst 0, 1) := by decide +kernel
theorem dL_law_759 : decode code 759 = .ok (.ireturn, 1) := by decide +kernel
theorem dL_law_760 : decode code 760 = .ok (.aload_n 1, 1) := by decide +kernel
theorem dL_law_761 : decode code 761 = .ok (.aload_n 0, 1) := by decide +kernel
theorem dL_law_762 : decode code 762 = .ok (.iload_n 3, 1) := by decide +kernel
theorem dL_law_763 : decode code 763 = .ok (.iconst 1, 1) := by decide +kernel
theorem dL_law_764 : decode code 764 = .ok (.iadd, 1) := by decide +kernel
theorem dL_law_765 : decode code 765 = .ok (.iaload, 1) := by decide +kernel
theorem dL_law_766 : decode code 766 = .ok (.aload_n 0, 1) := by decide +kernel
theorem dL_law_767 : decode code 767 = .ok (.iload_n 3, 1) := by decide +kernel
theorem dL_law_768 : decode code 768 = .ok (.iconst 2, 1) := by decide +kernel
theorem dL_law_769 : decode code 769 = .ok (.iadd, 1) := by decide +kernel
theorem dL_law_770 : decode code 770 = .ok (.iaload, 1) := by decide +kernel
theorem dL_law_771 : decode code 771 = .ok (.ifCond .eq 7, 3) := by decide +kernel
theorem dL_law_774 : decode code 774 = .ok (.iconst 1, 1) := by decide +kernel
theorem dL_law_775 : decode code 775 = .ok (.goto 4, 3) := by decide +kernel
theorem dL_law_778 : decode code 778 = .ok (.iconst 0, 1) := by decide +kernel
theorem dL_law_779 : decode code 779 = .ok (.invokevirtual 107, 3) := by decide +kernel
theorem dL_law_782 : decode code 782 = .ok (.aload_n 2, 1) := by decide +kernel
theorem dL_law_783 : decode code 783 = .ok (.aload_n 0, 1) := by decide +kernel
theorem dL_law_784 : decode code 784 = .ok (.iload_n 3, 1) := by decide +kernel
theorem dL_law_785 : decode code 785 = .ok (.iconst 1, 1) := by decide +kernel
theorem dL_law_786 : decode code 786 = .ok (.iadd, 1) := by decide +kernel
theorem dL_law_787 : decode code 787 = .ok (.iaload, 1) := by decide +kernel
theorem dL_law_788 : decode code 788 = .ok (.aload_n 0, 1) := by decide +kernel
theorem dL_law_789 : decode code 789 = .ok (.iload_n 3, 1) := by decide +kernel
theorem dL_law_790 : decode code 790 = .ok (.iconst 2, 1) := by decide +kernel
theorem dL_law_791 : decode code 791 = .ok (.iadd, 1) := by decide +kernel
theorem dL_law_792 : decode code 792 = .ok (.iaload, 1) := by decide +kernel
theorem dL_law_793 : decode code 793 = .ok (.ifCond .eq 7, 3) := by decide +kernel
theorem dL_law_796 : decode code 796 = .ok (.iconst 1, 1) := by decide +kernel
theorem dL_law_797 : decode code 797 = .ok (.goto 4, 3) := by decide +kernel
theorem dL_law_800 : decode code 800 = .ok (.iconst 0, 1) := by decide +kernel
theorem dL_law_801 : decode code 801 = .ok (.invokevirtual 111, 3) := by decide +kernel
theorem dL_law_804 : decode code 804 = .ok (.if_icmp .eq 92, 3) := by decide +kernel
theorem dL_law_807 : decode code 807 = .ok (.iconst 0, 1) := by decide +kernel
theorem dL_law_808 : decode code 808 = .ok (.ireturn, 1) := by decide +kernel
theorem dL_law_809 : decode code 809 = .ok (.aload_n 1, 1) := by decide +kernel
theorem dL_law_810 : decode code 810 = .ok (.aload_n 0, 1) := by decide +kernel
theorem dL_law_811 : decode code 811 = .ok (.iload_n 3, 1) := by decide +kernel
theorem dL_law_812 : decode code 812 = .ok (.iconst 1, 1) := by decide +kernel
theorem dL_law_813 : decode code 813 = .ok (.iadd, 1) := by decide +kernel
theorem dL_law_814 : decode code 814 = .ok (.iaload, 1) := by decide +kernel
theorem dL_law_815 : decode code 815 = .ok (.invokevirtual 112, 3) := by decide +kernel
theorem dL_law_818 : decode code 818 = .ok (.aload_n 2, 1) := by decide +kernel
theorem dL_law_819 : decode code 819 = .ok (.aload_n 0, 1) := by decide +kernel
theorem dL_law_820 : decode code 820 = .ok (.iload_n 3, 1) := by decide +kernel
theorem dL_law_821 : decode code 821 = .ok (.iconst 1, 1) := by decide +kernel
theorem dL_law_822 : decode code 822 = .ok (.iadd, 1) := by decide +kernel
theorem dL_law_823 : decode code 823 = .ok (.iaload, 1) := by decide +kernel
theorem dL_law_824 : decode code 824 = .ok (.invokevirtual 115, 3) := by decide +kernel
theorem dL_law_827 : decode code 827 = .ok (.if_icmp .eq 69, 3) := by decide +kernel
theorem dL_law_830 : decode code 830 = .ok (.iconst 0, 1) := by decide +kernel
theorem dL_law_831 : decode code 831 = .ok (.ireturn, 1) := by decide +kernel
theorem dL_law_832 : decode code 832 = .ok (.aload_n 1, 1) := by decide +kernel
theorem dL_law_833 : decode code 833 = .ok (.aload_n 0, 1) := by decide +kernel
theorem dL_law_834 : decode code 834 = .ok (.iload_n 3, 1) := by decide +kernel
theorem dL_law_835 : decode code 835 = .ok (.iconst 1, 1) := by decide +kernel
theorem dL_law_836 : decode code 836 = .ok (.iadd, 1) := by decide +kernel
theorem dL_law_837 : decode code 837 = .ok (.iaload, 1) := by decide +kernel
theorem dL_law_838 : decode code 838 = .ok (.invokevirtual 116, 3) := by decide +kernel
theorem dL_law_841 : decode code 841 = .ok (.aload_n 2, 1) := by decide +kernel
theorem dL_law_842 : decode code 842 = .ok (.aload_n 0, 1) := by decide +kernel
theorem dL_law_843 : decode code 843 = .ok (.iload_n 3, 1) := by decide +kernel
theorem dL_law_844 : decode code 844 = .ok (.iconst 1, 1) := by decide +kernel
theorem dL_law_845 : decode code 845 = .ok (.iadd, 1) := by decide +kernel
theorem dL_law_846 : decode code 846 = .ok (.iaload, 1) := by decide +kernel
theorem dL_law_847 : decode code 847 = .ok (.invokevirtual 119, 3) := by decide +kernel
theorem dL_law_850 : decode code 850 = .ok (.if_icmp .eq 46, 3) := by decide +kernel
theorem dL_law_853 : decode code 853 = .ok (.iconst 0, 1) := by decide +kernel
theorem dL_law_854 : decode code 854 = .ok (.ireturn, 1) := by decide +kernel
theorem dL_law_855 : decode code 855 = .ok (.aload_n 1, 1) := by decide +kernel
theorem dL_law_856 : decode code 856 = .ok (.invokevirtual 120, 3) := by decide +kernel
theorem dL_law_859 : decode code 859 = .ok (.dstore 4, 2) := by decide +kernel
theorem dL_law_861 : decode code 861 = .ok (.aload_n 2, 1) := by decide +kernel
theorem dL_law_862 : decode code 862 = .ok (.invokevirtual 124, 3) := by decide +kernel
theorem dL_law_865 : decode code 865 = .ok (.dstore 6, 2) := by decide +kernel
theorem dL_law_867 : decode code 867 = .ok (.dload 4, 2) := by decide +kernel
theorem dL_law_869 : decode code 869 = .ok (.dload 6, 2) := by decide +kernel
theorem dL_law_871 : decode code 871 = .ok (.dcmp .l, 1) := by decide +kernel
theorem dL_law_872 : decode code 872 = .ok (.ifCond .eq 21, 3) := by decide +kernel
theorem dL_law_875 : decode code 875 = .ok (.dload 4, 2) := by decide +kernel
theorem dL_law_877 : decode code 877 = .ok (.dload 4, 2) := by decide +kernel
theorem dL_law_879 : decode code 879 = .ok (.dcmp .l, 1) := by decide +kernel
theorem dL_law_880 : decode code 880 = .ok (.ifCond .eq 11, 3) := by decide +kernel
theorem dL_law_883 : decode code 883 = .ok (.dload 6, 2) := by decide +kernel
theorem dL_law_885 : decode code 885 = .ok (.dload 6, 2) := by decide +kernel
theorem dL_law_887 : decode code 887 = .ok (.dcmp .l, 1) := by decide +kernel
theorem dL_law_888 : decode code 888 = .ok (.ifCond .ne 5, 3) := by decide +kernel
theorem dL_law_891 : decode code 891 = .ok (.iconst 0, 1) := by decide +kernel
theorem dL_law_892 : decode code 892 = .ok (.ireturn, 1) := by decide +kernel
theorem dL_law_893 : decode code 893 = .ok (.goto 3, 3) := by decide +kernel
theorem dL_law_896 : decode code 896 = .ok (.iinc 3 5, 3) := by decide +kernel
theorem dL_law_899 : decode code 899 = .ok (.goto (-881), 3) := by decide +kernel
theorem dL_law_902 : decode code 902 = .ok (.iconst 1, 1) := by decide +kernel
theorem dL_law_903 : decode code 903 = .ok (.ireturn, 1) := by decide +kernel
end
section
/-! the small machine over which all methods are read: numbers are Int, references are places counted from 1 -/
def zin (i : Int) : Prop := -2147483648 ≤ i ∧ i ≤ 2147483647
abbrev zV : Type := Int ⊕ (Option Nat ⊕ UInt64)
abbrev zI (i : Int) : zV := Sum.inl i
abbrev zR (a : Nat) : zV := Sum.inr (Sum.inl (some a))
abbrev zU : zV := Sum.inr (Sum.inl none)
abbrev zD (x : UInt64) : zV := Sum.inr (Sum.inr x)
def zad (B b a : Nat) : Nat := if a = 0 then b else B + a
def ztr (B b : Nat) (v : zV) : Value := match v with
  | .inl i => .int (Int32.ofInt i)
  | .inr (.inl (some a)) => .ref (zad B b a)
  | .inr (.inl none) => .null
  | .inr (.inr x) => .double x
def zok (v : zV) : Prop := match v with
  | .inl i => zin i
  | _ => True
theorem zok_I {i : Int} (h : zin i) : zok (zI i) := h
theorem zok_R {a : Nat} : zok (zR a) := trivial
theorem zok_D {x : UInt64} : zok (zD x) := trivial
theorem zok_U : zok zU := trivial
abbrev zSP : Type := (Nat → Nat × Nat) × (Nat → Int → Option Nat) × Nat
abbrev zMe : Type := Nat → Int → Int
def zset {α : Type} (f : Nat → α) (a : Nat) (x : α) : Nat → α := fun j => if j = a then x else f j
def zup {α : Type} (f : Int → α) (a : Int) (x : α) : Int → α := fun j => if j = a then x else f j
theorem zset_eq {α : Type} (f : Nat → α) (a : Nat) (x : α) : zset f a x a = x := by simp [zset]
theorem zset_ne {α : Type} (f : Nat → α) (a : Nat) (x : α) {j : Nat} (h : j ≠ a) : zset f a x j = f j := by simp [zset, h]
theorem zup_eq {α : Type} (f : Int → α) (a : Int) (x : α) : zup f a x a = x := by simp [zup]
theorem zup_ne {α : Type} (f : Int → α) (a : Int) (x : α) {j : Int} (h : j ≠ a) : zup f a x j = f j := by simp [zup, h]
/-- the kinds of objects, in the order of the names -/
def zcl : List vw_C := [(RX0, TX0, 2), (RX1, TX1, 3), (RX2, TX2, 2), (RX3, TX3, 6), (RX4, TX4, 4), (RX5, TX5, 2), (RX6, TX6, 2), (RX7, TX7, 6), (RX8, TX8, 9), (RX9, TX9, 22)]
def zRn (c : Nat) : String := match c with
  | 0 => RX0 | 1 => RX1 | 2 => RX2 | 3 => RX3 | 4 => RX4 | 5 => RX5 | 6 => RX6 | 7 => RX7 | 8 => RX8 | _ => RX9
def zT (c : Nat) : u_T := match c with
  | 0 => TX0 | 1 => TX1 | 2 => TX2 | 3 => TX3 | 4 => TX4 | 5 => TX5 | 6 => TX6 | 7 => TX7 | 8 => TX8 | _ => TX9
def zN (c : Nat) : Nat := match c with
  | 0 => 2 | 1 => 3 | 2 => 2 | 3 => 6 | 4 => 4 | 5 => 2 | 6 => 2 | 7 => 6 | 8 => 9 | _ => 22
def zTy (c : Nat) : Nat → FieldType := match c with
  | 0 => tyX0 | 1 => tyX1 | 2 => tyX2 | 3 => tyX3 | 4 => tyX4 | 5 => tyX5 | 6 => tyX6 | 7 => tyX7 | 8 => tyX8 | _ => tyX9
theorem zc_10 {P : Nat → Prop} (h0 : P 0) (h1 : P 1) (h2 : P 2) (h3 : P 3) (h4 : P 4) (h5 : P 5) (h6 : P 6) (h7 : P 7) (h8 : P 8) (h9 : P 9) : ∀ c, c < 10 → P c := fun c h => match c, h with
  | 0, _ => h0 | 1, _ => h1 | 2, _ => h2 | 3, _ => h3 | 4, _ => h4 | 5, _ => h5 | 6, _ => h6 | 7, _ => h7 | 8, _ => h8 | 9, _ => h9
  | _ + 10, h => absurd h (by omega)
theorem zcl_at : ∀ c, c < 10 → zcl[c]? = some (zRn c, zT c, zN c) := zc_10 rfl rfl rfl rfl rfl rfl rfl rfl rfl rfl
theorem zty_ok : ∀ c, c < 10 → ∀ k, k < zN c → parseFieldDescriptor (zT c k).2.2.1 = some (zTy c k) := zc_10 tyX0_ok tyX1_ok tyX2_ok tyX3_ok tyX4_ok tyX5_ok tyX6_ok tyX7_ok tyX8_ok tyX9_ok
theorem znm_ok : ∀ c, c < 10 → ∀ a, a < zN c → ∀ b, b < zN c → a ≠ b → (zT c a).2.1 ≠ (zT c b).2.1 := zc_10 nmX0 nmX1 nmX2 nmX3 nmX4 nmX5 nmX6 nmX7 nmX8 nmX9
/-- the words of the tables that stay -/
def zG : List Jvm.Cond := lw_tbl.filter goodWord
theorem zG_of {w : Jvm.Cond} (h : w ∈ lw_tbl) (h2 : goodWord w = true) : w ∈ zG := List.mem_filter.mpr ⟨h, h2⟩
theorem zG_good : GoodIn zG zG := fun w h => ⟨h, good_of_word (List.mem_filter.mp h).2⟩
theorem zlay_in : ∀ c, c < 10 → ∀ w ∈ u_ws (zRn c) (zT c) (zN c), w ∈ lw_tbl ∧ goodWord w = true :=
  zc_10 (by decide +kernel) (by decide +kernel) (by decide +kernel) (by decide +kernel) (by decide +kernel) (by decide +kernel) (by decide +kernel) (by decide +kernel) (by decide +kernel) (by decide +kernel)
theorem zlay {c : Nat} (hc : c < 10) : ∀ w ∈ u_ws (zRn c) (zT c) (zN c), w ∈ zG := fun w h => zG_of (zlay_in c hc w h).1 (zlay_in c hc w h).2
def zNest (w : Jvm.Cond) : Bool := match w with
  | .fieldLinkNest _ _ _ _ _ _ => true
  | .methodLinkNest _ _ _ _ => true
  | _ => false
theorem zNest_on {w : Jvm.Cond} (h : zNest w = true) : w.onTables = true := by
  cases w <;> first | rfl | exact absurd h (by simp [zNest])
theorem zNest_warm {w : Jvm.Cond} (h : zNest w = true) {s U : State} (hW : s.WarmedH U.vm) (hZ : va_Nw w s) : va_Nw w U := by
  cases w <;> first | exact va_Nw.warmF hW hZ | exact va_Nw.warmM hW hZ | exact absurd h (by simp [zNest])
def zAO : List String := [RX4, RX7]
abbrev ztys (cA : Nat → ClassId) : List (ClassId × FieldType) := [(cA 0, .int), (cA 1, .boolean), (cA 2, .object RX4), (cA 3, .object RX7)]
def zRef (c k : Nat) : Bool := match zTy c k with
  | .int => false
  | .boolean => false
  | _ => true
def zcell (cA : Nat → ClassId) (B b : Nat) (sp : zSP) (me : zMe) (a : Nat) : va_E := match (sp.1 a).1 with
  | 1 => .inl (cA 0, (sp.1 a).2, .inl (fun j => Int32.ofInt (me a (j : Int))))
  | 2 => .inl (cA 1, (sp.1 a).2, .inl (fun j => Int32.ofInt (me a (j : Int))))
  | 3 => .inl (cA 2, (sp.1 a).2, .inr (.inr (.inr (.inr (fun j => (sp.2.1 a (j : Int)).map (zad B b))))))
  | 4 => .inl (cA 3, (sp.1 a).2, .inr (.inr (.inr (.inr (fun j => (sp.2.1 a (j : Int)).map (zad B b))))))
  | k => .inr (k - 10, (List.range (zN (k - 10))).map (fun j => if zRef (k - 10) j = true then va_rf ((sp.2.1 a (j : Int)).map (zad B b)) else .int (Int32.ofInt (me a (j : Int)))))
def zwf (sp : zSP) (me : zMe) : Prop := (∀ a, (sp.1 a).1 ≠ 0 → 1 ≤ a ∧ a ≤ sp.2.2) ∧ (∀ (a : Nat) (i : Int), zin (me a i)) ∧ (∀ (a : Nat) (i : Int), ((sp.1 a).1 = 1 ∨ (sp.1 a).1 = 2) → ¬ (0 ≤ i ∧ i < ((sp.1 a).2 : Int)) → me a i = 0) ∧ (∀ a, (sp.1 a).2 < 100000)
def zws (cA : Nat → ClassId) (B b : Nat) (sp : zSP) (me : zMe) : va_W := (List.range sp.2.2).map (fun i => (B + (i + 1), zcell cA B b sp me (i + 1)))
def zwd (D : va_G) (cA : Nat → ClassId) (B b : Nat) (sp : zSP) (me : zMe) (H : Heap) : Prop := va_P D zcl (zws cA B b sp me) H ∧ zwf sp me
theorem zws_get {cA : Nat → ClassId} {B b : Nat} {sp : zSP} {me : zMe} {a : Nat} (h1 : 1 ≤ a) (h2 : a ≤ sp.2.2) : (zws cA B b sp me)[a - 1]? = some (B + a, zcell cA B b sp me a) := by
  unfold zws
  have h3 : a - 1 < sp.2.2 := by omega
  have h4 : a - 1 + 1 = a := by omega
  simp [h3, h4]
theorem zws_inv {cA : Nat → ClassId} {B b : Nat} {sp : zSP} {me : zMe} {k : Nat} {q : Nat × va_E} (h : (zws cA B b sp me)[k]? = some q) : k < sp.2.2 ∧ q = (B + (k + 1), zcell cA B b sp me (k + 1)) := by
  unfold zws at h
  rw [List.getElem?_map] at h
  cases hk : (List.range sp.2.2)[k]? with
  | none => rw [hk] at h; cases h
  | some i =>
    rw [hk] at h
    have h5 := List.getElem?_eq_some_iff.mp hk
    obtain ⟨h6, h7⟩ := h5
    simp at h6 h7
    subst h7
    cases h
    exact ⟨h6, rfl⟩
theorem zws_D {cA : Nat → ClassId} {B b : Nat} {sp : zSP} {me : zMe} : va_D (fun q => B < q) (zws cA B b sp me) := by
  refine ⟨fun i j p q hi hj hpq => ?_, fun k q hk => ?_⟩
  · obtain ⟨-, rfl⟩ := zws_inv hi
    obtain ⟨-, rfl⟩ := zws_inv hj
    simp at hpq
    omega
  · obtain ⟨-, rfl⟩ := zws_inv hk
    show B < B + (k + 1)
    omega
theorem zcell_congr {cA : Nat → ClassId} {B b : Nat} {sp sp' : zSP} {me me' : zMe} {a : Nat} (h1 : sp'.1 a = sp.1 a) (h2 : sp'.2.1 a = sp.2.1 a) (h3 : me' a = me a) : zcell cA B b sp' me' a = zcell cA B b sp me a := by
  unfold zcell
  rw [h1, h2, h3]
theorem zws_set {cA : Nat → ClassId} {B b : Nat} {sp sp' : zSP} {me me' : zMe} {a : Nat} {E : va_E} (h1 : 1 ≤ a) (h2 : a ≤ sp.2.2) (hn : sp'.2.2 = sp.2.2) (hE : zcell cA B b sp' me' a = E) (ho : ∀ a', a' ≠ a → zcell cA B b sp' me' a' = zcell cA B b sp me a') : (zws cA B b sp me).set (a - 1) (B + a, E) = zws cA B b sp' me' := by
  apply List.ext_getElem?
  intro i
  unfold zws
  rw [hn, List.getElem?_set]
  by_cases hi : a - 1 = i
  · subst hi
    have h3 : a - 1 < sp.2.2 := by omega
    have h4 : a - 1 + 1 = a := by omega
    simp [h3, h4, hE]
  · rw [if_neg hi]
    by_cases hl : i < sp.2.2
    · have := ho (i + 1) (by omega)
      simp [hl, this]
    · simp [hl]
theorem zws_push {cA : Nat → ClassId} {B b : Nat} {sp sp' : zSP} {me me' : zMe} {E : va_E} (hn : sp'.2.2 = sp.2.2 + 1) (hE : zcell cA B b sp' me' (sp.2.2 + 1) = E) (ho : ∀ a', a' ≠ sp.2.2 + 1 → zcell cA B b sp' me' a' = zcell cA B b sp me a') : zws cA B b sp me ++ [(B + (sp.2.2 + 1), E)] = zws cA B b sp' me' := by
  unfold zws
  rw [hn, List.range_succ, List.map_append]
  congr 1
  · apply List.map_congr_left
    intro i hi
    rw [List.mem_range] at hi
    rw [ho (i + 1) (by omega)]
  · simp [hE]
/-- the locals -/
def zlc (B b : Nat) (ls : Array Slot) (nL : Nat) (L : List zV) : Prop := ls.size = nL ∧ lv_wf ls ∧ L.length = nL ∧ ∀ (i : Nat) (v : zV), L[i]? = some v → v ≠ zU → ls[i]? = some (.val (ztr B b v))
theorem zlc_at {B b : Nat} {ls : Array Slot} {nL : Nat} {L : List zV} (h : zlc B b ls nL L) {i : Nat} {v : zV} (hi : L[i]? = some v) (hv : v ≠ zU) : ls[i]? = some (.val (ztr B b v)) := h.2.2.2 i v hi hv
/-- the list that the kit's rows of stores speak of -/
def zll (B b : Nat) (L : List zV) : List (Nat × Value) := (List.range L.length).filterMap (fun i => match L[i]? with
  | some v => if v = zU then none else some (i, ztr B b v)
  | none => none)
theorem zll_mem {B b : Nat} {L : List zV} {q : Nat × Value} : q ∈ zll B b L ↔ ∃ v, L[q.1]? = some v ∧ v ≠ zU ∧ q.2 = ztr B b v := by
  unfold zll
  rw [List.mem_filterMap]
  constructor
  · rintro ⟨i, hi, h⟩
    cases hL : L[i]? with
    | none => rw [hL] at h; cases h
    | some v =>
      rw [hL] at h
      by_cases hv : v = zU
      · simp [hv] at h
      · simp [hv] at h
        subst h
        exact ⟨v, hL, hv, rfl⟩
  · rintro ⟨v, h1, h2, h3⟩
    refine ⟨q.1, ?_, ?_⟩
    · rw [List.mem_range]
      exact (List.getElem?_eq_some_iff.mp h1).1
    · simp only [h1]
      rw [if_neg h2, ← h3]
theorem zlc_ll {B b : Nat} {ls : Array Slot} {nL : Nat} {L : List zV} (h : zlc B b ls nL L) : lv_has ls nL (zll B b L) := by
  refine ⟨h.1, h.2.1, fun q hq => ?_⟩
  obtain ⟨v, h1, h2, h3⟩ := zll_mem.mp hq
  rw [h3]
  exact h.2.2.2 _ _ h1 h2
theorem zcat (B b : Nat) (v : zV) : (ztr B b v).category = 2 ↔ ∃ x, v = zD x := by
  rcases v with i | (_ | a) | x
  · simp [ztr, Value.category]
  · simp [ztr, Value.category]
  · simp [ztr, Value.category]
  · simp [ztr, Value.category]
/-- no double ends where a value is stored -/
def znd (L : List zV) (i : Nat) : Prop := ∀ (j : Nat) (x : UInt64), j + 1 = i → L[j]? ≠ some (zD x)
theorem zlc_set {B b : Nat} {ls : Array Slot} {nL : Nat} {L : List zV} {i : Nat} {v : zV} (hL : L.length = nL) (hd : znd L i) (h : lv_has ls nL ((i, ztr B b v) :: (zll B b L).filter (fun q => !(q.1 == i) && !(q.1 + 1 == i && q.2.category == 2)))) : zlc B b ls nL (L.set i v) := by
  refine ⟨h.1, h.2.1, by simp [hL], fun j w hj hw => ?_⟩
  rw [List.getElem?_set] at hj
  by_cases hij : i = j
  · subst hij
    rw [if_pos rfl] at hj
    by_cases hlt : i < L.length
    · rw [if_pos hlt] at hj
      cases hj
      exact h.2.2 (i, ztr B b v) List.mem_cons_self
    · rw [if_neg hlt] at hj; cases hj
  · rw [if_neg hij] at hj
    refine h.2.2 (j, ztr B b w) (List.mem_cons_of_mem _ (List.mem_filter.mpr ⟨zll_mem.mpr ⟨w, hj, hw, rfl⟩, ?_⟩))
    simp only [Bool.and_eq_true, Bool.not_eq_true', beq_eq_false_iff_ne, ne_eq, Bool.and_eq_false_iff]
    refine ⟨fun z => hij z.symm, ?_⟩
    by_cases hc : (ztr B b w).category = 2
    · obtain ⟨x, rfl⟩ := (zcat B b w).mp hc
      exact Or.inl (fun z => hd j x z hj)
    · exact Or.inr hc
theorem zlc_setD {B b : Nat} {ls : Array Slot} {nL : Nat} {L : List zV} {i : Nat} {x : UInt64} (hL : L.length = nL) (hd : znd L i) (h : lv_has ls nL ((i, Value.double x) :: (zll B b L).filter (fun q => !(q.1 == i) && (!(q.1 == i + 1) && !(q.1 + 1 == i && q.2.category == 2))))) : zlc B b ls nL ((L.set i (zD x)).set (i + 1) zU) := by
  refine ⟨h.1, h.2.1, by simp [hL], fun j w hj hw => ?_⟩
  rw [List.getElem?_set] at hj
  by_cases hij : i + 1 = j
  · rw [if_pos hij] at hj
    split at hj
    · cases hj; exact absurd rfl hw
    · cases hj
  · rw [if_neg hij, List.getElem?_set] at hj
    by_cases hij2 : i = j
    · subst hij2
      rw [if_pos rfl] at hj
      by_cases hlt : i < L.length
      · rw [if_pos hlt] at hj
        cases hj
        exact h.2.2 (i, Value.double x) List.mem_cons_self
      · rw [if_neg hlt] at hj; cases hj
    · rw [if_neg hij2] at hj
      refine h.2.2 (j, ztr B b w) (List.mem_cons_of_mem _ (List.mem_filter.mpr ⟨zll_mem.mpr ⟨w, hj, hw, rfl⟩, ?_⟩))
      simp only [Bool.and_eq_true, Bool.not_eq_true', beq_eq_false_iff_ne, ne_eq, Bool.and_eq_false_iff]
      refine ⟨fun z => hij2 z.symm, fun z => hij z.symm, ?_⟩
      by_cases hc : (ztr B b w).category = 2
      · obtain ⟨y, rfl⟩ := (zcat B b w).mp hc
        exact Or.inl (fun z => hd j y z hj)
      · exact Or.inr hc
/-- a method: its name, its bytes, its locals, what it returns, and the script where it is the law -/
abbrev zMd : Type := MethodName × ByteArray × Nat × Option FieldType × Option (Nat × (Int → Int))
abbrev zQ : Type := Option zV → zSP → zMe → Prop
def zRet (rt : Option FieldType) (ins : Instr) (v : Option zV) : Prop :=
  (rt = none ∧ ins = .return_ ∧ v = none) ∨ (rt = some .int ∧ ins = .ireturn ∧ ∃ i, v = some (zI i)) ∨ (rt = some .boolean ∧ ins = .ireturn ∧ ∃ i, v = some (zI i) ∧ (i = 0 ∨ i = 1)) ∨ (rt = some .double ∧ ins = .dreturn ∧ ∃ x, v = some (zD x)) ∨ ((∃ n, rt = some (.object n)) ∧ ins = .areturn ∧ ∃ a, v = some (zR a))
abbrev zA (B : Nat) : Nat → Prop := fun q => B < q
def zC (M : zMd) (d k1 k2 : Nat) (Q : zQ) (p : Program) (l : Launch) (e : Env) (R : Room) (s : State) (m : MethodId) (args : Array Value) (below : List Frame) (meth : Method) (c : Code) (D : va_G) (cA : Nat → ClassId) (B b : Nat) (Fin : State → Prop) : Prop :=
  p.tables.exec = Jvm.exec ∧ c.code = M.2.1 ∧ c.maxLocals = M.2.2.1 ∧ s.vm.findClass M.1.cls = some m.cls ∧ meth.name = M.1.name ∧ (∀ w ∈ zG, w.before args s = true) ∧ (∀ w ∈ lw_tbl, zNest w = true → va_Nw w s) ∧ (∀ C ∈ zAO, va_AO C s) ∧ va_K D zcl (ztys cA) s ∧ (d ≤ R.frames ∧ 64 * d + 64 ≤ R.locals) ∧ (k1 ≤ R.cells ∧ k2 ≤ R.slots) ∧ B < s.heap.size ∧
  (∀ N f, M.2.2.2.2 = some (N, f) → va_X b N (fun j => Int32.ofInt (f (j : Int))) s s.heap ∧ b ≤ B ∧ N < 100000 ∧ ∀ i, zin (f i)) ∧
  (∀ (v : Option zV) (sp : zSP) (me : zMe) (H : Heap) (locs : List Loc) (cells slots : Nat) (ls : Array Slot) (pc : Nat) (ins : Instr), Q v sp me → zwd D cA B b sp me H → va_S (zA B) s.heap H locs → B + sp.2.2 + 1 = s.heap.size + cells → cells = k1 → slots ≤ k2 → zRet M.2.2.2.1 ins v → decode M.2.1 pc = .ok (ins, 1) → (∀ x, v = some x → zok x) → W p l e R s m args below meth c H locs cells slots Fin (F0 m pc ls ((v.map (ztr B b)).toList)))
def zW (M : zMd) (d r1 r2 : Nat) (Q : zQ) (pc : Nat) (L st : List zV) (sp : zSP) (me : zMe) : Prop :=
  ∀ (k1 k2 : Nat) (p : Program) (l : Launch) (e : Env) (R : Room) (s : State) (m : MethodId) (args : Array Value) (below : List Frame) (meth : Method) (c : Code) (D : va_G) (cA : Nat → ClassId) (B b : Nat) (Fin : State → Prop), zC M d k1 k2 Q p l e R s m args below meth c D cA B b Fin →
  ∀ (H : Heap) (locs : List Loc) (cells slots : Nat) (ls : Array Slot), zlc B b ls M.2.2.1 L → zwd D cA B b sp me H → va_S (zA B) s.heap H locs → B + sp.2.2 + 1 = s.heap.size + cells → cells + r1 = k1 → slots + r2 ≤ k2 → (∀ v ∈ L, zok v) → (∀ v ∈ st, zok v) →
  W p l e R s m args below meth c H locs cells slots Fin (F0 m pc ls (st.map (ztr B b)))

theorem zs1 {a : zV} {st : List zV} (h : ∀ v ∈ a :: st, zok v) : ∀ v ∈ st, zok v := fun v hv => h v (List.mem_cons_of_mem _ hv)
theorem zs0 {a : zV} {st : List zV} (h : ∀ v ∈ a :: st, zok v) : zok a := h a List.mem_cons_self
theorem zsc {a : zV} {st : List zV} (h1 : zok a) (h : ∀ v ∈ st, zok v) : ∀ v ∈ a :: st, zok v := fun v hv => by
  rcases List.mem_cons.mp hv with rfl | hv
  · exact h1
  · exact h v hv
theorem zi_to {i : Int} (h : zin i) : (Int32.ofInt i).toInt = i := Int32.toInt_ofInt_of_le (Int.le_trans (by decide) h.1) (Int.lt_of_le_of_lt h.2 (by decide))
theorem zi_lt {x y : Int} (hx : zin x) (hy : zin y) : Int32.ofInt x < Int32.ofInt y ↔ x < y := by rw [Int32.lt_iff_toInt_lt, zi_to hx, zi_to hy]
theorem zi_le {x y : Int} (hx : zin x) (hy : zin y) : Int32.ofInt x ≤ Int32.ofInt y ↔ x ≤ y := by rw [Int32.le_iff_toInt_le, zi_to hx, zi_to hy]
theorem zi_eq {x y : Int} (hx : zin x) (hy : zin y) : Int32.ofInt x = Int32.ofInt y ↔ x = y := by rw [← Int32.toInt_inj, zi_to hx, zi_to hy]
theorem zi_00 : Int32.ofInt 0 = 0 := by decide
theorem zin_0 : zin 0 := by unfold zin; omega
theorem zi_cl {i : Int} (h : zin i) : (Int32.ofInt i).toNatClampNeg = i.toNat := by
  show ((Int32.ofInt i).toInt).toNat = i.toNat
  rw [zi_to h]
theorem zi_in {i : Int} {n : Nat} (h : zin i) (h0 : 0 ≤ i) (h1 : i < n) : vp_in (Int32.ofInt i) n := vp_in_iff.mpr (by rw [zi_to h]; exact ⟨h0, h1⟩)
theorem zi_nI {i : Int} (h : 0 ≤ i) : Int32.ofInt i = nI i.toNat := by
  have h2 : ((i.toNat : Nat) : Int) = i := Int.toNat_of_nonneg h
  rw [nI, ← Int32.ofInt_eq_ofNat, h2]
theorem zi_n (n : Nat) : Int32.ofInt (n : Int) = nI n := Int32.ofInt_eq_ofNat
def zand (x y : Int) : Int := (Int32.ofInt x &&& Int32.ofInt y).toInt
def zor (x y : Int) : Int := (Int32.ofInt x ||| Int32.ofInt y).toInt
theorem zin_to (x : Int32) : zin x.toInt := ⟨Int.le_trans (by decide) x.le_toInt, Int.le_of_lt_add_one (Int.lt_of_lt_of_le x.toInt_lt (by decide))⟩
theorem zi_sh : ∀ k : Nat, k < 32 → ((((Int32.ofInt (k : Int)) &&& 31).toBitVec.smod 32).toNat = k) := by decide +kernel
theorem zi_div {x y : Int} (hx : zin x) (hy : zin y) (h0 : 0 ≤ x) (h1 : 0 < y) : Int32.ofInt x / Int32.ofInt y = Int32.ofInt (x / y) := by
  obtain ⟨a, rfl⟩ := Int.eq_ofNat_of_zero_le h0
  obtain ⟨b, rfl⟩ := Int.eq_ofNat_of_zero_le (Int.le_of_lt h1)
  unfold zin at hx hy
  rw [zi_n, zi_n, pk_div (by omega) (by omega) (by omega), ← zi_n, Int.natCast_ediv]
theorem zi_rem {x y : Int} (hx : zin x) (hy : zin y) (h0 : 0 ≤ x) (h1 : 0 < y) : Int32.ofInt x - Int32.ofInt x / Int32.ofInt y * Int32.ofInt y = Int32.ofInt (x % y) := by
  obtain ⟨a, rfl⟩ := Int.eq_ofNat_of_zero_le h0
  obtain ⟨b, rfl⟩ := Int.eq_ofNat_of_zero_le (Int.le_of_lt h1)
  unfold zin at hx hy
  rw [zi_n, zi_n, pk_rem (by omega) (by omega) (by omega), ← zi_n, Int.natCast_emod]
theorem zi_shl {x s : Int} (hx : zin x) (h0 : 0 ≤ x) (h1 : 0 ≤ s) (h2 : s < 32) (h3 : zin (x * 2 ^ s.toNat)) : Int32.ofInt x <<< (Int32.ofInt s &&& 31) = Int32.ofInt (x * 2 ^ s.toNat) := by
  obtain ⟨a, rfl⟩ := Int.eq_ofNat_of_zero_le h0
  obtain ⟨k, rfl⟩ := Int.eq_ofNat_of_zero_le h1
  have e : ((a : Int) * 2 ^ (Int.toNat (k : Int))) = ((a * 2 ^ k : Nat) : Int) := by simp
  rw [e] at h3 ⊢
  unfold zin at h3
  rw [zi_n a, pk_shlN _ k (zi_sh k (by omega)) (by omega), zi_n]
theorem zi_shr {x s : Int} (hx : zin x) (h0 : 0 ≤ x) (h1 : 0 ≤ s) (h2 : s < 32) : Int32.ofInt x >>> (Int32.ofInt s &&& 31) = Int32.ofInt (x / 2 ^ s.toNat) := by
  obtain ⟨a, rfl⟩ := Int.eq_ofNat_of_zero_le h0
  obtain ⟨k, rfl⟩ := Int.eq_ofNat_of_zero_le h1
  have e : ((a : Int) / 2 ^ (Int.toNat (k : Int))) = ((a / 2 ^ k : Nat) : Int) := by simp
  unfold zin at hx
  rw [e, zi_n a, pk_shrN (by omega) _ k (zi_sh k (by omega)), zi_n]
theorem zin_div {x : Int} (hx : zin x) (h0 : 0 ≤ x) (y : Int) (h1 : 0 ≤ y) : zin (x / y) := by
  have h2 : x / y ≤ x := Int.ediv_le_self _ h0
  have h3 : 0 ≤ x / y := Int.ediv_nonneg h0 h1
  unfold zin at *
  omega
theorem zin_rem {y : Int} (hy : zin y) (h1 : 0 < y) (x : Int) : zin (x % y) := by
  have h2 := Int.emod_nonneg x (Int.ne_of_gt h1)
  have h3 := Int.emod_lt_of_pos x h1
  unfold zin at *
  omega
def zndb (L : List zV) (i : Nat) : Bool := match i with
  | 0 => true
  | j + 1 => match L[j]? with
    | some (Sum.inr (Sum.inr _)) => false
    | _ => true
theorem znd_of {L : List zV} {i : Nat} (h : zndb L i = true) : znd L i := by
  intro j x hj hx
  subst hj
  simp [zndb, hx] at h
section ZROWS
variable {M : zMd} {d r1 r2 : Nat} {Q : zQ} {pc pc' tgt : Nat} {L L' st : List zV} {sp : zSP} {me : zMe}

theorem z_iconst {n : Int} (dg : decode M.2.1 pc = .ok (.iconst n, 1)) (hp : pc + 1 = pc') (hr : zin n) (k : zW M d r1 r2 Q pc' L (zI n :: st) sp me) : zW M d r1 r2 Q pc L (st) sp me := by
  intro k1 k2 p l e R s m args below meth c D cA B b Fin C H locs cells slots ls hl hw hS hz hr1 hr2 hL hst
  have K := k k1 k2 p l e R s m args below meth c D cA B b Fin C H locs cells slots ls hl hw hS hz hr1 hr2 hL (zsc (zok_I hr) hst)
  have C0 := C
  obtain ⟨hx, hb, hml, hown, hname, hts, hnw, hao, hK, hroom, hbud, hBs, hscr, hret⟩ := C0
  subst hp
  show W p l e R s m args below meth c H locs cells slots Fin (F0 m pc ls (st.map (ztr B b)))
  refine lv_iconst hx hb dg rfl ?_
  exact K
theorem z_bipush {n : Int} (dg : decode M.2.1 pc = .ok (.bipush n, 2)) (hp : pc + 2 = pc') (hr : -128 ≤ n ∧ n ≤ 127) (k : zW M d r1 r2 Q pc' L (zI n :: st) sp me) : zW M d r1 r2 Q pc L (st) sp me := by
  intro k1 k2 p l e R s m args below meth c D cA B b Fin C H locs cells slots ls hl hw hS hz hr1 hr2 hL hst
  have K := k k1 k2 p l e R s m args below meth c D cA B b Fin C H locs cells slots ls hl hw hS hz hr1 hr2 hL (zsc (zok_I (by unfold zin; omega)) hst)
  have C0 := C
  obtain ⟨hx, hb, hml, hown, hname, hts, hnw, hao, hK, hroom, hbud, hBs, hscr, hret⟩ := C0
  subst hp
  show W p l e R s m args below meth c H locs cells slots Fin (F0 m pc ls (st.map (ztr B b)))
  refine lv_bipush hx hb dg (Int8.toInt32_ofInt (Int.le_trans (by decide) hr.1) (Int.le_trans hr.2 (by decide))) ?_
  exact K
theorem z_sipush {n : Int} (dg : decode M.2.1 pc = .ok (.sipush n, 3)) (hp : pc + 3 = pc') (hr : -32768 ≤ n ∧ n ≤ 32767) (k : zW M d r1 r2 Q pc' L (zI n :: st) sp me) : zW M d r1 r2 Q pc L (st) sp me := by
  intro k1 k2 p l e R s m args below meth c D cA B b Fin C H locs cells slots ls hl hw hS hz hr1 hr2 hL hst
  have K := k k1 k2 p l e R s m args below meth c D cA B b Fin C H locs cells slots ls hl hw hS hz hr1 hr2 hL (zsc (zok_I (by unfold zin; omega)) hst)
  have C0 := C
  obtain ⟨hx, hb, hml, hown, hname, hts, hnw, hao, hK, hroom, hbud, hBs, hscr, hret⟩ := C0
  subst hp
  show W p l e R s m args below meth c H locs cells slots Fin (F0 m pc ls (st.map (ztr B b)))
  refine lv_sipush hx hb dg (Int16.toInt32_ofInt (Int.le_trans (by decide) hr.1) (Int.le_trans hr.2 (by decide))) ?_
  exact K
theorem z_iload {i : Nat} {x : Int} (dg : decode M.2.1 pc = .ok (.iload i, 2)) (hp : pc + 2 = pc') (h : L[i]? = some (zI x)) (k : zW M d r1 r2 Q pc' L (zI x :: st) sp me) : zW M d r1 r2 Q pc L (st) sp me := by
  intro k1 k2 p l e R s m args below meth c D cA B b Fin C H locs cells slots ls hl hw hS hz hr1 hr2 hL hst
  have K := k k1 k2 p l e R s m args below meth c D cA B b Fin C H locs cells slots ls hl hw hS hz hr1 hr2 hL (zsc (hL _ (List.mem_of_getElem? h)) hst)
  have C0 := C
  obtain ⟨hx, hb, hml, hown, hname, hts, hnw, hao, hK, hroom, hbud, hBs, hscr, hret⟩ := C0
  subst hp
  show W p l e R s m args below meth c H locs cells slots Fin (F0 m pc ls (st.map (ztr B b)))
  refine lv_iload hx hb dg (zlc_at hl h (fun z => by cases z)) ?_
  exact K
theorem z_iload_n {j : Fin 4} {x : Int} (dg : decode M.2.1 pc = .ok (.iload_n j, 1)) (hp : pc + 1 = pc') (h : L[(j : Nat)]? = some (zI x)) (k : zW M d r1 r2 Q pc' L (zI x :: st) sp me) : zW M d r1 r2 Q pc L (st) sp me := by
  intro k1 k2 p l e R s m args below meth c D cA B b Fin C H locs cells slots ls hl hw hS hz hr1 hr2 hL hst
  have K := k k1 k2 p l e R s m args below meth c D cA B b Fin C H locs cells slots ls hl hw hS hz hr1 hr2 hL (zsc (hL _ (List.mem_of_getElem? h)) hst)
  have C0 := C
  obtain ⟨hx, hb, hml, hown, hname, hts, hnw, hao, hK, hroom, hbud, hBs, hscr, hret⟩ := C0
  subst hp
  show W p l e R s m args below meth c H locs cells slots Fin (F0 m pc ls (st.map (ztr B b)))
  refine lv_iload_n hx hb dg rfl (zlc_at hl h (fun z => by cases z)) ?_
  exact K
theorem z_aload {i : Nat} {x : Nat} (dg : decode M.2.1 pc = .ok (.aload i, 2)) (hp : pc + 2 = pc') (h : L[i]? = some (zR x)) (k : zW M d r1 r2 Q pc' L (zR x :: st) sp me) : zW M d r1 r2 Q pc L (st) sp me := by
  intro k1 k2 p l e R s m args below meth c D cA B b Fin C H locs cells slots ls hl hw hS hz hr1 hr2 hL hst
  have K := k k1 k2 p l e R s m args below meth c D cA B b Fin C H locs cells slots ls hl hw hS hz hr1 hr2 hL (zsc (hL _ (List.mem_of_getElem? h)) hst)
  have C0 := C
  obtain ⟨hx, hb, hml, hown, hname, hts, hnw, hao, hK, hroom, hbud, hBs, hscr, hret⟩ := C0
  subst hp
  show W p l e R s m args below meth c H locs cells slots Fin (F0 m pc ls (st.map (ztr B b)))
  refine lv_aload hx hb dg (zlc_at hl h (fun z => by cases z)) ?_
  exact K
theorem z_aload_n {j : Fin 4} {x : Nat} (dg : decode M.2.1 pc = .ok (.aload_n j, 1)) (hp : pc + 1 = pc') (h : L[(j : Nat)]? = some (zR x)) (k : zW M d r1 r2 Q pc' L (zR x :: st) sp me) : zW M d r1 r2 Q pc L (st) sp me := by
  intro k1 k2 p l e R s m args below meth c D cA B b Fin C H locs cells slots ls hl hw hS hz hr1 hr2 hL hst
  have K := k k1 k2 p l e R s m args below meth c D cA B b Fin C H locs cells slots ls hl hw hS hz hr1 hr2 hL (zsc (hL _ (List.mem_of_getElem? h)) hst)
  have C0 := C
  obtain ⟨hx, hb, hml, hown, hname, hts, hnw, hao, hK, hroom, hbud, hBs, hscr, hret⟩ := C0
  subst hp
  show W p l e R s m args below meth c H locs cells slots Fin (F0 m pc ls (st.map (ztr B b)))
  refine lv_aload_n hx hb dg rfl (zlc_at hl h (fun z => by cases z)) ?_
  exact K
theorem z_dload {i : Nat} {x : UInt64} (dg : decode M.2.1 pc = .ok (.dload i, 2)) (hp : pc + 2 = pc') (h : L[i]? = some (zD x)) (k : zW M d r1 r2 Q pc' L (zD x :: st) sp me) : zW M d r1 r2 Q pc L (st) sp me := by
  intro k1 k2 p l e R s m args below meth c D cA B b Fin C H locs cells slots ls hl hw hS hz hr1 hr2 hL hst
  have K := k k1 k2 p l e R s m args below meth c D cA B b Fin C H locs cells slots ls hl hw hS hz hr1 hr2 hL (zsc (hL _ (List.mem_of_getElem? h)) hst)
  have C0 := C
  obtain ⟨hx, hb, hml, hown, hname, hts, hnw, hao, hK, hroom, hbud, hBs, hscr, hret⟩ := C0
  subst hp
  show W p l e R s m args below meth c H locs cells slots Fin (F0 m pc ls (st.map (ztr B b)))
  refine lv_dload hx hb dg (zlc_at hl h (fun z => by cases z)) ?_
  exact K
theorem z_dload_n {j : Fin 4} {x : UInt64} (dg : decode M.2.1 pc = .ok (.dload_n j, 1)) (hp : pc + 1 = pc') (h : L[(j : Nat)]? = some (zD x)) (k : zW M d r1 r2 Q pc' L (zD x :: st) sp me) : zW M d r1 r2 Q pc L (st) sp me := by
  intro k1 k2 p l e R s m args below meth c D cA B b Fin C H locs cells slots ls hl hw hS hz hr1 hr2 hL hst
  have K := k k1 k2 p l e R s m args below meth c D cA B b Fin C H locs cells slots ls hl hw hS hz hr1 hr2 hL (zsc (hL _ (List.mem_of_getElem? h)) hst)
  have C0 := C
  obtain ⟨hx, hb, hml, hown, hname, hts, hnw, hao, hK, hroom, hbud, hBs, hscr, hret⟩ := C0
  subst hp
  show W p l e R s m args below meth c H locs cells slots Fin (F0 m pc ls (st.map (ztr B b)))
  refine lv_dload_n hx hb dg rfl (zlc_at hl h (fun z => by cases z)) ?_
  exact K
theorem z_iadd {x y : Int} (dg : decode M.2.1 pc = .ok (.iadd, 1)) (hp : pc + 1 = pc') (hr : zin (x + y)) (k : zW M d r1 r2 Q pc' L (zI (x + y) :: st) sp me) : zW M d r1 r2 Q pc L (zI y :: zI x :: st) sp me := by
  intro k1 k2 p l e R s m args below meth c D cA B b Fin C H locs cells slots ls hl hw hS hz hr1 hr2 hL hst
  have K := k k1 k2 p l e R s m args below meth c D cA B b Fin C H locs cells slots ls hl hw hS hz hr1 hr2 hL (zsc (zok_I (hr)) (zs1 (zs1 hst)))
  have C0 := C
  obtain ⟨hx, hb, hml, hown, hname, hts, hnw, hao, hK, hroom, hbud, hBs, hscr, hret⟩ := C0
  subst hp
  have hy : zin y := zs0 hst
  have hxx : zin x := zs0 (zs1 hst)
  show W p l e R s m args below meth c H locs cells slots Fin (F0 m pc ls (.int (Int32.ofInt y) :: .int (Int32.ofInt x) :: st.map (ztr B b)))
  refine lv_iadd hx hb dg ?_
  rw [← Int32.ofInt_add]; exact K
theorem z_isub {x y : Int} (dg : decode M.2.1 pc = .ok (.isub, 1)) (hp : pc + 1 = pc') (hr : zin (x - y)) (k : zW M d r1 r2 Q pc' L (zI (x - y) :: st) sp me) : zW M d r1 r2 Q pc L (zI y :: zI x :: st) sp me := by
  intro k1 k2 p l e R s m args below meth c D cA B b Fin C H locs cells slots ls hl hw hS hz hr1 hr2 hL hst
  have K := k k1 k2 p l e R s m args below meth c D cA B b Fin C H locs cells slots ls hl hw hS hz hr1 hr2 hL (zsc (zok_I (hr)) (zs1 (zs1 hst)))
  have C0 := C
  obtain ⟨hx, hb, hml, hown, hname, hts, hnw, hao, hK, hroom, hbud, hBs, hscr, hret⟩ := C0
  subst hp
  have hy : zin y := zs0 hst
  have hxx : zin x := zs0 (zs1 hst)
  show W p l e R s m args below meth c H locs cells slots Fin (F0 m pc ls (.int (Int32.ofInt y) :: .int (Int32.ofInt x) :: st.map (ztr B b)))
  refine lv_isub hx hb dg ?_
  rw [← Int32.ofInt_sub]; exact K
theorem z_imul {x y : Int} (dg : decode M.2.1 pc = .ok (.imul, 1)) (hp : pc + 1 = pc') (hr : zin (x * y)) (k : zW M d r1 r2 Q pc' L (zI (x * y) :: st) sp me) : zW M d r1 r2 Q pc L (zI y :: zI x :: st) sp me := by
  intro k1 k2 p l e R s m args below meth c D cA B b Fin C H locs cells slots ls hl hw hS hz hr1 hr2 hL hst
  have K := k k1 k2 p l e R s m args below meth c D cA B b Fin C H locs cells slots ls hl hw hS hz hr1 hr2 hL (zsc (zok_I (hr)) (zs1 (zs1 hst)))
  have C0 := C
  obtain ⟨hx, hb, hml, hown, hname, hts, hnw, hao, hK, hroom, hbud, hBs, hscr, hret⟩ := C0
  subst hp
  have hy : zin y := zs0 hst
  have hxx : zin x := zs0 (zs1 hst)
  show W p l e R s m args below meth c H locs cells slots Fin (F0 m pc ls (.int (Int32.ofInt y) :: .int (Int32.ofInt x) :: st.map (ztr B b)))
  refine lv_imul hx hb dg ?_
  rw [← Int32.ofInt_mul]; exact K
theorem z_idiv {x y : Int} (dg : decode M.2.1 pc = .ok (.idiv, 1)) (hp : pc + 1 = pc') (h0 : 0 ≤ x) (h1 : 0 < y) (k : zW M d r1 r2 Q pc' L (zI (x / y) :: st) sp me) : zW M d r1 r2 Q pc L (zI y :: zI x :: st) sp me := by
  intro k1 k2 p l e R s m args below meth c D cA B b Fin C H locs cells slots ls hl hw hS hz hr1 hr2 hL hst
  have K := k k1 k2 p l e R s m args below meth c D cA B b Fin C H locs cells slots ls hl hw hS hz hr1 hr2 hL (zsc (zok_I (zin_div (zs0 (zs1 hst)) h0 y (Int.le_of_lt h1))) (zs1 (zs1 hst)))
  have C0 := C
  obtain ⟨hx, hb, hml, hown, hname, hts, hnw, hao, hK, hroom, hbud, hBs, hscr, hret⟩ := C0
  subst hp
  have hy : zin y := zs0 hst
  have hxx : zin x := zs0 (zs1 hst)
  have hne : ¬ Int32.ofInt y = 0 := by rw [← zi_00, zi_eq hy zin_0]; omega
  show W p l e R s m args below meth c H locs cells slots Fin (F0 m pc ls (.int (Int32.ofInt y) :: .int (Int32.ofInt x) :: st.map (ztr B b)))
  refine lv_idiv hx hb dg hne ?_
  rw [zi_div hxx hy h0 h1]; exact K
theorem z_irem {x y : Int} (dg : decode M.2.1 pc = .ok (.irem, 1)) (hp : pc + 1 = pc') (h0 : 0 ≤ x) (h1 : 0 < y) (k : zW M d r1 r2 Q pc' L (zI (x % y) :: st) sp me) : zW M d r1 r2 Q pc L (zI y :: zI x :: st) sp me := by
  intro k1 k2 p l e R s m args below meth c D cA B b Fin C H locs cells slots ls hl hw hS hz hr1 hr2 hL hst
  have K := k k1 k2 p l e R s m args below meth c D cA B b Fin C H locs cells slots ls hl hw hS hz hr1 hr2 hL (zsc (zok_I (zin_rem (zs0 hst) h1 x)) (zs1 (zs1 hst)))
  have C0 := C
  obtain ⟨hx, hb, hml, hown, hname, hts, hnw, hao, hK, hroom, hbud, hBs, hscr, hret⟩ := C0
  subst hp
  have hy : zin y := zs0 hst
  have hxx : zin x := zs0 (zs1 hst)
  have hne : ¬ Int32.ofInt y = 0 := by rw [← zi_00, zi_eq hy zin_0]; omega
  show W p l e R s m args below meth c H locs cells slots Fin (F0 m pc ls (.int (Int32.ofInt y) :: .int (Int32.ofInt x) :: st.map (ztr B b)))
  refine lv_irem hx hb dg hne ?_
  rw [zi_rem hxx hy h0 h1]; exact K
theorem z_ishl {x y : Int} (dg : decode M.2.1 pc = .ok (.ishl, 1)) (hp : pc + 1 = pc') (h0 : 0 ≤ x) (h1 : 0 ≤ y) (h2 : y < 32) (hr : zin (x * 2 ^ y.toNat)) (k : zW M d r1 r2 Q pc' L (zI (x * 2 ^ y.toNat) :: st) sp me) : zW M d r1 r2 Q pc L (zI y :: zI x :: st) sp me := by
  intro k1 k2 p l e R s m args below meth c D cA B b Fin C H locs cells slots ls hl hw hS hz hr1 hr2 hL hst
  have K := k k1 k2 p l e R s m args below meth c D cA B b Fin C H locs cells slots ls hl hw hS hz hr1 hr2 hL (zsc (zok_I (hr)) (zs1 (zs1 hst)))
  have C0 := C
  obtain ⟨hx, hb, hml, hown, hname, hts, hnw, hao, hK, hroom, hbud, hBs, hscr, hret⟩ := C0
  subst hp
  have hy : zin y := zs0 hst
  have hxx : zin x := zs0 (zs1 hst)
  show W p l e R s m args below meth c H locs cells slots Fin (F0 m pc ls (.int (Int32.ofInt y) :: .int (Int32.ofInt x) :: st.map (ztr B b)))
  refine lv_ishl hx hb dg ?_
  rw [zi_shl hxx h0 h1 h2 hr]; exact K
theorem z_ishr {x y : Int} (dg : decode M.2.1 pc = .ok (.ishr, 1)) (hp : pc + 1 = pc') (h0 : 0 ≤ x) (h1 : 0 ≤ y) (h2 : y < 32) (k : zW M d r1 r2 Q pc' L (zI (x / 2 ^ y.toNat) :: st) sp me) : zW M d r1 r2 Q pc L (zI y :: zI x :: st) sp me := by
  intro k1 k2 p l e R s m args below meth c D cA B b Fin C H locs cells slots ls hl hw hS hz hr1 hr2 hL hst
  have K := k k1 k2 p l e R s m args below meth c D cA B b Fin C H locs cells slots ls hl hw hS hz hr1 hr2 hL (zsc (zok_I (zin_div (zs0 (zs1 hst)) h0 _ (Int.pow_nonneg (by decide)))) (zs1 (zs1 hst)))
  have C0 := C
  obtain ⟨hx, hb, hml, hown, hname, hts, hnw, hao, hK, hroom, hbud, hBs, hscr, hret⟩ := C0
  subst hp
  have hy : zin y := zs0 hst
  have hxx : zin x := zs0 (zs1 hst)
  show W p l e R s m args below meth c H locs cells slots Fin (F0 m pc ls (.int (Int32.ofInt y) :: .int (Int32.ofInt x) :: st.map (ztr B b)))
  refine lv_ishr hx hb dg ?_
  rw [zi_shr hxx h0 h1 h2]; exact K
theorem z_iand {x y : Int} (dg : decode M.2.1 pc = .ok (.iand, 1)) (hp : pc + 1 = pc')  (k : zW M d r1 r2 Q pc' L (zI (zand x y) :: st) sp me) : zW M d r1 r2 Q pc L (zI y :: zI x :: st) sp me := by
  intro k1 k2 p l e R s m args below meth c D cA B b Fin C H locs cells slots ls hl hw hS hz hr1 hr2 hL hst
  have K := k k1 k2 p l e R s m args below meth c D cA B b Fin C H locs cells slots ls hl hw hS hz hr1 hr2 hL (zsc (zok_I (zin_to _)) (zs1 (zs1 hst)))
  have C0 := C
  obtain ⟨hx, hb, hml, hown, hname, hts, hnw, hao, hK, hroom, hbud, hBs, hscr, hret⟩ := C0
  subst hp
  have hy : zin y := zs0 hst
  have hxx : zin x := zs0 (zs1 hst)
  show W p l e R s m args below meth c H locs cells slots Fin (F0 m pc ls (.int (Int32.ofInt y) :: .int (Int32.ofInt x) :: st.map (ztr B b)))
  refine lv_iand hx hb dg ?_
  have e : Int32.ofInt (zand x y) = Int32.ofInt x &&& Int32.ofInt y := Int32.ofInt_toInt _
  rw [← e]; exact K
theorem z_ior {x y : Int} (dg : decode M.2.1 pc = .ok (.ior, 1)) (hp : pc + 1 = pc')  (k : zW M d r1 r2 Q pc' L (zI (zor x y) :: st) sp me) : zW M d r1 r2 Q pc L (zI y :: zI x :: st) sp me := by
  intro k1 k2 p l e R s m args below meth c D cA B b Fin C H locs cells slots ls hl hw hS hz hr1 hr2 hL hst
  have K := k k1 k2 p l e R s m args below meth c D cA B b Fin C H locs cells slots ls hl hw hS hz hr1 hr2 hL (zsc (zok_I (zin_to _)) (zs1 (zs1 hst)))
  have C0 := C
  obtain ⟨hx, hb, hml, hown, hname, hts, hnw, hao, hK, hroom, hbud, hBs, hscr, hret⟩ := C0
  subst hp
  have hy : zin y := zs0 hst
  have hxx : zin x := zs0 (zs1 hst)
  show W p l e R s m args below meth c H locs cells slots Fin (F0 m pc ls (.int (Int32.ofInt y) :: .int (Int32.ofInt x) :: st.map (ztr B b)))
  refine lv_ior hx hb dg ?_
  have e : Int32.ofInt (zor x y) = Int32.ofInt x ||| Int32.ofInt y := Int32.ofInt_toInt _
  rw [← e]; exact K
theorem z_dupI {x : Int} (dg : decode M.2.1 pc = .ok (.dup, 1)) (hp : pc + 1 = pc')  (k : zW M d r1 r2 Q pc' L (zI x :: zI x :: st) sp me) : zW M d r1 r2 Q pc L (zI x :: st) sp me := by
  intro k1 k2 p l e R s m args below meth c D cA B b Fin C H locs cells slots ls hl hw hS hz hr1 hr2 hL hst
  have K := k k1 k2 p l e R s m args below meth c D cA B b Fin C H locs cells slots ls hl hw hS hz hr1 hr2 hL (zsc (zs0 hst) hst)
  have C0 := C
  obtain ⟨hx, hb, hml, hown, hname, hts, hnw, hao, hK, hroom, hbud, hBs, hscr, hret⟩ := C0
  subst hp
  show W p l e R s m args below meth c H locs cells slots Fin (F0 m pc ls (.int (Int32.ofInt x) :: st.map (ztr B b)))
  refine lv_dup hx hb dg rfl ?_
  exact K
theorem z_dupR {x : Nat} (dg : decode M.2.1 pc = .ok (.dup, 1)) (hp : pc + 1 = pc')  (k : zW M d r1 r2 Q pc' L (zR x :: zR x :: st) sp me) : zW M d r1 r2 Q pc L (zR x :: st) sp me := by
  intro k1 k2 p l e R s m args below meth c D cA B b Fin C H locs cells slots ls hl hw hS hz hr1 hr2 hL hst
  have K := k k1 k2 p l e R s m args below meth c D cA B b Fin C H locs cells slots ls hl hw hS hz hr1 hr2 hL (zsc (zs0 hst) hst)
  have C0 := C
  obtain ⟨hx, hb, hml, hown, hname, hts, hnw, hao, hK, hroom, hbud, hBs, hscr, hret⟩ := C0
  subst hp
  show W p l e R s m args below meth c H locs cells slots Fin (F0 m pc ls (.ref (zad B b x) :: st.map (ztr B b)))
  refine lv_dup hx hb dg rfl ?_
  exact K
theorem z_popI {x : Int} (dg : decode M.2.1 pc = .ok (.pop, 1)) (hp : pc + 1 = pc')  (k : zW M d r1 r2 Q pc' L (st) sp me) : zW M d r1 r2 Q pc L (zI x :: st) sp me := by
  intro k1 k2 p l e R s m args below meth c D cA B b Fin C H locs cells slots ls hl hw hS hz hr1 hr2 hL hst
  have K := k k1 k2 p l e R s m args below meth c D cA B b Fin C H locs cells slots ls hl hw hS hz hr1 hr2 hL (zs1 hst)
  have C0 := C
  obtain ⟨hx, hb, hml, hown, hname, hts, hnw, hao, hK, hroom, hbud, hBs, hscr, hret⟩ := C0
  subst hp
  show W p l e R s m args below meth c H locs cells slots Fin (F0 m pc ls (.int (Int32.ofInt x) :: st.map (ztr B b)))
  refine lv_pop hx hb dg rfl ?_
  exact K
theorem z_dup2 {x : Int} {a : Nat} (dg : decode M.2.1 pc = .ok (.dup2, 1)) (hp : pc + 1 = pc')  (k : zW M d r1 r2 Q pc' L (zI x :: zR a :: zI x :: zR a :: st) sp me) : zW M d r1 r2 Q pc L (zI x :: zR a :: st) sp me := by
  intro k1 k2 p l e R s m args below meth c D cA B b Fin C H locs cells slots ls hl hw hS hz hr1 hr2 hL hst
  have K := k k1 k2 p l e R s m args below meth c D cA B b Fin C H locs cells slots ls hl hw hS hz hr1 hr2 hL (zsc (zs0 hst) (zsc (zs0 (zs1 hst)) hst))
  have C0 := C
  obtain ⟨hx, hb, hml, hown, hname, hts, hnw, hao, hK, hroom, hbud, hBs, hscr, hret⟩ := C0
  subst hp
  show W p l e R s m args below meth c H locs cells slots Fin (F0 m pc ls (.int (Int32.ofInt x) :: .ref (zad B b a) :: st.map (ztr B b)))
  refine lv_dup2_11 hx hb dg rfl rfl ?_
  exact K
theorem z_i2d {x : Int} (dg : decode M.2.1 pc = .ok (.i2d, 1)) (hp : pc + 1 = pc')  (k : zW M d r1 r2 Q pc' L (zD (FP.i2d (Int32.ofInt x)) :: st) sp me) : zW M d r1 r2 Q pc L (zI x :: st) sp me := by
  intro k1 k2 p l e R s m args below meth c D cA B b Fin C H locs cells slots ls hl hw hS hz hr1 hr2 hL hst
  have K := k k1 k2 p l e R s m args below meth c D cA B b Fin C H locs cells slots ls hl hw hS hz hr1 hr2 hL (zsc zok_D (zs1 hst))
  have C0 := C
  obtain ⟨hx, hb, hml, hown, hname, hts, hnw, hao, hK, hroom, hbud, hBs, hscr, hret⟩ := C0
  subst hp
  show W p l e R s m args below meth c H locs cells slots Fin (F0 m pc ls (.int (Int32.ofInt x) :: st.map (ztr B b)))
  refine lv_i2d hx hb dg ?_
  exact K
theorem z_ddiv {x y : UInt64} (dg : decode M.2.1 pc = .ok (.ddiv, 1)) (hp : pc + 1 = pc') (hn : vf_n64 (FP.ddiv x y)) (k : zW M d r1 r2 Q pc' L (zD (FP.ddiv x y) :: st) sp me) : zW M d r1 r2 Q pc L (zD y :: zD x :: st) sp me := by
  intro k1 k2 p l e R s m args below meth c D cA B b Fin C H locs cells slots ls hl hw hS hz hr1 hr2 hL hst
  have K := k k1 k2 p l e R s m args below meth c D cA B b Fin C H locs cells slots ls hl hw hS hz hr1 hr2 hL (zsc zok_D (zs1 (zs1 hst)))
  have C0 := C
  obtain ⟨hx, hb, hml, hown, hname, hts, hnw, hao, hK, hroom, hbud, hBs, hscr, hret⟩ := C0
  subst hp
  show W p l e R s m args below meth c H locs cells slots Fin (F0 m pc ls (.double y :: .double x :: st.map (ztr B b)))
  refine lv_ddiv hx hb dg hn ?_
  exact K
theorem z_dcmp {x y : UInt64} {op : CmpOp} (dg : decode M.2.1 pc = .ok (.dcmp op, 1)) (hp : pc + 1 = pc')  (k : zW M d r1 r2 Q pc' L (zI (Op.cmpValue (FP.dcmp x y) op).toInt :: st) sp me) : zW M d r1 r2 Q pc L (zD y :: zD x :: st) sp me := by
  intro k1 k2 p l e R s m args below meth c D cA B b Fin C H locs cells slots ls hl hw hS hz hr1 hr2 hL hst
  have K := k k1 k2 p l e R s m args below meth c D cA B b Fin C H locs cells slots ls hl hw hS hz hr1 hr2 hL (zsc (zok_I (zin_to _)) (zs1 (zs1 hst)))
  have C0 := C
  obtain ⟨hx, hb, hml, hown, hname, hts, hnw, hao, hK, hroom, hbud, hBs, hscr, hret⟩ := C0
  subst hp
  show W p l e R s m args below meth c H locs cells slots Fin (F0 m pc ls (.double y :: .double x :: st.map (ztr B b)))
  refine lv_dcmp hx hb dg ?_
  rw [← Int32.ofInt_toInt (Op.cmpValue (FP.dcmp x y) op)]; exact K
theorem z_ldc2 {idx : Nat} {v : UInt64} (dg : decode M.2.1 pc = .ok (.ldc2_w idx, 3)) (hp : pc + 3 = pc') (hc : Jvm.Cond.constantDouble M.1.cls idx v ∈ zG) (k : zW M d r1 r2 Q pc' L (zD v :: st) sp me) : zW M d r1 r2 Q pc L (st) sp me := by
  intro k1 k2 p l e R s m args below meth c D cA B b Fin C H locs cells slots ls hl hw hS hz hr1 hr2 hL hst
  have K := k k1 k2 p l e R s m args below meth c D cA B b Fin C H locs cells slots ls hl hw hS hz hr1 hr2 hL (zsc zok_D hst)
  have C0 := C
  obtain ⟨hx, hb, hml, hown, hname, hts, hnw, hao, hK, hroom, hbud, hBs, hscr, hret⟩ := C0
  subst hp
  show W p l e R s m args below meth c H locs cells slots Fin (F0 m pc ls (st.map (ztr B b)))
  refine lv_ldc2d hx hb hown (hts _ hc) dg ?_
  exact K
theorem z_goto {off : Int} (dg : decode M.2.1 pc = .ok (.goto off, 3)) (ht : (pc : Int) + off = (tgt : Int)) (k : zW M d r1 r2 Q tgt L st sp me) : zW M d r1 r2 Q pc L st sp me := by
  intro k1 k2 p l e R s m args below meth c D cA B b Fin C H locs cells slots ls hl hw hS hz hr1 hr2 hL hst
  have K := k k1 k2 p l e R s m args below meth c D cA B b Fin C H locs cells slots ls hl hw hS hz hr1 hr2 hL hst
  have C0 := C
  obtain ⟨hx, hb, hml, hown, hname, hts, hnw, hao, hK, hroom, hbud, hBs, hscr, hret⟩ := C0
  exact lv_goto hx hb dg ht K
theorem z_icmp_eq {x y : Int} {off : Int} (dg : decode M.2.1 pc = .ok (.if_icmp .eq off, 3)) (ht : (pc : Int) + off = (tgt : Int)) (hp : pc + 3 = pc') (kt : x = y → zW M d r1 r2 Q tgt L st sp me) (kf : x ≠ y → zW M d r1 r2 Q pc' L st sp me) : zW M d r1 r2 Q pc L (zI y :: zI x :: st) sp me := by
  intro k1 k2 p l e R s m args below meth c D cA B b Fin C H locs cells slots ls hl hw hS hz hr1 hr2 hL hst
  have hy : zin y := zs0 hst
  have hxx : zin x := zs0 (zs1 hst)
  have kt' := fun z : x = y => kt z k1 k2 p l e R s m args below meth c D cA B b Fin C H locs cells slots ls hl hw hS hz hr1 hr2 hL (zs1 (zs1 hst))
  have kf' := fun z : x ≠ y => kf z k1 k2 p l e R s m args below meth c D cA B b Fin C H locs cells slots ls hl hw hS hz hr1 hr2 hL (zs1 (zs1 hst))
  have C0 := C
  obtain ⟨hx, hb, hml, hown, hname, hts, hnw, hao, hK, hroom, hbud, hBs, hscr, hret⟩ := C0
  subst hp
  show W p l e R s m args below meth c H locs cells slots Fin (F0 m pc ls (.int (Int32.ofInt y) :: .int (Int32.ofInt x) :: st.map (ztr B b)))
  exact lv_icmp_eq hx hb dg ht (fun hq => kt' (by exact (zi_eq hxx hy).mp hq)) (fun hq => kf' (by exact fun g => hq ((zi_eq hxx hy).mpr g)))
theorem z_if_eq {x : Int} {off : Int} (dg : decode M.2.1 pc = .ok (.ifCond .eq off, 3)) (ht : (pc : Int) + off = (tgt : Int)) (hp : pc + 3 = pc') (kt : x = 0 → zW M d r1 r2 Q tgt L st sp me) (kf : x ≠ 0 → zW M d r1 r2 Q pc' L st sp me) : zW M d r1 r2 Q pc L (zI x :: st) sp me := by
  intro k1 k2 p l e R s m args below meth c D cA B b Fin C H locs cells slots ls hl hw hS hz hr1 hr2 hL hst
  have hy : zin (0 : Int) := zin_0
  have hxx : zin x := zs0 hst
  have kt' := fun z : x = 0 => kt z k1 k2 p l e R s m args below meth c D cA B b Fin C H locs cells slots ls hl hw hS hz hr1 hr2 hL (zs1 hst)
  have kf' := fun z : x ≠ 0 => kf z k1 k2 p l e R s m args below meth c D cA B b Fin C H locs cells slots ls hl hw hS hz hr1 hr2 hL (zs1 hst)
  have C0 := C
  obtain ⟨hx, hb, hml, hown, hname, hts, hnw, hao, hK, hroom, hbud, hBs, hscr, hret⟩ := C0
  subst hp
  show W p l e R s m args below meth c H locs cells slots Fin (F0 m pc ls (.int (Int32.ofInt x) :: st.map (ztr B b)))
  exact lv_if_eq hx hb dg ht (fun hq => kt' (by rw [← zi_00] at hq; exact (zi_eq hxx hy).mp hq)) (fun hq => kf' (by rw [← zi_00] at hq; exact fun g => hq ((zi_eq hxx hy).mpr g)))
theorem z_icmp_ne {x y : Int} {off : Int} (dg : decode M.2.1 pc = .ok (.if_icmp .ne off, 3)) (ht : (pc : Int) + off = (tgt : Int)) (hp : pc + 3 = pc') (kt : x ≠ y → zW M d r1 r2 Q tgt L st sp me) (kf : x = y → zW M d r1 r2 Q pc' L st sp me) : zW M d r1 r2 Q pc L (zI y :: zI x :: st) sp me := by
  intro k1 k2 p l e R s m args below meth c D cA B b Fin C H locs cells slots ls hl hw hS hz hr1 hr2 hL hst
  have hy : zin y := zs0 hst
  have hxx : zin x := zs0 (zs1 hst)
  have kt' := fun z : x ≠ y => kt z k1 k2 p l e R s m args below meth c D cA B b Fin C H locs cells slots ls hl hw hS hz hr1 hr2 hL (zs1 (zs1 hst))
  have kf' := fun z : x = y => kf z k1 k2 p l e R s m args below meth c D cA B b Fin C H locs cells slots ls hl hw hS hz hr1 hr2 hL (zs1 (zs1 hst))
  have C0 := C
  obtain ⟨hx, hb, hml, hown, hname, hts, hnw, hao, hK, hroom, hbud, hBs, hscr, hret⟩ := C0
  subst hp
  show W p l e R s m args below meth c H locs cells slots Fin (F0 m pc ls (.int (Int32.ofInt y) :: .int (Int32.ofInt x) :: st.map (ztr B b)))
  exact lv_icmp_ne hx hb dg ht (fun hq => kt' (by exact fun g => hq ((zi_eq hxx hy).mpr g))) (fun hq => kf' (by exact (zi_eq hxx hy).mp hq))
theorem z_if_ne {x : Int} {off : Int} (dg : decode M.2.1 pc = .ok (.ifCond .ne off, 3)) (ht : (pc : Int) + off = (tgt : Int)) (hp : pc + 3 = pc') (kt : x ≠ 0 → zW M d r1 r2 Q tgt L st sp me) (kf : x = 0 → zW M d r1 r2 Q pc' L st sp me) : zW M d r1 r2 Q pc L (zI x :: st) sp me := by
  intro k1 k2 p l e R s m args below meth c D cA B b Fin C H locs cells slots ls hl hw hS hz hr1 hr2 hL hst
  have hy : zin (0 : Int) := zin_0
  have hxx : zin x := zs0 hst
  have kt' := fun z : x ≠ 0 => kt z k1 k2 p l e R s m args below meth c D cA B b Fin C H locs cells slots ls hl hw hS hz hr1 hr2 hL (zs1 hst)
  have kf' := fun z : x = 0 => kf z k1 k2 p l e R s m args below meth c D cA B b Fin C H locs cells slots ls hl hw hS hz hr1 hr2 hL (zs1 hst)
  have C0 := C
  obtain ⟨hx, hb, hml, hown, hname, hts, hnw, hao, hK, hroom, hbud, hBs, hscr, hret⟩ := C0
  subst hp
  show W p l e R s m args below meth c H locs cells slots Fin (F0 m pc ls (.int (Int32.ofInt x) :: st.map (ztr B b)))
  exact lv_if_ne hx hb dg ht (fun hq => kt' (by rw [← zi_00] at hq; exact fun g => hq ((zi_eq hxx hy).mpr g))) (fun hq => kf' (by rw [← zi_00] at hq; exact (zi_eq hxx hy).mp hq))
theorem z_icmp_lt {x y : Int} {off : Int} (dg : decode M.2.1 pc = .ok (.if_icmp .lt off, 3)) (ht : (pc : Int) + off = (tgt : Int)) (hp : pc + 3 = pc') (kt : x < y → zW M d r1 r2 Q tgt L st sp me) (kf : y ≤ x → zW M d r1 r2 Q pc' L st sp me) : zW M d r1 r2 Q pc L (zI y :: zI x :: st) sp me := by
  intro k1 k2 p l e R s m args below meth c D cA B b Fin C H locs cells slots ls hl hw hS hz hr1 hr2 hL hst
  have hy : zin y := zs0 hst
  have hxx : zin x := zs0 (zs1 hst)
  have kt' := fun z : x < y => kt z k1 k2 p l e R s m args below meth c D cA B b Fin C H locs cells slots ls hl hw hS hz hr1 hr2 hL (zs1 (zs1 hst))
  have kf' := fun z : y ≤ x => kf z k1 k2 p l e R s m args below meth c D cA B b Fin C H locs cells slots ls hl hw hS hz hr1 hr2 hL (zs1 (zs1 hst))
  have C0 := C
  obtain ⟨hx, hb, hml, hown, hname, hts, hnw, hao, hK, hroom, hbud, hBs, hscr, hret⟩ := C0
  subst hp
  show W p l e R s m args below meth c H locs cells slots Fin (F0 m pc ls (.int (Int32.ofInt y) :: .int (Int32.ofInt x) :: st.map (ztr B b)))
  exact lv_icmp_lt hx hb dg ht (fun hq => kt' (by exact (zi_lt hxx hy).mp hq)) (fun hq => kf' (by exact Int.not_lt.mp (fun g => hq ((zi_lt hxx hy).mpr g))))
theorem z_if_lt {x : Int} {off : Int} (dg : decode M.2.1 pc = .ok (.ifCond .lt off, 3)) (ht : (pc : Int) + off = (tgt : Int)) (hp : pc + 3 = pc') (kt : x < 0 → zW M d r1 r2 Q tgt L st sp me) (kf : 0 ≤ x → zW M d r1 r2 Q pc' L st sp me) : zW M d r1 r2 Q pc L (zI x :: st) sp me := by
  intro k1 k2 p l e R s m args below meth c D cA B b Fin C H locs cells slots ls hl hw hS hz hr1 hr2 hL hst
  have hy : zin (0 : Int) := zin_0
  have hxx : zin x := zs0 hst
  have kt' := fun z : x < 0 => kt z k1 k2 p l e R s m args below meth c D cA B b Fin C H locs cells slots ls hl hw hS hz hr1 hr2 hL (zs1 hst)
  have kf' := fun z : 0 ≤ x => kf z k1 k2 p l e R s m args below meth c D cA B b Fin C H locs cells slots ls hl hw hS hz hr1 hr2 hL (zs1 hst)
  have C0 := C
  obtain ⟨hx, hb, hml, hown, hname, hts, hnw, hao, hK, hroom, hbud, hBs, hscr, hret⟩ := C0
  subst hp
  show W p l e R s m args below meth c H locs cells slots Fin (F0 m pc ls (.int (Int32.ofInt x) :: st.map (ztr B b)))
  exact lv_if_lt hx hb dg ht (fun hq => kt' (by rw [← zi_00] at hq; exact (zi_lt hxx hy).mp hq)) (fun hq => kf' (by rw [← zi_00] at hq; exact Int.not_lt.mp (fun g => hq ((zi_lt hxx hy).mpr g))))
theorem z_icmp_ge {x y : Int} {off : Int} (dg : decode M.2.1 pc = .ok (.if_icmp .ge off, 3)) (ht : (pc : Int) + off = (tgt : Int)) (hp : pc + 3 = pc') (kt : y ≤ x → zW M d r1 r2 Q tgt L st sp me) (kf : x < y → zW M d r1 r2 Q pc' L st sp me) : zW M d r1 r2 Q pc L (zI y :: zI x :: st) sp me := by
  intro k1 k2 p l e R s m args below meth c D cA B b Fin C H locs cells slots ls hl hw hS hz hr1 hr2 hL hst
  have hy : zin y := zs0 hst
  have hxx : zin x := zs0 (zs1 hst)
  have kt' := fun z : y ≤ x => kt z k1 k2 p l e R s m args below meth c D cA B b Fin C H locs cells slots ls hl hw hS hz hr1 hr2 hL (zs1 (zs1 hst))
  have kf' := fun z : x < y => kf z k1 k2 p l e R s m args below meth c D cA B b Fin C H locs cells slots ls hl hw hS hz hr1 hr2 hL (zs1 (zs1 hst))
  have C0 := C
  obtain ⟨hx, hb, hml, hown, hname, hts, hnw, hao, hK, hroom, hbud, hBs, hscr, hret⟩ := C0
  subst hp
  show W p l e R s m args below meth c H locs cells slots Fin (F0 m pc ls (.int (Int32.ofInt y) :: .int (Int32.ofInt x) :: st.map (ztr B b)))
  exact lv_icmp_ge hx hb dg ht (fun hq => kt' (by exact (zi_le hy hxx).mp hq)) (fun hq => kf' (by exact Int.not_le.mp (fun g => hq ((zi_le hy hxx).mpr g))))
theorem z_if_ge {x : Int} {off : Int} (dg : decode M.2.1 pc = .ok (.ifCond .ge off, 3)) (ht : (pc : Int) + off = (tgt : Int)) (hp : pc + 3 = pc') (kt : 0 ≤ x → zW M d r1 r2 Q tgt L st sp me) (kf : x < 0 → zW M d r1 r2 Q pc' L st sp me) : zW M d r1 r2 Q pc L (zI x :: st) sp me := by
  intro k1 k2 p l e R s m args below meth c D cA B b Fin C H locs cells slots ls hl hw hS hz hr1 hr2 hL hst
  have hy : zin (0 : Int) := zin_0
  have hxx : zin x := zs0 hst
  have kt' := fun z : 0 ≤ x => kt z k1 k2 p l e R s m args below meth c D cA B b Fin C H locs cells slots ls hl hw hS hz hr1 hr2 hL (zs1 hst)
  have kf' := fun z : x < 0 => kf z k1 k2 p l e R s m args below meth c D cA B b Fin C H locs cells slots ls hl hw hS hz hr1 hr2 hL (zs1 hst)
  have C0 := C
  obtain ⟨hx, hb, hml, hown, hname, hts, hnw, hao, hK, hroom, hbud, hBs, hscr, hret⟩ := C0
  subst hp
  show W p l e R s m args below meth c H locs cells slots Fin (F0 m pc ls (.int (Int32.ofInt x) :: st.map (ztr B b)))
  exact lv_if_ge hx hb dg ht (fun hq => kt' (by rw [← zi_00] at hq; exact (zi_le hy hxx).mp hq)) (fun hq => kf' (by rw [← zi_00] at hq; exact Int.not_le.mp (fun g => hq ((zi_le hy hxx).mpr g))))
theorem z_icmp_gt {x y : Int} {off : Int} (dg : decode M.2.1 pc = .ok (.if_icmp .gt off, 3)) (ht : (pc : Int) + off = (tgt : Int)) (hp : pc + 3 = pc') (kt : y < x → zW M d r1 r2 Q tgt L st sp me) (kf : x ≤ y → zW M d r1 r2 Q pc' L st sp me) : zW M d r1 r2 Q pc L (zI y :: zI x :: st) sp me := by
  intro k1 k2 p l e R s m args below meth c D cA B b Fin C H locs cells slots ls hl hw hS hz hr1 hr2 hL hst
  have hy : zin y := zs0 hst
  have hxx : zin x := zs0 (zs1 hst)
  have kt' := fun z : y < x => kt z k1 k2 p l e R s m args below meth c D cA B b Fin C H locs cells slots ls hl hw hS hz hr1 hr2 hL (zs1 (zs1 hst))
  have kf' := fun z : x ≤ y => kf z k1 k2 p l e R s m args below meth c D cA B b Fin C H locs cells slots ls hl hw hS hz hr1 hr2 hL (zs1 (zs1 hst))
  have C0 := C
  obtain ⟨hx, hb, hml, hown, hname, hts, hnw, hao, hK, hroom, hbud, hBs, hscr, hret⟩ := C0
  subst hp
  show W p l e R s m args below meth c H locs cells slots Fin (F0 m pc ls (.int (Int32.ofInt y) :: .int (Int32.ofInt x) :: st.map (ztr B b)))
  exact lv_icmp_gt hx hb dg ht (fun hq => kt' (by exact (zi_lt hy hxx).mp hq)) (fun hq => kf' (by exact Int.not_lt.mp (fun g => hq ((zi_lt hy hxx).mpr g))))
theorem z_if_gt {x : Int} {off : Int} (dg : decode M.2.1 pc = .ok (.ifCond .gt off, 3)) (ht : (pc : Int) + off = (tgt : Int)) (hp : pc + 3 = pc') (kt : 0 < x → zW M d r1 r2 Q tgt L st sp me) (kf : x ≤ 0 → zW M d r1 r2 Q pc' L st sp me) : zW M d r1 r2 Q pc L (zI x :: st) sp me := by
  intro k1 k2 p l e R s m args below meth c D cA B b Fin C H locs cells slots ls hl hw hS hz hr1 hr2 hL hst
  have hy : zin (0 : Int) := zin_0
  have hxx : zin x := zs0 hst
  have kt' := fun z : 0 < x => kt z k1 k2 p l e R s m args below meth c D cA B b Fin C H locs cells slots ls hl hw hS hz hr1 hr2 hL (zs1 hst)
  have kf' := fun z : x ≤ 0 => kf z k1 k2 p l e R s m args below meth c D cA B b Fin C H locs cells slots ls hl hw hS hz hr1 hr2 hL (zs1 hst)
  have C0 := C
  obtain ⟨hx, hb, hml, hown, hname, hts, hnw, hao, hK, hroom, hbud, hBs, hscr, hret⟩ := C0
  subst hp
  show W p l e R s m args below meth c H locs cells slots Fin (F0 m pc ls (.int (Int32.ofInt x) :: st.map (ztr B b)))
  exact lv_if_gt hx hb dg ht (fun hq => kt' (by rw [← zi_00] at hq; exact (zi_lt hy hxx).mp hq)) (fun hq => kf' (by rw [← zi_00] at hq; exact Int.not_lt.mp (fun g => hq ((zi_lt hy hxx).mpr g))))
theorem z_icmp_le {x y : Int} {off : Int} (dg : decode M.2.1 pc = .ok (.if_icmp .le off, 3)) (ht : (pc : Int) + off = (tgt : Int)) (hp : pc + 3 = pc') (kt : x ≤ y → zW M d r1 r2 Q tgt L st sp me) (kf : y < x → zW M d r1 r2 Q pc' L st sp me) : zW M d r1 r2 Q pc L (zI y :: zI x :: st) sp me := by
  intro k1 k2 p l e R s m args below meth c D cA B b Fin C H locs cells slots ls hl hw hS hz hr1 hr2 hL hst
  have hy : zin y := zs0 hst
  have hxx : zin x := zs0 (zs1 hst)
  have kt' := fun z : x ≤ y => kt z k1 k2 p l e R s m args below meth c D cA B b Fin C H locs cells slots ls hl hw hS hz hr1 hr2 hL (zs1 (zs1 hst))
  have kf' := fun z : y < x => kf z k1 k2 p l e R s m args below meth c D cA B b Fin C H locs cells slots ls hl hw hS hz hr1 hr2 hL (zs1 (zs1 hst))
  have C0 := C
  obtain ⟨hx, hb, hml, hown, hname, hts, hnw, hao, hK, hroom, hbud, hBs, hscr, hret⟩ := C0
  subst hp
  show W p l e R s m args below meth c H locs cells slots Fin (F0 m pc ls (.int (Int32.ofInt y) :: .int (Int32.ofInt x) :: st.map (ztr B b)))
  exact lv_icmp_le hx hb dg ht (fun hq => kt' (by exact (zi_le hxx hy).mp hq)) (fun hq => kf' (by exact Int.not_le.mp (fun g => hq ((zi_le hxx hy).mpr g))))
theorem z_if_le {x : Int} {off : Int} (dg : decode M.2.1 pc = .ok (.ifCond .le off, 3)) (ht : (pc : Int) + off = (tgt : Int)) (hp : pc + 3 = pc') (kt : x ≤ 0 → zW M d r1 r2 Q tgt L st sp me) (kf : 0 < x → zW M d r1 r2 Q pc' L st sp me) : zW M d r1 r2 Q pc L (zI x :: st) sp me := by
  intro k1 k2 p l e R s m args below meth c D cA B b Fin C H locs cells slots ls hl hw hS hz hr1 hr2 hL hst
  have hy : zin (0 : Int) := zin_0
  have hxx : zin x := zs0 hst
  have kt' := fun z : x ≤ 0 => kt z k1 k2 p l e R s m args below meth c D cA B b Fin C H locs cells slots ls hl hw hS hz hr1 hr2 hL (zs1 hst)
  have kf' := fun z : 0 < x => kf z k1 k2 p l e R s m args below meth c D cA B b Fin C H locs cells slots ls hl hw hS hz hr1 hr2 hL (zs1 hst)
  have C0 := C
  obtain ⟨hx, hb, hml, hown, hname, hts, hnw, hao, hK, hroom, hbud, hBs, hscr, hret⟩ := C0
  subst hp
  show W p l e R s m args below meth c H locs cells slots Fin (F0 m pc ls (.int (Int32.ofInt x) :: st.map (ztr B b)))
  exact lv_if_le hx hb dg ht (fun hq => kt' (by rw [← zi_00] at hq; exact (zi_le hxx hy).mp hq)) (fun hq => kf' (by rw [← zi_00] at hq; exact Int.not_le.mp (fun g => hq ((zi_le hxx hy).mpr g))))
theorem z_tswIn {x dflt lo hi off : Int} {offs : Array Int} {len : Nat} (dg : decode M.2.1 pc = .ok (.tableswitch dflt lo hi offs, len)) (h1 : lo ≤ x) (h2 : x ≤ hi) (ho : offs[(x - lo).toNat]? = some off) (ht : (pc : Int) + off = (tgt : Int)) (k : zW M d r1 r2 Q tgt L st sp me) : zW M d r1 r2 Q pc L (zI x :: st) sp me := by
  intro k1 k2 p l e R s m args below meth c D cA B b Fin C H locs cells slots ls hl hw hS hz hr1 hr2 hL hst
  have hxx : zin x := zs0 hst
  have K := k k1 k2 p l e R s m args below meth c D cA B b Fin C H locs cells slots ls hl hw hS hz hr1 hr2 hL (zs1 hst)
  have C0 := C
  obtain ⟨hx, hb, hml, hown, hname, hts, hnw, hao, hK, hroom, hbud, hBs, hscr, hret⟩ := C0
  show W p l e R s m args below meth c H locs cells slots Fin (F0 m pc ls (.int (Int32.ofInt x) :: st.map (ztr B b)))
  exact lv_tableIn hx hb dg (by rw [zi_to hxx]; omega) (by rw [zi_to hxx]; omega) (by rw [zi_to hxx]; exact ho) ht K
theorem z_tswOut {x dflt lo hi : Int} {offs : Array Int} {len : Nat} (dg : decode M.2.1 pc = .ok (.tableswitch dflt lo hi offs, len)) (h : x < lo ∨ hi < x) (ht : (pc : Int) + dflt = (tgt : Int)) (k : zW M d r1 r2 Q tgt L st sp me) : zW M d r1 r2 Q pc L (zI x :: st) sp me := by
  intro k1 k2 p l e R s m args below meth c D cA B b Fin C H locs cells slots ls hl hw hS hz hr1 hr2 hL hst
  have hxx : zin x := zs0 hst
  have K := k k1 k2 p l e R s m args below meth c D cA B b Fin C H locs cells slots ls hl hw hS hz hr1 hr2 hL (zs1 hst)
  have C0 := C
  obtain ⟨hx, hb, hml, hown, hname, hts, hnw, hao, hK, hroom, hbud, hBs, hscr, hret⟩ := C0
  show W p l e R s m args below meth c H locs cells slots Fin (F0 m pc ls (.int (Int32.ofInt x) :: st.map (ztr B b)))
  exact lv_tableOut hx hb dg (by rw [zi_to hxx]; exact h) ht K
theorem z_istore {i : Nat} {x : Int} (dg : decode M.2.1 pc = .ok (.istore i, 2)) (hp : pc + 2 = pc') (hi : i < L.length) (hd : zndb L i = true) (hL' : L.set i (zI x) = L') (k : zW M d r1 r2 Q pc' L' st sp me) : zW M d r1 r2 Q pc L (zI x :: st) sp me := by
  intro k1 k2 p l e R s m args below meth c D cA B b Fin C H locs cells slots ls hl hw hS hz hr1 hr2 hL hst
  have C0 := C
  obtain ⟨hx, hb, hml, hown, hname, hts, hnw, hao, hK, hroom, hbud, hBs, hscr, hret⟩ := C0
  subst hp
  subst hL'
  show W p l e R s m args below meth c H locs cells slots Fin (F0 m pc ls (.int (Int32.ofInt x) :: st.map (ztr B b)))
  refine lv_istore hx hb dg (zlc_ll hl) (by rw [← hl.2.2.1]; exact hi) rfl (fun ls' hl' => ?_)
  exact k k1 k2 p l e R s m args below meth c D cA B b Fin C H locs cells slots ls' (zlc_set hl.2.2.1 (znd_of hd) hl') hw hS hz hr1 hr2 (fun v hv => by
    rcases List.mem_or_eq_of_mem_set hv with h | h
    · exact hL v h
    · rw [h]; exact zs0 hst) (zs1 hst)
theorem z_istore_n {j : Fin 4} {x : Int} (dg : decode M.2.1 pc = .ok (.istore_n j, 1)) (hp : pc + 1 = pc') (hi : (j : Nat) < L.length) (hd : zndb L (j : Nat) = true) (hL' : L.set (j : Nat) (zI x) = L') (k : zW M d r1 r2 Q pc' L' st sp me) : zW M d r1 r2 Q pc L (zI x :: st) sp me := by
  intro k1 k2 p l e R s m args below meth c D cA B b Fin C H locs cells slots ls hl hw hS hz hr1 hr2 hL hst
  have C0 := C
  obtain ⟨hx, hb, hml, hown, hname, hts, hnw, hao, hK, hroom, hbud, hBs, hscr, hret⟩ := C0
  subst hp
  subst hL'
  show W p l e R s m args below meth c H locs cells slots Fin (F0 m pc ls (.int (Int32.ofInt x) :: st.map (ztr B b)))
  refine lv_istore_n hx hb dg rfl (zlc_ll hl) (by rw [← hl.2.2.1]; exact hi) rfl (fun ls' hl' => ?_)
  exact k k1 k2 p l e R s m args below meth c D cA B b Fin C H locs cells slots ls' (zlc_set hl.2.2.1 (znd_of hd) hl') hw hS hz hr1 hr2 (fun v hv => by
    rcases List.mem_or_eq_of_mem_set hv with h | h
    · exact hL v h
    · rw [h]; exact zs0 hst) (zs1 hst)
theorem z_astore {i : Nat} {x : Nat} (dg : decode M.2.1 pc = .ok (.astore i, 2)) (hp : pc + 2 = pc') (hi : i < L.length) (hd : zndb L i = true) (hL' : L.set i (zR x) = L') (k : zW M d r1 r2 Q pc' L' st sp me) : zW M d r1 r2 Q pc L (zR x :: st) sp me := by
  intro k1 k2 p l e R s m args below meth c D cA B b Fin C H locs cells slots ls hl hw hS hz hr1 hr2 hL hst
  have C0 := C
  obtain ⟨hx, hb, hml, hown, hname, hts, hnw, hao, hK, hroom, hbud, hBs, hscr, hret⟩ := C0
  subst hp
  subst hL'
  show W p l e R s m args below meth c H locs cells slots Fin (F0 m pc ls (.ref (zad B b x) :: st.map (ztr B b)))
  refine lv_astore hx hb dg (zlc_ll hl) (by rw [← hl.2.2.1]; exact hi) rfl (fun ls' hl' => ?_)
  exact k k1 k2 p l e R s m args below meth c D cA B b Fin C H locs cells slots ls' (zlc_set hl.2.2.1 (znd_of hd) hl') hw hS hz hr1 hr2 (fun v hv => by
    rcases List.mem_or_eq_of_mem_set hv with h | h
    · exact hL v h
    · rw [h]; exact zs0 hst) (zs1 hst)
theorem z_astore_n {j : Fin 4} {x : Nat} (dg : decode M.2.1 pc = .ok (.astore_n j, 1)) (hp : pc + 1 = pc') (hi : (j : Nat) < L.length) (hd : zndb L (j : Nat) = true) (hL' : L.set (j : Nat) (zR x) = L') (k : zW M d r1 r2 Q pc' L' st sp me) : zW M d r1 r2 Q pc L (zR x :: st) sp me := by
  intro k1 k2 p l e R s m args below meth c D cA B b Fin C H locs cells slots ls hl hw hS hz hr1 hr2 hL hst
  have C0 := C
  obtain ⟨hx, hb, hml, hown, hname, hts, hnw, hao, hK, hroom, hbud, hBs, hscr, hret⟩ := C0
  subst hp
  subst hL'
  show W p l e R s m args below meth c H locs cells slots Fin (F0 m pc ls (.ref (zad B b x) :: st.map (ztr B b)))
  refine lv_astore_n hx hb dg rfl (zlc_ll hl) (by rw [← hl.2.2.1]; exact hi) rfl (fun ls' hl' => ?_)
  exact k k1 k2 p l e R s m args below meth c D cA B b Fin C H locs cells slots ls' (zlc_set hl.2.2.1 (znd_of hd) hl') hw hS hz hr1 hr2 (fun v hv => by
    rcases List.mem_or_eq_of_mem_set hv with h | h
    · exact hL v h
    · rw [h]; exact zs0 hst) (zs1 hst)
theorem z_dstore {i : Nat} {x : UInt64} (dg : decode M.2.1 pc = .ok (.dstore i, 2)) (hp : pc + 2 = pc') (hi : i + 1 < L.length) (hd : zndb L i = true) (hL' : (L.set i (zD x)).set (i + 1) zU = L') (k : zW M d r1 r2 Q pc' L' st sp me) : zW M d r1 r2 Q pc L (zD x :: st) sp me := by
  intro k1 k2 p l e R s m args below meth c D cA B b Fin C H locs cells slots ls hl hw hS hz hr1 hr2 hL hst
  have C0 := C
  obtain ⟨hx, hb, hml, hown, hname, hts, hnw, hao, hK, hroom, hbud, hBs, hscr, hret⟩ := C0
  subst hp
  subst hL'
  show W p l e R s m args below meth c H locs cells slots Fin (F0 m pc ls (.double x :: st.map (ztr B b)))
  refine lv_dstore hx hb dg (zlc_ll hl) (by rw [← hl.2.2.1]; exact hi) rfl (fun ls' hl' => ?_)
  exact k k1 k2 p l e R s m args below meth c D cA B b Fin C H locs cells slots ls' (zlc_setD hl.2.2.1 (znd_of hd) hl') hw hS hz hr1 hr2 (fun v hv => by
    rcases List.mem_or_eq_of_mem_set hv with h | h
    · rcases List.mem_or_eq_of_mem_set h with h | h
      · exact hL v h
      · rw [h]; exact zs0 hst
    · rw [h]; exact zok_U) (zs1 hst)
theorem z_iinc {i : Nat} {x n : Int} (dg : decode M.2.1 pc = .ok (.iinc i n, 3)) (hp : pc + 3 = pc') (h : L[i]? = some (zI x)) (hr : zin (x + n)) (hd : zndb L i = true) (hL' : L.set i (zI (x + n)) = L') (k : zW M d r1 r2 Q pc' L' st sp me) : zW M d r1 r2 Q pc L st sp me := by
  intro k1 k2 p l e R s m args below meth c D cA B b Fin C H locs cells slots ls hl hw hS hz hr1 hr2 hL hst
  have C0 := C
  obtain ⟨hx, hb, hml, hown, hname, hts, hnw, hao, hK, hroom, hbud, hBs, hscr, hret⟩ := C0
  subst hp
  subst hL'
  have hm : (i, Value.int (Int32.ofInt x)) ∈ zll B b L := zll_mem.mpr ⟨zI x, h, (fun z => by cases z), rfl⟩
  obtain ⟨kx, hkx⟩ := List.getElem?_of_mem hm
  refine lv_iinc (v := Int32.ofInt (x + n)) hx hb dg (zlc_ll hl) hkx (Int32.ofInt_add x n).symm (by rw [← hl.2.2.1]; exact (List.getElem?_eq_some_iff.mp h).1) rfl (fun ls' hl' => ?_)
  exact k k1 k2 p l e R s m args below meth c D cA B b Fin C H locs cells slots ls' (zlc_set (v := zI (x + n)) hl.2.2.1 (znd_of hd) hl') hw hS hz hr1 hr2 (fun v hv => by
    rcases List.mem_or_eq_of_mem_set hv with h | h
    · exact hL v h
    · rw [h]; exact zok_I hr) hst
theorem zcell_obj {cA : Nat → ClassId} {B b a ci : Nat} (h : (sp.1 a).1 = 10 + ci) : zcell cA B b sp me a = .inr (ci, (List.range (zN ci)).map (fun j => if zRef ci j = true then va_rf ((sp.2.1 a (j : Int)).map (zad B b)) else .int (Int32.ofInt (me a (j : Int))))) := by
  unfold zcell
  rw [h]
  split
  · omega
  · omega
  · omega
  · omega
  · rw [Nat.add_sub_cancel_left]
theorem zcell_int {cA : Nat → ClassId} {B b a : Nat} (h : (sp.1 a).1 = 1) : zcell cA B b sp me a = .inl (cA 0, (sp.1 a).2, .inl (fun j => Int32.ofInt (me a (j : Int)))) := by
  unfold zcell
  rw [h]
  rfl
theorem zcell_bool {cA : Nat → ClassId} {B b a : Nat} (h : (sp.1 a).1 = 2) : zcell cA B b sp me a = .inl (cA 1, (sp.1 a).2, .inl (fun j => Int32.ofInt (me a (j : Int)))) := by
  unfold zcell
  rw [h]
  rfl
theorem zcell_rg {cA : Nat → ClassId} {B b a : Nat} (h : (sp.1 a).1 = 3) : zcell cA B b sp me a = .inl (cA 2, (sp.1 a).2, .inr (.inr (.inr (.inr (fun j => (sp.2.1 a (j : Int)).map (zad B b)))))) := by
  unfold zcell
  rw [h]
  rfl
theorem zcell_st {cA : Nat → ClassId} {B b a : Nat} (h : (sp.1 a).1 = 4) : zcell cA B b sp me a = .inl (cA 3, (sp.1 a).2, .inr (.inr (.inr (.inr (fun j => (sp.2.1 a (j : Int)).map (zad B b)))))) := by
  unfold zcell
  rw [h]
  rfl
theorem zfs_set {α : Type} {N k : Nat} {F F' : Nat → α} {v : α} (h1 : F' k = v) (h2 : ∀ j, j ≠ k → F' j = F j) : ((List.range N).map F).set k v = (List.range N).map F' := by
  apply List.ext_getElem?
  intro i
  rw [List.getElem?_set]
  by_cases hi : k = i
  · subst hi
    by_cases hl : k < N
    · simp [hl, h1]
    · simp [hl]
  · rw [if_neg hi]
    by_cases hl : i < N
    · simp [hl, h2 i (fun z => hi z.symm)]
    · simp [hl]
theorem zwf_set {a : Nat} {i x : Int} (h : zwf sp me) (hx : zin x) (hi : ((sp.1 a).1 = 1 ∨ (sp.1 a).1 = 2) → 0 ≤ i ∧ i < ((sp.1 a).2 : Int)) : zwf sp (zset me a (zup (me a) i x)) := by
  obtain ⟨h1, h2, h3, h4⟩ := h
  refine ⟨h1, fun a' j => ?_, fun a' j ha' hj => ?_, h4⟩
  · by_cases e1 : a' = a
    · subst e1
      rw [zset_eq]
      by_cases e2 : j = i
      · subst e2; rw [zup_eq]; exact hx
      · rw [zup_ne _ _ _ e2]; exact h2 a' j
    · rw [zset_ne _ _ _ e1]; exact h2 a' j
  · by_cases e1 : a' = a
    · subst e1
      rw [zset_eq]
      by_cases e2 : j = i
      · subst e2; exact absurd (hi ha') hj
      · rw [zup_ne _ _ _ e2]; exact h3 a' j ha' hj
    · rw [zset_ne _ _ _ e1]; exact h3 a' j ha' hj
def zFl (own : String) (idx ci k : Nat) : Prop := ci < 10 ∧ k < zN ci ∧ (zT ci k).1 = zRn ci ∧ ((Jvm.Cond.fieldLink own idx (zRn ci) (zT ci k).2.1 (zT ci k).2.2.1 ∈ lw_tbl ∧ goodWord (Jvm.Cond.fieldLink own idx (zRn ci) (zT ci k).2.1 (zT ci k).2.2.1) = true) ∨ ∃ host, Jvm.Cond.fieldLinkNest own idx (zRn ci) (zT ci k).2.1 (zT ci k).2.2.1 host ∈ lw_tbl)
def zFp (own : String) (idx ci k : Nat) : Prop := ci < 10 ∧ k < zN ci ∧ (zT ci k).1 = zRn ci ∧ (Jvm.Cond.fieldLink own idx (zRn ci) (zT ci k).2.1 (zT ci k).2.2.1 ∈ lw_tbl ∧ goodWord (Jvm.Cond.fieldLink own idx (zRn ci) (zT ci k).2.1 (zT ci k).2.2.1) = true)
theorem zFp.l {own : String} {idx ci k : Nat} (h : zFp own idx ci k) : zFl own idx ci k := ⟨h.1, h.2.1, h.2.2.1, Or.inl h.2.2.2⟩
theorem z_getI {idx ci a : Nat} {ki : Int} (kn : Nat) (hf : zFl M.1.cls idx ci kn) (hki : (kn : Int) = ki) (hr : zRef ci kn = false) (dg : decode M.2.1 pc = .ok (.getfield idx, 3)) (hp : pc + 3 = pc') (hs : (sp.1 a).1 = 10 + ci) (k : zW M d r1 r2 Q pc' L (zI (me a ki) :: st) sp me) : zW M d r1 r2 Q pc L (zR a :: st) sp me := by
  intro k1 k2 p l e R s m args below meth c D cA B b Fin C H locs cells slots ls hl hw hS hz hr1 hr2 hL hst
  have hw0 := hw
  obtain ⟨hP, hwf⟩ := hw0
  have K := k k1 k2 p l e R s m args below meth c D cA B b Fin C H locs cells slots ls hl hw hS hz hr1 hr2 hL (zsc (zok_I (hwf.2.1 a ki)) (zs1 hst))
  have C0 := C
  obtain ⟨hx, hb, hml, hown, hname, hts, hnw, hao, hK, hroom, hbud, hBs, hscr, hret⟩ := C0
  subst hp
  subst hki
  obtain ⟨hci, hkn, hnm, hlk⟩ := hf
  have ha := hwf.1 a (by rw [hs]; omega)
  have he := zws_get (cA := cA) (B := B) (b := b) (sp := sp) (me := me) ha.1 ha.2
  rw [zcell_obj hs] at he
  have ead : zad B b a = B + a := by unfold zad; rw [if_neg (by omega)]
  show W p l e R s m args below meth c H locs cells slots Fin (F0 m pc ls (.ref (zad B b a) :: st.map (ztr B b)))
  rw [ead]
  have hvv : ((List.range (zN ci)).map (fun j => if zRef ci j = true then va_rf ((sp.2.1 a (j : Int)).map (zad B b)) else .int (Int32.ofInt (me a (j : Int)))))[kn]? = some (.int (Int32.ofInt (me a (kn : Int)))) := by simp [hkn, hr]
  rcases hlk with ⟨hk1, hk2⟩ | ⟨host, hk1⟩
  · exact va_get hx hb hts (zlay hci) hown hK hP (a - 1) he (zcl_at ci hci) kn hkn (hts _ (zG_of hk1 hk2)) (fun x hx => by rw [hnm] at hx; exact hx) hvv dg K
  · exact va_getN hx hb hts (zlay hci) hown hK hP (a - 1) he (zcl_at ci hci) kn hkn (va_Nw.use rfl (hnw _ hk1 rfl)) (fun x hx => by rw [hnm] at hx; exact hx) hvv dg K
theorem z_getR {idx ci a a' : Nat} {ki : Int} (kn : Nat) (hf : zFl M.1.cls idx ci kn) (hki : (kn : Int) = ki) (hr : zRef ci kn = true) (dg : decode M.2.1 pc = .ok (.getfield idx, 3)) (hp : pc + 3 = pc') (hs : (sp.1 a).1 = 10 + ci) (hv : sp.2.1 a ki = some a') (k : zW M d r1 r2 Q pc' L (zR a' :: st) sp me) : zW M d r1 r2 Q pc L (zR a :: st) sp me := by
  intro k1 k2 p l e R s m args below meth c D cA B b Fin C H locs cells slots ls hl hw hS hz hr1 hr2 hL hst
  have hw0 := hw
  obtain ⟨hP, hwf⟩ := hw0
  have K := k k1 k2 p l e R s m args below meth c D cA B b Fin C H locs cells slots ls hl hw hS hz hr1 hr2 hL (zsc zok_R (zs1 hst))
  have C0 := C
  obtain ⟨hx, hb, hml, hown, hname, hts, hnw, hao, hK, hroom, hbud, hBs, hscr, hret⟩ := C0
  subst hp
  subst hki
  obtain ⟨hci, hkn, hnm, hlk⟩ := hf
  have ha := hwf.1 a (by rw [hs]; omega)
  have he := zws_get (cA := cA) (B := B) (b := b) (sp := sp) (me := me) ha.1 ha.2
  rw [zcell_obj hs] at he
  have ead : zad B b a = B + a := by unfold zad; rw [if_neg (by omega)]
  show W p l e R s m args below meth c H locs cells slots Fin (F0 m pc ls (.ref (zad B b a) :: st.map (ztr B b)))
  rw [ead]
  have hvv : ((List.range (zN ci)).map (fun j => if zRef ci j = true then va_rf ((sp.2.1 a (j : Int)).map (zad B b)) else .int (Int32.ofInt (me a (j : Int)))))[kn]? = some (.ref (zad B b a')) := by simp [hkn, hr, hv, va_rf]
  rcases hlk with ⟨hk1, hk2⟩ | ⟨host, hk1⟩
  · exact va_get hx hb hts (zlay hci) hown hK hP (a - 1) he (zcl_at ci hci) kn hkn (hts _ (zG_of hk1 hk2)) (fun x hx => by rw [hnm] at hx; exact hx) hvv dg K
  · exact va_getN hx hb hts (zlay hci) hown hK hP (a - 1) he (zcl_at ci hci) kn hkn (va_Nw.use rfl (hnw _ hk1 rfl)) (fun x hx => by rw [hnm] at hx; exact hx) hvv dg K
/-- a number goes into a field that isn't final: int, or boolean with 0 or 1 -/
theorem z_putI {idx ci a : Nat} {ki x : Int} (kn : Nat) (hf : zFl M.1.cls idx ci kn) (hki : (kn : Int) = ki) (hr : zTy ci kn = .int ∨ (zTy ci kn = .boolean ∧ (x = 0 ∨ x = 1))) (hfin : (zT ci kn).2.2.2 = false) (dg : decode M.2.1 pc = .ok (.putfield idx, 3)) (hp : pc + 3 = pc') (hs : (sp.1 a).1 = 10 + ci) (k : zW M d r1 r2 Q pc' L st sp (zset me a (zup (me a) ki x))) : zW M d r1 r2 Q pc L (zI x :: zR a :: st) sp me := by
  intro k1 k2 p l e R s m args below meth c D cA B b Fin C H locs cells slots ls hl hw hS hz hr1 hr2 hL hst
  have hw0 := hw
  obtain ⟨hP, hwf⟩ := hw0
  have C0 := C
  obtain ⟨hx, hb, hml, hown, hname, hts, hnw, hao, hK, hroom, hbud, hBs, hscr, hret⟩ := C0
  subst hp
  subst hki
  obtain ⟨hci, hkn, hnm, hlk⟩ := hf
  have ha := hwf.1 a (by rw [hs]; omega)
  have he := zws_get (cA := cA) (B := B) (b := b) (sp := sp) (me := me) ha.1 ha.2
  rw [zcell_obj hs] at he
  have ead : zad B b a = B + a := by unfold zad; rw [if_neg (by omega)]
  have hrf : zRef ci kn = false := by
    unfold zRef
    rcases hr with h | ⟨h, -⟩ <;> rw [h]
  have hwf' : zwf sp (zset me a (zup (me a) (kn : Int) x)) := zwf_set hwf (zs0 hst) (fun h => by rw [hs] at h; omega)
  have hset : (zws cA B b sp me).set (a - 1) (B + a, .inr (ci, ((List.range (zN ci)).map (fun j => if zRef ci j = true then va_rf ((sp.2.1 a (j : Int)).map (zad B b)) else .int (Int32.ofInt (me a (j : Int))))).set kn (.int (Int32.ofInt x)))) = zws cA B b sp (zset me a (zup (me a) (kn : Int) x)) := by
    refine zws_set ha.1 ha.2 rfl ?_ ?_
    · rw [zcell_obj hs]
      congr 2
      symm
      apply zfs_set
      · simp [hrf, zset, zup]
      · intro j hj
        have hj2 : ¬ (j : Int) = (kn : Int) := by omega
        simp [zset, zup, hj2]
    · intro a' ha'
      exact zcell_congr rfl rfl (zset_ne _ _ _ ha')
  have hnar : narrow (zTy ci kn) (.int (Int32.ofInt x)) = .int (Int32.ofInt x) := by
    rcases hr with h | ⟨h, h2⟩
    · rw [h]; rfl
    · rw [h]; rcases h2 with rfl | rfl <;> decide
  have hfit : fits (zTy ci kn) (.int (Int32.ofInt x)) = true := by
    rcases hr with h | ⟨h, h2⟩
    · rw [h]; rfl
    · rw [h]; rcases h2 with rfl | rfl <;> decide
  have KK : ∀ (H1 : Heap) (locs1 : List Loc), va_P D zcl ((zws cA B b sp me).set (a - 1) (B + a, .inr (ci, ((List.range (zN ci)).map (fun j => if zRef ci j = true then va_rf ((sp.2.1 a (j : Int)).map (zad B b)) else .int (Int32.ofInt (me a (j : Int))))).set kn (.int (Int32.ofInt x))))) H1 → va_D (zA B) ((zws cA B b sp me).set (a - 1) (B + a, .inr (ci, ((List.range (zN ci)).map (fun j => if zRef ci j = true then va_rf ((sp.2.1 a (j : Int)).map (zad B b)) else .int (Int32.ofInt (me a (j : Int))))).set kn (.int (Int32.ofInt x))))) → va_S (zA B) s.heap H1 locs1 → W p l e R s m args below meth c H1 locs1 cells slots Fin (F0 m (pc + 3) ls (st.map (ztr B b))) := by
    intro H1 locs1 hP1 _ hS1
    rw [hset] at hP1
    exact k k1 k2 p l e R s m args below meth c D cA B b Fin C H1 locs1 cells slots ls hl ⟨hP1, hwf'⟩ hS1 hz hr1 hr2 hL (zs1 (zs1 hst))
  show W p l e R s m args below meth c H locs cells slots Fin (F0 m pc ls (.int (Int32.ofInt x) :: .ref (zad B b a) :: st.map (ztr B b)))
  rw [ead]
  rcases hlk with ⟨hk1, hk2⟩ | ⟨host, hk1⟩
  · exact va_put hx hb hts (zlay hci) (zTy ci) (zty_ok ci hci) (znm_ok ci hci) hown hK hP zws_D hS (a - 1) he (zcl_at ci hci) kn hkn (hts _ (zG_of hk1 hk2)) (fun x hx => by rw [hnm] at hx; exact hx) hfin (zty_ok ci hci kn hkn) hnar hfit (by simp [hkn]) dg KK
  · exact va_putN hx hb hts (zlay hci) (zTy ci) (zty_ok ci hci) (znm_ok ci hci) hown hK hP zws_D hS (a - 1) he (zcl_at ci hci) kn hkn (va_Nw.use rfl (hnw _ hk1 rfl)) (fun x hx => by rw [hnm] at hx; exact hx) hfin (zty_ok ci hci kn hkn) hnar hfit (by simp [hkn]) dg KK
/-- a reference goes into a final field of the object that is being made -/
theorem z_putRF {idx ci a a' : Nat} {ki : Int} (kn : Nat) (hf : zFp M.1.cls idx ci kn) (hki : (kn : Int) = ki) (hr : (∃ n, zTy ci kn = .object n) ∨ ∃ t, zTy ci kn = .array t) (hfin : (zT ci kn).2.2.2 = true) (hin : M.1.name = "<init>") (hdc : zRn ci = M.1.cls) (dg : decode M.2.1 pc = .ok (.putfield idx, 3)) (hp : pc + 3 = pc') (hs : (sp.1 a).1 = 10 + ci) (ha' : a' ≠ 0) (k : zW M d r1 r2 Q pc' L st (sp.1, zset sp.2.1 a (zup (sp.2.1 a) ki (some a')), sp.2.2) me) : zW M d r1 r2 Q pc L (zR a' :: zR a :: st) sp me := by
  intro k1 k2 p l e R s m args below meth c D cA B b Fin C H locs cells slots ls hl hw hS hz hr1 hr2 hL hst
  have hw0 := hw
  obtain ⟨hP, hwf⟩ := hw0
  have C0 := C
  obtain ⟨hx, hb, hml, hown, hname, hts, hnw, hao, hK, hroom, hbud, hBs, hscr, hret⟩ := C0
  subst hp
  subst hki
  obtain ⟨hci, hkn, hnm, hlk⟩ := hf
  have ha := hwf.1 a (by rw [hs]; omega)
  have he := zws_get (cA := cA) (B := B) (b := b) (sp := sp) (me := me) ha.1 ha.2
  rw [zcell_obj hs] at he
  have ead : zad B b a = B + a := by unfold zad; rw [if_neg (by omega)]
  have hrf : zRef ci kn = true := by
    unfold zRef
    rcases hr with ⟨n, h⟩ | ⟨t, h⟩ <;> rw [h]
  have hwf' : zwf (sp.1, zset sp.2.1 a (zup (sp.2.1 a) (kn : Int) (some a')), sp.2.2) me := hwf
  have hset : (zws cA B b sp me).set (a - 1) (B + a, .inr (ci, ((List.range (zN ci)).map (fun j => if zRef ci j = true then va_rf ((sp.2.1 a (j : Int)).map (zad B b)) else .int (Int32.ofInt (me a (j : Int))))).set kn (.ref (zad B b a')))) = zws cA B b (sp.1, zset sp.2.1 a (zup (sp.2.1 a) (kn : Int) (some a')), sp.2.2) me := by
    refine zws_set ha.1 ha.2 rfl ?_ ?_
    · rw [zcell_obj (sp := (sp.1, zset sp.2.1 a (zup (sp.2.1 a) (kn : Int) (some a')), sp.2.2)) hs]
      congr 2
      symm
      apply zfs_set
      · simp [hrf, zset, zup, va_rf]
      · intro j hj
        have hj2 : ¬ (j : Int) = (kn : Int) := by omega
        simp [zset, zup, hj2]
    · intro a2 ha2
      exact zcell_congr rfl (zset_ne _ _ _ ha2) rfl
  have hnf : narrow (zTy ci kn) (.ref (zad B b a')) = .ref (zad B b a') ∧ fits (zTy ci kn) (.ref (zad B b a')) = true := by
    rcases hr with ⟨n, h⟩ | ⟨t, h⟩ <;> rw [h] <;> exact ⟨rfl, rfl⟩
  show W p l e R s m args below meth c H locs cells slots Fin (F0 m pc ls (.ref (zad B b a') :: .ref (zad B b a) :: st.map (ztr B b)))
  rw [ead]
  refine va_putF hx hb hts (zlay hci) (zTy ci) (zty_ok ci hci) (znm_ok ci hci) hown hK hP zws_D hS (a - 1) he (zcl_at ci hci) kn hkn (hts _ (zG_of hlk.1 hlk.2)) (fun x hx => by rw [hnm] at hx; exact hx) hfin (hname.trans hin) (hnm.trans hdc) (zty_ok ci hci kn hkn) hnf.1 hnf.2 (by simp [hkn]) dg (fun H1 locs1 hP1 _ hS1 => ?_)
  rw [hset] at hP1
  exact k k1 k2 p l e R s m args below meth c D cA B b Fin C H1 locs1 cells slots ls hl ⟨hP1, hwf'⟩ hS1 hz hr1 hr2 hL (zs1 (zs1 hst))
theorem zad_1 {B b a : Nat} (h : 1 ≤ a) : zad B b a = B + a := by unfold zad; rw [if_neg (by omega)]
theorem zupd {f : Int → Int} {i x : Int} (h0 : 0 ≤ i) : (fun j : Nat => Int32.ofInt (zup f i x (j : Int))) = upd (fun j : Nat => Int32.ofInt (f (j : Int))) i.toNat (Int32.ofInt x) := by
  funext j
  by_cases hj : (j : Int) = i
  · have h2 : j = i.toNat := by omega
    rw [hj, zup_eq, h2, pk_us]
  · have h2 : j ≠ i.toNat := by omega
    rw [zup_ne _ _ _ hj, pk_un h2]
theorem z_iaload {a : Nat} {i : Int} (dg : decode M.2.1 pc = .ok (.iaload, 1)) (hp : pc + 1 = pc') (hs : (sp.1 a).1 = 1) (h0 : 0 ≤ i) (h1 : i < ((sp.1 a).2 : Int)) (k : zW M d r1 r2 Q pc' L (zI (me a i) :: st) sp me) : zW M d r1 r2 Q pc L (zI i :: zR a :: st) sp me := by
  intro k1 k2 p l e R s m args below meth c D cA B b Fin C H locs cells slots ls hl hw hS hz hr1 hr2 hL hst
  have hw0 := hw
  obtain ⟨hP, hwf⟩ := hw0
  have K := k k1 k2 p l e R s m args below meth c D cA B b Fin C H locs cells slots ls hl hw hS hz hr1 hr2 hL (zsc (zok_I (hwf.2.1 a i)) (zs1 (zs1 hst)))
  have C0 := C
  obtain ⟨hx, hb, hml, hown, hname, hts, hnw, hao, hK, hroom, hbud, hBs, hscr, hret⟩ := C0
  subst hp
  have hi : zin i := zs0 hst
  have ha := hwf.1 a (by rw [hs]; omega)
  have he := zws_get (cA := cA) (B := B) (b := b) (sp := sp) (me := me) ha.1 ha.2
  rw [zcell_int hs] at he
  show W p l e R s m args below meth c H locs cells slots Fin (F0 m pc ls (.int (Int32.ofInt i) :: .ref (zad B b a) :: st.map (ztr B b)))
  rw [zad_1 ha.1]
  refine va_iald hx hb hK hP (a - 1) 0 he rfl (zi_in hi h0 h1) dg ?_
  have e2 : ((i.toNat : Nat) : Int) = i := Int.toNat_of_nonneg h0
  rw [zi_cl hi, e2]
  exact K
theorem z_baload {a : Nat} {i : Int} (dg : decode M.2.1 pc = .ok (.baload, 1)) (hp : pc + 1 = pc') (hs : (sp.1 a).1 = 2) (h0 : 0 ≤ i) (h1 : i < ((sp.1 a).2 : Int)) (k : zW M d r1 r2 Q pc' L (zI (me a i) :: st) sp me) : zW M d r1 r2 Q pc L (zI i :: zR a :: st) sp me := by
  intro k1 k2 p l e R s m args below meth c D cA B b Fin C H locs cells slots ls hl hw hS hz hr1 hr2 hL hst
  have hw0 := hw
  obtain ⟨hP, hwf⟩ := hw0
  have K := k k1 k2 p l e R s m args below meth c D cA B b Fin C H locs cells slots ls hl hw hS hz hr1 hr2 hL (zsc (zok_I (hwf.2.1 a i)) (zs1 (zs1 hst)))
  have C0 := C
  obtain ⟨hx, hb, hml, hown, hname, hts, hnw, hao, hK, hroom, hbud, hBs, hscr, hret⟩ := C0
  subst hp
  have hi : zin i := zs0 hst
  have ha := hwf.1 a (by rw [hs]; omega)
  have he := zws_get (cA := cA) (B := B) (b := b) (sp := sp) (me := me) ha.1 ha.2
  rw [zcell_bool hs] at he
  show W p l e R s m args below meth c H locs cells slots Fin (F0 m pc ls (.int (Int32.ofInt i) :: .ref (zad B b a) :: st.map (ztr B b)))
  rw [zad_1 ha.1]
  refine va_zald hx hb hK hP (a - 1) 1 he rfl (zi_in hi h0 h1) dg ?_
  have e2 : ((i.toNat : Nat) : Int) = i := Int.toNat_of_nonneg h0
  rw [zi_cl hi, e2]
  exact K
theorem z_iastore {a : Nat} {i x : Int} (dg : decode M.2.1 pc = .ok (.iastore, 1)) (hp : pc + 1 = pc') (hs : (sp.1 a).1 = 1) (h0 : 0 ≤ i) (h1 : i < ((sp.1 a).2 : Int)) (k : zW M d r1 r2 Q pc' L st sp (zset me a (zup (me a) i x))) : zW M d r1 r2 Q pc L (zI x :: zI i :: zR a :: st) sp me := by
  intro k1 k2 p l e R s m args below meth c D cA B b Fin C H locs cells slots ls hl hw hS hz hr1 hr2 hL hst
  have hw0 := hw
  obtain ⟨hP, hwf⟩ := hw0
  have C0 := C
  obtain ⟨hx, hb, hml, hown, hname, hts, hnw, hao, hK, hroom, hbud, hBs, hscr, hret⟩ := C0
  subst hp
  have hx0 : zin x := zs0 hst
  have hi : zin i := zs0 (zs1 hst)
  have ha := hwf.1 a (by rw [hs]; omega)
  have he := zws_get (cA := cA) (B := B) (b := b) (sp := sp) (me := me) ha.1 ha.2
  rw [zcell_int hs] at he
  show W p l e R s m args below meth c H locs cells slots Fin (F0 m pc ls (.int (Int32.ofInt x) :: .int (Int32.ofInt i) :: .ref (zad B b a) :: st.map (ztr B b)))
  rw [zad_1 ha.1]
  refine va_iast hx hb hK hP zws_D hS (a - 1) 0 he rfl (zi_in hi h0 h1) dg (fun H1 locs1 hP1 _ hS1 => ?_)
  rw [zws_set (sp' := sp) (me' := zset me a (zup (me a) i x)) ha.1 ha.2 rfl (by rw [zcell_int hs, zset_eq, zi_cl hi, zupd h0]) (fun a' ha' => zcell_congr rfl rfl (zset_ne _ _ _ ha'))] at hP1
  exact k k1 k2 p l e R s m args below meth c D cA B b Fin C H1 locs1 cells slots ls hl ⟨hP1, zwf_set hwf hx0 (fun _ => ⟨h0, h1⟩)⟩ hS1 hz hr1 hr2 hL (zs1 (zs1 (zs1 hst)))
theorem z_bastore {a : Nat} {i x : Int} (dg : decode M.2.1 pc = .ok (.bastore, 1)) (hp : pc + 1 = pc') (hs : (sp.1 a).1 = 2) (h0 : 0 ≤ i) (h1 : i < ((sp.1 a).2 : Int)) (h2 : x = 0 ∨ x = 1) (k : zW M d r1 r2 Q pc' L st sp (zset me a (zup (me a) i x))) : zW M d r1 r2 Q pc L (zI x :: zI i :: zR a :: st) sp me := by
  intro k1 k2 p l e R s m args below meth c D cA B b Fin C H locs cells slots ls hl hw hS hz hr1 hr2 hL hst
  have hw0 := hw
  obtain ⟨hP, hwf⟩ := hw0
  have C0 := C
  obtain ⟨hx, hb, hml, hown, hname, hts, hnw, hao, hK, hroom, hbud, hBs, hscr, hret⟩ := C0
  subst hp
  have hx0 : zin x := zs0 hst
  have hi : zin i := zs0 (zs1 hst)
  have ha := hwf.1 a (by rw [hs]; omega)
  have he := zws_get (cA := cA) (B := B) (b := b) (sp := sp) (me := me) ha.1 ha.2
  rw [zcell_bool hs] at he
  have e3 : vp_nar .boolean (Int32.ofInt x) = Int32.ofInt x := by rcases h2 with rfl | rfl <;> decide
  show W p l e R s m args below meth c H locs cells slots Fin (F0 m pc ls (.int (Int32.ofInt x) :: .int (Int32.ofInt i) :: .ref (zad B b a) :: st.map (ztr B b)))
  rw [zad_1 ha.1]
  refine va_zast hx hb hK hP zws_D hS (a - 1) 1 he rfl (zi_in hi h0 h1) dg (fun H1 locs1 hP1 _ hS1 => ?_)
  rw [zws_set (sp' := sp) (me' := zset me a (zup (me a) i x)) ha.1 ha.2 rfl (by rw [zcell_bool hs, zset_eq, zi_cl hi, zupd h0, e3]) (fun a' ha' => zcell_congr rfl rfl (zset_ne _ _ _ ha'))] at hP1
  exact k k1 k2 p l e R s m args below meth c D cA B b Fin C H1 locs1 cells slots ls hl ⟨hP1, zwf_set hwf hx0 (fun _ => ⟨h0, h1⟩)⟩ hS1 hz hr1 hr2 hL (zs1 (zs1 (zs1 hst)))
theorem z_aaload {a a' : Nat} {i : Int} (dg : decode M.2.1 pc = .ok (.aaload, 1)) (hp : pc + 1 = pc') (hs : (sp.1 a).1 = 3 ∨ (sp.1 a).1 = 4) (h0 : 0 ≤ i) (h1 : i < ((sp.1 a).2 : Int)) (hv : sp.2.1 a i = some a') (k : zW M d r1 r2 Q pc' L (zR a' :: st) sp me) : zW M d r1 r2 Q pc L (zI i :: zR a :: st) sp me := by
  intro k1 k2 p l e R s m args below meth c D cA B b Fin C H locs cells slots ls hl hw hS hz hr1 hr2 hL hst
  have hw0 := hw
  obtain ⟨hP, hwf⟩ := hw0
  have K := k k1 k2 p l e R s m args below meth c D cA B b Fin C H locs cells slots ls hl hw hS hz hr1 hr2 hL (zsc zok_R (zs1 (zs1 hst)))
  have C0 := C
  obtain ⟨hx, hb, hml, hown, hname, hts, hnw, hao, hK, hroom, hbud, hBs, hscr, hret⟩ := C0
  subst hp
  have hi : zin i := zs0 hst
  have ha := hwf.1 a (by omega)
  have he := zws_get (cA := cA) (B := B) (b := b) (sp := sp) (me := me) ha.1 ha.2
  have e2 : ((i.toNat : Nat) : Int) = i := Int.toNat_of_nonneg h0
  show W p l e R s m args below meth c H locs cells slots Fin (F0 m pc ls (.int (Int32.ofInt i) :: .ref (zad B b a) :: st.map (ztr B b)))
  rw [zad_1 ha.1]
  rcases hs with hs | hs
  · rw [zcell_rg hs] at he
    refine va_aldq hx hb hK hP (a - 1) 2 he rfl (zi_in hi h0 h1) dg ?_
    rw [zi_cl hi, e2, hv]
    exact K
  · rw [zcell_st hs] at he
    refine va_aldq hx hb hK hP (a - 1) 3 he rfl (zi_in hi h0 h1) dg ?_
    rw [zi_cl hi, e2, hv]
    exact K
theorem zaupd {f : Int → Option Nat} {B b a' : Nat} {i : Int} (h0 : 0 ≤ i) : (fun j : Nat => (zup f i (some a') (j : Int)).map (zad B b)) = va_up (fun j : Nat => (f (j : Int)).map (zad B b)) i.toNat (some (zad B b a')) := by
  funext j
  by_cases hj : (j : Int) = i
  · have h2 : j = i.toNat := by omega
    rw [hj, zup_eq, h2]
    simp [va_up]
  · have h2 : j ≠ i.toNat := by omega
    rw [zup_ne _ _ _ hj]
    simp [va_up, h2]
theorem z_aastore {a a' : Nat} {i : Int} (dg : decode M.2.1 pc = .ok (.aastore, 1)) (hp : pc + 1 = pc') (hs : ((sp.1 a).1 = 3 ∧ (sp.1 a').1 = 14) ∨ ((sp.1 a).1 = 4 ∧ (sp.1 a').1 = 17)) (h0 : 0 ≤ i) (h1 : i < ((sp.1 a).2 : Int)) (k : zW M d r1 r2 Q pc' L st (sp.1, zset sp.2.1 a (zup (sp.2.1 a) i (some a')), sp.2.2) me) : zW M d r1 r2 Q pc L (zR a' :: zI i :: zR a :: st) sp me := by
  intro k1 k2 p l e R s m args below meth c D cA B b Fin C H locs cells slots ls hl hw hS hz hr1 hr2 hL hst
  have hw0 := hw
  obtain ⟨hP, hwf⟩ := hw0
  have C0 := C
  obtain ⟨hx, hb, hml, hown, hname, hts, hnw, hao, hK, hroom, hbud, hBs, hscr, hret⟩ := C0
  subst hp
  have hi : zin i := zs0 (zs1 hst)
  have ha := hwf.1 a (by omega)
  have ha' := hwf.1 a' (by omega)
  have he := zws_get (cA := cA) (B := B) (b := b) (sp := sp) (me := me) ha.1 ha.2
  have he' := zws_get (cA := cA) (B := B) (b := b) (sp := sp) (me := me) ha'.1 ha'.2
  have hwf' : zwf (sp.1, zset sp.2.1 a (zup (sp.2.1 a) i (some a')), sp.2.2) me := hwf
  show W p l e R s m args below meth c H locs cells slots Fin (F0 m pc ls (.ref (zad B b a') :: .int (Int32.ofInt i) :: .ref (zad B b a) :: st.map (ztr B b)))
  rw [zad_1 ha.1, zad_1 ha'.1]
  rcases hs with ⟨hs, hs'⟩ | ⟨hs, hs'⟩
  · rw [zcell_rg hs] at he
    rw [zcell_obj (ci := 4) hs'] at he'
    refine va_astq hx hb hK hP zws_D hS (a - 1) 2 (a' - 1) 4 he rfl he' rfl (zi_in hi h0 h1) dg (fun H1 locs1 hP1 _ hS1 => ?_)
    rw [zws_set (sp' := (sp.1, zset sp.2.1 a (zup (sp.2.1 a) i (some a')), sp.2.2)) (me' := me) ha.1 ha.2 rfl (by rw [zcell_rg (sp := (sp.1, zset sp.2.1 a (zup (sp.2.1 a) i (some a')), sp.2.2)) hs]; dsimp only; rw [zset_eq, zi_cl hi, zaupd h0, zad_1 ha'.1]) (fun a2 ha2 => zcell_congr rfl (zset_ne _ _ _ ha2) rfl)] at hP1
    exact k k1 k2 p l e R s m args below meth c D cA B b Fin C H1 locs1 cells slots ls hl ⟨hP1, hwf'⟩ hS1 hz hr1 hr2 hL (zs1 (zs1 (zs1 hst)))
  · rw [zcell_st hs] at he
    rw [zcell_obj (ci := 7) hs'] at he'
    refine va_astq hx hb hK hP zws_D hS (a - 1) 3 (a' - 1) 7 he rfl he' rfl (zi_in hi h0 h1) dg (fun H1 locs1 hP1 _ hS1 => ?_)
    rw [zws_set (sp' := (sp.1, zset sp.2.1 a (zup (sp.2.1 a) i (some a')), sp.2.2)) (me' := me) ha.1 ha.2 rfl (by rw [zcell_st (sp := (sp.1, zset sp.2.1 a (zup (sp.2.1 a) i (some a')), sp.2.2)) hs]; dsimp only; rw [zset_eq, zi_cl hi, zaupd h0, zad_1 ha'.1]) (fun a2 ha2 => zcell_congr rfl (zset_ne _ _ _ ha2) rfl)] at hP1
    exact k k1 k2 p l e R s m args below meth c D cA B b Fin C H1 locs1 cells slots ls hl ⟨hP1, hwf'⟩ hS1 hz hr1 hr2 hL (zs1 (zs1 (zs1 hst)))
theorem z_alen {a : Nat} (dg : decode M.2.1 pc = .ok (.arraylength, 1)) (hp : pc + 1 = pc') (hs : (sp.1 a).1 = 1) (k : zW M d r1 r2 Q pc' L (zI ((sp.1 a).2 : Int) :: st) sp me) : zW M d r1 r2 Q pc L (zR a :: st) sp me := by
  intro k1 k2 p l e R s m args below meth c D cA B b Fin C H locs cells slots ls hl hw hS hz hr1 hr2 hL hst
  have hw0 := hw
  obtain ⟨hP, hwf⟩ := hw0
  have K := k k1 k2 p l e R s m args below meth c D cA B b Fin C H locs cells slots ls hl hw hS hz hr1 hr2 hL (zsc (zok_I (by have := hwf.2.2.2 a; unfold zin; omega)) (zs1 hst))
  have C0 := C
  obtain ⟨hx, hb, hml, hown, hname, hts, hnw, hao, hK, hroom, hbud, hBs, hscr, hret⟩ := C0
  subst hp
  have ha := hwf.1 a (by omega)
  have he := zws_get (cA := cA) (B := B) (b := b) (sp := sp) (me := me) ha.1 ha.2
  rw [zcell_int hs] at he
  show W p l e R s m args below meth c H locs cells slots Fin (F0 m pc ls (.ref (zad B b a) :: st.map (ztr B b)))
  rw [zad_1 ha.1]
  exact va_alen hx hb hK hP (a - 1) 0 he rfl (v := Int32.ofInt ((sp.1 a).2 : Int)) Int32.ofInt_eq_ofNat.symm dg K
/-- the script -/
theorem z_sld {N : Nat} {f : Int → Int} {i : Int} (hsc : M.2.2.2.2 = some (N, f)) (dg : decode M.2.1 pc = .ok (.iaload, 1)) (hp : pc + 1 = pc') (h0 : 0 ≤ i) (h1 : i < (N : Int)) (k : zW M d r1 r2 Q pc' L (zI (f i) :: st) sp me) : zW M d r1 r2 Q pc L (zI i :: zR 0 :: st) sp me := by
  intro k1 k2 p l e R s m args below meth c D cA B b Fin C H locs cells slots ls hl hw hS hz hr1 hr2 hL hst
  have hsb := C.2.2.2.2.2.2.2.2.2.2.2.2.1 N f hsc
  have K := k k1 k2 p l e R s m args below meth c D cA B b Fin C H locs cells slots ls hl hw hS hz hr1 hr2 hL (zsc (zok_I (hsb.2.2.2 i)) (zs1 (zs1 hst)))
  have C0 := C
  obtain ⟨hx, hb, hml, hown, hname, hts, hnw, hao, hK, hroom, hbud, hBs, hscr, hret⟩ := C0
  subst hp
  have hi : zin i := zs0 hst
  show W p l e R s m args below meth c H locs cells slots Fin (F0 m pc ls (.int (Int32.ofInt i) :: .ref b :: st.map (ztr B b)))
  refine va_sld hx hb hsb.1 (by have := hsb.2.1; omega) (Nat.not_lt.mpr hsb.2.1) hS (zi_in hi h0 h1) dg ?_
  have e2 : ((i.toNat : Nat) : Int) = i := Int.toNat_of_nonneg h0
  rw [zi_cl hi, e2]
  exact K
theorem z_slen {N : Nat} {f : Int → Int} (hsc : M.2.2.2.2 = some (N, f)) (dg : decode M.2.1 pc = .ok (.arraylength, 1)) (hp : pc + 1 = pc') (k : zW M d r1 r2 Q pc' L (zI (N : Int) :: st) sp me) : zW M d r1 r2 Q pc L (zR 0 :: st) sp me := by
  intro k1 k2 p l e R s m args below meth c D cA B b Fin C H locs cells slots ls hl hw hS hz hr1 hr2 hL hst
  have hsb := C.2.2.2.2.2.2.2.2.2.2.2.2.1 N f hsc
  have K := k k1 k2 p l e R s m args below meth c D cA B b Fin C H locs cells slots ls hl hw hS hz hr1 hr2 hL (zsc (zok_I (by have := hsb.2.2.1; unfold zin; omega)) (zs1 hst))
  have C0 := C
  obtain ⟨hx, hb, hml, hown, hname, hts, hnw, hao, hK, hroom, hbud, hBs, hscr, hret⟩ := C0
  subst hp
  show W p l e R s m args below meth c H locs cells slots Fin (F0 m pc ls (.ref b :: st.map (ztr B b)))
  refine va_slen hx hb hsb.1 (by have := hsb.2.1; omega) (Nat.not_lt.mpr hsb.2.1) hS dg ?_
  rw [← Int32.ofInt_eq_ofNat]
  exact K
/-- the heap's size, from the record of the walk -/
theorem zsize {k1 k2 : Nat} {p : Program} {l : Launch} {e : Env} {R : Room} {s : State} {m : MethodId} {args : Array Value} {below : List Frame} {meth : Method} {c : Code} {D : va_G} {cA : Nat → ClassId} {B b : Nat} {Fin : State → Prop} (C : zC M d k1 k2 Q p l e R s m args below meth c D cA B b Fin) {H : Heap} {locs : List Loc} {cells slots : Nat} (hw : zwd D cA B b sp me H) (hS : va_S (zA B) s.heap H locs) (hz : B + sp.2.2 + 1 = s.heap.size + cells) {T : State} (hT : T.heap = H) (X : Stand p l e R s m args below meth c T locs cells slots) : H.size = B + sp.2.2 + 1 := by
  have h1 := X.heapSize
  rw [hT] at h1
  have h2 : B < s.heap.size := C.2.2.2.2.2.2.2.2.2.2.2.1
  have h3 := hS.1
  by_cases hn : sp.2.2 = 0
  · omega
  · have h4 := (hw.1 _ _ (zws_get (cA := cA) (B := B) (b := b) (sp := sp) (me := me) (a := sp.2.2) (by omega) (Nat.le_refl _))).lt
    have h5 : B + sp.2.2 < H.size := h4
    omega
/-- the next place -/
theorem znext {D : va_G} {cA : Nat → ClassId} {B b q : Nat} {E : va_E} {H1 : Heap} {cells : Nat} {n0 : Nat} (hz : B + sp.2.2 + 1 = n0 + cells) (hP1 : va_P D zcl (zws cA B b sp me ++ [(q, E)]) H1) (hD1 : va_D (zA B) (zws cA B b sp me ++ [(q, E)])) (hs : H1.size ≤ n0 + (cells + 1)) : q = B + (sp.2.2 + 1) := by
  have hl : (zws cA B b sp me).length = sp.2.2 := by unfold zws; simp
  have hq : (zws cA B b sp me ++ [(q, E)])[sp.2.2]? = some (q, E) := by
    rw [List.getElem?_append_right (by omega), hl]
    simp
  have h1 := (hP1 _ _ hq).lt
  have h1 : q < H1.size := h1
  have h2 : B < q := hD1.2 _ _ hq
  by_cases h3 : q = B + (sp.2.2 + 1)
  · exact h3
  · have h4 : 1 ≤ q - B := by omega
    have h5 : q - B ≤ sp.2.2 := by omega
    have h6 := zws_get (cA := cA) (B := B) (b := b) (sp := sp) (me := me) h4 h5
    have h7 : (zws cA B b sp me ++ [(q, E)])[q - B - 1]? = some (B + (q - B), zcell cA B b sp me (q - B)) := by
      rw [List.getElem?_append_left (by omega)]
      exact h6
    have h8 := hD1.1 _ _ _ _ h7 hq (by show B + (q - B) = q; omega)
    omega
theorem zwf_new {kd n : Nat} (h : zwf sp me) (hk : n < 100000) : zwf (zset sp.1 (sp.2.2 + 1) (kd, n), zset sp.2.1 (sp.2.2 + 1) (fun _ => none), sp.2.2 + 1) (zset me (sp.2.2 + 1) (fun _ => 0)) := by
  obtain ⟨h1, h2, h3, h4⟩ := h
  refine ⟨fun a ha => ?_, fun a i => ?_, fun a i ha hi => ?_, fun a => ?_⟩
  · by_cases e1 : a = sp.2.2 + 1
    · subst e1; exact ⟨by omega, Nat.le_refl _⟩
    · have ha : (zset sp.1 (sp.2.2 + 1) (kd, n) a).1 ≠ 0 := ha
      rw [zset_ne _ _ _ e1] at ha
      have := h1 a ha
      exact ⟨this.1, by show a ≤ sp.2.2 + 1; omega⟩
  · by_cases e1 : a = sp.2.2 + 1
    · subst e1; rw [zset_eq]; exact zin_0
    · rw [zset_ne _ _ _ e1]; exact h2 a i
  · by_cases e1 : a = sp.2.2 + 1
    · subst e1; rw [zset_eq]
    · rw [zset_ne _ _ _ e1]
      have ha : (zset sp.1 (sp.2.2 + 1) (kd, n) a).1 = 1 ∨ (zset sp.1 (sp.2.2 + 1) (kd, n) a).1 = 2 := ha
      have hi : ¬ (0 ≤ i ∧ i < ((zset sp.1 (sp.2.2 + 1) (kd, n) a).2 : Int)) := hi
      rw [zset_ne _ _ _ e1] at ha hi
      exact h3 a i ha hi
  · show (zset sp.1 (sp.2.2 + 1) (kd, n) a).2 < 100000
    by_cases e1 : a = sp.2.2 + 1
    · subst e1; rw [zset_eq]; exact hk
    · rw [zset_ne _ _ _ e1]; exact h4 a
def zLn (own : String) (idx ci : Nat) : Prop := ci < 10 ∧ Jvm.Cond.classLink own idx (zRn ci) ∈ zG ∧ Jvm.Cond.instantiable (zRn ci) (zN ci) ∈ zG ∧ Jvm.Cond.initialized (zRn ci) ∈ zG
theorem zN_lt : ∀ ci, ci < 10 → zN ci < 100000 := zc_10 (by decide) (by decide) (by decide) (by decide) (by decide) (by decide) (by decide) (by decide) (by decide) (by decide)
theorem zdef : ∀ ci, ci < 10 → ∀ j, j < zN ci → defaultValue (zTy ci j) = (if zRef ci j = true then (.null : Value) else .int 0) :=
  zc_10 (by decide +kernel) (by decide +kernel) (by decide +kernel) (by decide +kernel) (by decide +kernel) (by decide +kernel) (by decide +kernel) (by decide +kernel) (by decide +kernel) (by decide +kernel)
theorem z_new {idx ci : Nat} (hf : zLn M.1.cls idx ci) (dg : decode M.2.1 pc = .ok (.new idx, 3)) (hp : pc + 3 = pc') (h1 : 1 ≤ r1) (h2 : zN ci ≤ r2) (k : zW M d (r1 - 1) (r2 - zN ci) Q pc' L (zR (sp.2.2 + 1) :: st) (zset sp.1 (sp.2.2 + 1) (10 + ci, zN ci), zset sp.2.1 (sp.2.2 + 1) (fun _ => none), sp.2.2 + 1) (zset me (sp.2.2 + 1) (fun _ => 0))) : zW M d r1 r2 Q pc L st sp me := by
  intro k1 k2 p l e R s m args below meth c D cA B b Fin C H locs cells slots ls hl hw hS hz hr1 hr2 hL hst
  have hw0 := hw
  obtain ⟨hP, hwf⟩ := hw0
  have C0 := C
  obtain ⟨hx, hb, hml, hown, hname, hts, hnw, hao, hK, hroom, hbud, hBs, hscr, hret⟩ := C0
  subst hp
  obtain ⟨hci, hf1, hf2, hf3⟩ := hf
  have hn100 : zN ci < 100000 := zN_lt ci hci
  have hA : ∀ q, s.heap.size ≤ q → zA B q := fun q hq => Nat.lt_of_lt_of_le hBs hq
  refine va_new hx hb hts (zlay hci) (zTy ci) (zty_ok ci hci) hown (hts _ hf1) (hts _ hf2) (hts _ hf3) hK hP zws_D hS hA (zcl_at ci hci) (fs := (List.range (zN ci)).map (fun j => if zRef ci j = true then (.null : Value) else .int 0)) (fun j hj => by rw [zdef ci hci j hj]; simp [vp_V, hj]) (by omega) (by omega) dg (fun q H1 hP1 hD1 hS1 => ?_)
  intro T1 hT1 X1
  have hs1 := X1.heapSize
  rw [hT1] at hs1
  have hq := znext hz hP1 hD1 hs1
  subst hq
  have hsp := zws_push (cA := cA) (B := B) (b := b) (sp := sp) (sp' := (zset sp.1 (sp.2.2 + 1) (10 + ci, zN ci), zset sp.2.1 (sp.2.2 + 1) (fun _ => none), sp.2.2 + 1)) (me := me) (me' := zset me (sp.2.2 + 1) (fun _ => 0)) (E := .inr (ci, (List.range (zN ci)).map (fun j => if zRef ci j = true then (.null : Value) else .int 0))) rfl (by
    rw [zcell_obj (ci := ci) (by dsimp only; rw [zset_eq])]
    congr 2
    apply List.map_congr_left
    intro j _
    dsimp only
    rw [zset_eq, zset_eq]
    rfl) (fun a' ha' => zcell_congr (zset_ne _ _ _ ha') (zset_ne _ _ _ ha') (zset_ne _ _ _ ha'))
  rw [hsp] at hP1
  have K := k k1 k2 p l e R s m args below meth c D cA B b Fin C H1 locs (cells + 1) (slots + zN ci) ls hl ⟨hP1, zwf_new hwf hn100⟩ hS1 (by dsimp only; omega) (by omega) (by omega) hL (zsc zok_R hst)
  have e1 : ztr B b (zR (sp.2.2 + 1)) = .ref (B + (sp.2.2 + 1)) := by
    show Value.ref (zad B b (sp.2.2 + 1)) = _
    rw [zad_1 (by omega)]
  rw [List.map_cons, e1] at K
  exact K T1 hT1 X1
theorem z_newarray {n : Int} (bo : Bool) (dg : decode M.2.1 pc = .ok (.newarray (if bo = true then .boolean else .int), 2)) (hp : pc + 2 = pc') (h0 : 0 ≤ n) (h100 : n < 100000) (h1 : 1 ≤ r1) (h2 : n.toNat ≤ r2) (k : zW M d (r1 - 1) (r2 - n.toNat) Q pc' L (zR (sp.2.2 + 1) :: st) (zset sp.1 (sp.2.2 + 1) (if bo = true then 2 else 1, n.toNat), zset sp.2.1 (sp.2.2 + 1) (fun _ => none), sp.2.2 + 1) (zset me (sp.2.2 + 1) (fun _ => 0))) : zW M d r1 r2 Q pc L (zI n :: st) sp me := by
  intro k1 k2 p l e R s m args below meth c D cA B b Fin C H locs cells slots ls hl hw hS hz hr1 hr2 hL hst
  have hw0 := hw
  obtain ⟨hP, hwf⟩ := hw0
  have C0 := C
  obtain ⟨hx, hb, hml, hown, hname, hts, hnw, hao, hK, hroom, hbud, hBs, hscr, hret⟩ := C0
  subst hp
  have hn : zin n := zs0 hst
  have hA : ∀ q, s.heap.size ≤ q → zA B q := fun q hq => Nat.lt_of_lt_of_le hBs hq
  have harr : (Jvm.Cond.arrayClass (newarray.typeOf (if bo = true then .boolean else .int))).before args s = true := by
    cases bo
    · exact hts _ (zG_of (List.mem_of_getElem? (i := 99) (by decide +kernel)) rfl)
    · exact hts _ (zG_of (List.mem_of_getElem? (i := 769) (by decide +kernel)) rfl)
  show W p l e R s m args below meth c H locs cells slots Fin (F0 m pc ls (.int (Int32.ofInt n) :: st.map (ztr B b)))
  refine va_newa (atype := (if bo = true then .boolean else .int)) hx hb harr (ty := if bo = true then .boolean else .int) (by cases bo <;> rfl) hK hP zws_D hS hA (N' := n.toNat) (a0 := (n.toNat, .inl (fun _ => 0))) (fun cA => by cases bo <;> rfl) (by rw [← zi_00, zi_lt hn zin_0]; omega) (zi_cl hn) (by cases bo <;> simp [componentBytes] <;> omega) (by omega) (by omega) dg (fun q cN H1 hK1 hP1 hD1 hS1 => ?_)
  intro T1 hT1 X1
  have hs1 := X1.heapSize
  rw [hT1] at hs1
  have hq := znext hz hP1 hD1 hs1
  subst hq
  have hcA : cN = cA (if bo = true then 1 else 0) := by
    have h5 := (hK1.2 4 (cN, if bo = true then .boolean else .int) rfl).2
    cases bo
    · have h6 := (hK.2 0 (cA 0, .int) rfl).2
      exact Option.some.inj (h5.symm.trans h6)
    · have h6 := (hK.2 1 (cA 1, .boolean) rfl).2
      exact Option.some.inj (h5.symm.trans h6)
  have hsp := zws_push (cA := cA) (B := B) (b := b) (sp := sp) (sp' := (zset sp.1 (sp.2.2 + 1) (if bo = true then 2 else 1, n.toNat), zset sp.2.1 (sp.2.2 + 1) (fun _ => none), sp.2.2 + 1)) (me := me) (me' := zset me (sp.2.2 + 1) (fun _ => 0)) (E := .inl (cN, n.toNat, .inl (fun _ => 0))) rfl (by
    cases bo
    · rw [zcell_int (by dsimp only; rw [zset_eq]; rfl)]
      dsimp only
      rw [zset_eq, zset_eq, hcA]
      rfl
    · rw [zcell_bool (by dsimp only; rw [zset_eq]; rfl)]
      dsimp only
      rw [zset_eq, zset_eq, hcA]
      rfl) (fun a' ha' => zcell_congr (zset_ne _ _ _ ha') (zset_ne _ _ _ ha') (zset_ne _ _ _ ha'))
  rw [hsp] at hP1
  have K := k k1 k2 p l e R s m args below meth c D cA B b Fin C H1 locs (cells + 1) (slots + n.toNat) ls hl ⟨hP1, zwf_new hwf (by omega)⟩ hS1 (by dsimp only; omega) (by omega) (by omega) hL (zsc zok_R (zs1 hst))
  have e1 : ztr B b (zR (sp.2.2 + 1)) = .ref (B + (sp.2.2 + 1)) := by
    show Value.ref (zad B b (sp.2.2 + 1)) = _
    rw [zad_1 (by omega)]
  rw [List.map_cons, e1] at K
  exact K T1 hT1 X1
/-- a row of rings (false) or of states (true) -/
theorem z_anew {idx : Nat} {n : Int} (bo : Bool) (hlk : Jvm.Cond.classLink M.1.cls idx (if bo = true then RX7 else RX4) ∈ zG) (dg : decode M.2.1 pc = .ok (.anewarray idx, 3)) (hp : pc + 3 = pc') (h0 : 0 ≤ n) (h100 : n < 100000) (h1 : 1 ≤ r1) (h2 : n.toNat ≤ r2) (k : zW M d (r1 - 1) (r2 - n.toNat) Q pc' L (zR (sp.2.2 + 1) :: st) (zset sp.1 (sp.2.2 + 1) (if bo = true then 4 else 3, n.toNat), zset sp.2.1 (sp.2.2 + 1) (fun _ => none), sp.2.2 + 1) (zset me (sp.2.2 + 1) (fun _ => 0))) : zW M d r1 r2 Q pc L (zI n :: st) sp me := by
  intro k1 k2 p l e R s m args below meth c D cA B b Fin C H locs cells slots ls hl hw hS hz hr1 hr2 hL hst
  have hw0 := hw
  obtain ⟨hP, hwf⟩ := hw0
  have C0 := C
  obtain ⟨hx, hb, hml, hown, hname, hts, hnw, hao, hK, hroom, hbud, hBs, hscr, hret⟩ := C0
  subst hp
  have hn : zin n := zs0 hst
  have hA : ∀ q, s.heap.size ≤ q → zA B q := fun q hq => Nat.lt_of_lt_of_le hBs hq
  show W p l e R s m args below meth c H locs cells slots Fin (F0 m pc ls (.int (Int32.ofInt n) :: st.map (ztr B b)))
  refine va_newq (C := if bo = true then RX7 else RX4) hx hb hown (hts _ hlk) (hao _ (by cases bo <;> simp [zAO])) hK hP zws_D hS hA (N' := n.toNat) (by rw [← zi_00, zi_lt hn zin_0]; omega) (zi_cl hn) (by omega) (by omega) (by omega) dg (fun q cN H1 hK1 hP1 hD1 hS1 => ?_)
  intro T1 hT1 X1
  have hs1 := X1.heapSize
  rw [hT1] at hs1
  have hq := znext hz hP1 hD1 hs1
  subst hq
  have hcA : cN = cA (if bo = true then 3 else 2) := by
    cases bo
    · obtain ⟨-, -, -, -, -, h5⟩ := (hK1.2 4 (cN, .object RX4) rfl).2
      obtain ⟨-, -, -, -, -, h6⟩ := (hK.2 2 (cA 2, .object RX4) rfl).2
      exact Option.some.inj (h5.symm.trans h6)
    · obtain ⟨-, -, -, -, -, h5⟩ := (hK1.2 4 (cN, .object RX7) rfl).2
      obtain ⟨-, -, -, -, -, h6⟩ := (hK.2 3 (cA 3, .object RX7) rfl).2
      exact Option.some.inj (h5.symm.trans h6)
  have hsp := zws_push (cA := cA) (B := B) (b := b) (sp := sp) (sp' := (zset sp.1 (sp.2.2 + 1) (if bo = true then 4 else 3, n.toNat), zset sp.2.1 (sp.2.2 + 1) (fun _ => none), sp.2.2 + 1)) (me := me) (me' := zset me (sp.2.2 + 1) (fun _ => 0)) (E := .inl (cN, n.toNat, .inr (.inr (.inr (.inr (fun _ => none)))))) rfl (by
    cases bo
    · rw [zcell_rg (by dsimp only; rw [zset_eq]; rfl)]
      dsimp only
      rw [zset_eq, zset_eq, hcA]
      rfl
    · rw [zcell_st (by dsimp only; rw [zset_eq]; rfl)]
      dsimp only
      rw [zset_eq, zset_eq, hcA]
      rfl) (fun a' ha' => zcell_congr (zset_ne _ _ _ ha') (zset_ne _ _ _ ha') (zset_ne _ _ _ ha'))
  rw [hsp] at hP1
  have K := k k1 k2 p l e R s m args below meth c D cA B b Fin C H1 locs (cells + 1) (slots + n.toNat) ls hl ⟨hP1, zwf_new hwf (by omega)⟩ hS1 (by dsimp only; omega) (by omega) (by omega) hL (zsc zok_R (zs1 hst))
  have e1 : ztr B b (zR (sp.2.2 + 1)) = .ref (B + (sp.2.2 + 1)) := by
    show Value.ref (zad B b (sp.2.2 + 1)) = _
    rw [zad_1 (by omega)]
  rw [List.map_cons, e1] at K
  exact K T1 hT1 X1
/-- Object's own making -/
def zLo (own : String) (idx : Nat) : Prop := Jvm.Cond.methodLink own idx Lib.objectInit ∈ zG ∧ Jvm.Cond.instanceMethod Lib.objectInit ∈ zG ∧ Jvm.Cond.code Lib.objectInit ⟨#[0xb1]⟩ 1 none ∈ zG
theorem zsum (B b : Nat) (st : List zV) : (((st.map (ztr B b)).map fun v => v.category)).sum ≤ 2 * st.length := by
  induction st with
  | nil => exact Nat.le_refl _
  | cons a t ih =>
    have h : (ztr B b a).category ≤ 2 := by rcases a with i | (_ | a) | x <;> simp [ztr, Value.category]
    simp only [List.map_cons, List.sum_cons, List.length_cons]
    omega
theorem z_objinit {idx a : Nat} (hf : zLo M.1.cls idx) (dg : decode M.2.1 pc = .ok (.invokespecial idx, 3)) (hp : pc + 3 = pc') (hd : 1 ≤ d) (hlen : st.length ≤ 4) (k : zW M d r1 r2 Q pc' L st sp me) : zW M d r1 r2 Q pc L (zR a :: st) sp me := by
  intro k1 k2 p l e R s m args below meth c D cA B b Fin C H locs cells slots ls hl hw hS hz hr1 hr2 hL hst
  have K := k k1 k2 p l e R s m args below meth c D cA B b Fin C H locs cells slots ls hl hw hS hz hr1 hr2 hL (zs1 hst)
  have C0 := C
  obtain ⟨hx, hb, hml, hown, hname, hts, hnw, hao, hK, hroom, hbud, hBs, hscr, hret⟩ := C0
  subst hp
  have h8 := zsum B b st
  exact W.objInit hx hb hown (hts _ hf.1) (hts _ hf.2.1) (hts _ hf.2.2) rfl (hl.1.trans hml.symm) rfl dg (by omega) (by show 2 * 0 + _ + 12 ≤ _; omega) K
def zLm (own : String) (idx : Nat) (y : MethodName) : Prop := Jvm.Cond.methodLink own idx y ∈ zG ∧ Jvm.Cond.static y ∈ zG ∧ Jvm.Cond.initialized "java/lang/Math" ∈ zG
theorem z_min {idx : Nat} {x y : Int} (hf : zLm M.1.cls idx Lib.Math.min.name ∧ Jvm.Cond.code Lib.Math.min.name Lib.Math.min.code 2 (some .int) ∈ zG) (dg : decode M.2.1 pc = .ok (.invokestatic idx, 3)) (hp : pc + 3 = pc') (hd : 1 ≤ d) (hlen : st.length ≤ 4) (k : zW M d r1 r2 Q pc' L (zI (if y < x then y else x) :: st) sp me) : zW M d r1 r2 Q pc L (zI y :: zI x :: st) sp me := by
  intro k1 k2 p l e R s m args below meth c D cA B b Fin C H locs cells slots ls hl hw hS hz hr1 hr2 hL hst
  have hy : zin y := zs0 hst
  have hxx : zin x := zs0 (zs1 hst)
  have K := k k1 k2 p l e R s m args below meth c D cA B b Fin C H locs cells slots ls hl hw hS hz hr1 hr2 hL (zsc (zok_I (by split; exact hy; exact hxx)) (zs1 (zs1 hst)))
  have C0 := C
  obtain ⟨hx, hb, hml, hown, hname, hts, hnw, hao, hK, hroom, hbud, hBs, hscr, hret⟩ := C0
  subst hp
  have h8 := zsum B b st
  show W p l e R s m args below meth c H locs cells slots Fin (F0 m pc ls (.int (Int32.ofInt y) :: .int (Int32.ofInt x) :: st.map (ztr B b)))
  refine va_mmin hx hb (hml.trans hl.1.symm) hown (hts _ hf.1.1) (hts _ hf.1.2.1) (hts _ hf.1.2.2) (hts _ hf.2) (by omega) (by omega) (by omega) (by omega) dg ?_
  have e2 : (if Int32.ofInt y < Int32.ofInt x then Int32.ofInt y else Int32.ofInt x) = Int32.ofInt (if y < x then y else x) := by
    by_cases h : y < x
    · rw [if_pos h, if_pos ((zi_lt hy hxx).mpr h)]
    · rw [if_neg h, if_neg (fun g => h ((zi_lt hy hxx).mp g))]
  rw [e2]
  exact K
theorem z_abs {idx : Nat} {x : Int} (hf : zLm M.1.cls idx Lib.Math.abs.name ∧ Jvm.Cond.code Lib.Math.abs.name Lib.Math.abs.code 1 (some .int) ∈ zG) (dg : decode M.2.1 pc = .ok (.invokestatic idx, 3)) (hp : pc + 3 = pc') (hd : 1 ≤ d) (hlen : st.length ≤ 4) (hr : zin (-x)) (k : zW M d r1 r2 Q pc' L (zI (if 0 ≤ x then x else -x) :: st) sp me) : zW M d r1 r2 Q pc L (zI x :: st) sp me := by
  intro k1 k2 p l e R s m args below meth c D cA B b Fin C H locs cells slots ls hl hw hS hz hr1 hr2 hL hst
  have hxx : zin x := zs0 hst
  have K := k k1 k2 p l e R s m args below meth c D cA B b Fin C H locs cells slots ls hl hw hS hz hr1 hr2 hL (zsc (zok_I (by split; exact hxx; exact hr)) (zs1 hst))
  have C0 := C
  obtain ⟨hx, hb, hml, hown, hname, hts, hnw, hao, hK, hroom, hbud, hBs, hscr, hret⟩ := C0
  subst hp
  have h8 := zsum B b st
  show W p l e R s m args below meth c H locs cells slots Fin (F0 m pc ls (.int (Int32.ofInt x) :: st.map (ztr B b)))
  refine va_mabs hx hb (hml.trans hl.1.symm) hown (hts _ hf.1.1) (hts _ hf.1.2.1) (hts _ hf.1.2.2) (hts _ hf.2) (by omega) (by omega) (by omega) (by omega) dg ?_
  have e2 : (if (0 : Int32) ≤ Int32.ofInt x then Int32.ofInt x else 0 - Int32.ofInt x) = Int32.ofInt (if 0 ≤ x then x else -x) := by
    by_cases h : 0 ≤ x
    · rw [if_pos h, if_pos (by rw [← zi_00]; exact (zi_le zin_0 hxx).mpr h)]
    · rw [if_neg h, if_neg (by rw [← zi_00]; exact fun g => h ((zi_le zin_0 hxx).mp g)), ← zi_00, ← Int32.ofInt_sub]
      congr 1
      omega
  rw [e2]
  exact K
def zLc (own : String) (idx : Nat) : Prop := Jvm.Cond.methodLink own idx arraycopyName ∈ zG ∧ Jvm.Cond.native arraycopyName ∈ zG ∧ Jvm.Cond.static arraycopyName ∈ zG ∧ Jvm.Cond.initialized "java/lang/System" ∈ zG
/-- a whole row of numbers is copied over another of its length -/
theorem z_copy {idx a0 a1 n : Nat} (hf : zLc M.1.cls idx) (dg : decode M.2.1 pc = .ok (.invokestatic idx, 3)) (hp : pc + 3 = pc') (hd : 1 ≤ d) (hlen : st.length = 0) (hs0 : sp.1 a0 = (1, n)) (hs1 : sp.1 a1 = (1, n)) (k : zW M d r1 r2 Q pc' L st sp (zset me a1 (me a0))) : zW M d r1 r2 Q pc L (zI (n : Int) :: zI 0 :: zR a1 :: zI 0 :: zR a0 :: st) sp me := by
  intro k1 k2 p l e R s m args below meth c D cA B b Fin C H locs cells slots ls hl hw hS hz hr1 hr2 hL hst
  have hw0 := hw
  obtain ⟨hP, hwf⟩ := hw0
  have C0 := C
  obtain ⟨hx, hb, hml, hown, hname, hts, hnw, hao, hK, hroom, hbud, hBs, hscr, hret⟩ := C0
  subst hp
  have hn : zin (n : Int) := zs0 hst
  have hn2 : n < 100000 := by have := hwf.2.2.2 a0; rw [hs0] at this; exact this
  have ha0 := hwf.1 a0 (by rw [hs0]; exact Nat.one_ne_zero)
  have ha1 := hwf.1 a1 (by rw [hs1]; exact Nat.one_ne_zero)
  have he0 := zws_get (cA := cA) (B := B) (b := b) (sp := sp) (me := me) ha0.1 ha0.2
  have he1 := zws_get (cA := cA) (B := B) (b := b) (sp := sp) (me := me) ha1.1 ha1.2
  rw [zcell_int (by rw [hs0])] at he0
  rw [zcell_int (by rw [hs1])] at he1
  rw [hs0] at he0
  rw [hs1] at he1
  have hst0 : st = [] := List.eq_nil_of_length_eq_zero hlen
  subst hst0
  have hnn : (Int32.ofInt (n : Int)).toNatClampNeg = n := by rw [zi_cl hn]; rfl
  have h00 : (Int32.ofInt 0).toNatClampNeg = 0 := by decide
  show W p l e R s m args below meth c H locs cells slots Fin (F0 m pc ls (.int (Int32.ofInt (n : Int)) :: .int (Int32.ofInt 0) :: .ref (zad B b a1) :: .int (Int32.ofInt 0) :: .ref (zad B b a0) :: []))
  rw [zad_1 ha0.1, zad_1 ha1.1]
  refine va_copyi hx hb (hml.trans hl.1.symm) hown (hts _ hf.1) (hts _ hf.2.1) (hts _ hf.2.2.1) (hts _ hf.2.2.2) hK hP zws_D hS (a0 - 1) (a1 - 1) 0 0 he0 he1 rfl rfl rfl (by decide) (by decide) (by rw [← zi_00, zi_lt hn zin_0]; omega) (by rw [hnn, h00]; dsimp only; omega) (by rw [hnn, h00]; dsimp only; omega) (fun i _ => rfl) (by omega) (Nat.le_trans (m := 60) (by decide +kernel) (by omega)) dg (fun H1 locs1 hP1 _ hS1 => ?_)
  rw [zws_set (sp' := sp) (me' := zset me a1 (me a0)) ha1.1 ha1.2 rfl (by
    rw [zcell_int (by rw [hs1]), zset_eq, hs1, hnn, h00]
    dsimp only
    refine congrArg (fun f => (Sum.inl (cA 0, n, Sum.inl f) : va_E)) ?_
    funext j
    by_cases hj : j < n
    · rw [pk_cpy_in (Nat.zero_le _) (by omega), show 0 + (j - 0) = j by omega]
    · rw [pk_cpy_out (Or.inr (by omega))]
      have z0 := hwf.2.2.1 a0 (j : Int) (Or.inl (by rw [hs0])) (by rw [hs0]; dsimp only; omega)
      have z1 := hwf.2.2.1 a1 (j : Int) (Or.inl (by rw [hs1])) (by rw [hs1]; dsimp only; omega)
      rw [z0, z1]) (fun a' ha' => zcell_congr rfl rfl (zset_ne _ _ _ ha'))] at hP1
  have hwf' : zwf sp (zset me a1 (me a0)) := by
    obtain ⟨w1, w2, w3, w4⟩ := hwf
    refine ⟨w1, fun a' j => ?_, fun a' j ha' hj => ?_, w4⟩
    · by_cases e1 : a' = a1
      · subst e1; rw [zset_eq]; exact w2 a0 j
      · rw [zset_ne _ _ _ e1]; exact w2 a' j
    · by_cases e1 : a' = a1
      · subst e1
        rw [zset_eq]
        rw [hs1] at hj
        exact w3 a0 j (Or.inl (by rw [hs0])) (by rw [hs0]; exact hj)
      · rw [zset_ne _ _ _ e1]; exact w3 a' j ha' hj
  exact k k1 k2 p l e R s m args below meth c D cA B b Fin C H1 locs1 cells slots ls hl ⟨hP1, hwf'⟩ hS1 hz hr1 hr2 hL (fun v hv => absurd hv List.not_mem_nil)
/-- the facts of the record are at hand -/
theorem z_wf (k : zwf sp me → zW M d r1 r2 Q pc L st sp me) : zW M d r1 r2 Q pc L st sp me := by
  intro k1 k2 p l e R s m args below meth c D cA B b Fin C H locs cells slots ls hl hw hS hz hr1 hr2 hL hst
  exact k hw.2 k1 k2 p l e R s m args below meth c D cA B b Fin C H locs cells slots ls hl hw hS hz hr1 hr2 hL hst
/-! returns -/
theorem z_ret {v : Option zV} {ins : Instr} (hr0 : r1 = 0) (hrt : zRet M.2.2.2.1 ins v) (dg : decode M.2.1 pc = .ok (ins, 1)) (hv : v.toList = st) (hq : Q v sp me) : zW M d r1 r2 Q pc L st sp me := by
  intro k1 k2 p l e R s m args below meth c D cA B b Fin C H locs cells slots ls hl hw hS hz hr1 hr2 hL hst
  have C0 := C
  obtain ⟨hx, hb, hml, hown, hname, hts, hnw, hao, hK, hroom, hbud, hBs, hscr, hret⟩ := C0
  subst hv
  have e1 : (v.toList).map (ztr B b) = (v.map (ztr B b)).toList := by cases v <;> rfl
  rw [e1]
  exact hret v sp me H locs cells slots ls pc ins hq hw hS hz (by omega) (by omega) hrt dg (fun x hx => by subst hx; exact hst x (by simp))
theorem z_ireturn {x : Int} (hr0 : r1 = 0) (hrt : M.2.2.2.1 = some .int) (dg : decode M.2.1 pc = .ok (.ireturn, 1)) (hq : Q (some (zI x)) sp me) : zW M d r1 r2 Q pc L [zI x] sp me := z_ret hr0 (Or.inr (Or.inl ⟨hrt, rfl, x, rfl⟩)) dg rfl hq
theorem z_zreturn {x : Int} (hr0 : r1 = 0) (hrt : M.2.2.2.1 = some .boolean) (dg : decode M.2.1 pc = .ok (.ireturn, 1)) (h01 : x = 0 ∨ x = 1) (hq : Q (some (zI x)) sp me) : zW M d r1 r2 Q pc L [zI x] sp me := z_ret hr0 (Or.inr (Or.inr (Or.inl ⟨hrt, rfl, x, rfl, h01⟩))) dg rfl hq
theorem z_dreturn {x : UInt64} (hr0 : r1 = 0) (hrt : M.2.2.2.1 = some .double) (dg : decode M.2.1 pc = .ok (.dreturn, 1)) (hq : Q (some (zD x)) sp me) : zW M d r1 r2 Q pc L [zD x] sp me := z_ret hr0 (Or.inr (Or.inr (Or.inr (Or.inl ⟨hrt, rfl, x, rfl⟩)))) dg rfl hq
theorem z_areturn {x : Nat} {C : String} (hr0 : r1 = 0) (hrt : M.2.2.2.1 = some (.object C)) (dg : decode M.2.1 pc = .ok (.areturn, 1)) (hq : Q (some (zR x)) sp me) : zW M d r1 r2 Q pc L [zR x] sp me := z_ret hr0 (Or.inr (Or.inr (Or.inr (Or.inr ⟨⟨C, hrt⟩, rfl, x, rfl⟩)))) dg rfl hq
theorem z_return (hr0 : r1 = 0) (hrt : M.2.2.2.1 = none) (dg : decode M.2.1 pc = .ok (.return_, 1)) (hq : Q none sp me) : zW M d r1 r2 Q pc L [] sp me := z_ret hr0 (Or.inl ⟨hrt, rfl, rfl⟩) dg rfl hq
end ZROWS
/-! contracts -/
def zrm (d mc ms : Nat) : Room := { frames := d, cells := mc, slots := ms, locals := 64 * d + 64 }
def zwo (M : zMd) : List Jvm.Cond := Jvm.Cond.code M.1 M.2.1 M.2.2.1 M.2.2.2.1 :: zG
def zPc (D : va_G) (cA : Nat → ClassId) (B b : Nat) (as : List zV) (sp : zSP) (me : zMe) : Array Value → State → Prop := fun v U =>
  v = (as.map (ztr B b)).toArray ∧ zwd D cA B b sp me U.heap ∧ U.heap.size = B + sp.2.2 + 1 ∧ va_K D zcl (ztys cA) U ∧ (∀ w ∈ lw_tbl, zNest w = true → va_Nw w U) ∧ (∀ C ∈ zAO, va_AO C U) ∧ (∀ v ∈ as, zok v)
def zQc (D : va_G) (cA : Nat → ClassId) (B b n : Nat) (Q : zQ) : Array Value → State → Outcome → State → Prop := fun _ st oc t =>
  (∃ (v : Option zV) (sp : zSP) (me : zMe), oc = .returned (v.map (ztr B b)) ∧ Q v sp me ∧ zwd D cA B b sp me t.heap ∧ sp.2.2 = n ∧ ∀ x, v = some x → zok x) ∧ va_F (zA B) st t
def zCall (M : zMd) (d mc ms : Nat) (as : List zV) (sp : zSP) (me : zMe) (Q : zQ) : Prop := ∀ (l : Launch) (D : va_G) (cA : Nat → ClassId) (B b : Nat), Met l M.1 (zwo M) (zrm d mc ms) (zPc D cA B b as sp me) (zQc D cA B b (sp.2.2 + mc) Q) mc ms (zA B)
def zen (as : List zV) (nL : Nat) : List zV := as ++ List.replicate (nL - as.length) zU
theorem zargs (B b : Nat) : ∀ (as : List zV) (k : Nat), (∀ v ∈ as, ∀ x, v ≠ zD x) → ∀ (i : Nat) (v : zV), as[i]? = some v → (k + i, ztr B b v) ∈ lv_args k (as.map (ztr B b))
  | [], _, _, i, v, h => by simp at h
  | a :: t, k, hn, i, v, h => by
    have hc : ¬ (ztr B b a).category = 2 := fun z => by
      obtain ⟨x, hx⟩ := (zcat B b a).mp z
      exact hn a List.mem_cons_self x hx
    rw [List.map_cons]
    show (k + i, ztr B b v) ∈ (k, ztr B b a) :: lv_args (if (ztr B b a).category = 2 then k + 2 else k + 1) (t.map (ztr B b))
    rw [if_neg hc]
    cases i with
    | zero =>
      rw [List.getElem?_cons_zero] at h
      cases h
      exact List.mem_cons_self
    | succ i =>
      rw [List.getElem?_cons_succ] at h
      have h5 := zargs B b t (k + 1) (fun v hv => hn v (List.mem_cons_of_mem _ hv)) i v h
      rw [show k + (i + 1) = k + 1 + i by omega]
      exact List.mem_cons_of_mem _ h5
theorem zlen (B b : Nat) : ∀ (as : List zV), (∀ v ∈ as, ∀ x, v ≠ zD x) → (lg_sl (as.map (ztr B b))).length = as.length
  | [], _ => rfl
  | a :: t, hn => by
    have hc : ¬ (ztr B b a).category = 2 := fun z => by
      obtain ⟨x, hx⟩ := (zcat B b a).mp z
      exact hn a List.mem_cons_self x hx
    have h5 := zlen B b t (fun v hv => hn v (List.mem_cons_of_mem _ hv))
    unfold lg_sl at h5 ⊢
    rw [List.map_cons, List.flatMap_cons, if_neg hc, List.length_append, h5]
    simp
    omega
theorem zentry {B b nL : Nat} {as : List zV} (hn : ∀ v ∈ as, ∀ x, v ≠ zD x) (hle : as.length ≤ nL) : zlc B b ((lg_sl (as.map (ztr B b)) ++ List.replicate (nL - (lg_sl (as.map (ztr B b))).length) Slot.unset).toArray) nL (zen as nL) := by
  have h1 := lv_entry (as.map (ztr B b)) (n := nL) (by rw [zlen B b as hn]; exact hle)
  refine ⟨h1.1, h1.2.1, by unfold zen; simp; omega, fun i v hi hv => ?_⟩
  unfold zen at hi
  by_cases hl : i < as.length
  · rw [List.getElem?_append_left hl] at hi
    have h2 := zargs B b as 0 hn i v hi
    rw [Nat.zero_add] at h2
    exact h1.2.2 _ h2
  · rw [List.getElem?_append_right (by omega)] at hi
    have h3 := List.eq_of_mem_replicate (List.mem_of_getElem? hi)
    exact absurd h3 hv
/-- which methods may be read so -/
def zMok (M : zMd) (n : Nat) : Prop := plainName M.1.cls = true ∧ M.2.2.1 ≤ 40 ∧ M.2.2.2.2 = none ∧ (Jvm.Cond.code M.1 M.2.1 M.2.2.1 M.2.2.2.1 ∈ zG) ∧ (M.1.cls ≠ "java/lang/invoke/MethodHandle" ∧ M.1.cls ≠ "java/lang/invoke/VarHandle" ∧ (parseMethodDescriptor M.1.desc).map (fun d => d.parameters.length) = some n)
theorem z_met {M : zMd} {d mc ms n : Nat} {as : List zV} {sp : zSP} {me : zMe} {Q : zQ} (hM : zMok M n) (hn : ∀ v ∈ as, ∀ x, v ≠ zD x) (hle : as.length ≤ M.2.2.1) (k : zW M d mc ms Q 0 (zen as M.2.2.1) [] sp me) : zCall M d mc ms as sp me Q := by
  intro l D cA B b
  refine Met.ofW (cc := M.2.1) (maxL := M.2.2.1) (ret := M.2.2.2.1) hM.1 rfl ?_
  intro p e s m args below meth c s₁ BL hml hv
  obtain ⟨rfl, hw, hsz, hK, hnw, hao, hok⟩ := hv
  have hts0 := atoms_spec (ws := zwo M) BL.pre
  have hts : ∀ w ∈ zG, w.before (as.map (ztr B b)).toArray s = true := fun w h => hts0 w (List.mem_cons_of_mem _ h)
  have hown : s.vm.findClass M.1.cls = some m.cls := findClass_of_methodNamed BL.named
  have hname : meth.name = M.1.name := (name_of_methodNamed BL.named BL.method).1
  have hlocks := BL.notSynchronized
  have hbl : ∀ q, s.heap.size ≤ q → zA B q := fun q hq => by show B < q; omega
  rw [lg_entry_eq]
  refine k mc ms p l e (headSpec (zwo M) (zrm d mc ms)).room s m _ below meth c D cA B b _ ?_ s.heap [] 0 0 _ (zentry hn hle) hw va_S.rf (by omega) (by omega) (by omega) ?_ (fun v hv => absurd hv List.not_mem_nil)
  · refine ⟨BL.exec, BL.bytes, hml, hown, hname, hts, hnw, hao, hK, ⟨Nat.le_refl _, Nat.le_refl _⟩, ⟨Nat.le_refl _, Nat.le_refl _⟩, by omega, fun N f hs => ?_, ?_⟩
    · rw [hM.2.2.1] at hs; cases hs
    · intro v sp' me' H locs cells slots ls pc ins hq hw' hS hz hc1 hc2 hrt dg hvok
      subst hc1
      refine W.widen (k := cells) (n := ms) (Nat.le_refl _) hc2 ?_
      have hF : ∀ t : State, t.heap = H → va_F (zA B) s t := fun t ht => hS.F ht
      have hn2 : sp'.2.2 = sp.2.2 + cells := by omega
      have hPost : ∀ t : State, t.heap = H → s.WarmedH t.vm → zQc D cA B b (sp.2.2 + cells) Q (as.map (ztr B b)).toArray s (.returned (v.map (ztr B b))) t := fun t ht _ => ⟨⟨v, sp', me', rfl, hq, by rw [ht]; exact hw', hn2, hvok⟩, hF t ht⟩
      have hr := BL.returns
      rcases hrt with ⟨h1, rfl, rfl⟩ | ⟨h1, rfl, i, rfl⟩ | ⟨h1, rfl, i, rfl, h01⟩ | ⟨h1, rfl, x, rfl⟩ | ⟨⟨C, h1⟩, rfl, a, rfl⟩
      · exact W.vret BL.exec BL.bytes (hr.trans h1) hPost hS.2.2 dg
      · exact W.iret BL.exec BL.bytes (hr.trans h1) hPost hS.2.2 dg
      · exact W.zret BL.exec BL.bytes (hr.trans h1) (by rcases h01 with rfl | rfl <;> decide) hPost hS.2.2 dg
      · exact W.dret BL.exec BL.bytes (hr.trans h1) hPost hS.2.2 dg
      · exact W.aret BL.exec BL.bytes (hr.trans h1) (Or.inl ⟨C, rfl⟩) (Or.inr ⟨_, rfl⟩) hPost hS.2.2 dg
  · intro v hv
    unfold zen at hv
    rcases List.mem_append.mp hv with h | h
    · exact hok v h
    · rw [List.eq_of_mem_replicate h]; exact zok_U
end
section
section ZAFTER
variable {p : Program} {l : Launch} {e : Env} {R : Room} {s : State} {m : MethodId} {args : Array Value} {below : List Frame} {meth : Method} {c : Code} {H : Heap} {locs : List Loc} {cells slots : Nat} {D : va_G} {cA : Nat → ClassId} {B b : Nat} {Fin : State → Prop}
theorem z_after {pc n mc ms : Nat} {ls : Array Slot} {st0 rest : List Value} {a : Array Value} {Q' : zQ} (hr : va_Run p l e R s m args below meth c H locs cells slots mc ms (F0 m pc ls st0) rest (zQc D cA B b n Q' a) (zA B)) (hS : va_S (zA B) s.heap H locs)
    (kk : ∀ (v : Option zV) (sp' : zSP) (me' : zMe) (H1 : Heap) (locs1 : List Loc), Q' v sp' me' → zwd D cA B b sp' me' H1 → sp'.2.2 = n → (∀ x, v = some x → zok x) → va_S (zA B) s.heap H1 locs1 → W p l e R s m args below meth c H1 locs1 (cells + mc) (slots + ms) Fin (F0 m (pc + 3) ls ((v.map (ztr B b)).toList ++ rest))) : W p l e R s m args below meth c H locs cells slots Fin (F0 m pc ls st0) := by
  intro T hT X
  obtain ⟨v, st₀, t, T', L, h0, X', hL, e1, e2, ⟨⟨r, sp', me', hv, hq, hb, hn, hok⟩, hz, hk⟩, st⟩ := hr T hT X
  cases hv
  rw [h0] at hz hk
  obtain ⟨t2, a1, b1⟩ := kk r sp' me' T'.heap (locs ++ L) hq (by rw [e1]; exact hb) hn hok ⟨Nat.le_trans hS.1 (by rw [e1]; exact hz), fun q h1 h2 => by rw [e1, hk q (Nat.lt_of_lt_of_le h1 hS.1) h2]; exact hS.2.1 q h1 h2, fun q hq => by
    rcases List.mem_append.mp hq with h | h
    · exact hS.2.2 q h
    · exact hL q h⟩ T' rfl X'
  exact ⟨t2, st t2 a1, b1⟩
theorem zPc_blind {as : List zV} {sp : zSP} {me : zMe} : FrameBlind (zPc D cA B b as sp me) := by
  intro a U g mk ⟨h1, h2, h3, h4, h5, h6, h7⟩
  exact ⟨h1, h2, h3, va_K.moved (u := U) (U := U.calling g mk a) (Vm.Alike.refl U.vm) h4, fun w hw hn => va_Nw.same (u := U) (U := U.calling g mk a) (zNest_on hn) rfl (h5 w hw hn), fun C hC => va_AO.moved (u := U) (U := U.calling g mk a) (Vm.Alike.refl U.vm) (h6 C hC), h7⟩
end ZAFTER
def zLv (own : String) (idx : Nat) (y : MethodName) : Prop := Jvm.Cond.instanceMethod y ∈ zG ∧ Jvm.Cond.selects y.cls y y ∈ zG ∧ Jvm.Cond.initialized y.cls ∈ zG ∧ (Jvm.Cond.methodLink own idx y ∈ zG ∨ ∃ h, Jvm.Cond.methodLinkNest own idx y h ∈ lw_tbl)
def zLs (own : String) (idx : Nat) (y : MethodName) : Prop := Jvm.Cond.static y ∈ zG ∧ Jvm.Cond.initialized y.cls ∈ zG ∧ (Jvm.Cond.methodLink own idx y ∈ zG ∨ ∃ h, Jvm.Cond.methodLinkNest own idx y h ∈ lw_tbl)
def zLi (own : String) (idx : Nat) (y : MethodName) : Prop := Jvm.Cond.instanceMethod y ∈ zG ∧ y.name = "<init>" ∧ Jvm.Cond.initialized y.cls ∈ zG ∧ (Jvm.Cond.methodLink own idx y ∈ zG ∨ ∃ h, Jvm.Cond.methodLinkNest own idx y h ∈ lw_tbl)
theorem zgood {ws : List Jvm.Cond} (h : ∀ w ∈ ws, w ∈ zG) : GoodIn zG ws := fun w hw => zG_good w (h w hw)
theorem zwo_in {M : zMd} {n : Nat} (h : zMok M n) : ∀ w ∈ zwo M, w ∈ zG := fun w hw => by
  unfold zwo at hw
  rcases List.mem_cons.mp hw with rfl | hw
  · exact h.2.2.2.1
  · exact hw
section ZCALLS
variable {M M' : zMd} {d d' r1 r2 mc ms n : Nat} {Q Q' : zQ} {pc pc' idx : Nat} {L st rest As : List zV} {sp : zSP} {me : zMe}

theorem z_V {a ci : Nat} (hM : zMok M' n) (hlk : zLv M.1.cls idx M'.1) (dg : decode M.2.1 pc = .ok (.invokevirtual idx, 3)) (hp : pc + 3 = pc') (hn : As.length = n) (hd : d' + 1 ≤ d) (hlen : rest.length ≤ 4) (h1 : mc ≤ r1) (h2 : ms ≤ r2) (hci : ci < 10) (hcl : zRn ci = M'.1.cls) (hrecv : (sp.1 a).1 = 10 + ci) (hst0 : As.reverse ++ zR a :: rest = st) (hcall : zCall M' d' mc ms (zR a :: As) sp me Q') (hQ : ∀ v sp' me', Q' v sp' me' → zW M d (r1 - mc) (r2 - ms) Q pc' L (v.toList ++ rest) sp' me') : zW M d r1 r2 Q pc L st sp me := by
  intro k1 k2 p l e R s m args below meth c D cA B b Fin C H locs cells slots ls hl hw hS hz hr1 hr2 hL hst
  have C0 := C
  obtain ⟨hx, hb, hml, hown, hname, hts, hnw, hao, hK, hroom, hbud, hBs, hscr, hret⟩ := C0
  subst hp
  subst hst0
  intro T hT X
  have hsz := zsize C hw hS hz hT X
  have hM1 := hcall l D cA B b
  have h8 := zsum B b rest
  have hmaxL := hM.2.1
  have hrr : (zrm d' mc ms).frames + 1 ≤ R.frames ∧ 8 + (M'.2.2.1 + 11) + (zrm d' mc ms).locals ≤ R.locals := ⟨by show d' + 1 ≤ _; omega, by show 8 + (M'.2.2.1 + 11) + (64 * d' + 64) ≤ _; omega⟩
  have hbd : cells + mc ≤ R.cells ∧ slots + ms ≤ R.slots := ⟨by omega, by omega⟩
  have ha := hw.2.1 a (by rw [hrecv]; omega)
  have hrc : ∃ cellB : Cell, H[zad B b a]? = some cellB ∧ cellB.vm.isStatics = false ∧ s.vm.findClass M'.1.cls = some cellB.cls := by
    have he := zws_get (cA := cA) (B := B) (b := b) (sp := sp) (me := me) ha.1 ha.2
    rw [zcell_obj hrecv] at he
    have := va_recv hK hw.1 (zcl_at ci hci) he
    rw [zad_1 ha.1, ← hcl]
    exact this
  have PV : PreV s H M'.1.cls (zad B b a) (zPc D cA B b (zR a :: As) sp me) (As.map (ztr B b)) := ⟨zPc_blind, hrc, fun U hU hW => ⟨rfl, by rw [hU]; exact hw, by rw [hU]; exact hsz, va_K.moved hW.alike hK, fun w hw1 hn1 => zNest_warm hn1 hW (hnw w hw1 hn1), fun C hC => va_AO.moved hW.alike (hao C hC), fun v hv => hst v (by
    rcases List.mem_cons.mp hv with rfl | hv
    · simp
    · simp [hv])⟩⟩
  have hstk : (F0 m pc ls ((As.reverse ++ zR a :: rest).map (ztr B b))).stack = (As.map (ztr B b)).reverse ++ .ref (zad B b a) :: rest.map (ztr B b) := by
    show (As.reverse ++ zR a :: rest).map (ztr B b) = _
    rw [List.map_append, List.map_reverse]
    rfl
  have hd4 := hM.2.2.2.2
  rcases hlk.2.2.2 with hk | ⟨host, hk⟩
  · refine z_after (va_runV (Ts := zG) (C := M'.1.cls) ⟨hx, hb, hml, hown, hts⟩ hM1 (cwV n hts (zgood (fun w hw1 => ?_)) rfl rfl rfl ⟨rfl, hd4⟩ hrr) PV rfl (by rw [List.length_map]; exact hn) hl.1 hstk (lv_room (by omega)) dg hbd) hS (fun v sp' me' H1 locs1 hq hw1 hn1 hvok hS1 => by
    have e1 : (v.map (ztr B b)).toList ++ rest.map (ztr B b) = (v.toList ++ rest).map (ztr B b) := by cases v <;> rfl
    rw [e1]
    exact hQ v sp' me' hq k1 k2 p l e R s m args below meth c D cA B b Fin C H1 locs1 (cells + mc) (slots + ms) ls hl hw1 hS1 (by omega) (by omega) (by omega) hL (fun x hx2 => by
      rcases List.mem_append.mp hx2 with h | h
      · exact hvok x (by cases v <;> simp at h; rw [h])
      · exact hst x (by simp [h]))) T hT X
    unfold wsV at hw1
    rcases List.mem_append.mp hw1 with h | h
    · simp only [List.mem_cons, List.not_mem_nil, or_false] at h
      rcases h with rfl | rfl | rfl | rfl
      · exact hk
      · exact hlk.1
      · exact hlk.2.1
      · exact hlk.2.2.1
    · exact zwo_in hM w h
  · exact z_after (va_runVN (Ts := zG) (C := M'.1.cls) ⟨hx, hb, hml, hown, hts⟩ hM1 ⟨va_cnB n hts (zgood (zwo_in hM)) rfl rfl rfl (hnw _ hk rfl) (hts _ hlk.2.2.1) hd4 hrr, hts _ hlk.1, hts _ hlk.2.1⟩ PV rfl (by rw [List.length_map]; exact hn) hl.1 hstk (lv_room (by omega)) dg hbd) hS (fun v sp' me' H1 locs1 hq hw1 hn1 hvok hS1 => by
    have e1 : (v.map (ztr B b)).toList ++ rest.map (ztr B b) = (v.toList ++ rest).map (ztr B b) := by cases v <;> rfl
    rw [e1]
    exact hQ v sp' me' hq k1 k2 p l e R s m args below meth c D cA B b Fin C H1 locs1 (cells + mc) (slots + ms) ls hl hw1 hS1 (by omega) (by omega) (by omega) hL (fun x hx2 => by
      rcases List.mem_append.mp hx2 with h | h
      · exact hvok x (by cases v <;> simp at h; rw [h])
      · exact hst x (by simp [h]))) T hT X
theorem z_S (hM : zMok M' n) (hlk : zLs M.1.cls idx M'.1) (dg : decode M.2.1 pc = .ok (.invokestatic idx, 3)) (hp : pc + 3 = pc') (hn : As.length = n) (hd : d' + 1 ≤ d) (hlen : rest.length ≤ 4) (h1 : mc ≤ r1) (h2 : ms ≤ r2) (hst0 : As.reverse ++ rest = st) (hcall : zCall M' d' mc ms As sp me Q') (hQ : ∀ v sp' me', Q' v sp' me' → zW M d (r1 - mc) (r2 - ms) Q pc' L (v.toList ++ rest) sp' me') : zW M d r1 r2 Q pc L st sp me := by
  intro k1 k2 p l e R s m args below meth c D cA B b Fin C H locs cells slots ls hl hw hS hz hr1 hr2 hL hst
  have C0 := C
  obtain ⟨hx, hb, hml, hown, hname, hts, hnw, hao, hK, hroom, hbud, hBs, hscr, hret⟩ := C0
  subst hp
  subst hst0
  intro T hT X
  have hsz := zsize C hw hS hz hT X
  have hM1 := hcall l D cA B b
  have h8 := zsum B b rest
  have hmaxL := hM.2.1
  have hrr : (zrm d' mc ms).frames + 1 ≤ R.frames ∧ 8 + (M'.2.2.1 + 11) + (zrm d' mc ms).locals ≤ R.locals := ⟨by show d' + 1 ≤ _; omega, by show 8 + (M'.2.2.1 + 11) + (64 * d' + 64) ≤ _; omega⟩
  have hbd : cells + mc ≤ R.cells ∧ slots + ms ≤ R.slots := ⟨by omega, by omega⟩
  have PS : PreS s H (zPc D cA B b As sp me) (As.map (ztr B b)) := ⟨zPc_blind, fun U hU hW => ⟨rfl, by rw [hU]; exact hw, by rw [hU]; exact hsz, va_K.moved hW.alike hK, fun w hw1 hn1 => zNest_warm hn1 hW (hnw w hw1 hn1), fun C hC => va_AO.moved hW.alike (hao C hC), fun v hv => hst v (by simp [hv])⟩⟩
  have hstk : (F0 m pc ls ((As.reverse ++ rest).map (ztr B b))).stack = (As.map (ztr B b)).reverse ++ rest.map (ztr B b) := by
    show (As.reverse ++ rest).map (ztr B b) = _
    rw [List.map_append, List.map_reverse]
  have hd4 := hM.2.2.2.2
  rcases hlk.2.2 with hk | ⟨host, hk⟩
  · exact z_after (va_runS (Ts := zG) ⟨hx, hb, hml, hown, hts⟩ hM1 ⟨callB_of n hts (zgood (zwo_in hM)) rfl rfl rfl (hts _ hlk.2.1) (hts _ hk) hd4 hrr, hts _ hlk.1⟩ PS rfl (by rw [List.length_map]; exact hn) hl.1 hstk (lv_room (by omega)) dg hbd) hS (fun v sp' me' H1 locs1 hq hw1 hn1 hvok hS1 => by
    have e1 : (v.map (ztr B b)).toList ++ rest.map (ztr B b) = (v.toList ++ rest).map (ztr B b) := by cases v <;> rfl
    rw [e1]
    exact hQ v sp' me' hq k1 k2 p l e R s m args below meth c D cA B b Fin C H1 locs1 (cells + mc) (slots + ms) ls hl hw1 hS1 (by omega) (by omega) (by omega) hL (fun x hx2 => by
      rcases List.mem_append.mp hx2 with h | h
      · exact hvok x (by cases v <;> simp at h; rw [h])
      · exact hst x (by simp [h]))) T hT X
  · exact z_after (va_runSN (Ts := zG) ⟨hx, hb, hml, hown, hts⟩ hM1 ⟨va_cnB n hts (zgood (zwo_in hM)) rfl rfl rfl (hnw _ hk rfl) (hts _ hlk.2.1) hd4 hrr, hts _ hlk.1, trivial⟩ PS rfl (by rw [List.length_map]; exact hn) hl.1 hstk (lv_room (by omega)) dg hbd) hS (fun v sp' me' H1 locs1 hq hw1 hn1 hvok hS1 => by
    have e1 : (v.map (ztr B b)).toList ++ rest.map (ztr B b) = (v.toList ++ rest).map (ztr B b) := by cases v <;> rfl
    rw [e1]
    exact hQ v sp' me' hq k1 k2 p l e R s m args below meth c D cA B b Fin C H1 locs1 (cells + mc) (slots + ms) ls hl hw1 hS1 (by omega) (by omega) (by omega) hL (fun x hx2 => by
      rcases List.mem_append.mp hx2 with h | h
      · exact hvok x (by cases v <;> simp at h; rw [h])
      · exact hst x (by simp [h]))) T hT X
theorem z_I {a : Nat} (hM : zMok M' n) (hret0 : M'.2.2.2.1 = none) (hlk : zLi M.1.cls idx M'.1) (dg : decode M.2.1 pc = .ok (.invokespecial idx, 3)) (hp : pc + 3 = pc') (hn : As.length = n) (hd : d' + 1 ≤ d) (hlen : rest.length ≤ 4) (h1 : mc ≤ r1) (h2 : ms ≤ r2) (hst0 : As.reverse ++ zR a :: rest = st) (hcall : zCall M' d' mc ms (zR a :: As) sp me Q') (hQ : ∀ v sp' me', Q' v sp' me' → zW M d (r1 - mc) (r2 - ms) Q pc' L (v.toList ++ rest) sp' me') : zW M d r1 r2 Q pc L st sp me := by
  intro k1 k2 p l e R s m args below meth c D cA B b Fin C H locs cells slots ls hl hw hS hz hr1 hr2 hL hst
  have C0 := C
  obtain ⟨hx, hb, hml, hown, hname, hts, hnw, hao, hK, hroom, hbud, hBs, hscr, hret⟩ := C0
  subst hp
  subst hst0
  intro T hT X
  have hsz := zsize C hw hS hz hT X
  have hM1 := hcall l D cA B b
  have h8 := zsum B b rest
  have hmaxL := hM.2.1
  have hrr : (zrm d' mc ms).frames + 1 ≤ R.frames ∧ 8 + (M'.2.2.1 + 11) + (zrm d' mc ms).locals ≤ R.locals := ⟨by show d' + 1 ≤ _; omega, by show 8 + (M'.2.2.1 + 11) + (64 * d' + 64) ≤ _; omega⟩
  have hbd : cells + mc ≤ R.cells ∧ slots + ms ≤ R.slots := ⟨by omega, by omega⟩
  have PS : PreS s H (zPc D cA B b (zR a :: As) sp me) (.ref (zad B b a) :: As.map (ztr B b)) := ⟨zPc_blind, fun U hU hW => ⟨rfl, by rw [hU]; exact hw, by rw [hU]; exact hsz, va_K.moved hW.alike hK, fun w hw1 hn1 => zNest_warm hn1 hW (hnw w hw1 hn1), fun C hC => va_AO.moved hW.alike (hao C hC), fun v hv => hst v (by
    rcases List.mem_cons.mp hv with rfl | hv
    · simp
    · simp [hv])⟩⟩
  have hstk : (F0 m pc ls ((As.reverse ++ zR a :: rest).map (ztr B b))).stack = (As.map (ztr B b)).reverse ++ .ref (zad B b a) :: rest.map (ztr B b) := by
    show (As.reverse ++ zR a :: rest).map (ztr B b) = _
    rw [List.map_append, List.map_reverse]
    rfl
  have hd4 := hM.2.2.2.2
  rcases hlk.2.2.2 with hk | ⟨host, hk⟩
  · have cb := callB_of (R := R) (own := M.1.cls) (index := idx) (mc := mc) (ms := ms) (rm := zrm d' mc ms) (ws := zwo M') (ret := M'.2.2.2.1) (bytes := M'.2.1) n hts (zgood (zwo_in hM)) rfl rfl rfl (hts _ hlk.2.2.1) (hts _ hk) hd4 hrr
    rw [hret0] at cb
    exact z_after (va_runI (Ts := zG) ⟨hx, hb, hml, hown, hts⟩ hM1 ⟨cb, hlk.2.1, hts _ hlk.1⟩ PS rfl (by rw [List.length_map]; exact hn) hl.1 hstk (lv_room (by omega)) dg hbd) hS (fun v sp' me' H1 locs1 hq hw1 hn1 hvok hS1 => by
    have e1 : (v.map (ztr B b)).toList ++ rest.map (ztr B b) = (v.toList ++ rest).map (ztr B b) := by cases v <;> rfl
    rw [e1]
    exact hQ v sp' me' hq k1 k2 p l e R s m args below meth c D cA B b Fin C H1 locs1 (cells + mc) (slots + ms) ls hl hw1 hS1 (by omega) (by omega) (by omega) hL (fun x hx2 => by
      rcases List.mem_append.mp hx2 with h | h
      · exact hvok x (by cases v <;> simp at h; rw [h])
      · exact hst x (by simp [h]))) T hT X
  · have cb := va_cnB (R := R) (own := M.1.cls) (index := idx) (host := host) (mc := mc) (ms := ms) (rm := zrm d' mc ms) (ws := zwo M') (ret := M'.2.2.2.1) (bytes := M'.2.1) n hts (zgood (zwo_in hM)) rfl rfl rfl (hnw _ hk rfl) (hts _ hlk.2.2.1) hd4 hrr
    rw [hret0] at cb
    exact z_after (va_runIN (Ts := zG) ⟨hx, hb, hml, hown, hts⟩ hM1 ⟨cb, hlk.2.1, hts _ hlk.1⟩ PS rfl (by rw [List.length_map]; exact hn) hl.1 hstk (lv_room (by omega)) dg hbd) hS (fun v sp' me' H1 locs1 hq hw1 hn1 hvok hS1 => by
    have e1 : (v.map (ztr B b)).toList ++ rest.map (ztr B b) = (v.toList ++ rest).map (ztr B b) := by cases v <;> rfl
    rw [e1]
    exact hQ v sp' me' hq k1 k2 p l e R s m args below meth c D cA B b Fin C H1 locs1 (cells + mc) (slots + ms) ls hl hw1 hS1 (by omega) (by omega) (by omega) hL (fun x hx2 => by
      rcases List.mem_append.mp hx2 with h | h
      · exact hvok x (by cases v <;> simp at h; rw [h])
      · exact hst x (by simp [h]))) T hT X
/-- behind a call: with an answer, without one -/
def zKv (M : zMd) (d r1 r2 : Nat) (Q : zQ) (pc : Nat) (L st : List zV) : zQ := fun v sp me => ∃ x, v = some x ∧ zW M d r1 r2 Q pc L (x :: st) sp me
def zK0 (M : zMd) (d r1 r2 : Nat) (Q : zQ) (pc : Nat) (L st : List zV) : zQ := fun v sp me => v = none ∧ zW M d r1 r2 Q pc L st sp me
theorem zKv_i {x : zV} (h : zW M d r1 r2 Q pc L (x :: st) sp me) : zKv M d r1 r2 Q pc L st (some x) sp me := ⟨x, rfl, h⟩
theorem zK0_i (h : zW M d r1 r2 Q pc L st sp me) : zK0 M d r1 r2 Q pc L st none sp me := ⟨rfl, h⟩
theorem zKv_q : ∀ v sp' me', zKv M d r1 r2 Q pc' L rest v sp' me' → zW M d (r1 - 0) (r2 - 0) Q pc' L (v.toList ++ rest) sp' me' := fun v sp' me' ⟨x, hv, h⟩ => by subst hv; exact h
theorem zK0_q : ∀ v sp' me', zK0 M d r1 r2 Q pc' L rest v sp' me' → zW M d (r1 - 0) (r2 - 0) Q pc' L (v.toList ++ rest) sp' me' := fun v sp' me' ⟨hv, h⟩ => by subst hv; exact h

theorem z_V0v {a ci : Nat}  (hM : zMok M' 0) (hlk : zLv M.1.cls idx M'.1) (dg : decode M.2.1 pc = .ok (.invokevirtual idx, 3)) (hp : pc + 3 = pc') (hd : 1 ≤ d) (hlen : st.length ≤ 4) (hci : ci < 10) (hcl : zRn ci = M'.1.cls) (hrecv : (sp.1 a).1 = 10 + ci) (hcall : zCall M' (d - 1) 0 0 (zR a :: []) sp me (zKv M d r1 r2 Q pc' L st)) : zW M d r1 r2 Q pc L (zR a :: st) sp me := z_V (As := []) (rest := st) hM hlk dg hp rfl (by omega) hlen (Nat.zero_le _) (Nat.zero_le _) hci hcl hrecv rfl hcall zKv_q
theorem z_V00 {a ci : Nat}  (hM : zMok M' 0) (hlk : zLv M.1.cls idx M'.1) (dg : decode M.2.1 pc = .ok (.invokevirtual idx, 3)) (hp : pc + 3 = pc') (hd : 1 ≤ d) (hlen : st.length ≤ 4) (hci : ci < 10) (hcl : zRn ci = M'.1.cls) (hrecv : (sp.1 a).1 = 10 + ci) (hcall : zCall M' (d - 1) 0 0 (zR a :: []) sp me (zK0 M d r1 r2 Q pc' L st)) : zW M d r1 r2 Q pc L (zR a :: st) sp me := z_V (As := []) (rest := st) hM hlk dg hp rfl (by omega) hlen (Nat.zero_le _) (Nat.zero_le _) hci hcl hrecv rfl hcall zK0_q
theorem z_V1v {a ci : Nat} {x0 : zV} (hM : zMok M' 1) (hlk : zLv M.1.cls idx M'.1) (dg : decode M.2.1 pc = .ok (.invokevirtual idx, 3)) (hp : pc + 3 = pc') (hd : 1 ≤ d) (hlen : st.length ≤ 4) (hci : ci < 10) (hcl : zRn ci = M'.1.cls) (hrecv : (sp.1 a).1 = 10 + ci) (hcall : zCall M' (d - 1) 0 0 (zR a :: [x0]) sp me (zKv M d r1 r2 Q pc' L st)) : zW M d r1 r2 Q pc L (x0 :: zR a :: st) sp me := z_V (As := [x0]) (rest := st) hM hlk dg hp rfl (by omega) hlen (Nat.zero_le _) (Nat.zero_le _) hci hcl hrecv rfl hcall zKv_q
theorem z_S1v {x0 : zV} (hM : zMok M' 1) (hlk : zLs M.1.cls idx M'.1) (dg : decode M.2.1 pc = .ok (.invokestatic idx, 3)) (hp : pc + 3 = pc') (hd : 1 ≤ d) (hlen : st.length ≤ 4) (hcall : zCall M' (d - 1) 0 0 [x0] sp me (zKv M d r1 r2 Q pc' L st)) : zW M d r1 r2 Q pc L (x0 :: st) sp me := z_S (As := [x0]) (rest := st) hM hlk dg hp rfl (by omega) hlen (Nat.zero_le _) (Nat.zero_le _) rfl hcall zKv_q
theorem z_V10 {a ci : Nat} {x0 : zV} (hM : zMok M' 1) (hlk : zLv M.1.cls idx M'.1) (dg : decode M.2.1 pc = .ok (.invokevirtual idx, 3)) (hp : pc + 3 = pc') (hd : 1 ≤ d) (hlen : st.length ≤ 4) (hci : ci < 10) (hcl : zRn ci = M'.1.cls) (hrecv : (sp.1 a).1 = 10 + ci) (hcall : zCall M' (d - 1) 0 0 (zR a :: [x0]) sp me (zK0 M d r1 r2 Q pc' L st)) : zW M d r1 r2 Q pc L (x0 :: zR a :: st) sp me := z_V (As := [x0]) (rest := st) hM hlk dg hp rfl (by omega) hlen (Nat.zero_le _) (Nat.zero_le _) hci hcl hrecv rfl hcall zK0_q
theorem z_S10 {x0 : zV} (hM : zMok M' 1) (hlk : zLs M.1.cls idx M'.1) (dg : decode M.2.1 pc = .ok (.invokestatic idx, 3)) (hp : pc + 3 = pc') (hd : 1 ≤ d) (hlen : st.length ≤ 4) (hcall : zCall M' (d - 1) 0 0 [x0] sp me (zK0 M d r1 r2 Q pc' L st)) : zW M d r1 r2 Q pc L (x0 :: st) sp me := z_S (As := [x0]) (rest := st) hM hlk dg hp rfl (by omega) hlen (Nat.zero_le _) (Nat.zero_le _) rfl hcall zK0_q
theorem z_V2v {a ci : Nat} {x0 x1 : zV} (hM : zMok M' 2) (hlk : zLv M.1.cls idx M'.1) (dg : decode M.2.1 pc = .ok (.invokevirtual idx, 3)) (hp : pc + 3 = pc') (hd : 1 ≤ d) (hlen : st.length ≤ 4) (hci : ci < 10) (hcl : zRn ci = M'.1.cls) (hrecv : (sp.1 a).1 = 10 + ci) (hcall : zCall M' (d - 1) 0 0 (zR a :: [x0, x1]) sp me (zKv M d r1 r2 Q pc' L st)) : zW M d r1 r2 Q pc L (x1 :: x0 :: zR a :: st) sp me := z_V (As := [x0, x1]) (rest := st) hM hlk dg hp rfl (by omega) hlen (Nat.zero_le _) (Nat.zero_le _) hci hcl hrecv rfl hcall zKv_q
theorem z_S2v {x0 x1 : zV} (hM : zMok M' 2) (hlk : zLs M.1.cls idx M'.1) (dg : decode M.2.1 pc = .ok (.invokestatic idx, 3)) (hp : pc + 3 = pc') (hd : 1 ≤ d) (hlen : st.length ≤ 4) (hcall : zCall M' (d - 1) 0 0 [x0, x1] sp me (zKv M d r1 r2 Q pc' L st)) : zW M d r1 r2 Q pc L (x1 :: x0 :: st) sp me := z_S (As := [x0, x1]) (rest := st) hM hlk dg hp rfl (by omega) hlen (Nat.zero_le _) (Nat.zero_le _) rfl hcall zKv_q
theorem z_V20 {a ci : Nat} {x0 x1 : zV} (hM : zMok M' 2) (hlk : zLv M.1.cls idx M'.1) (dg : decode M.2.1 pc = .ok (.invokevirtual idx, 3)) (hp : pc + 3 = pc') (hd : 1 ≤ d) (hlen : st.length ≤ 4) (hci : ci < 10) (hcl : zRn ci = M'.1.cls) (hrecv : (sp.1 a).1 = 10 + ci) (hcall : zCall M' (d - 1) 0 0 (zR a :: [x0, x1]) sp me (zK0 M d r1 r2 Q pc' L st)) : zW M d r1 r2 Q pc L (x1 :: x0 :: zR a :: st) sp me := z_V (As := [x0, x1]) (rest := st) hM hlk dg hp rfl (by omega) hlen (Nat.zero_le _) (Nat.zero_le _) hci hcl hrecv rfl hcall zK0_q
theorem z_S20 {x0 x1 : zV} (hM : zMok M' 2) (hlk : zLs M.1.cls idx M'.1) (dg : decode M.2.1 pc = .ok (.invokestatic idx, 3)) (hp : pc + 3 = pc') (hd : 1 ≤ d) (hlen : st.length ≤ 4) (hcall : zCall M' (d - 1) 0 0 [x0, x1] sp me (zK0 M d r1 r2 Q pc' L st)) : zW M d r1 r2 Q pc L (x1 :: x0 :: st) sp me := z_S (As := [x0, x1]) (rest := st) hM hlk dg hp rfl (by omega) hlen (Nat.zero_le _) (Nat.zero_le _) rfl hcall zK0_q
theorem z_V3v {a ci : Nat} {x0 x1 x2 : zV} (hM : zMok M' 3) (hlk : zLv M.1.cls idx M'.1) (dg : decode M.2.1 pc = .ok (.invokevirtual idx, 3)) (hp : pc + 3 = pc') (hd : 1 ≤ d) (hlen : st.length ≤ 4) (hci : ci < 10) (hcl : zRn ci = M'.1.cls) (hrecv : (sp.1 a).1 = 10 + ci) (hcall : zCall M' (d - 1) 0 0 (zR a :: [x0, x1, x2]) sp me (zKv M d r1 r2 Q pc' L st)) : zW M d r1 r2 Q pc L (x2 :: x1 :: x0 :: zR a :: st) sp me := z_V (As := [x0, x1, x2]) (rest := st) hM hlk dg hp rfl (by omega) hlen (Nat.zero_le _) (Nat.zero_le _) hci hcl hrecv rfl hcall zKv_q
theorem z_S3v {x0 x1 x2 : zV} (hM : zMok M' 3) (hlk : zLs M.1.cls idx M'.1) (dg : decode M.2.1 pc = .ok (.invokestatic idx, 3)) (hp : pc + 3 = pc') (hd : 1 ≤ d) (hlen : st.length ≤ 4) (hcall : zCall M' (d - 1) 0 0 [x0, x1, x2] sp me (zKv M d r1 r2 Q pc' L st)) : zW M d r1 r2 Q pc L (x2 :: x1 :: x0 :: st) sp me := z_S (As := [x0, x1, x2]) (rest := st) hM hlk dg hp rfl (by omega) hlen (Nat.zero_le _) (Nat.zero_le _) rfl hcall zKv_q
theorem z_V30 {a ci : Nat} {x0 x1 x2 : zV} (hM : zMok M' 3) (hlk : zLv M.1.cls idx M'.1) (dg : decode M.2.1 pc = .ok (.invokevirtual idx, 3)) (hp : pc + 3 = pc') (hd : 1 ≤ d) (hlen : st.length ≤ 4) (hci : ci < 10) (hcl : zRn ci = M'.1.cls) (hrecv : (sp.1 a).1 = 10 + ci) (hcall : zCall M' (d - 1) 0 0 (zR a :: [x0, x1, x2]) sp me (zK0 M d r1 r2 Q pc' L st)) : zW M d r1 r2 Q pc L (x2 :: x1 :: x0 :: zR a :: st) sp me := z_V (As := [x0, x1, x2]) (rest := st) hM hlk dg hp rfl (by omega) hlen (Nat.zero_le _) (Nat.zero_le _) hci hcl hrecv rfl hcall zK0_q
theorem z_S30 {x0 x1 x2 : zV} (hM : zMok M' 3) (hlk : zLs M.1.cls idx M'.1) (dg : decode M.2.1 pc = .ok (.invokestatic idx, 3)) (hp : pc + 3 = pc') (hd : 1 ≤ d) (hlen : st.length ≤ 4) (hcall : zCall M' (d - 1) 0 0 [x0, x1, x2] sp me (zK0 M d r1 r2 Q pc' L st)) : zW M d r1 r2 Q pc L (x2 :: x1 :: x0 :: st) sp me := z_S (As := [x0, x1, x2]) (rest := st) hM hlk dg hp rfl (by omega) hlen (Nat.zero_le _) (Nat.zero_le _) rfl hcall zK0_q
theorem z_V4v {a ci : Nat} {x0 x1 x2 x3 : zV} (hM : zMok M' 4) (hlk : zLv M.1.cls idx M'.1) (dg : decode M.2.1 pc = .ok (.invokevirtual idx, 3)) (hp : pc + 3 = pc') (hd : 1 ≤ d) (hlen : st.length ≤ 4) (hci : ci < 10) (hcl : zRn ci = M'.1.cls) (hrecv : (sp.1 a).1 = 10 + ci) (hcall : zCall M' (d - 1) 0 0 (zR a :: [x0, x1, x2, x3]) sp me (zKv M d r1 r2 Q pc' L st)) : zW M d r1 r2 Q pc L (x3 :: x2 :: x1 :: x0 :: zR a :: st) sp me := z_V (As := [x0, x1, x2, x3]) (rest := st) hM hlk dg hp rfl (by omega) hlen (Nat.zero_le _) (Nat.zero_le _) hci hcl hrecv rfl hcall zKv_q
theorem z_S4v {x0 x1 x2 x3 : zV} (hM : zMok M' 4) (hlk : zLs M.1.cls idx M'.1) (dg : decode M.2.1 pc = .ok (.invokestatic idx, 3)) (hp : pc + 3 = pc') (hd : 1 ≤ d) (hlen : st.length ≤ 4) (hcall : zCall M' (d - 1) 0 0 [x0, x1, x2, x3] sp me (zKv M d r1 r2 Q pc' L st)) : zW M d r1 r2 Q pc L (x3 :: x2 :: x1 :: x0 :: st) sp me := z_S (As := [x0, x1, x2, x3]) (rest := st) hM hlk dg hp rfl (by omega) hlen (Nat.zero_le _) (Nat.zero_le _) rfl hcall zKv_q
theorem z_V40 {a ci : Nat} {x0 x1 x2 x3 : zV} (hM : zMok M' 4) (hlk : zLv M.1.cls idx M'.1) (dg : decode M.2.1 pc = .ok (.invokevirtual idx, 3)) (hp : pc + 3 = pc') (hd : 1 ≤ d) (hlen : st.length ≤ 4) (hci : ci < 10) (hcl : zRn ci = M'.1.cls) (hrecv : (sp.1 a).1 = 10 + ci) (hcall : zCall M' (d - 1) 0 0 (zR a :: [x0, x1, x2, x3]) sp me (zK0 M d r1 r2 Q pc' L st)) : zW M d r1 r2 Q pc L (x3 :: x2 :: x1 :: x0 :: zR a :: st) sp me := z_V (As := [x0, x1, x2, x3]) (rest := st) hM hlk dg hp rfl (by omega) hlen (Nat.zero_le _) (Nat.zero_le _) hci hcl hrecv rfl hcall zK0_q
theorem z_S40 {x0 x1 x2 x3 : zV} (hM : zMok M' 4) (hlk : zLs M.1.cls idx M'.1) (dg : decode M.2.1 pc = .ok (.invokestatic idx, 3)) (hp : pc + 3 = pc') (hd : 1 ≤ d) (hlen : st.length ≤ 4) (hcall : zCall M' (d - 1) 0 0 [x0, x1, x2, x3] sp me (zK0 M d r1 r2 Q pc' L st)) : zW M d r1 r2 Q pc L (x3 :: x2 :: x1 :: x0 :: st) sp me := z_S (As := [x0, x1, x2, x3]) (rest := st) hM hlk dg hp rfl (by omega) hlen (Nat.zero_le _) (Nat.zero_le _) rfl hcall zK0_q
theorem z_V5v {a ci : Nat} {x0 x1 x2 x3 x4 : zV} (hM : zMok M' 5) (hlk : zLv M.1.cls idx M'.1) (dg : decode M.2.1 pc = .ok (.invokevirtual idx, 3)) (hp : pc + 3 = pc') (hd : 1 ≤ d) (hlen : st.length ≤ 4) (hci : ci < 10) (hcl : zRn ci = M'.1.cls) (hrecv : (sp.1 a).1 = 10 + ci) (hcall : zCall M' (d - 1) 0 0 (zR a :: [x0, x1, x2, x3, x4]) sp me (zKv M d r1 r2 Q pc' L st)) : zW M d r1 r2 Q pc L (x4 :: x3 :: x2 :: x1 :: x0 :: zR a :: st) sp me := z_V (As := [x0, x1, x2, x3, x4]) (rest := st) hM hlk dg hp rfl (by omega) hlen (Nat.zero_le _) (Nat.zero_le _) hci hcl hrecv rfl hcall zKv_q
theorem z_S5v {x0 x1 x2 x3 x4 : zV} (hM : zMok M' 5) (hlk : zLs M.1.cls idx M'.1) (dg : decode M.2.1 pc = .ok (.invokestatic idx, 3)) (hp : pc + 3 = pc') (hd : 1 ≤ d) (hlen : st.length ≤ 4) (hcall : zCall M' (d - 1) 0 0 [x0, x1, x2, x3, x4] sp me (zKv M d r1 r2 Q pc' L st)) : zW M d r1 r2 Q pc L (x4 :: x3 :: x2 :: x1 :: x0 :: st) sp me := z_S (As := [x0, x1, x2, x3, x4]) (rest := st) hM hlk dg hp rfl (by omega) hlen (Nat.zero_le _) (Nat.zero_le _) rfl hcall zKv_q
theorem z_V50 {a ci : Nat} {x0 x1 x2 x3 x4 : zV} (hM : zMok M' 5) (hlk : zLv M.1.cls idx M'.1) (dg : decode M.2.1 pc = .ok (.invokevirtual idx, 3)) (hp : pc + 3 = pc') (hd : 1 ≤ d) (hlen : st.length ≤ 4) (hci : ci < 10) (hcl : zRn ci = M'.1.cls) (hrecv : (sp.1 a).1 = 10 + ci) (hcall : zCall M' (d - 1) 0 0 (zR a :: [x0, x1, x2, x3, x4]) sp me (zK0 M d r1 r2 Q pc' L st)) : zW M d r1 r2 Q pc L (x4 :: x3 :: x2 :: x1 :: x0 :: zR a :: st) sp me := z_V (As := [x0, x1, x2, x3, x4]) (rest := st) hM hlk dg hp rfl (by omega) hlen (Nat.zero_le _) (Nat.zero_le _) hci hcl hrecv rfl hcall zK0_q
theorem z_S50 {x0 x1 x2 x3 x4 : zV} (hM : zMok M' 5) (hlk : zLs M.1.cls idx M'.1) (dg : decode M.2.1 pc = .ok (.invokestatic idx, 3)) (hp : pc + 3 = pc') (hd : 1 ≤ d) (hlen : st.length ≤ 4) (hcall : zCall M' (d - 1) 0 0 [x0, x1, x2, x3, x4] sp me (zK0 M d r1 r2 Q pc' L st)) : zW M d r1 r2 Q pc L (x4 :: x3 :: x2 :: x1 :: x0 :: st) sp me := z_S (As := [x0, x1, x2, x3, x4]) (rest := st) hM hlk dg hp rfl (by omega) hlen (Nat.zero_le _) (Nat.zero_le _) rfl hcall zK0_q
theorem z_I0 {a r1' r2' : Nat} (hM : zMok M' 0) (hret0 : M'.2.2.2.1 = none) (hlk : zLi M.1.cls idx M'.1) (dg : decode M.2.1 pc = .ok (.invokespecial idx, 3)) (hp : pc + 3 = pc') (hd : 1 ≤ d) (hlen : st.length ≤ 4) (h1 : r1' + mc = r1) (h2 : r2' + ms = r2) (hcall : zCall M' (d - 1) mc ms [zR a] sp me (zK0 M d r1' r2' Q pc' L st)) : zW M d r1 r2 Q pc L (zR a :: st) sp me := z_I (As := []) (rest := st) hM hret0 hlk dg hp rfl (by omega) hlen (by omega) (by omega) rfl hcall (fun v sp' me' ⟨hv, h⟩ => by
  subst hv
  rw [show r1 - mc = r1' by omega, show r2 - ms = r2' by omega]
  exact h)
end ZCALLS
end
section
abbrev mX0_code : zMd := (yX0_code, cX0_code, 3, some .int, none)
theorem kX0_code : zMok mX0_code 2 := ⟨by decide +kernel, by decide, rfl, zG_of (List.mem_of_getElem? (i := 293) (by decide +kernel)) (by decide +kernel), by decide +kernel, by decide +kernel, by decide +kernel⟩
abbrev mX0_copyFrom : zMd := (yX0_copyFrom, cX0_copyFrom, 2, none, none)
theorem kX0_copyFrom : zMok mX0_copyFrom 1 := ⟨by decide +kernel, by decide, rfl, zG_of (List.mem_of_getElem? (i := 329) (by decide +kernel)) (by decide +kernel), by decide +kernel, by decide +kernel, by decide +kernel⟩
abbrev mX0_cut : zMd := (yX0_cut, cX0_cut, 2, none, none)
theorem kX0_cut : zMok mX0_cut 1 := ⟨by decide +kernel, by decide, rfl, zG_of (List.mem_of_getElem? (i := 413) (by decide +kernel)) (by decide +kernel), by decide +kernel, by decide +kernel, by decide +kernel⟩
abbrev mX0_init : zMd := (yX0_init, cX0_init, 1, none, none)
theorem kX0_init : zMok mX0_init 0 := ⟨by decide +kernel, by decide, rfl, zG_of (List.mem_of_getElem? (i := 117) (by decide +kernel)) (by decide +kernel), by decide +kernel, by decide +kernel, by decide +kernel⟩
abbrev mX0_put : zMd := (yX0_put, cX0_put, 4, none, none)
theorem kX0_put : zMok mX0_put 2 := ⟨by decide +kernel, by decide, rfl, zG_of (List.mem_of_getElem? (i := 338) (by decide +kernel)) (by decide +kernel), by decide +kernel, by decide +kernel, by decide +kernel⟩
abbrev mX0_size : zMd := (yX0_size, cX0_size, 2, some .int, none)
theorem kX0_size : zMok mX0_size 1 := ⟨by decide +kernel, by decide, rfl, zG_of (List.mem_of_getElem? (i := 279) (by decide +kernel)) (by decide +kernel), by decide +kernel, by decide +kernel, by decide +kernel⟩
abbrev mX0_usedCount : zMd := (yX0_usedCount, cX0_usedCount, 3, some .int, none)
theorem kX0_usedCount : zMok mX0_usedCount 0 := ⟨by decide +kernel, by decide, rfl, zG_of (List.mem_of_getElem? (i := 648) (by decide +kernel)) (by decide +kernel), by decide +kernel, by decide +kernel, by decide +kernel⟩
abbrev mX1_init : zMd := (yX1_init, cX1_init, 2, none, none)
theorem kX1_init : zMok mX1_init 0 := ⟨by decide +kernel, by decide, rfl, zG_of (List.mem_of_getElem? (i := 155) (by decide +kernel)) (by decide +kernel), by decide +kernel, by decide +kernel, by decide +kernel⟩
abbrev mX1_keep : zMd := (yX1_keep, cX1_keep, 2, none, none)
theorem kX1_keep : zMok mX1_keep 1 := ⟨by decide +kernel, by decide, rfl, zG_of (List.mem_of_getElem? (i := 303) (by decide +kernel)) (by decide +kernel), by decide +kernel, by decide +kernel, by decide +kernel⟩
abbrev mX1_size : zMd := (yX1_size, cX1_size, 1, some .int, none)
theorem kX1_size : zMok mX1_size 0 := ⟨by decide +kernel, by decide, rfl, zG_of (List.mem_of_getElem? (i := 562) (by decide +kernel)) (by decide +kernel), by decide +kernel, by decide +kernel, by decide +kernel⟩
abbrev mX1_takeLatest : zMd := (yX1_takeLatest, cX1_takeLatest, 3, some .boolean, none)
theorem kX1_takeLatest : zMok mX1_takeLatest 1 := ⟨by decide +kernel, by decide, rfl, zG_of (List.mem_of_getElem? (i := 558) (by decide +kernel)) (by decide +kernel), by decide +kernel, by decide +kernel, by decide +kernel⟩
abbrev mX2_areKept : zMd := (yX2_areKept, cX2_areKept, 3, some .boolean, none)
theorem kX2_areKept : zMok mX2_areKept 1 := ⟨by decide +kernel, by decide, rfl, zG_of (List.mem_of_getElem? (i := 473) (by decide +kernel)) (by decide +kernel), by decide +kernel, by decide +kernel, by decide +kernel⟩
abbrev mX2_copyFrom : zMd := (yX2_copyFrom, cX2_copyFrom, 2, none, none)
theorem kX2_copyFrom : zMok mX2_copyFrom 1 := ⟨by decide +kernel, by decide, rfl, zG_of (List.mem_of_getElem? (i := 324) (by decide +kernel)) (by decide +kernel), by decide +kernel, by decide +kernel, by decide +kernel⟩
abbrev mX2_init : zMd := (yX2_init, cX2_init, 2, none, none)
theorem kX2_init : zMok mX2_init 0 := ⟨by decide +kernel, by decide, rfl, zG_of (List.mem_of_getElem? (i := 104) (by decide +kernel)) (by decide +kernel), by decide +kernel, by decide +kernel, by decide +kernel⟩
abbrev mX2_isKeptAt : zMd := (yX2_isKeptAt, cX2_isKeptAt, 4, some .boolean, none)
theorem kX2_isKeptAt : zMok mX2_isKeptAt 2 := ⟨by decide +kernel, by decide, rfl, zG_of (List.mem_of_getElem? (i := 477) (by decide +kernel)) (by decide +kernel), by decide +kernel, by decide +kernel, by decide +kernel⟩
abbrev mX2_join : zMd := (yX2_join, cX2_join, 3, none, none)
theorem kX2_join : zMok mX2_join 2 := ⟨by decide +kernel, by decide, rfl, zG_of (List.mem_of_getElem? (i := 436) (by decide +kernel)) (by decide +kernel), by decide +kernel, by decide +kernel, by decide +kernel⟩
abbrev mX2_pairs : zMd := (yX2_pairs, cX2_pairs, 1, some .int, none)
theorem kX2_pairs : zMok mX2_pairs 0 := ⟨by decide +kernel, by decide, rfl, zG_of (List.mem_of_getElem? (i := 441) (by decide +kernel)) (by decide +kernel), by decide +kernel, by decide +kernel, by decide +kernel⟩
abbrev mX2_part : zMd := (yX2_part, cX2_part, 3, none, none)
theorem kX2_part : zMok mX2_part 2 := ⟨by decide +kernel, by decide, rfl, zG_of (List.mem_of_getElem? (i := 449) (by decide +kernel)) (by decide +kernel), by decide +kernel, by decide +kernel, by decide +kernel⟩
abbrev mX2_partNotNeighbors : zMd := (yX2_partNotNeighbors, cX2_partNotNeighbors, 5, some .int, none)
theorem kX2_partNotNeighbors : zMok mX2_partNotNeighbors 1 := ⟨by decide +kernel, by decide, rfl, zG_of (List.mem_of_getElem? (i := 499) (by decide +kernel)) (by decide +kernel), by decide +kernel, by decide +kernel, by decide +kernel⟩
abbrev mX2_partner : zMd := (yX2_partner, cX2_partner, 2, some .int, none)
theorem kX2_partner : zMok mX2_partner 1 := ⟨by decide +kernel, by decide, rfl, zG_of (List.mem_of_getElem? (i := 421) (by decide +kernel)) (by decide +kernel), by decide +kernel, by decide +kernel, by decide +kernel⟩
abbrev mX3_calledBy : zMd := (yX3_calledBy, cX3_calledBy, 2, some .int, none)
theorem kX3_calledBy : zMok mX3_calledBy 1 := ⟨by decide +kernel, by decide, rfl, zG_of (List.mem_of_getElem? (i := 379) (by decide +kernel)) (by decide +kernel), by decide +kernel, by decide +kernel, by decide +kernel⟩
abbrev mX3_callersOf : zMd := (yX3_callersOf, cX3_callersOf, 4, some .int, none)
theorem kX3_callersOf : zMok mX3_callersOf 1 := ⟨by decide +kernel, by decide, rfl, zG_of (List.mem_of_getElem? (i := 624) (by decide +kernel)) (by decide +kernel), by decide +kernel, by decide +kernel, by decide +kernel⟩
abbrev mX3_effectOf : zMd := (yX3_effectOf, cX3_effectOf, 2, some (.object "DanceFigures$Ring"), none)
theorem kX3_effectOf : zMok mX3_effectOf 1 := ⟨by decide +kernel, by decide, rfl, zG_of (List.mem_of_getElem? (i := 365) (by decide +kernel)) (by decide +kernel), by decide +kernel, by decide +kernel, by decide +kernel⟩
abbrev mX3_growthByCalls : zMd := (yX3_growthByCalls, cX3_growthByCalls, 7, some .int, none)
theorem kX3_growthByCalls : zMok mX3_growthByCalls 2 := ⟨by decide +kernel, by decide, rfl, zG_of (List.mem_of_getElem? (i := 288) (by decide +kernel)) (by decide +kernel), by decide +kernel, by decide +kernel, by decide +kernel⟩
abbrev mX3_hasRoom : zMd := (yX3_hasRoom, cX3_hasRoom, 5, some .boolean, none)
theorem kX3_hasRoom : zMok mX3_hasRoom 3 := ⟨by decide +kernel, by decide, rfl, zG_of (List.mem_of_getElem? (i := 284) (by decide +kernel)) (by decide +kernel), by decide +kernel, by decide +kernel, by decide +kernel⟩
abbrev mX3_include : zMd := (yX3_include, cX3_include, 3, none, none)
theorem kX3_include : zMok mX3_include 2 := ⟨by decide +kernel, by decide, rfl, zG_of (List.mem_of_getElem? (i := 351) (by decide +kernel)) (by decide +kernel), by decide +kernel, by decide +kernel, by decide +kernel⟩
abbrev mX3_includeCall : zMd := (yX3_includeCall, cX3_includeCall, 5, none, none)
theorem kX3_includeCall : zMok mX3_includeCall 2 := ⟨by decide +kernel, by decide, rfl, zG_of (List.mem_of_getElem? (i := 355) (by decide +kernel)) (by decide +kernel), by decide +kernel, by decide +kernel, by decide +kernel⟩
abbrev mX3_init : zMd := (yX3_init, cX3_init, 2, none, none)
theorem kX3_init : zMok mX3_init 0 := ⟨by decide +kernel, by decide, rfl, zG_of (List.mem_of_getElem? (i := 187) (by decide +kernel)) (by decide +kernel), by decide +kernel, by decide +kernel, by decide +kernel⟩
abbrev mX3_putStep : zMd := (yX3_putStep, cX3_putStep, 4, none, none)
theorem kX3_putStep : zMok mX3_putStep 2 := ⟨by decide +kernel, by decide, rfl, zG_of (List.mem_of_getElem? (i := 360) (by decide +kernel)) (by decide +kernel), by decide +kernel, by decide +kernel, by decide +kernel⟩
abbrev mX3_stepCount : zMd := (yX3_stepCount, cX3_stepCount, 2, some .int, none)
theorem kX3_stepCount : zMok mX3_stepCount 1 := ⟨by decide +kernel, by decide, rfl, zG_of (List.mem_of_getElem? (i := 272) (by decide +kernel)) (by decide +kernel), by decide +kernel, by decide +kernel, by decide +kernel⟩
abbrev mX3_stepInOrder : zMd := (yX3_stepInOrder, cX3_stepInOrder, 5, some .int, none)
theorem kX3_stepInOrder : zMok mX3_stepInOrder 3 := ⟨by decide +kernel, by decide, rfl, zG_of (List.mem_of_getElem? (i := 462) (by decide +kernel)) (by decide +kernel), by decide +kernel, by decide +kernel, by decide +kernel⟩
abbrev mX3_workOut : zMd := (yX3_workOut, cX3_workOut, 5, none, none)
theorem kX3_workOut : zMok mX3_workOut 1 := ⟨by decide +kernel, by decide, rfl, zG_of (List.mem_of_getElem? (i := 346) (by decide +kernel)) (by decide +kernel), by decide +kernel, by decide +kernel, by decide +kernel⟩
abbrev mX4_copyFrom : zMd := (yX4_copyFrom, cX4_copyFrom, 2, none, none)
theorem kX4_copyFrom : zMok mX4_copyFrom 1 := ⟨by decide +kernel, by decide, rfl, zG_of (List.mem_of_getElem? (i := 311) (by decide +kernel)) (by decide +kernel), by decide +kernel, by decide +kernel, by decide +kernel⟩
abbrev mX4_dancerAt : zMd := (yX4_dancerAt, cX4_dancerAt, 2, some .int, none)
theorem kX4_dancerAt : zMok mX4_dancerAt 1 := ⟨by decide +kernel, by decide, rfl, zG_of (List.mem_of_getElem? (i := 481) (by decide +kernel)) (by decide +kernel), by decide +kernel, by decide +kernel, by decide +kernel⟩
abbrev mX4_exchange : zMd := (yX4_exchange, cX4_exchange, 5, none, none)
theorem kX4_exchange : zMok mX4_exchange 2 := ⟨by decide +kernel, by decide, rfl, zG_of (List.mem_of_getElem? (i := 392) (by decide +kernel)) (by decide +kernel), by decide +kernel, by decide +kernel, by decide +kernel⟩
abbrev mX4_faceAt : zMd := (yX4_faceAt, cX4_faceAt, 2, some .int, none)
theorem kX4_faceAt : zMok mX4_faceAt 1 := ⟨by decide +kernel, by decide, rfl, zG_of (List.mem_of_getElem? (i := 579) (by decide +kernel)) (by decide +kernel), by decide +kernel, by decide +kernel, by decide +kernel⟩
abbrev mX4_follow : zMd := (yX4_follow, cX4_follow, 4, none, none)
theorem kX4_follow : zMok mX4_follow 1 := ⟨by decide +kernel, by decide, rfl, zG_of (List.mem_of_getElem? (i := 370) (by decide +kernel)) (by decide +kernel), by decide +kernel, by decide +kernel, by decide +kernel⟩
abbrev mX4_homeCount : zMd := (yX4_homeCount, cX4_homeCount, 3, some .int, none)
theorem kX4_homeCount : zMok mX4_homeCount 0 := ⟨by decide +kernel, by decide, rfl, zG_of (List.mem_of_getElem? (i := 494) (by decide +kernel)) (by decide +kernel), by decide +kernel, by decide +kernel, by decide +kernel⟩
abbrev mX4_init : zMd := (yX4_init, cX4_init, 1, none, none)
theorem kX4_init : zMok mX4_init 0 := ⟨by decide +kernel, by decide, rfl, zG_of (List.mem_of_getElem? (i := 80) (by decide +kernel)) (by decide +kernel), by decide +kernel, by decide +kernel, by decide +kernel⟩
abbrev mX4_isBroughtHomeBy : zMd := (yX4_isBroughtHomeBy, cX4_isBroughtHomeBy, 4, some .boolean, none)
theorem kX4_isBroughtHomeBy : zMok mX4_isBroughtHomeBy 1 := ⟨by decide +kernel, by decide, rfl, zG_of (List.mem_of_getElem? (i := 677) (by decide +kernel)) (by decide +kernel), by decide +kernel, by decide +kernel, by decide +kernel⟩
abbrev mX4_isHome : zMd := (yX4_isHome, cX4_isHome, 1, some .boolean, none)
theorem kX4_isHome : zMok mX4_isHome 0 := ⟨by decide +kernel, by decide, rfl, zG_of (List.mem_of_getElem? (i := 605) (by decide +kernel)) (by decide +kernel), by decide +kernel, by decide +kernel, by decide +kernel⟩
abbrev mX4_isSameAs : zMd := (yX4_isSameAs, cX4_isSameAs, 3, some .boolean, none)
theorem kX4_isSameAs : zMok mX4_isSameAs 1 := ⟨by decide +kernel, by decide, rfl, zG_of (List.mem_of_getElem? (i := 636) (by decide +kernel)) (by decide +kernel), by decide +kernel, by decide +kernel, by decide +kernel⟩
abbrev mX4_make : zMd := (yX4_make, cX4_make, 4, none, none)
theorem kX4_make : zMok mX4_make 1 := ⟨by decide +kernel, by decide, rfl, zG_of (List.mem_of_getElem? (i := 383) (by decide +kernel)) (by decide +kernel), by decide +kernel, by decide +kernel, by decide +kernel⟩
abbrev mX4_mirror : zMd := (yX4_mirror, cX4_mirror, 4, none, none)
theorem kX4_mirror : zMok mX4_mirror 2 := ⟨by decide +kernel, by decide, rfl, zG_of (List.mem_of_getElem? (i := 405) (by decide +kernel)) (by decide +kernel), by decide +kernel, by decide +kernel, by decide +kernel⟩
abbrev mX4_oddness : zMd := (yX4_oddness, cX4_oddness, 4, some .int, none)
theorem kX4_oddness : zMok mX4_oddness 0 := ⟨by decide +kernel, by decide, rfl, zG_of (List.mem_of_getElem? (i := 619) (by decide +kernel)) (by decide +kernel), by decide +kernel, by decide +kernel, by decide +kernel⟩
abbrev mX4_placeOf : zMd := (yX4_placeOf, cX4_placeOf, 3, some .int, none)
theorem kX4_placeOf : zMok mX4_placeOf 1 := ⟨by decide +kernel, by decide, rfl, zG_of (List.mem_of_getElem? (i := 426) (by decide +kernel)) (by decide +kernel), by decide +kernel, by decide +kernel, by decide +kernel⟩
abbrev mX4_placedCount : zMd := (yX4_placedCount, cX4_placedCount, 3, some .int, none)
theorem kX4_placedCount : zMok mX4_placedCount 0 := ⟨by decide +kernel, by decide, rfl, zG_of (List.mem_of_getElem? (i := 611) (by decide +kernel)) (by decide +kernel), by decide +kernel, by decide +kernel, by decide +kernel⟩
abbrev mX4_placesFromHome : zMd := (yX4_placesFromHome, cX4_placesFromHome, 4, some .int, none)
theorem kX4_placesFromHome : zMok mX4_placesFromHome 0 := ⟨by decide +kernel, by decide, rfl, zG_of (List.mem_of_getElem? (i := 692) (by decide +kernel)) (by decide +kernel), by decide +kernel, by decide +kernel, by decide +kernel⟩
abbrev mX4_remember : zMd := (yX4_remember, cX4_remember, 1, none, none)
theorem kX4_remember : zMok mX4_remember 0 := ⟨by decide +kernel, by decide, rfl, zG_of (List.mem_of_getElem? (i := 374) (by decide +kernel)) (by decide +kernel), by decide +kernel, by decide +kernel, by decide +kernel⟩
abbrev mX4_settle : zMd := (yX4_settle, cX4_settle, 2, none, none)
theorem kX4_settle : zMok mX4_settle 0 := ⟨by decide +kernel, by decide, rfl, zG_of (List.mem_of_getElem? (i := 85) (by decide +kernel)) (by decide +kernel), by decide +kernel, by decide +kernel, by decide +kernel⟩
abbrev mX4_shift : zMd := (yX4_shift, cX4_shift, 4, none, none)
theorem kX4_shift : zMok mX4_shift 1 := ⟨by decide +kernel, by decide, rfl, zG_of (List.mem_of_getElem? (i := 401) (by decide +kernel)) (by decide +kernel), by decide +kernel, by decide +kernel, by decide +kernel⟩
abbrev mX4_straightCount : zMd := (yX4_straightCount, cX4_straightCount, 3, some .int, none)
theorem kX4_straightCount : zMok mX4_straightCount 0 := ⟨by decide +kernel, by decide, rfl, zG_of (List.mem_of_getElem? (i := 615) (by decide +kernel)) (by decide +kernel), by decide +kernel, by decide +kernel, by decide +kernel⟩
abbrev mX4_turn : zMd := (yX4_turn, cX4_turn, 3, none, none)
theorem kX4_turn : zMok mX4_turn 2 := ⟨by decide +kernel, by decide, rfl, zG_of (List.mem_of_getElem? (i := 397) (by decide +kernel)) (by decide +kernel), by decide +kernel, by decide +kernel, by decide +kernel⟩
abbrev mX5_after : zMd := (yX5_after, cX5_after, 2, some .int, none)
theorem kX5_after : zMok mX5_after 2 := ⟨by decide +kernel, by decide, rfl, zG_of (List.mem_of_getElem? (i := 534) (by decide +kernel)) (by decide +kernel), by decide +kernel, by decide +kernel, by decide +kernel⟩
abbrev mX5_empty : zMd := (yX5_empty, cX5_empty, 1, none, none)
theorem kX5_empty : zMok mX5_empty 0 := ⟨by decide +kernel, by decide, rfl, zG_of (List.mem_of_getElem? (i := 522) (by decide +kernel)) (by decide +kernel), by decide +kernel, by decide +kernel, by decide +kernel⟩
abbrev mX5_firstFault : zMd := (yX5_firstFault, cX5_firstFault, 3, some .int, none)
theorem kX5_firstFault : zMok mX5_firstFault 0 := ⟨by decide +kernel, by decide, rfl, zG_of (List.mem_of_getElem? (i := 530) (by decide +kernel)) (by decide +kernel), by decide +kernel, by decide +kernel, by decide +kernel⟩
abbrev mX5_init : zMd := (yX5_init, cX5_init, 1, none, none)
theorem kX5_init : zMok mX5_init 0 := ⟨by decide +kernel, by decide, rfl, zG_of (List.mem_of_getElem? (i := 174) (by decide +kernel)) (by decide +kernel), by decide +kernel, by decide +kernel, by decide +kernel⟩
abbrev mX5_isLetter : zMd := (yX5_isLetter, cX5_isLetter, 1, some .boolean, none)
theorem kX5_isLetter : zMok mX5_isLetter 1 := ⟨by decide +kernel, by decide, rfl, zG_of (List.mem_of_getElem? (i := 537) (by decide +kernel)) (by decide +kernel), by decide +kernel, by decide +kernel, by decide +kernel⟩
abbrev mX5_length : zMd := (yX5_length, cX5_length, 1, some .int, none)
theorem kX5_length : zMok mX5_length 0 := ⟨by decide +kernel, by decide, rfl, zG_of (List.mem_of_getElem? (i := 508) (by decide +kernel)) (by decide +kernel), by decide +kernel, by decide +kernel, by decide +kernel⟩
abbrev mX5_put : zMd := (yX5_put, cX5_put, 2, none, none)
theorem kX5_put : zMok mX5_put 1 := ⟨by decide +kernel, by decide, rfl, zG_of (List.mem_of_getElem? (i := 512) (by decide +kernel)) (by decide +kernel), by decide +kernel, by decide +kernel, by decide +kernel⟩
abbrev mX5_signOrEnd : zMd := (yX5_signOrEnd, cX5_signOrEnd, 2, some .int, none)
theorem kX5_signOrEnd : zMok mX5_signOrEnd 1 := ⟨by decide +kernel, by decide, rfl, zG_of (List.mem_of_getElem? (i := 549) (by decide +kernel)) (by decide +kernel), by decide +kernel, by decide +kernel, by decide +kernel⟩
abbrev mX6_figureOf : zMd := (yX6_figureOf, cX6_figureOf, 2, some .int, none)
theorem kX6_figureOf : zMok mX6_figureOf 1 := ⟨by decide +kernel, by decide, rfl, zG_of (List.mem_of_getElem? (i := 683) (by decide +kernel)) (by decide +kernel), by decide +kernel, by decide +kernel, by decide +kernel⟩
abbrev mX6_init : zMd := (yX6_init, cX6_init, 2, none, none)
theorem kX6_init : zMok mX6_init 0 := ⟨by decide +kernel, by decide, rfl, zG_of (List.mem_of_getElem? (i := 215) (by decide +kernel)) (by decide +kernel), by decide +kernel, by decide +kernel, by decide +kernel⟩
abbrev mX6_leadsHome : zMd := (yX6_leadsHome, cX6_leadsHome, 9, some .boolean, none)
theorem kX6_leadsHome : zMok mX6_leadsHome 5 := ⟨by decide +kernel, by decide, rfl, zG_of (List.mem_of_getElem? (i := 672) (by decide +kernel)) (by decide +kernel), by decide +kernel, by decide +kernel, by decide +kernel⟩
abbrev mX6_shortest : zMd := (yX6_shortest, cX6_shortest, 4, some .int, none)
theorem kX6_shortest : zMok mX6_shortest 2 := ⟨by decide +kernel, by decide, rfl, zG_of (List.mem_of_getElem? (i := 668) (by decide +kernel)) (by decide +kernel), by decide +kernel, by decide +kernel, by decide +kernel⟩
abbrev mX7_copyFrom : zMd := (yX7_copyFrom, cX7_copyFrom, 2, none, none)
theorem kX7_copyFrom : zMok mX7_copyFrom 1 := ⟨by decide +kernel, by decide, rfl, zG_of (List.mem_of_getElem? (i := 307) (by decide +kernel)) (by decide +kernel), by decide +kernel, by decide +kernel, by decide +kernel⟩
abbrev mX7_init : zMd := (yX7_init, cX7_init, 1, none, none)
theorem kX7_init : zMok mX7_init 0 := ⟨by decide +kernel, by decide, rfl, zG_of (List.mem_of_getElem? (i := 74) (by decide +kernel)) (by decide +kernel), by decide +kernel, by decide +kernel, by decide +kernel⟩
abbrev mX8_add : zMd := (yX8_add, cX8_add, 7, some .int, none)
theorem kX8_add : zMok mX8_add 4 := ⟨by decide +kernel, by decide, rfl, zG_of (List.mem_of_getElem? (i := 259) (by decide +kernel)) (by decide +kernel), by decide +kernel, by decide +kernel, by decide +kernel⟩
abbrev mX8_alike : zMd := (yX8_alike, cX8_alike, 3, some .int, none)
theorem kX8_alike : zMok mX8_alike 2 := ⟨by decide +kernel, by decide, rfl, zG_of (List.mem_of_getElem? (i := 632) (by decide +kernel)) (by decide +kernel), by decide +kernel, by decide +kernel, by decide +kernel⟩
abbrev mX8_append : zMd := (yX8_append, cX8_append, 2, some .int, none)
theorem kX8_append : zMok mX8_append 1 := ⟨by decide +kernel, by decide, rfl, zG_of (List.mem_of_getElem? (i := 504) (by decide +kernel)) (by decide +kernel), by decide +kernel, by decide +kernel, by decide +kernel⟩
abbrev mX8_areNeighbors : zMd := (yX8_areNeighbors, cX8_areNeighbors, 3, some .boolean, none)
theorem kX8_areNeighbors : zMok mX8_areNeighbors 2 := ⟨by decide +kernel, by decide, rfl, zG_of (List.mem_of_getElem? (i := 429) (by decide +kernel)) (by decide +kernel), by decide +kernel, by decide +kernel, by decide +kernel⟩
abbrev mX8_at : zMd := (yX8_at, cX8_at, 2, some .int, none)
theorem kX8_at : zMok mX8_at 1 := ⟨by decide +kernel, by decide, rfl, zG_of (List.mem_of_getElem? (i := 583) (by decide +kernel)) (by decide +kernel), by decide +kernel, by decide +kernel, by decide +kernel⟩
abbrev mX8_blockedAt : zMd := (yX8_blockedAt, cX8_blockedAt, 3, some .int, none)
theorem kX8_blockedAt : zMok mX8_blockedAt 2 := ⟨by decide +kernel, by decide, rfl, zG_of (List.mem_of_getElem? (i := 656) (by decide +kernel)) (by decide +kernel), by decide +kernel, by decide +kernel, by decide +kernel⟩
abbrev mX8_carryOut : zMd := (yX8_carryOut, cX8_carryOut, 4, some .int, none)
theorem kX8_carryOut : zMok mX8_carryOut 2 := ⟨by decide +kernel, by decide, rfl, zG_of (List.mem_of_getElem? (i := 486) (by decide +kernel)) (by decide +kernel), by decide +kernel, by decide +kernel, by decide +kernel⟩
abbrev mX8_carryOutScript : zMd := (yX8_carryOutScript, cX8_carryOutScript, 7, some .int, none)
theorem kX8_carryOutScript : zMok mX8_carryOutScript 0 := ⟨by decide +kernel, by decide, rfl, zG_of (List.mem_of_getElem? (i := 545) (by decide +kernel)) (by decide +kernel), by decide +kernel, by decide +kernel, by decide +kernel⟩
abbrev mX8_clearText : zMd := (yX8_clearText, cX8_clearText, 2, some .int, none)
theorem kX8_clearText : zMok mX8_clearText 0 := ⟨by decide +kernel, by decide, rfl, zG_of (List.mem_of_getElem? (i := 518) (by decide +kernel)) (by decide +kernel), by decide +kernel, by decide +kernel, by decide +kernel⟩
abbrev mX8_codeOf : zMd := (yX8_codeOf, cX8_codeOf, 3, some .int, none)
theorem kX8_codeOf : zMok mX8_codeOf 3 := ⟨by decide +kernel, by decide, rfl, zG_of (List.mem_of_getElem? (i := 334) (by decide +kernel)) (by decide +kernel), by decide +kernel, by decide +kernel, by decide +kernel⟩
abbrev mX8_commute : zMd := (yX8_commute, cX8_commute, 3, some .int, none)
theorem kX8_commute : zMok mX8_commute 2 := ⟨by decide +kernel, by decide, rfl, zG_of (List.mem_of_getElem? (i := 640) (by decide +kernel)) (by decide +kernel), by decide +kernel, by decide +kernel, by decide +kernel⟩
abbrev mX8_copy : zMd := (yX8_copy, cX8_copy, 2, none, none)
theorem kX8_copy : zMok mX8_copy 2 := ⟨by decide +kernel, by decide, rfl, zG_of (List.mem_of_getElem? (i := 314) (by decide +kernel)) (by decide +kernel), by decide +kernel, by decide +kernel, by decide +kernel⟩
abbrev mX8_count : zMd := (yX8_count, cX8_count, 2, some .int, none)
theorem kX8_count : zMok mX8_count 1 := ⟨by decide +kernel, by decide, rfl, zG_of (List.mem_of_getElem? (i := 644) (by decide +kernel)) (by decide +kernel), by decide +kernel, by decide +kernel, by decide +kernel⟩
abbrev mX8_dance : zMd := (yX8_dance, cX8_dance, 5, some .int, none)
theorem kX8_dance : zMok mX8_dance 3 := ⟨by decide +kernel, by decide, rfl, zG_of (List.mem_of_getElem? (i := 453) (by decide +kernel)) (by decide +kernel), by decide +kernel, by decide +kernel, by decide +kernel⟩
abbrev mX8_dancer : zMd := (yX8_dancer, cX8_dancer, 4, some .int, none)
theorem kX8_dancer : zMok mX8_dancer 2 := ⟨by decide +kernel, by decide, rfl, zG_of (List.mem_of_getElem? (i := 575) (by decide +kernel)) (by decide +kernel), by decide +kernel, by decide +kernel, by decide +kernel⟩
abbrev mX8_distance : zMd := (yX8_distance, cX8_distance, 1, some .double, none)
theorem kX8_distance : zMok mX8_distance 0 := ⟨by decide +kernel, by decide, rfl, zG_of (List.mem_of_getElem? (i := 688) (by decide +kernel)) (by decide +kernel), by decide +kernel, by decide +kernel, by decide +kernel⟩
abbrev mX8_drop : zMd := (yX8_drop, cX8_drop, 3, some .int, none)
theorem kX8_drop : zMok mX8_drop 1 := ⟨by decide +kernel, by decide, rfl, zG_of (List.mem_of_getElem? (i := 409) (by decide +kernel)) (by decide +kernel), by decide +kernel, by decide +kernel, by decide +kernel⟩
abbrev mX8_effect : zMd := (yX8_effect, cX8_effect, 6, some .int, none)
theorem kX8_effect : zMok mX8_effect 3 := ⟨by decide +kernel, by decide, rfl, zG_of (List.mem_of_getElem? (i := 628) (by decide +kernel)) (by decide +kernel), by decide +kernel, by decide +kernel, by decide +kernel⟩
abbrev mX8_fault : zMd := (yX8_fault, cX8_fault, 1, some .int, none)
theorem kX8_fault : zMok mX8_fault 0 := ⟨by decide +kernel, by decide, rfl, zG_of (List.mem_of_getElem? (i := 526) (by decide +kernel)) (by decide +kernel), by decide +kernel, by decide +kernel, by decide +kernel⟩
abbrev mX8_figure : zMd := (yX8_figure, cX8_figure, 4, some .int, none)
theorem kX8_figure : zMok mX8_figure 2 := ⟨by decide +kernel, by decide, rfl, zG_of (List.mem_of_getElem? (i := 593) (by decide +kernel)) (by decide +kernel), by decide +kernel, by decide +kernel, by decide +kernel⟩
abbrev mX8_firstOf : zMd := (yX8_firstOf, cX8_firstOf, 1, some .int, none)
theorem kX8_firstOf : zMok mX8_firstOf 1 := ⟨by decide +kernel, by decide, rfl, zG_of (List.mem_of_getElem? (i := 299) (by decide +kernel)) (by decide +kernel), by decide +kernel, by decide +kernel, by decide +kernel⟩
abbrev mX8_goHome : zMd := (yX8_goHome, cX8_goHome, 2, some .int, none)
theorem kX8_goHome : zMok mX8_goHome 0 := ⟨by decide +kernel, by decide, rfl, zG_of (List.mem_of_getElem? (i := 490) (by decide +kernel)) (by decide +kernel), by decide +kernel, by decide +kernel, by decide +kernel⟩
abbrev mX8_hold : zMd := (yX8_hold, cX8_hold, 4, some .int, none)
theorem kX8_hold : zMok mX8_hold 2 := ⟨by decide +kernel, by decide, rfl, zG_of (List.mem_of_getElem? (i := 417) (by decide +kernel)) (by decide +kernel), by decide +kernel, by decide +kernel, by decide +kernel⟩
abbrev mX8_homeIn : zMd := (yX8_homeIn, cX8_homeIn, 2, some .int, none)
theorem kX8_homeIn : zMok mX8_homeIn 1 := ⟨by decide +kernel, by decide, rfl, zG_of (List.mem_of_getElem? (i := 660) (by decide +kernel)) (by decide +kernel), by decide +kernel, by decide +kernel, by decide +kernel⟩
abbrev mX8_init : zMd := (yX8_init, cX8_init, 1, none, none)
theorem kX8_init : zMok mX8_init 0 := ⟨by decide +kernel, by decide, rfl, zG_of (List.mem_of_getElem? (i := 66) (by decide +kernel)) (by decide +kernel), by decide +kernel, by decide +kernel, by decide +kernel⟩
abbrev mX8_isFigure : zMd := (yX8_isFigure, cX8_isFigure, 1, some .boolean, none)
theorem kX8_isFigure : zMok mX8_isFigure 1 := ⟨by decide +kernel, by decide, rfl, zG_of (List.mem_of_getElem? (i := 262) (by decide +kernel)) (by decide +kernel), by decide +kernel, by decide +kernel, by decide +kernel⟩
abbrev mX8_isMove : zMd := (yX8_isMove, cX8_isMove, 4, some .boolean, none)
theorem kX8_isMove : zMok mX8_isMove 4 := ⟨by decide +kernel, by decide, rfl, zG_of (List.mem_of_getElem? (i := 265) (by decide +kernel)) (by decide +kernel), by decide +kernel, by decide +kernel, by decide +kernel⟩
abbrev mX8_isPlace : zMd := (yX8_isPlace, cX8_isPlace, 1, some .boolean, none)
theorem kX8_isPlace : zMok mX8_isPlace 1 := ⟨by decide +kernel, by decide, rfl, zG_of (List.mem_of_getElem? (i := 268) (by decide +kernel)) (by decide +kernel), by decide +kernel, by decide +kernel, by decide +kernel⟩
abbrev mX8_kindOf : zMd := (yX8_kindOf, cX8_kindOf, 1, some .int, none)
theorem kX8_kindOf : zMok mX8_kindOf 1 := ⟨by decide +kernel, by decide, rfl, zG_of (List.mem_of_getElem? (i := 296) (by decide +kernel)) (by decide +kernel), by decide +kernel, by decide +kernel, by decide +kernel⟩
abbrev mX8_move : zMd := (yX8_move, cX8_move, 5, some .int, none)
theorem kX8_move : zMok mX8_move 3 := ⟨by decide +kernel, by decide, rfl, zG_of (List.mem_of_getElem? (i := 588) (by decide +kernel)) (by decide +kernel), by decide +kernel, by decide +kernel, by decide +kernel⟩
abbrev mX8_orderOf : zMd := (yX8_orderOf, cX8_orderOf, 2, some .int, none)
theorem kX8_orderOf : zMok mX8_orderOf 1 := ⟨by decide +kernel, by decide, rfl, zG_of (List.mem_of_getElem? (i := 598) (by decide +kernel)) (by decide +kernel), by decide +kernel, by decide +kernel, by decide +kernel⟩
abbrev mX8_read : zMd := (yX8_read, cX8_read, 2, some .int, none)
theorem kX8_read : zMok mX8_read 2 := ⟨by decide +kernel, by decide, rfl, zG_of (List.mem_of_getElem? (i := 275) (by decide +kernel)) (by decide +kernel), by decide +kernel, by decide +kernel, by decide +kernel⟩
abbrev mX8_release : zMd := (yX8_release, cX8_release, 3, some .int, none)
theorem kX8_release : zMok mX8_release 1 := ⟨by decide +kernel, by decide, rfl, zG_of (List.mem_of_getElem? (i := 445) (by decide +kernel)) (by decide +kernel), by decide +kernel, by decide +kernel, by decide +kernel⟩
abbrev mX8_restore : zMd := (yX8_restore, cX8_restore, 1, some .int, none)
theorem kX8_restore : zMok mX8_restore 0 := ⟨by decide +kernel, by decide, rfl, zG_of (List.mem_of_getElem? (i := 571) (by decide +kernel)) (by decide +kernel), by decide +kernel, by decide +kernel, by decide +kernel⟩
abbrev mX8_run : zMd := (yX8_run, cX8_run, 2, some .int, none)
theorem kX8_run : zMok mX8_run 0 := ⟨by decide +kernel, by decide, rfl, zG_of (List.mem_of_getElem? (i := 541) (by decide +kernel)) (by decide +kernel), by decide +kernel, by decide +kernel, by decide +kernel⟩
abbrev mX8_save : zMd := (yX8_save, cX8_save, 1, some .int, none)
theorem kX8_save : zMok mX8_save 0 := ⟨by decide +kernel, by decide, rfl, zG_of (List.mem_of_getElem? (i := 566) (by decide +kernel)) (by decide +kernel), by decide +kernel, by decide +kernel, by decide +kernel⟩
abbrev mX8_secondOf : zMd := (yX8_secondOf, cX8_secondOf, 1, some .int, none)
theorem kX8_secondOf : zMok mX8_secondOf 1 := ⟨by decide +kernel, by decide, rfl, zG_of (List.mem_of_getElem? (i := 387) (by decide +kernel)) (by decide +kernel), by decide +kernel, by decide +kernel, by decide +kernel⟩
abbrev mX8_timesUntilHome : zMd := (yX8_timesUntilHome, cX8_timesUntilHome, 3, some .int, none)
theorem kX8_timesUntilHome : zMok mX8_timesUntilHome 2 := ⟨by decide +kernel, by decide, rfl, zG_of (List.mem_of_getElem? (i := 601) (by decide +kernel)) (by decide +kernel), by decide +kernel, by decide +kernel, by decide +kernel⟩
abbrev mX8_total : zMd := (yX8_total, cX8_total, 2, some .int, none)
theorem kX8_total : zMok mX8_total 1 := ⟨by decide +kernel, by decide, rfl, zG_of (List.mem_of_getElem? (i := 652) (by decide +kernel)) (by decide +kernel), by decide +kernel, by decide +kernel, by decide +kernel⟩
abbrev mX8_tryOut : zMd := (yX8_tryOut, cX8_tryOut, 8, some .int, none)
theorem kX8_tryOut : zMok mX8_tryOut 3 := ⟨by decide +kernel, by decide, rfl, zG_of (List.mem_of_getElem? (i := 457) (by decide +kernel)) (by decide +kernel), by decide +kernel, by decide +kernel, by decide +kernel⟩
abbrev mX8_undo : zMd := (yX8_undo, cX8_undo, 1, some .int, none)
theorem kX8_undo : zMok mX8_undo 0 := ⟨by decide +kernel, by decide, rfl, zG_of (List.mem_of_getElem? (i := 554) (by decide +kernel)) (by decide +kernel), by decide +kernel, by decide +kernel, by decide +kernel⟩
abbrev mX8_undoing : zMd := (yX8_undoing, cX8_undoing, 4, some .int, none)
theorem kX8_undoing : zMok mX8_undoing 1 := ⟨by decide +kernel, by decide, rfl, zG_of (List.mem_of_getElem? (i := 465) (by decide +kernel)) (by decide +kernel), by decide +kernel, by decide +kernel, by decide +kernel⟩
abbrev mX8_wayHome : zMd := (yX8_wayHome, cX8_wayHome, 3, some .int, none)
theorem kX8_wayHome : zMok mX8_wayHome 1 := ⟨by decide +kernel, by decide, rfl, zG_of (List.mem_of_getElem? (i := 664) (by decide +kernel)) (by decide +kernel), by decide +kernel, by decide +kernel, by decide +kernel⟩
abbrev mX8_write : zMd := (yX8_write, cX8_write, 3, none, none)
theorem kX8_write : zMok mX8_write 3 := ⟨by decide +kernel, by decide, rfl, zG_of (List.mem_of_getElem? (i := 342) (by decide +kernel)) (by decide +kernel), by decide +kernel, by decide +kernel, by decide +kernel⟩
abbrev mX9_add : zMd := (yX9_add, cX9_add, 6, some .int, none)
theorem kX9_add : zMok mX9_add 4 := ⟨by decide +kernel, by decide, rfl, zG_of (List.mem_of_getElem? (i := 793) (by decide +kernel)) (by decide +kernel), by decide +kernel, by decide +kernel, by decide +kernel⟩
abbrev mX9_addAll : zMd := (yX9_addAll, cX9_addAll, 5, none, none)
theorem kX9_addAll : zMok mX9_addAll 2 := ⟨by decide +kernel, by decide, rfl, zG_of (List.mem_of_getElem? (i := 822) (by decide +kernel)) (by decide +kernel), by decide +kernel, by decide +kernel, by decide +kernel⟩
abbrev mX9_addStep : zMd := (yX9_addStep, cX9_addStep, 6, none, none)
theorem kX9_addStep : zMok mX9_addStep 4 := ⟨by decide +kernel, by decide, rfl, zG_of (List.mem_of_getElem? (i := 826) (by decide +kernel)) (by decide +kernel), by decide +kernel, by decide +kernel, by decide +kernel⟩
abbrev mX9_ahead : zMd := (yX9_ahead, cX9_ahead, 2, some .int, none)
theorem kX9_ahead : zMok mX9_ahead 2 := ⟨by decide +kernel, by decide, rfl, zG_of (List.mem_of_getElem? (i := 851) (by decide +kernel)) (by decide +kernel), by decide +kernel, by decide +kernel, by decide +kernel⟩
abbrev mX9_alike : zMd := (yX9_alike, cX9_alike, 5, some .int, none)
theorem kX9_alike : zMok mX9_alike 2 := ⟨by decide +kernel, by decide, rfl, zG_of (List.mem_of_getElem? (i := 986) (by decide +kernel)) (by decide +kernel), by decide +kernel, by decide +kernel, by decide +kernel⟩
abbrev mX9_append : zMd := (yX9_append, cX9_append, 2, some .int, none)
theorem kX9_append : zMok mX9_append 1 := ⟨by decide +kernel, by decide, rfl, zG_of (List.mem_of_getElem? (i := 899) (by decide +kernel)) (by decide +kernel), by decide +kernel, by decide +kernel, by decide +kernel⟩
abbrev mX9_apply : zMd := (yX9_apply, cX9_apply, 4, none, none)
theorem kX9_apply : zMok mX9_apply 1 := ⟨by decide +kernel, by decide, rfl, zG_of (List.mem_of_getElem? (i := 1022) (by decide +kernel)) (by decide +kernel), by decide +kernel, by decide +kernel, by decide +kernel⟩
abbrev mX9_areNeighbors : zMd := (yX9_areNeighbors, cX9_areNeighbors, 2, some .boolean, none)
theorem kX9_areNeighbors : zMok mX9_areNeighbors 2 := ⟨by decide +kernel, by decide, rfl, zG_of (List.mem_of_getElem? (i := 848) (by decide +kernel)) (by decide +kernel), by decide +kernel, by decide +kernel, by decide +kernel⟩
abbrev mX9_at : zMd := (yX9_at, cX9_at, 2, some .int, none)
theorem kX9_at : zMok mX9_at 1 := ⟨by decide +kernel, by decide, rfl, zG_of (List.mem_of_getElem? (i := 931) (by decide +kernel)) (by decide +kernel), by decide +kernel, by decide +kernel, by decide +kernel⟩
abbrev mX9_atHome : zMd := (yX9_atHome, cX9_atHome, 4, some .int, none)
theorem kX9_atHome : zMok mX9_atHome 1 := ⟨by decide +kernel, by decide, rfl, zG_of (List.mem_of_getElem? (i := 781) (by decide +kernel)) (by decide +kernel), by decide +kernel, by decide +kernel, by decide +kernel⟩
abbrev mX9_back : zMd := (yX9_back, cX9_back, 6, some .int, none)
theorem kX9_back : zMok mX9_back 2 := ⟨by decide +kernel, by decide, rfl, zG_of (List.mem_of_getElem? (i := 959) (by decide +kernel)) (by decide +kernel), by decide +kernel, by decide +kernel, by decide +kernel⟩
abbrev mX9_begin : zMd := (yX9_begin, cX9_begin, 2, none, none)
theorem kX9_begin : zMok mX9_begin 0 := ⟨by decide +kernel, by decide, rfl, zG_of (List.mem_of_getElem? (i := 1014) (by decide +kernel)) (by decide +kernel), by decide +kernel, by decide +kernel, by decide +kernel⟩
abbrev mX9_blockedAt : zMd := (yX9_blockedAt, cX9_blockedAt, 4, some .int, none)
theorem kX9_blockedAt : zMok mX9_blockedAt 2 := ⟨by decide +kernel, by decide, rfl, zG_of (List.mem_of_getElem? (i := 1006) (by decide +kernel)) (by decide +kernel), by decide +kernel, by decide +kernel, by decide +kernel⟩
abbrev mX9_calledBy : zMd := (yX9_calledBy, cX9_calledBy, 5, some .int, none)
theorem kX9_calledBy : zMok mX9_calledBy 1 := ⟨by decide +kernel, by decide, rfl, zG_of (List.mem_of_getElem? (i := 974) (by decide +kernel)) (by decide +kernel), by decide +kernel, by decide +kernel, by decide +kernel⟩
abbrev mX9_callers : zMd := (yX9_callers, cX9_callers, 4, some .int, none)
theorem kX9_callers : zMok mX9_callers 1 := ⟨by decide +kernel, by decide, rfl, zG_of (List.mem_of_getElem? (i := 978) (by decide +kernel)) (by decide +kernel), by decide +kernel, by decide +kernel, by decide +kernel⟩
abbrev mX9_clearText : zMd := (yX9_clearText, cX9_clearText, 2, some .int, none)
theorem kX9_clearText : zMok mX9_clearText 0 := ⟨by decide +kernel, by decide, rfl, zG_of (List.mem_of_getElem? (i := 903) (by decide +kernel)) (by decide +kernel), by decide +kernel, by decide +kernel, by decide +kernel⟩
abbrev mX9_commute : zMd := (yX9_commute, cX9_commute, 9, some .int, none)
theorem kX9_commute : zMok mX9_commute 2 := ⟨by decide +kernel, by decide, rfl, zG_of (List.mem_of_getElem? (i := 990) (by decide +kernel)) (by decide +kernel), by decide +kernel, by decide +kernel, by decide +kernel⟩
abbrev mX9_count : zMd := (yX9_count, cX9_count, 2, some .int, none)
theorem kX9_count : zMok mX9_count 1 := ⟨by decide +kernel, by decide, rfl, zG_of (List.mem_of_getElem? (i := 994) (by decide +kernel)) (by decide +kernel), by decide +kernel, by decide +kernel, by decide +kernel⟩
abbrev mX9_dance : zMd := (yX9_dance, cX9_dance, 5, some .int, none)
theorem kX9_dance : zMok mX9_dance 3 := ⟨by decide +kernel, by decide, rfl, zG_of (List.mem_of_getElem? (i := 863) (by decide +kernel)) (by decide +kernel), by decide +kernel, by decide +kernel, by decide +kernel⟩
abbrev mX9_danceNow : zMd := (yX9_danceNow, cX9_danceNow, 5, some .int, none)
theorem kX9_danceNow : zMok mX9_danceNow 3 := ⟨by decide +kernel, by decide, rfl, zG_of (List.mem_of_getElem? (i := 891) (by decide +kernel)) (by decide +kernel), by decide +kernel, by decide +kernel, by decide +kernel⟩
abbrev mX9_dancer : zMd := (yX9_dancer, cX9_dancer, 3, some .int, none)
theorem kX9_dancer : zMok mX9_dancer 2 := ⟨by decide +kernel, by decide, rfl, zG_of (List.mem_of_getElem? (i := 927) (by decide +kernel)) (by decide +kernel), by decide +kernel, by decide +kernel, by decide +kernel⟩
abbrev mX9_distance : zMd := (yX9_distance, cX9_distance, 4, some .double, none)
theorem kX9_distance : zMok mX9_distance 0 := ⟨by decide +kernel, by decide, rfl, zG_of (List.mem_of_getElem? (i := 1034) (by decide +kernel)) (by decide +kernel), by decide +kernel, by decide +kernel, by decide +kernel⟩
abbrev mX9_drop : zMd := (yX9_drop, cX9_drop, 3, some .int, none)
theorem kX9_drop : zMok mX9_drop 1 := ⟨by decide +kernel, by decide, rfl, zG_of (List.mem_of_getElem? (i := 834) (by decide +kernel)) (by decide +kernel), by decide +kernel, by decide +kernel, by decide +kernel⟩
abbrev mX9_effect : zMd := (yX9_effect, cX9_effect, 4, some .int, none)
theorem kX9_effect : zMok mX9_effect 3 := ⟨by decide +kernel, by decide, rfl, zG_of (List.mem_of_getElem? (i := 982) (by decide +kernel)) (by decide +kernel), by decide +kernel, by decide +kernel, by decide +kernel⟩
abbrev mX9_fault : zMd := (yX9_fault, cX9_fault, 1, some .int, none)
theorem kX9_fault : zMok mX9_fault 0 := ⟨by decide +kernel, by decide, rfl, zG_of (List.mem_of_getElem? (i := 907) (by decide +kernel)) (by decide +kernel), by decide +kernel, by decide +kernel, by decide +kernel⟩
abbrev mX9_figure : zMd := (yX9_figure, cX9_figure, 3, some .int, none)
theorem kX9_figure : zMok mX9_figure 2 := ⟨by decide +kernel, by decide, rfl, zG_of (List.mem_of_getElem? (i := 939) (by decide +kernel)) (by decide +kernel), by decide +kernel, by decide +kernel, by decide +kernel⟩
abbrev mX9_figuresWithMoves : zMd := (yX9_figuresWithMoves, cX9_figuresWithMoves, 3, some .int, none)
theorem kX9_figuresWithMoves : zMok mX9_figuresWithMoves 0 := ⟨by decide +kernel, by decide, rfl, zG_of (List.mem_of_getElem? (i := 998) (by decide +kernel)) (by decide +kernel), by decide +kernel, by decide +kernel, by decide +kernel⟩
abbrev mX9_follow : zMd := (yX9_follow, cX9_follow, 4, none, none)
theorem kX9_follow : zMok mX9_follow 1 := ⟨by decide +kernel, by decide, rfl, zG_of (List.mem_of_getElem? (i := 951) (by decide +kernel)) (by decide +kernel), by decide +kernel, by decide +kernel, by decide +kernel⟩
abbrev mX9_followAll : zMd := (yX9_followAll, cX9_followAll, 2, none, none)
theorem kX9_followAll : zMok mX9_followAll 0 := ⟨by decide +kernel, by decide, rfl, zG_of (List.mem_of_getElem? (i := 947) (by decide +kernel)) (by decide +kernel), by decide +kernel, by decide +kernel, by decide +kernel⟩
abbrev mX9_go : zMd := (yX9_go, cX9_go, 6, some .int, none)
theorem kX9_go : zMok mX9_go 3 := ⟨by decide +kernel, by decide, rfl, zG_of (List.mem_of_getElem? (i := 867) (by decide +kernel)) (by decide +kernel), by decide +kernel, by decide +kernel, by decide +kernel⟩
abbrev mX9_goBack : zMd := (yX9_goBack, cX9_goBack, 2, none, none)
theorem kX9_goBack : zMok mX9_goBack 0 := ⟨by decide +kernel, by decide, rfl, zG_of (List.mem_of_getElem? (i := 887) (by decide +kernel)) (by decide +kernel), by decide +kernel, by decide +kernel, by decide +kernel⟩
abbrev mX9_goHome : zMd := (yX9_goHome, cX9_goHome, 4, some .int, none)
theorem kX9_goHome : zMok mX9_goHome 0 := ⟨by decide +kernel, by decide, rfl, zG_of (List.mem_of_getElem? (i := 895) (by decide +kernel)) (by decide +kernel), by decide +kernel, by decide +kernel, by decide +kernel⟩
abbrev mX9_hold : zMd := (yX9_hold, cX9_hold, 3, some .int, none)
theorem kX9_hold : zMok mX9_hold 2 := ⟨by decide +kernel, by decide, rfl, zG_of (List.mem_of_getElem? (i := 838) (by decide +kernel)) (by decide +kernel), by decide +kernel, by decide +kernel, by decide +kernel⟩
abbrev mX9_homeIn : zMd := (yX9_homeIn, cX9_homeIn, 4, some .int, none)
theorem kX9_homeIn : zMok mX9_homeIn 1 := ⟨by decide +kernel, by decide, rfl, zG_of (List.mem_of_getElem? (i := 1010) (by decide +kernel)) (by decide +kernel), by decide +kernel, by decide +kernel, by decide +kernel⟩
abbrev mX9_in : zMd := (yX9_in, cX9_in, 3, some .boolean, none)
theorem kX9_in : zMok mX9_in 3 := ⟨by decide +kernel, by decide, rfl, zG_of (List.mem_of_getElem? (i := 799) (by decide +kernel)) (by decide +kernel), by decide +kernel, by decide +kernel, by decide +kernel⟩
abbrev mX9_init : zMd := (yX9_init, cX9_init, 2, none, none)
theorem kX9_init : zMok mX9_init 0 := ⟨by decide +kernel, by decide, rfl, zG_of (List.mem_of_getElem? (i := 700) (by decide +kernel)) (by decide +kernel), by decide +kernel, by decide +kernel, by decide +kernel⟩
abbrev mX9_isAllowed : zMd := (yX9_isAllowed, cX9_isAllowed, 4, some .boolean, none)
theorem kX9_isAllowed : zMok mX9_isAllowed 0 := ⟨by decide +kernel, by decide, rfl, zG_of (List.mem_of_getElem? (i := 879) (by decide +kernel)) (by decide +kernel), by decide +kernel, by decide +kernel, by decide +kernel⟩
abbrev mX9_isDancer : zMd := (yX9_isDancer, cX9_isDancer, 1, some .boolean, none)
theorem kX9_isDancer : zMok mX9_isDancer 1 := ⟨by decide +kernel, by decide, rfl, zG_of (List.mem_of_getElem? (i := 841) (by decide +kernel)) (by decide +kernel), by decide +kernel, by decide +kernel, by decide +kernel⟩
abbrev mX9_isFigure : zMd := (yX9_isFigure, cX9_isFigure, 1, some .boolean, none)
theorem kX9_isFigure : zMok mX9_isFigure 1 := ⟨by decide +kernel, by decide, rfl, zG_of (List.mem_of_getElem? (i := 796) (by decide +kernel)) (by decide +kernel), by decide +kernel, by decide +kernel, by decide +kernel⟩
abbrev mX9_isHome : zMd := (yX9_isHome, cX9_isHome, 3, some .boolean, none)
theorem kX9_isHome : zMok mX9_isHome 0 := ⟨by decide +kernel, by decide, rfl, zG_of (List.mem_of_getElem? (i := 1018) (by decide +kernel)) (by decide +kernel), by decide +kernel, by decide +kernel, by decide +kernel⟩
abbrev mX9_isMove : zMd := (yX9_isMove, cX9_isMove, 4, some .boolean, none)
theorem kX9_isMove : zMok mX9_isMove 4 := ⟨by decide +kernel, by decide, rfl, zG_of (List.mem_of_getElem? (i := 802) (by decide +kernel)) (by decide +kernel), by decide +kernel, by decide +kernel, by decide +kernel⟩
abbrev mX9_isRoom : zMd := (yX9_isRoom, cX9_isRoom, 6, some .boolean, none)
theorem kX9_isRoom : zMok mX9_isRoom 2 := ⟨by decide +kernel, by decide, rfl, zG_of (List.mem_of_getElem? (i := 830) (by decide +kernel)) (by decide +kernel), by decide +kernel, by decide +kernel, by decide +kernel⟩
abbrev mX9_isScript : zMd := (yX9_isScript, cX9_isScript, 2, some .boolean, none)
theorem kX9_isScript : zMok mX9_isScript 0 := ⟨by decide +kernel, by decide, rfl, zG_of (List.mem_of_getElem? (i := 911) (by decide +kernel)) (by decide +kernel), by decide +kernel, by decide +kernel, by decide +kernel⟩
abbrev mX9_lay : zMd := (yX9_lay, cX9_lay, 7, none, none)
theorem kX9_lay : zMok mX9_lay 3 := ⟨by decide +kernel, by decide, rfl, zG_of (List.mem_of_getElem? (i := 875) (by decide +kernel)) (by decide +kernel), by decide +kernel, by decide +kernel, by decide +kernel⟩
abbrev mX9_layStep : zMd := (yX9_layStep, cX9_layStep, 8, none, none)
theorem kX9_layStep : zMok mX9_layStep 3 := ⟨by decide +kernel, by decide, rfl, zG_of (List.mem_of_getElem? (i := 871) (by decide +kernel)) (by decide +kernel), by decide +kernel, by decide +kernel, by decide +kernel⟩
abbrev mX9_make : zMd := (yX9_make, cX9_make, 3, none, none)
theorem kX9_make : zMok mX9_make 0 := ⟨by decide +kernel, by decide, rfl, zG_of (List.mem_of_getElem? (i := 883) (by decide +kernel)) (by decide +kernel), by decide +kernel, by decide +kernel, by decide +kernel⟩
abbrev mX9_move : zMd := (yX9_move, cX9_move, 4, some .int, none)
theorem kX9_move : zMok mX9_move 3 := ⟨by decide +kernel, by decide, rfl, zG_of (List.mem_of_getElem? (i := 935) (by decide +kernel)) (by decide +kernel), by decide +kernel, by decide +kernel, by decide +kernel⟩
abbrev mX9_moved : zMd := (yX9_moved, cX9_moved, 6, some .int, none)
theorem kX9_moved : zMok mX9_moved 2 := ⟨by decide +kernel, by decide, rfl, zG_of (List.mem_of_getElem? (i := 966) (by decide +kernel)) (by decide +kernel), by decide +kernel, by decide +kernel, by decide +kernel⟩
abbrev mX9_moves : zMd := (yX9_moves, cX9_moves, 2, some .int, none)
theorem kX9_moves : zMok mX9_moves 1 := ⟨by decide +kernel, by decide, rfl, zG_of (List.mem_of_getElem? (i := 806) (by decide +kernel)) (by decide +kernel), by decide +kernel, by decide +kernel, by decide +kernel⟩
abbrev mX9_multiple : zMd := (yX9_multiple, cX9_multiple, 3, some .int, none)
theorem kX9_multiple : zMok mX9_multiple 2 := ⟨by decide +kernel, by decide, rfl, zG_of (List.mem_of_getElem? (i := 962) (by decide +kernel)) (by decide +kernel), by decide +kernel, by decide +kernel, by decide +kernel⟩
abbrev mX9_odd : zMd := (yX9_odd, cX9_odd, 5, some .int, none)
theorem kX9_odd : zMok mX9_odd 1 := ⟨by decide +kernel, by decide, rfl, zG_of (List.mem_of_getElem? (i := 970) (by decide +kernel)) (by decide +kernel), by decide +kernel, by decide +kernel, by decide +kernel⟩
abbrev mX9_ofFigure : zMd := (yX9_ofFigure, cX9_ofFigure, 3, some .int, none)
theorem kX9_ofFigure : zMok mX9_ofFigure 2 := ⟨by decide +kernel, by decide, rfl, zG_of (List.mem_of_getElem? (i := 943) (by decide +kernel)) (by decide +kernel), by decide +kernel, by decide +kernel, by decide +kernel⟩
abbrev mX9_ofMove : zMd := (yX9_ofMove, cX9_ofMove, 4, some .int, none)
theorem kX9_ofMove : zMok mX9_ofMove 3 := ⟨by decide +kernel, by decide, rfl, zG_of (List.mem_of_getElem? (i := 818) (by decide +kernel)) (by decide +kernel), by decide +kernel, by decide +kernel, by decide +kernel⟩
abbrev mX9_order : zMd := (yX9_order, cX9_order, 4, some .int, none)
theorem kX9_order : zMok mX9_order 1 := ⟨by decide +kernel, by decide, rfl, zG_of (List.mem_of_getElem? (i := 955) (by decide +kernel)) (by decide +kernel), by decide +kernel, by decide +kernel, by decide +kernel⟩
abbrev mX9_pairs : zMd := (yX9_pairs, cX9_pairs, 3, some .int, none)
theorem kX9_pairs : zMok mX9_pairs 0 := ⟨by decide +kernel, by decide, rfl, zG_of (List.mem_of_getElem? (i := 855) (by decide +kernel)) (by decide +kernel), by decide +kernel, by decide +kernel, by decide +kernel⟩
abbrev mX9_placeOf : zMd := (yX9_placeOf, cX9_placeOf, 4, some .int, none)
theorem kX9_placeOf : zMok mX9_placeOf 1 := ⟨by decide +kernel, by decide, rfl, zG_of (List.mem_of_getElem? (i := 845) (by decide +kernel)) (by decide +kernel), by decide +kernel, by decide +kernel, by decide +kernel⟩
abbrev mX9_readCall : zMd := (yX9_readCall, cX9_readCall, 1, some .boolean, none)
theorem kX9_readCall : zMok mX9_readCall 0 := ⟨by decide +kernel, by decide, rfl, zG_of (List.mem_of_getElem? (i := 915) (by decide +kernel)) (by decide +kernel), by decide +kernel, by decide +kernel, by decide +kernel⟩
abbrev mX9_record : zMd := (yX9_record, cX9_record, 2, none, none)
theorem kX9_record : zMok mX9_record 0 := ⟨by decide +kernel, by decide, rfl, zG_of (List.mem_of_getElem? (i := 789) (by decide +kernel)) (by decide +kernel), by decide +kernel, by decide +kernel, by decide +kernel⟩
abbrev mX9_release : zMd := (yX9_release, cX9_release, 3, some .int, none)
theorem kX9_release : zMok mX9_release 1 := ⟨by decide +kernel, by decide, rfl, zG_of (List.mem_of_getElem? (i := 859) (by decide +kernel)) (by decide +kernel), by decide +kernel, by decide +kernel, by decide +kernel⟩
abbrev mX9_restore : zMd := (yX9_restore, cX9_restore, 2, some .int, none)
theorem kX9_restore : zMok mX9_restore 0 := ⟨by decide +kernel, by decide, rfl, zG_of (List.mem_of_getElem? (i := 785) (by decide +kernel)) (by decide +kernel), by decide +kernel, by decide +kernel, by decide +kernel⟩
abbrev mX9_run : zMd := (yX9_run, cX9_run, 3, some .int, none)
theorem kX9_run : zMok mX9_run 0 := ⟨by decide +kernel, by decide, rfl, zG_of (List.mem_of_getElem? (i := 923) (by decide +kernel)) (by decide +kernel), by decide +kernel, by decide +kernel, by decide +kernel⟩
abbrev mX9_save : zMd := (yX9_save, cX9_save, 2, some .int, none)
theorem kX9_save : zMok mX9_save 0 := ⟨by decide +kernel, by decide, rfl, zG_of (List.mem_of_getElem? (i := 777) (by decide +kernel)) (by decide +kernel), by decide +kernel, by decide +kernel, by decide +kernel⟩
abbrev mX9_shortest : zMd := (yX9_shortest, cX9_shortest, 4, some .int, none)
theorem kX9_shortest : zMok mX9_shortest 0 := ⟨by decide +kernel, by decide, rfl, zG_of (List.mem_of_getElem? (i := 1030) (by decide +kernel)) (by decide +kernel), by decide +kernel, by decide +kernel, by decide +kernel⟩
abbrev mX9_stepsOf : zMd := (yX9_stepsOf, cX9_stepsOf, 2, some .int, none)
theorem kX9_stepsOf : zMok mX9_stepsOf 1 := ⟨by decide +kernel, by decide, rfl, zG_of (List.mem_of_getElem? (i := 810) (by decide +kernel)) (by decide +kernel), by decide +kernel, by decide +kernel, by decide +kernel⟩
abbrev mX9_takes : zMd := (yX9_takes, cX9_takes, 4, some .boolean, none)
theorem kX9_takes : zMok mX9_takes 2 := ⟨by decide +kernel, by decide, rfl, zG_of (List.mem_of_getElem? (i := 919) (by decide +kernel)) (by decide +kernel), by decide +kernel, by decide +kernel, by decide +kernel⟩
abbrev mX9_total : zMd := (yX9_total, cX9_total, 2, some .int, none)
theorem kX9_total : zMok mX9_total 1 := ⟨by decide +kernel, by decide, rfl, zG_of (List.mem_of_getElem? (i := 1002) (by decide +kernel)) (by decide +kernel), by decide +kernel, by decide +kernel, by decide +kernel⟩
abbrev mX9_undo : zMd := (yX9_undo, cX9_undo, 2, some .int, none)
theorem kX9_undo : zMok mX9_undo 0 := ⟨by decide +kernel, by decide, rfl, zG_of (List.mem_of_getElem? (i := 773) (by decide +kernel)) (by decide +kernel), by decide +kernel, by decide +kernel, by decide +kernel⟩
abbrev mX9_unroll : zMd := (yX9_unroll, cX9_unroll, 3, none, none)
theorem kX9_unroll : zMok mX9_unroll 0 := ⟨by decide +kernel, by decide, rfl, zG_of (List.mem_of_getElem? (i := 814) (by decide +kernel)) (by decide +kernel), by decide +kernel, by decide +kernel, by decide +kernel⟩
abbrev mX9_wayHome : zMd := (yX9_wayHome, cX9_wayHome, 4, some .int, none)
theorem kX9_wayHome : zMok mX9_wayHome 1 := ⟨by decide +kernel, by decide, rfl, zG_of (List.mem_of_getElem? (i := 1026) (by decide +kernel)) (by decide +kernel), by decide +kernel, by decide +kernel, by decide +kernel⟩
theorem oX8_1 : zLo RX8 1 := ⟨zG_of (List.mem_of_getElem? (i := 67) (by decide +kernel)) (by decide +kernel), zG_of (List.mem_of_getElem? (i := 68) (by decide +kernel)) (by decide +kernel), zG_of (List.mem_of_getElem? (i := 69) (by decide +kernel)) (by decide +kernel)⟩
theorem nX8_7 : zLn RX8 7 7 := ⟨by decide, zG_of (List.mem_of_getElem? (i := 70) (by decide +kernel)) (by decide +kernel), zG_of (List.mem_of_getElem? (i := 71) (by decide +kernel)) (by decide +kernel), zG_of (List.mem_of_getElem? (i := 51) (by decide +kernel)) (by decide +kernel)⟩
theorem lX8_9 : zLi RX8 9 yX7_init := ⟨zG_of (List.mem_of_getElem? (i := 73) (by decide +kernel)) (by decide +kernel), rfl, zG_of (List.mem_of_getElem? (i := 51) (by decide +kernel)) (by decide +kernel), Or.inr ⟨"DanceFigures", List.mem_of_getElem? (i := 72) (by decide +kernel)⟩⟩
theorem fX8_10 : zFp RX8 10 8 0 := ⟨by decide, by decide, rfl, List.mem_of_getElem? (i := 228) (by decide +kernel), by decide +kernel⟩
theorem fX8_16 : zFp RX8 16 8 1 := ⟨by decide, by decide, rfl, List.mem_of_getElem? (i := 229) (by decide +kernel), by decide +kernel⟩
theorem fX8_19 : zFp RX8 19 8 2 := ⟨by decide, by decide, rfl, List.mem_of_getElem? (i := 230) (by decide +kernel), by decide +kernel⟩
theorem nX8_23 : zLn RX8 23 1 := ⟨by decide, zG_of (List.mem_of_getElem? (i := 151) (by decide +kernel)) (by decide +kernel), zG_of (List.mem_of_getElem? (i := 152) (by decide +kernel)) (by decide +kernel), zG_of (List.mem_of_getElem? (i := 55) (by decide +kernel)) (by decide +kernel)⟩
theorem lX8_25 : zLi RX8 25 yX1_init := ⟨zG_of (List.mem_of_getElem? (i := 154) (by decide +kernel)) (by decide +kernel), rfl, zG_of (List.mem_of_getElem? (i := 55) (by decide +kernel)) (by decide +kernel), Or.inl (zG_of (List.mem_of_getElem? (i := 153) (by decide +kernel)) (by decide +kernel))⟩
theorem fX8_26 : zFp RX8 26 8 3 := ⟨by decide, by decide, rfl, List.mem_of_getElem? (i := 231) (by decide +kernel), by decide +kernel⟩
theorem nX8_30 : zLn RX8 30 5 := ⟨by decide, zG_of (List.mem_of_getElem? (i := 170) (by decide +kernel)) (by decide +kernel), zG_of (List.mem_of_getElem? (i := 171) (by decide +kernel)) (by decide +kernel), zG_of (List.mem_of_getElem? (i := 56) (by decide +kernel)) (by decide +kernel)⟩
theorem lX8_32 : zLi RX8 32 yX5_init := ⟨zG_of (List.mem_of_getElem? (i := 173) (by decide +kernel)) (by decide +kernel), rfl, zG_of (List.mem_of_getElem? (i := 56) (by decide +kernel)) (by decide +kernel), Or.inr ⟨"DanceFigures", List.mem_of_getElem? (i := 172) (by decide +kernel)⟩⟩
theorem fX8_33 : zFp RX8 33 8 4 := ⟨by decide, by decide, rfl, List.mem_of_getElem? (i := 232) (by decide +kernel), by decide +kernel⟩
theorem nX8_37 : zLn RX8 37 3 := ⟨by decide, zG_of (List.mem_of_getElem? (i := 183) (by decide +kernel)) (by decide +kernel), zG_of (List.mem_of_getElem? (i := 184) (by decide +kernel)) (by decide +kernel), zG_of (List.mem_of_getElem? (i := 57) (by decide +kernel)) (by decide +kernel)⟩
theorem lX8_39 : zLi RX8 39 yX3_init := ⟨zG_of (List.mem_of_getElem? (i := 186) (by decide +kernel)) (by decide +kernel), rfl, zG_of (List.mem_of_getElem? (i := 57) (by decide +kernel)) (by decide +kernel), Or.inl (zG_of (List.mem_of_getElem? (i := 185) (by decide +kernel)) (by decide +kernel))⟩
theorem fX8_40 : zFp RX8 40 8 5 := ⟨by decide, by decide, rfl, List.mem_of_getElem? (i := 233) (by decide +kernel), by decide +kernel⟩
theorem nX8_44 : zLn RX8 44 6 := ⟨by decide, zG_of (List.mem_of_getElem? (i := 211) (by decide +kernel)) (by decide +kernel), zG_of (List.mem_of_getElem? (i := 212) (by decide +kernel)) (by decide +kernel), zG_of (List.mem_of_getElem? (i := 58) (by decide +kernel)) (by decide +kernel)⟩
theorem lX8_46 : zLi RX8 46 yX6_init := ⟨zG_of (List.mem_of_getElem? (i := 214) (by decide +kernel)) (by decide +kernel), rfl, zG_of (List.mem_of_getElem? (i := 58) (by decide +kernel)) (by decide +kernel), Or.inl (zG_of (List.mem_of_getElem? (i := 213) (by decide +kernel)) (by decide +kernel))⟩
theorem fX8_47 : zFp RX8 47 8 6 := ⟨by decide, by decide, rfl, List.mem_of_getElem? (i := 234) (by decide +kernel), by decide +kernel⟩
theorem nX8_51 : zLn RX8 51 4 := ⟨by decide, zG_of (List.mem_of_getElem? (i := 226) (by decide +kernel)) (by decide +kernel), zG_of (List.mem_of_getElem? (i := 77) (by decide +kernel)) (by decide +kernel), zG_of (List.mem_of_getElem? (i := 52) (by decide +kernel)) (by decide +kernel)⟩
theorem lX8_53 : zLi RX8 53 yX4_init := ⟨zG_of (List.mem_of_getElem? (i := 79) (by decide +kernel)) (by decide +kernel), rfl, zG_of (List.mem_of_getElem? (i := 52) (by decide +kernel)) (by decide +kernel), Or.inl (zG_of (List.mem_of_getElem? (i := 227) (by decide +kernel)) (by decide +kernel))⟩
theorem fX8_54 : zFp RX8 54 8 7 := ⟨by decide, by decide, rfl, List.mem_of_getElem? (i := 235) (by decide +kernel), by decide +kernel⟩
theorem fX8_58 : zFp RX8 58 8 8 := ⟨by decide, by decide, rfl, List.mem_of_getElem? (i := 236) (by decide +kernel), by decide +kernel⟩
theorem lX8_61 : zLs RX8 61 yX8_isFigure := ⟨zG_of (List.mem_of_getElem? (i := 261) (by decide +kernel)) (by decide +kernel), zG_of (List.mem_of_getElem? (i := 50) (by decide +kernel)) (by decide +kernel), Or.inl (zG_of (List.mem_of_getElem? (i := 260) (by decide +kernel)) (by decide +kernel))⟩
theorem lX8_65 : zLs RX8 65 yX8_isMove := ⟨zG_of (List.mem_of_getElem? (i := 264) (by decide +kernel)) (by decide +kernel), zG_of (List.mem_of_getElem? (i := 50) (by decide +kernel)) (by decide +kernel), Or.inl (zG_of (List.mem_of_getElem? (i := 263) (by decide +kernel)) (by decide +kernel))⟩
theorem fX8_69 : zFl RX8 69 7 2 := ⟨by decide, by decide, rfl, Or.inr ⟨"DanceFigures", List.mem_of_getElem? (i := 131) (by decide +kernel)⟩⟩
theorem lX8_73 : zLv RX8 73 yX3_stepCount := ⟨zG_of (List.mem_of_getElem? (i := 270) (by decide +kernel)) (by decide +kernel), zG_of (List.mem_of_getElem? (i := 271) (by decide +kernel)) (by decide +kernel), zG_of (List.mem_of_getElem? (i := 57) (by decide +kernel)) (by decide +kernel), Or.inl (zG_of (List.mem_of_getElem? (i := 269) (by decide +kernel)) (by decide +kernel))⟩
theorem lX8_77 : zLv RX8 77 yX0_size := ⟨zG_of (List.mem_of_getElem? (i := 277) (by decide +kernel)) (by decide +kernel), zG_of (List.mem_of_getElem? (i := 278) (by decide +kernel)) (by decide +kernel), zG_of (List.mem_of_getElem? (i := 54) (by decide +kernel)) (by decide +kernel), Or.inl (zG_of (List.mem_of_getElem? (i := 276) (by decide +kernel)) (by decide +kernel))⟩
theorem lX8_82 : zLv RX8 82 yX3_hasRoom := ⟨zG_of (List.mem_of_getElem? (i := 282) (by decide +kernel)) (by decide +kernel), zG_of (List.mem_of_getElem? (i := 283) (by decide +kernel)) (by decide +kernel), zG_of (List.mem_of_getElem? (i := 57) (by decide +kernel)) (by decide +kernel), Or.inl (zG_of (List.mem_of_getElem? (i := 281) (by decide +kernel)) (by decide +kernel))⟩
theorem lX8_86 : zLv RX8 86 yX1_keep := ⟨zG_of (List.mem_of_getElem? (i := 301) (by decide +kernel)) (by decide +kernel), zG_of (List.mem_of_getElem? (i := 302) (by decide +kernel)) (by decide +kernel), zG_of (List.mem_of_getElem? (i := 55) (by decide +kernel)) (by decide +kernel), Or.inl (zG_of (List.mem_of_getElem? (i := 300) (by decide +kernel)) (by decide +kernel))⟩
theorem lX8_90 : zLs RX8 90 yX8_codeOf := ⟨zG_of (List.mem_of_getElem? (i := 333) (by decide +kernel)) (by decide +kernel), zG_of (List.mem_of_getElem? (i := 50) (by decide +kernel)) (by decide +kernel), Or.inl (zG_of (List.mem_of_getElem? (i := 332) (by decide +kernel)) (by decide +kernel))⟩
theorem lX8_94 : zLv RX8 94 yX0_put := ⟨zG_of (List.mem_of_getElem? (i := 336) (by decide +kernel)) (by decide +kernel), zG_of (List.mem_of_getElem? (i := 337) (by decide +kernel)) (by decide +kernel), zG_of (List.mem_of_getElem? (i := 54) (by decide +kernel)) (by decide +kernel), Or.inl (zG_of (List.mem_of_getElem? (i := 335) (by decide +kernel)) (by decide +kernel))⟩
theorem lX8_98 : zLv RX8 98 yX3_workOut := ⟨zG_of (List.mem_of_getElem? (i := 344) (by decide +kernel)) (by decide +kernel), zG_of (List.mem_of_getElem? (i := 345) (by decide +kernel)) (by decide +kernel), zG_of (List.mem_of_getElem? (i := 57) (by decide +kernel)) (by decide +kernel), Or.inl (zG_of (List.mem_of_getElem? (i := 343) (by decide +kernel)) (by decide +kernel))⟩
theorem lX8_102 : zLv RX8 102 yX0_cut := ⟨zG_of (List.mem_of_getElem? (i := 411) (by decide +kernel)) (by decide +kernel), zG_of (List.mem_of_getElem? (i := 412) (by decide +kernel)) (by decide +kernel), zG_of (List.mem_of_getElem? (i := 54) (by decide +kernel)) (by decide +kernel), Or.inl (zG_of (List.mem_of_getElem? (i := 410) (by decide +kernel)) (by decide +kernel))⟩
theorem lX8_106 : zLs RX8 106 yX8_isPlace := ⟨zG_of (List.mem_of_getElem? (i := 267) (by decide +kernel)) (by decide +kernel), zG_of (List.mem_of_getElem? (i := 50) (by decide +kernel)) (by decide +kernel), Or.inl (zG_of (List.mem_of_getElem? (i := 266) (by decide +kernel)) (by decide +kernel))⟩
theorem fX8_109 : zFl RX8 109 7 1 := ⟨by decide, by decide, rfl, Or.inr ⟨"DanceFigures", List.mem_of_getElem? (i := 129) (by decide +kernel)⟩⟩
theorem lX8_113 : zLv RX8 113 yX2_partner := ⟨zG_of (List.mem_of_getElem? (i := 419) (by decide +kernel)) (by decide +kernel), zG_of (List.mem_of_getElem? (i := 420) (by decide +kernel)) (by decide +kernel), zG_of (List.mem_of_getElem? (i := 53) (by decide +kernel)) (by decide +kernel), Or.inl (zG_of (List.mem_of_getElem? (i := 418) (by decide +kernel)) (by decide +kernel))⟩
theorem fX8_118 : zFl RX8 118 7 0 := ⟨by decide, by decide, rfl, Or.inr ⟨"DanceFigures", List.mem_of_getElem? (i := 127) (by decide +kernel)⟩⟩
theorem lX8_121 : zLv RX8 121 yX4_placeOf := ⟨zG_of (List.mem_of_getElem? (i := 424) (by decide +kernel)) (by decide +kernel), zG_of (List.mem_of_getElem? (i := 425) (by decide +kernel)) (by decide +kernel), zG_of (List.mem_of_getElem? (i := 52) (by decide +kernel)) (by decide +kernel), Or.inl (zG_of (List.mem_of_getElem? (i := 423) (by decide +kernel)) (by decide +kernel))⟩
theorem lX8_124 : zLs RX8 124 yX8_areNeighbors := ⟨zG_of (List.mem_of_getElem? (i := 428) (by decide +kernel)) (by decide +kernel), zG_of (List.mem_of_getElem? (i := 50) (by decide +kernel)) (by decide +kernel), Or.inl (zG_of (List.mem_of_getElem? (i := 427) (by decide +kernel)) (by decide +kernel))⟩
theorem lX8_128 : zLv RX8 128 yX2_join := ⟨zG_of (List.mem_of_getElem? (i := 434) (by decide +kernel)) (by decide +kernel), zG_of (List.mem_of_getElem? (i := 435) (by decide +kernel)) (by decide +kernel), zG_of (List.mem_of_getElem? (i := 53) (by decide +kernel)) (by decide +kernel), Or.inl (zG_of (List.mem_of_getElem? (i := 433) (by decide +kernel)) (by decide +kernel))⟩
theorem lX8_131 : zLv RX8 131 yX2_pairs := ⟨zG_of (List.mem_of_getElem? (i := 439) (by decide +kernel)) (by decide +kernel), zG_of (List.mem_of_getElem? (i := 440) (by decide +kernel)) (by decide +kernel), zG_of (List.mem_of_getElem? (i := 53) (by decide +kernel)) (by decide +kernel), Or.inl (zG_of (List.mem_of_getElem? (i := 438) (by decide +kernel)) (by decide +kernel))⟩
theorem lX8_135 : zLv RX8 135 yX2_part := ⟨zG_of (List.mem_of_getElem? (i := 447) (by decide +kernel)) (by decide +kernel), zG_of (List.mem_of_getElem? (i := 448) (by decide +kernel)) (by decide +kernel), zG_of (List.mem_of_getElem? (i := 53) (by decide +kernel)) (by decide +kernel), Or.inl (zG_of (List.mem_of_getElem? (i := 446) (by decide +kernel)) (by decide +kernel))⟩
theorem lX8_138 : zLv RX8 138 yX8_tryOut := ⟨zG_of (List.mem_of_getElem? (i := 456) (by decide +kernel)) (by decide +kernel), zG_of (List.mem_of_getElem? (i := 9) (by decide +kernel)) (by decide +kernel), zG_of (List.mem_of_getElem? (i := 50) (by decide +kernel)) (by decide +kernel), Or.inl (zG_of (List.mem_of_getElem? (i := 454) (by decide +kernel)) (by decide +kernel))⟩
theorem lX8_142 : zLv RX8 142 yX8_carryOut := ⟨zG_of (List.mem_of_getElem? (i := 485) (by decide +kernel)) (by decide +kernel), zG_of (List.mem_of_getElem? (i := 11) (by decide +kernel)) (by decide +kernel), zG_of (List.mem_of_getElem? (i := 50) (by decide +kernel)) (by decide +kernel), Or.inl (zG_of (List.mem_of_getElem? (i := 483) (by decide +kernel)) (by decide +kernel))⟩
theorem lX8_146 : zLv RX8 146 yX4_homeCount := ⟨zG_of (List.mem_of_getElem? (i := 492) (by decide +kernel)) (by decide +kernel), zG_of (List.mem_of_getElem? (i := 493) (by decide +kernel)) (by decide +kernel), zG_of (List.mem_of_getElem? (i := 52) (by decide +kernel)) (by decide +kernel), Or.inl (zG_of (List.mem_of_getElem? (i := 491) (by decide +kernel)) (by decide +kernel))⟩
theorem lX8_149 : zLv RX8 149 yX4_settle := ⟨zG_of (List.mem_of_getElem? (i := 83) (by decide +kernel)) (by decide +kernel), zG_of (List.mem_of_getElem? (i := 84) (by decide +kernel)) (by decide +kernel), zG_of (List.mem_of_getElem? (i := 52) (by decide +kernel)) (by decide +kernel), Or.inl (zG_of (List.mem_of_getElem? (i := 495) (by decide +kernel)) (by decide +kernel))⟩
theorem fX8_152 : zFl RX8 152 7 5 := ⟨by decide, by decide, rfl, Or.inr ⟨"DanceFigures", List.mem_of_getElem? (i := 137) (by decide +kernel)⟩⟩
theorem lX8_156 : zLv RX8 156 yX2_partNotNeighbors := ⟨zG_of (List.mem_of_getElem? (i := 497) (by decide +kernel)) (by decide +kernel), zG_of (List.mem_of_getElem? (i := 498) (by decide +kernel)) (by decide +kernel), zG_of (List.mem_of_getElem? (i := 53) (by decide +kernel)) (by decide +kernel), Or.inl (zG_of (List.mem_of_getElem? (i := 496) (by decide +kernel)) (by decide +kernel))⟩
theorem lX8_160 : zLv RX8 160 yX5_length := ⟨zG_of (List.mem_of_getElem? (i := 506) (by decide +kernel)) (by decide +kernel), zG_of (List.mem_of_getElem? (i := 507) (by decide +kernel)) (by decide +kernel), zG_of (List.mem_of_getElem? (i := 56) (by decide +kernel)) (by decide +kernel), Or.inl (zG_of (List.mem_of_getElem? (i := 505) (by decide +kernel)) (by decide +kernel))⟩
theorem lX8_163 : zLv RX8 163 yX5_put := ⟨zG_of (List.mem_of_getElem? (i := 510) (by decide +kernel)) (by decide +kernel), zG_of (List.mem_of_getElem? (i := 511) (by decide +kernel)) (by decide +kernel), zG_of (List.mem_of_getElem? (i := 56) (by decide +kernel)) (by decide +kernel), Or.inl (zG_of (List.mem_of_getElem? (i := 509) (by decide +kernel)) (by decide +kernel))⟩
theorem lX8_165 : zLv RX8 165 yX5_empty := ⟨zG_of (List.mem_of_getElem? (i := 520) (by decide +kernel)) (by decide +kernel), zG_of (List.mem_of_getElem? (i := 521) (by decide +kernel)) (by decide +kernel), zG_of (List.mem_of_getElem? (i := 56) (by decide +kernel)) (by decide +kernel), Or.inl (zG_of (List.mem_of_getElem? (i := 519) (by decide +kernel)) (by decide +kernel))⟩
theorem lX8_168 : zLv RX8 168 yX5_firstFault := ⟨zG_of (List.mem_of_getElem? (i := 528) (by decide +kernel)) (by decide +kernel), zG_of (List.mem_of_getElem? (i := 529) (by decide +kernel)) (by decide +kernel), zG_of (List.mem_of_getElem? (i := 56) (by decide +kernel)) (by decide +kernel), Or.inl (zG_of (List.mem_of_getElem? (i := 527) (by decide +kernel)) (by decide +kernel))⟩
theorem lX8_171 : zLv RX8 171 yX8_carryOutScript := ⟨zG_of (List.mem_of_getElem? (i := 544) (by decide +kernel)) (by decide +kernel), zG_of (List.mem_of_getElem? (i := 12) (by decide +kernel)) (by decide +kernel), zG_of (List.mem_of_getElem? (i := 50) (by decide +kernel)) (by decide +kernel), Or.inl (zG_of (List.mem_of_getElem? (i := 542) (by decide +kernel)) (by decide +kernel))⟩
theorem lX8_174 : zLv RX8 174 yX1_takeLatest := ⟨zG_of (List.mem_of_getElem? (i := 556) (by decide +kernel)) (by decide +kernel), zG_of (List.mem_of_getElem? (i := 557) (by decide +kernel)) (by decide +kernel), zG_of (List.mem_of_getElem? (i := 55) (by decide +kernel)) (by decide +kernel), Or.inl (zG_of (List.mem_of_getElem? (i := 555) (by decide +kernel)) (by decide +kernel))⟩
theorem lX8_178 : zLv RX8 178 yX1_size := ⟨zG_of (List.mem_of_getElem? (i := 560) (by decide +kernel)) (by decide +kernel), zG_of (List.mem_of_getElem? (i := 561) (by decide +kernel)) (by decide +kernel), zG_of (List.mem_of_getElem? (i := 55) (by decide +kernel)) (by decide +kernel), Or.inl (zG_of (List.mem_of_getElem? (i := 559) (by decide +kernel)) (by decide +kernel))⟩
theorem lX8_180 : zLv RX8 180 yX7_copyFrom := ⟨zG_of (List.mem_of_getElem? (i := 305) (by decide +kernel)) (by decide +kernel), zG_of (List.mem_of_getElem? (i := 306) (by decide +kernel)) (by decide +kernel), zG_of (List.mem_of_getElem? (i := 51) (by decide +kernel)) (by decide +kernel), Or.inl (zG_of (List.mem_of_getElem? (i := 567) (by decide +kernel)) (by decide +kernel))⟩
theorem lX8_183 : zLv RX8 183 yX4_faceAt := ⟨zG_of (List.mem_of_getElem? (i := 577) (by decide +kernel)) (by decide +kernel), zG_of (List.mem_of_getElem? (i := 578) (by decide +kernel)) (by decide +kernel), zG_of (List.mem_of_getElem? (i := 52) (by decide +kernel)) (by decide +kernel), Or.inl (zG_of (List.mem_of_getElem? (i := 576) (by decide +kernel)) (by decide +kernel))⟩
theorem lX8_186 : zLv RX8 186 yX4_dancerAt := ⟨zG_of (List.mem_of_getElem? (i := 479) (by decide +kernel)) (by decide +kernel), zG_of (List.mem_of_getElem? (i := 480) (by decide +kernel)) (by decide +kernel), zG_of (List.mem_of_getElem? (i := 52) (by decide +kernel)) (by decide +kernel), Or.inl (zG_of (List.mem_of_getElem? (i := 584) (by decide +kernel)) (by decide +kernel))⟩
theorem lX8_189 : zLv RX8 189 yX0_code := ⟨zG_of (List.mem_of_getElem? (i := 291) (by decide +kernel)) (by decide +kernel), zG_of (List.mem_of_getElem? (i := 292) (by decide +kernel)) (by decide +kernel), zG_of (List.mem_of_getElem? (i := 54) (by decide +kernel)) (by decide +kernel), Or.inl (zG_of (List.mem_of_getElem? (i := 589) (by decide +kernel)) (by decide +kernel))⟩
theorem lX8_192 : zLs RX8 192 yX8_kindOf := ⟨zG_of (List.mem_of_getElem? (i := 295) (by decide +kernel)) (by decide +kernel), zG_of (List.mem_of_getElem? (i := 50) (by decide +kernel)) (by decide +kernel), Or.inl (zG_of (List.mem_of_getElem? (i := 466) (by decide +kernel)) (by decide +kernel))⟩
theorem lX8_195 : zLs RX8 195 yX8_firstOf := ⟨zG_of (List.mem_of_getElem? (i := 298) (by decide +kernel)) (by decide +kernel), zG_of (List.mem_of_getElem? (i := 50) (by decide +kernel)) (by decide +kernel), Or.inl (zG_of (List.mem_of_getElem? (i := 467) (by decide +kernel)) (by decide +kernel))⟩
theorem lX8_198 : zLs RX8 198 yX8_secondOf := ⟨zG_of (List.mem_of_getElem? (i := 386) (by decide +kernel)) (by decide +kernel), zG_of (List.mem_of_getElem? (i := 50) (by decide +kernel)) (by decide +kernel), Or.inl (zG_of (List.mem_of_getElem? (i := 468) (by decide +kernel)) (by decide +kernel))⟩
theorem lX8_201 : zLv RX8 201 yX3_effectOf := ⟨zG_of (List.mem_of_getElem? (i := 363) (by decide +kernel)) (by decide +kernel), zG_of (List.mem_of_getElem? (i := 364) (by decide +kernel)) (by decide +kernel), zG_of (List.mem_of_getElem? (i := 57) (by decide +kernel)) (by decide +kernel), Or.inl (zG_of (List.mem_of_getElem? (i := 594) (by decide +kernel)) (by decide +kernel))⟩
theorem lX8_205 : zLv RX8 205 yX8_orderOf := ⟨zG_of (List.mem_of_getElem? (i := 597) (by decide +kernel)) (by decide +kernel), zG_of (List.mem_of_getElem? (i := 13) (by decide +kernel)) (by decide +kernel), zG_of (List.mem_of_getElem? (i := 50) (by decide +kernel)) (by decide +kernel), Or.inl (zG_of (List.mem_of_getElem? (i := 595) (by decide +kernel)) (by decide +kernel))⟩
theorem lX8_208 : zLv RX8 208 yX4_placedCount := ⟨zG_of (List.mem_of_getElem? (i := 609) (by decide +kernel)) (by decide +kernel), zG_of (List.mem_of_getElem? (i := 610) (by decide +kernel)) (by decide +kernel), zG_of (List.mem_of_getElem? (i := 52) (by decide +kernel)) (by decide +kernel), Or.inl (zG_of (List.mem_of_getElem? (i := 608) (by decide +kernel)) (by decide +kernel))⟩
theorem lX8_211 : zLv RX8 211 yX4_straightCount := ⟨zG_of (List.mem_of_getElem? (i := 613) (by decide +kernel)) (by decide +kernel), zG_of (List.mem_of_getElem? (i := 614) (by decide +kernel)) (by decide +kernel), zG_of (List.mem_of_getElem? (i := 52) (by decide +kernel)) (by decide +kernel), Or.inl (zG_of (List.mem_of_getElem? (i := 612) (by decide +kernel)) (by decide +kernel))⟩
theorem lX8_214 : zLv RX8 214 yX4_oddness := ⟨zG_of (List.mem_of_getElem? (i := 617) (by decide +kernel)) (by decide +kernel), zG_of (List.mem_of_getElem? (i := 618) (by decide +kernel)) (by decide +kernel), zG_of (List.mem_of_getElem? (i := 52) (by decide +kernel)) (by decide +kernel), Or.inl (zG_of (List.mem_of_getElem? (i := 616) (by decide +kernel)) (by decide +kernel))⟩
theorem lX8_217 : zLv RX8 217 yX3_calledBy := ⟨zG_of (List.mem_of_getElem? (i := 377) (by decide +kernel)) (by decide +kernel), zG_of (List.mem_of_getElem? (i := 378) (by decide +kernel)) (by decide +kernel), zG_of (List.mem_of_getElem? (i := 57) (by decide +kernel)) (by decide +kernel), Or.inl (zG_of (List.mem_of_getElem? (i := 620) (by decide +kernel)) (by decide +kernel))⟩
theorem lX8_220 : zLv RX8 220 yX3_callersOf := ⟨zG_of (List.mem_of_getElem? (i := 622) (by decide +kernel)) (by decide +kernel), zG_of (List.mem_of_getElem? (i := 623) (by decide +kernel)) (by decide +kernel), zG_of (List.mem_of_getElem? (i := 57) (by decide +kernel)) (by decide +kernel), Or.inl (zG_of (List.mem_of_getElem? (i := 621) (by decide +kernel)) (by decide +kernel))⟩
theorem lX8_223 : zLv RX8 223 yX4_isSameAs := ⟨zG_of (List.mem_of_getElem? (i := 634) (by decide +kernel)) (by decide +kernel), zG_of (List.mem_of_getElem? (i := 635) (by decide +kernel)) (by decide +kernel), zG_of (List.mem_of_getElem? (i := 52) (by decide +kernel)) (by decide +kernel), Or.inl (zG_of (List.mem_of_getElem? (i := 633) (by decide +kernel)) (by decide +kernel))⟩
theorem lX8_227 : zLv RX8 227 yX4_copyFrom := ⟨zG_of (List.mem_of_getElem? (i := 309) (by decide +kernel)) (by decide +kernel), zG_of (List.mem_of_getElem? (i := 310) (by decide +kernel)) (by decide +kernel), zG_of (List.mem_of_getElem? (i := 52) (by decide +kernel)) (by decide +kernel), Or.inl (zG_of (List.mem_of_getElem? (i := 458) (by decide +kernel)) (by decide +kernel))⟩
theorem lX8_230 : zLv RX8 230 yX4_follow := ⟨zG_of (List.mem_of_getElem? (i := 368) (by decide +kernel)) (by decide +kernel), zG_of (List.mem_of_getElem? (i := 369) (by decide +kernel)) (by decide +kernel), zG_of (List.mem_of_getElem? (i := 52) (by decide +kernel)) (by decide +kernel), Or.inl (zG_of (List.mem_of_getElem? (i := 607) (by decide +kernel)) (by decide +kernel))⟩
theorem lX8_233 : zLv RX8 233 yX0_usedCount := ⟨zG_of (List.mem_of_getElem? (i := 646) (by decide +kernel)) (by decide +kernel), zG_of (List.mem_of_getElem? (i := 647) (by decide +kernel)) (by decide +kernel), zG_of (List.mem_of_getElem? (i := 54) (by decide +kernel)) (by decide +kernel), Or.inl (zG_of (List.mem_of_getElem? (i := 645) (by decide +kernel)) (by decide +kernel))⟩
theorem fX8_236 : zFl RX8 236 7 3 := ⟨by decide, by decide, rfl, Or.inr ⟨"DanceFigures", List.mem_of_getElem? (i := 133) (by decide +kernel)⟩⟩
theorem fX8_239 : zFl RX8 239 7 4 := ⟨by decide, by decide, rfl, Or.inr ⟨"DanceFigures", List.mem_of_getElem? (i := 135) (by decide +kernel)⟩⟩
theorem lX8_242 : zLs RX8 242 yX8_timesUntilHome := ⟨zG_of (List.mem_of_getElem? (i := 600) (by decide +kernel)) (by decide +kernel), zG_of (List.mem_of_getElem? (i := 50) (by decide +kernel)) (by decide +kernel), Or.inl (zG_of (List.mem_of_getElem? (i := 599) (by decide +kernel)) (by decide +kernel))⟩
theorem lX8_246 : zLv RX8 246 yX6_shortest := ⟨zG_of (List.mem_of_getElem? (i := 666) (by decide +kernel)) (by decide +kernel), zG_of (List.mem_of_getElem? (i := 667) (by decide +kernel)) (by decide +kernel), zG_of (List.mem_of_getElem? (i := 58) (by decide +kernel)) (by decide +kernel), Or.inl (zG_of (List.mem_of_getElem? (i := 665) (by decide +kernel)) (by decide +kernel))⟩
theorem lX8_250 : zLv RX8 250 yX6_figureOf := ⟨zG_of (List.mem_of_getElem? (i := 681) (by decide +kernel)) (by decide +kernel), zG_of (List.mem_of_getElem? (i := 682) (by decide +kernel)) (by decide +kernel), zG_of (List.mem_of_getElem? (i := 58) (by decide +kernel)) (by decide +kernel), Or.inl (zG_of (List.mem_of_getElem? (i := 680) (by decide +kernel)) (by decide +kernel))⟩
theorem lX8_253 : zLv RX8 253 yX4_placesFromHome := ⟨zG_of (List.mem_of_getElem? (i := 690) (by decide +kernel)) (by decide +kernel), zG_of (List.mem_of_getElem? (i := 691) (by decide +kernel)) (by decide +kernel), zG_of (List.mem_of_getElem? (i := 52) (by decide +kernel)) (by decide +kernel), Or.inl (zG_of (List.mem_of_getElem? (i := 689) (by decide +kernel)) (by decide +kernel))⟩
theorem uX8_256 : Jvm.Cond.constantDouble RX8 256 4621819117588971520 ∈ zG := zG_of (List.mem_of_getElem? (i := 695) (by decide +kernel)) (by decide +kernel)
theorem lX8_258 : zLv RX8 258 yX3_stepInOrder := ⟨zG_of (List.mem_of_getElem? (i := 460) (by decide +kernel)) (by decide +kernel), zG_of (List.mem_of_getElem? (i := 461) (by decide +kernel)) (by decide +kernel), zG_of (List.mem_of_getElem? (i := 57) (by decide +kernel)) (by decide +kernel), Or.inl (zG_of (List.mem_of_getElem? (i := 459) (by decide +kernel)) (by decide +kernel))⟩
theorem lX8_261 : zLv RX8 261 yX4_make := ⟨zG_of (List.mem_of_getElem? (i := 381) (by decide +kernel)) (by decide +kernel), zG_of (List.mem_of_getElem? (i := 382) (by decide +kernel)) (by decide +kernel), zG_of (List.mem_of_getElem? (i := 52) (by decide +kernel)) (by decide +kernel), Or.inl (zG_of (List.mem_of_getElem? (i := 469) (by decide +kernel)) (by decide +kernel))⟩
theorem lX8_264 : zLv RX8 264 yX2_areKept := ⟨zG_of (List.mem_of_getElem? (i := 471) (by decide +kernel)) (by decide +kernel), zG_of (List.mem_of_getElem? (i := 472) (by decide +kernel)) (by decide +kernel), zG_of (List.mem_of_getElem? (i := 53) (by decide +kernel)) (by decide +kernel), Or.inl (zG_of (List.mem_of_getElem? (i := 470) (by decide +kernel)) (by decide +kernel))⟩
theorem lX8_267 : zLv RX8 267 yX5_signOrEnd := ⟨zG_of (List.mem_of_getElem? (i := 547) (by decide +kernel)) (by decide +kernel), zG_of (List.mem_of_getElem? (i := 548) (by decide +kernel)) (by decide +kernel), zG_of (List.mem_of_getElem? (i := 56) (by decide +kernel)) (by decide +kernel), Or.inl (zG_of (List.mem_of_getElem? (i := 546) (by decide +kernel)) (by decide +kernel))⟩
theorem lX8_270 : zLs RX8 270 yX5_isLetter := ⟨zG_of (List.mem_of_getElem? (i := 536) (by decide +kernel)) (by decide +kernel), zG_of (List.mem_of_getElem? (i := 56) (by decide +kernel)) (by decide +kernel), Or.inr ⟨"DanceFigures", List.mem_of_getElem? (i := 550) (by decide +kernel)⟩⟩
theorem lX8_273 : zLv RX8 273 yX4_isHome := ⟨zG_of (List.mem_of_getElem? (i := 603) (by decide +kernel)) (by decide +kernel), zG_of (List.mem_of_getElem? (i := 604) (by decide +kernel)) (by decide +kernel), zG_of (List.mem_of_getElem? (i := 52) (by decide +kernel)) (by decide +kernel), Or.inl (zG_of (List.mem_of_getElem? (i := 602) (by decide +kernel)) (by decide +kernel))⟩
theorem hX8_277 : zLm RX8 277 Lib.Math.abs.name ∧ Jvm.Cond.code Lib.Math.abs.name Lib.Math.abs.code 1 (some .int) ∈ zG := ⟨⟨zG_of (List.mem_of_getElem? (i := 430) (by decide +kernel)) (by decide +kernel), zG_of (List.mem_of_getElem? (i := 431) (by decide +kernel)) (by decide +kernel), zG_of (List.mem_of_getElem? (i := 60) (by decide +kernel)) (by decide +kernel)⟩, zG_of (List.mem_of_getElem? (i := 432) (by decide +kernel)) (by decide +kernel)⟩
theorem hX8_282 : zLm RX8 282 Lib.Math.min.name ∧ Jvm.Cond.code Lib.Math.min.name Lib.Math.min.code 2 (some .int) ∈ zG := ⟨⟨zG_of (List.mem_of_getElem? (i := 315) (by decide +kernel)) (by decide +kernel), zG_of (List.mem_of_getElem? (i := 316) (by decide +kernel)) (by decide +kernel), zG_of (List.mem_of_getElem? (i := 60) (by decide +kernel)) (by decide +kernel)⟩, zG_of (List.mem_of_getElem? (i := 317) (by decide +kernel)) (by decide +kernel)⟩
theorem pX8_285 : zLc RX8 285 := ⟨zG_of (List.mem_of_getElem? (i := 318) (by decide +kernel)) (by decide +kernel), zG_of (List.mem_of_getElem? (i := 320) (by decide +kernel)) (by decide +kernel), zG_of (List.mem_of_getElem? (i := 319) (by decide +kernel)) (by decide +kernel), zG_of (List.mem_of_getElem? (i := 61) (by decide +kernel)) (by decide +kernel)⟩
theorem oX9_1 : zLo RX9 1 := ⟨zG_of (List.mem_of_getElem? (i := 701) (by decide +kernel)) (by decide +kernel), zG_of (List.mem_of_getElem? (i := 68) (by decide +kernel)) (by decide +kernel), zG_of (List.mem_of_getElem? (i := 69) (by decide +kernel)) (by decide +kernel)⟩
theorem fX9_7 : zFp RX9 7 9 0 := ⟨by decide, by decide, rfl, List.mem_of_getElem? (i := 702) (by decide +kernel), by decide +kernel⟩
theorem fX9_13 : zFp RX9 13 9 1 := ⟨by decide, by decide, rfl, List.mem_of_getElem? (i := 703) (by decide +kernel), by decide +kernel⟩
theorem fX9_16 : zFp RX9 16 9 3 := ⟨by decide, by decide, rfl, List.mem_of_getElem? (i := 705) (by decide +kernel), by decide +kernel⟩
theorem fX9_19 : zFp RX9 19 9 5 := ⟨by decide, by decide, rfl, List.mem_of_getElem? (i := 707) (by decide +kernel), by decide +kernel⟩
theorem fX9_22 : zFp RX9 22 9 6 := ⟨by decide, by decide, rfl, List.mem_of_getElem? (i := 708) (by decide +kernel), by decide +kernel⟩
theorem fX9_25 : zFp RX9 25 9 7 := ⟨by decide, by decide, rfl, List.mem_of_getElem? (i := 709) (by decide +kernel), by decide +kernel⟩
theorem fX9_28 : zFp RX9 28 9 8 := ⟨by decide, by decide, rfl, List.mem_of_getElem? (i := 710) (by decide +kernel), by decide +kernel⟩
theorem fX9_31 : zFp RX9 31 9 9 := ⟨by decide, by decide, rfl, List.mem_of_getElem? (i := 711) (by decide +kernel), by decide +kernel⟩
theorem fX9_34 : zFp RX9 34 9 10 := ⟨by decide, by decide, rfl, List.mem_of_getElem? (i := 712) (by decide +kernel), by decide +kernel⟩
theorem fX9_37 : zFp RX9 37 9 11 := ⟨by decide, by decide, rfl, List.mem_of_getElem? (i := 713) (by decide +kernel), by decide +kernel⟩
theorem fX9_40 : zFp RX9 40 9 12 := ⟨by decide, by decide, rfl, List.mem_of_getElem? (i := 714) (by decide +kernel), by decide +kernel⟩
theorem fX9_43 : zFp RX9 43 9 16 := ⟨by decide, by decide, rfl, List.mem_of_getElem? (i := 718) (by decide +kernel), by decide +kernel⟩
theorem fX9_46 : zFp RX9 46 9 17 := ⟨by decide, by decide, rfl, List.mem_of_getElem? (i := 719) (by decide +kernel), by decide +kernel⟩
theorem fX9_49 : zFp RX9 49 9 18 := ⟨by decide, by decide, rfl, List.mem_of_getElem? (i := 720) (by decide +kernel), by decide +kernel⟩
theorem fX9_53 : zFp RX9 53 9 19 := ⟨by decide, by decide, rfl, List.mem_of_getElem? (i := 721) (by decide +kernel), by decide +kernel⟩
theorem fX9_56 : zFp RX9 56 9 20 := ⟨by decide, by decide, rfl, List.mem_of_getElem? (i := 722) (by decide +kernel), by decide +kernel⟩
theorem fX9_59 : zFp RX9 59 9 21 := ⟨by decide, by decide, rfl, List.mem_of_getElem? (i := 723) (by decide +kernel), by decide +kernel⟩
theorem lX9_62 : zLs RX9 62 yX9_in := ⟨zG_of (List.mem_of_getElem? (i := 798) (by decide +kernel)) (by decide +kernel), zG_of (List.mem_of_getElem? (i := 59) (by decide +kernel)) (by decide +kernel), Or.inl (zG_of (List.mem_of_getElem? (i := 797) (by decide +kernel)) (by decide +kernel))⟩
theorem fX9_66 : zFp RX9 66 9 2 := ⟨by decide, by decide, rfl, List.mem_of_getElem? (i := 704) (by decide +kernel), by decide +kernel⟩
theorem fX9_70 : zFp RX9 70 9 4 := ⟨by decide, by decide, rfl, List.mem_of_getElem? (i := 706) (by decide +kernel), by decide +kernel⟩
theorem lX9_74 : zLv RX9 74 yX9_atHome := ⟨zG_of (List.mem_of_getElem? (i := 780) (by decide +kernel)) (by decide +kernel), zG_of (List.mem_of_getElem? (i := 14) (by decide +kernel)) (by decide +kernel), zG_of (List.mem_of_getElem? (i := 59) (by decide +kernel)) (by decide +kernel), Or.inl (zG_of (List.mem_of_getElem? (i := 778) (by decide +kernel)) (by decide +kernel))⟩
theorem lX9_78 : zLv RX9 78 yX9_record := ⟨zG_of (List.mem_of_getElem? (i := 788) (by decide +kernel)) (by decide +kernel), zG_of (List.mem_of_getElem? (i := 15) (by decide +kernel)) (by decide +kernel), zG_of (List.mem_of_getElem? (i := 59) (by decide +kernel)) (by decide +kernel), Or.inl (zG_of (List.mem_of_getElem? (i := 786) (by decide +kernel)) (by decide +kernel))⟩
theorem lX9_81 : zLv RX9 81 yX9_moves := ⟨zG_of (List.mem_of_getElem? (i := 805) (by decide +kernel)) (by decide +kernel), zG_of (List.mem_of_getElem? (i := 16) (by decide +kernel)) (by decide +kernel), zG_of (List.mem_of_getElem? (i := 59) (by decide +kernel)) (by decide +kernel), Or.inl (zG_of (List.mem_of_getElem? (i := 803) (by decide +kernel)) (by decide +kernel))⟩
theorem lX9_85 : zLv RX9 85 yX9_ofMove := ⟨zG_of (List.mem_of_getElem? (i := 817) (by decide +kernel)) (by decide +kernel), zG_of (List.mem_of_getElem? (i := 19) (by decide +kernel)) (by decide +kernel), zG_of (List.mem_of_getElem? (i := 59) (by decide +kernel)) (by decide +kernel), Or.inl (zG_of (List.mem_of_getElem? (i := 815) (by decide +kernel)) (by decide +kernel))⟩
theorem lX9_89 : zLv RX9 89 yX9_addAll := ⟨zG_of (List.mem_of_getElem? (i := 821) (by decide +kernel)) (by decide +kernel), zG_of (List.mem_of_getElem? (i := 20) (by decide +kernel)) (by decide +kernel), zG_of (List.mem_of_getElem? (i := 59) (by decide +kernel)) (by decide +kernel), Or.inl (zG_of (List.mem_of_getElem? (i := 819) (by decide +kernel)) (by decide +kernel))⟩
theorem lX9_93 : zLv RX9 93 yX9_addStep := ⟨zG_of (List.mem_of_getElem? (i := 825) (by decide +kernel)) (by decide +kernel), zG_of (List.mem_of_getElem? (i := 21) (by decide +kernel)) (by decide +kernel), zG_of (List.mem_of_getElem? (i := 59) (by decide +kernel)) (by decide +kernel), Or.inl (zG_of (List.mem_of_getElem? (i := 823) (by decide +kernel)) (by decide +kernel))⟩
theorem lX9_97 : zLs RX9 97 yX9_isFigure := ⟨zG_of (List.mem_of_getElem? (i := 795) (by decide +kernel)) (by decide +kernel), zG_of (List.mem_of_getElem? (i := 59) (by decide +kernel)) (by decide +kernel), Or.inl (zG_of (List.mem_of_getElem? (i := 794) (by decide +kernel)) (by decide +kernel))⟩
theorem lX9_101 : zLs RX9 101 yX9_isMove := ⟨zG_of (List.mem_of_getElem? (i := 801) (by decide +kernel)) (by decide +kernel), zG_of (List.mem_of_getElem? (i := 59) (by decide +kernel)) (by decide +kernel), Or.inl (zG_of (List.mem_of_getElem? (i := 800) (by decide +kernel)) (by decide +kernel))⟩
theorem lX9_105 : zLv RX9 105 yX9_stepsOf := ⟨zG_of (List.mem_of_getElem? (i := 809) (by decide +kernel)) (by decide +kernel), zG_of (List.mem_of_getElem? (i := 17) (by decide +kernel)) (by decide +kernel), zG_of (List.mem_of_getElem? (i := 59) (by decide +kernel)) (by decide +kernel), Or.inl (zG_of (List.mem_of_getElem? (i := 807) (by decide +kernel)) (by decide +kernel))⟩
theorem lX9_108 : zLv RX9 108 yX9_isRoom := ⟨zG_of (List.mem_of_getElem? (i := 829) (by decide +kernel)) (by decide +kernel), zG_of (List.mem_of_getElem? (i := 22) (by decide +kernel)) (by decide +kernel), zG_of (List.mem_of_getElem? (i := 59) (by decide +kernel)) (by decide +kernel), Or.inl (zG_of (List.mem_of_getElem? (i := 827) (by decide +kernel)) (by decide +kernel))⟩
theorem lX9_112 : zLv RX9 112 yX9_unroll := ⟨zG_of (List.mem_of_getElem? (i := 813) (by decide +kernel)) (by decide +kernel), zG_of (List.mem_of_getElem? (i := 18) (by decide +kernel)) (by decide +kernel), zG_of (List.mem_of_getElem? (i := 59) (by decide +kernel)) (by decide +kernel), Or.inl (zG_of (List.mem_of_getElem? (i := 811) (by decide +kernel)) (by decide +kernel))⟩
theorem lX9_115 : zLs RX9 115 yX9_ahead := ⟨zG_of (List.mem_of_getElem? (i := 850) (by decide +kernel)) (by decide +kernel), zG_of (List.mem_of_getElem? (i := 59) (by decide +kernel)) (by decide +kernel), Or.inl (zG_of (List.mem_of_getElem? (i := 849) (by decide +kernel)) (by decide +kernel))⟩
theorem lX9_119 : zLv RX9 119 yX9_lay := ⟨zG_of (List.mem_of_getElem? (i := 874) (by decide +kernel)) (by decide +kernel), zG_of (List.mem_of_getElem? (i := 27) (by decide +kernel)) (by decide +kernel), zG_of (List.mem_of_getElem? (i := 59) (by decide +kernel)) (by decide +kernel), Or.inl (zG_of (List.mem_of_getElem? (i := 872) (by decide +kernel)) (by decide +kernel))⟩
theorem lX9_123 : zLv RX9 123 yX9_placeOf := ⟨zG_of (List.mem_of_getElem? (i := 844) (by decide +kernel)) (by decide +kernel), zG_of (List.mem_of_getElem? (i := 23) (by decide +kernel)) (by decide +kernel), zG_of (List.mem_of_getElem? (i := 59) (by decide +kernel)) (by decide +kernel), Or.inl (zG_of (List.mem_of_getElem? (i := 842) (by decide +kernel)) (by decide +kernel))⟩
theorem lX9_126 : zLs RX9 126 yX9_areNeighbors := ⟨zG_of (List.mem_of_getElem? (i := 847) (by decide +kernel)) (by decide +kernel), zG_of (List.mem_of_getElem? (i := 59) (by decide +kernel)) (by decide +kernel), Or.inl (zG_of (List.mem_of_getElem? (i := 846) (by decide +kernel)) (by decide +kernel))⟩
theorem lX9_129 : zLv RX9 129 yX9_layStep := ⟨zG_of (List.mem_of_getElem? (i := 870) (by decide +kernel)) (by decide +kernel), zG_of (List.mem_of_getElem? (i := 26) (by decide +kernel)) (by decide +kernel), zG_of (List.mem_of_getElem? (i := 59) (by decide +kernel)) (by decide +kernel), Or.inl (zG_of (List.mem_of_getElem? (i := 868) (by decide +kernel)) (by decide +kernel))⟩
theorem lX9_133 : zLv RX9 133 yX9_isAllowed := ⟨zG_of (List.mem_of_getElem? (i := 878) (by decide +kernel)) (by decide +kernel), zG_of (List.mem_of_getElem? (i := 28) (by decide +kernel)) (by decide +kernel), zG_of (List.mem_of_getElem? (i := 59) (by decide +kernel)) (by decide +kernel), Or.inl (zG_of (List.mem_of_getElem? (i := 876) (by decide +kernel)) (by decide +kernel))⟩
theorem lX9_137 : zLv RX9 137 yX9_make := ⟨zG_of (List.mem_of_getElem? (i := 882) (by decide +kernel)) (by decide +kernel), zG_of (List.mem_of_getElem? (i := 29) (by decide +kernel)) (by decide +kernel), zG_of (List.mem_of_getElem? (i := 59) (by decide +kernel)) (by decide +kernel), Or.inl (zG_of (List.mem_of_getElem? (i := 880) (by decide +kernel)) (by decide +kernel))⟩
theorem lX9_140 : zLv RX9 140 yX9_go := ⟨zG_of (List.mem_of_getElem? (i := 866) (by decide +kernel)) (by decide +kernel), zG_of (List.mem_of_getElem? (i := 25) (by decide +kernel)) (by decide +kernel), zG_of (List.mem_of_getElem? (i := 59) (by decide +kernel)) (by decide +kernel), Or.inl (zG_of (List.mem_of_getElem? (i := 864) (by decide +kernel)) (by decide +kernel))⟩
theorem lX9_144 : zLv RX9 144 yX9_goBack := ⟨zG_of (List.mem_of_getElem? (i := 886) (by decide +kernel)) (by decide +kernel), zG_of (List.mem_of_getElem? (i := 30) (by decide +kernel)) (by decide +kernel), zG_of (List.mem_of_getElem? (i := 59) (by decide +kernel)) (by decide +kernel), Or.inl (zG_of (List.mem_of_getElem? (i := 884) (by decide +kernel)) (by decide +kernel))⟩
theorem lX9_147 : zLs RX9 147 yX9_isDancer := ⟨zG_of (List.mem_of_getElem? (i := 840) (by decide +kernel)) (by decide +kernel), zG_of (List.mem_of_getElem? (i := 59) (by decide +kernel)) (by decide +kernel), Or.inl (zG_of (List.mem_of_getElem? (i := 839) (by decide +kernel)) (by decide +kernel))⟩
theorem lX9_150 : zLv RX9 150 yX9_pairs := ⟨zG_of (List.mem_of_getElem? (i := 854) (by decide +kernel)) (by decide +kernel), zG_of (List.mem_of_getElem? (i := 24) (by decide +kernel)) (by decide +kernel), zG_of (List.mem_of_getElem? (i := 59) (by decide +kernel)) (by decide +kernel), Or.inl (zG_of (List.mem_of_getElem? (i := 852) (by decide +kernel)) (by decide +kernel))⟩
theorem lX9_154 : zLv RX9 154 yX9_danceNow := ⟨zG_of (List.mem_of_getElem? (i := 890) (by decide +kernel)) (by decide +kernel), zG_of (List.mem_of_getElem? (i := 31) (by decide +kernel)) (by decide +kernel), zG_of (List.mem_of_getElem? (i := 59) (by decide +kernel)) (by decide +kernel), Or.inl (zG_of (List.mem_of_getElem? (i := 888) (by decide +kernel)) (by decide +kernel))⟩
theorem fX9_157 : zFp RX9 157 9 13 := ⟨by decide, by decide, rfl, List.mem_of_getElem? (i := 715) (by decide +kernel), by decide +kernel⟩
theorem fX9_160 : zFp RX9 160 9 14 := ⟨by decide, by decide, rfl, List.mem_of_getElem? (i := 716) (by decide +kernel), by decide +kernel⟩
theorem lX9_163 : zLv RX9 163 yX9_takes := ⟨zG_of (List.mem_of_getElem? (i := 918) (by decide +kernel)) (by decide +kernel), zG_of (List.mem_of_getElem? (i := 34) (by decide +kernel)) (by decide +kernel), zG_of (List.mem_of_getElem? (i := 59) (by decide +kernel)) (by decide +kernel), Or.inl (zG_of (List.mem_of_getElem? (i := 916) (by decide +kernel)) (by decide +kernel))⟩
theorem fX9_166 : zFp RX9 166 9 15 := ⟨by decide, by decide, rfl, List.mem_of_getElem? (i := 717) (by decide +kernel), by decide +kernel⟩
theorem lX9_169 : zLv RX9 169 yX9_readCall := ⟨zG_of (List.mem_of_getElem? (i := 914) (by decide +kernel)) (by decide +kernel), zG_of (List.mem_of_getElem? (i := 33) (by decide +kernel)) (by decide +kernel), zG_of (List.mem_of_getElem? (i := 59) (by decide +kernel)) (by decide +kernel), Or.inl (zG_of (List.mem_of_getElem? (i := 912) (by decide +kernel)) (by decide +kernel))⟩
theorem lX9_172 : zLv RX9 172 yX9_isScript := ⟨zG_of (List.mem_of_getElem? (i := 910) (by decide +kernel)) (by decide +kernel), zG_of (List.mem_of_getElem? (i := 32) (by decide +kernel)) (by decide +kernel), zG_of (List.mem_of_getElem? (i := 59) (by decide +kernel)) (by decide +kernel), Or.inl (zG_of (List.mem_of_getElem? (i := 908) (by decide +kernel)) (by decide +kernel))⟩
theorem lX9_175 : zLv RX9 175 yX9_follow := ⟨zG_of (List.mem_of_getElem? (i := 950) (by decide +kernel)) (by decide +kernel), zG_of (List.mem_of_getElem? (i := 37) (by decide +kernel)) (by decide +kernel), zG_of (List.mem_of_getElem? (i := 59) (by decide +kernel)) (by decide +kernel), Or.inl (zG_of (List.mem_of_getElem? (i := 948) (by decide +kernel)) (by decide +kernel))⟩
theorem lX9_179 : zLv RX9 179 yX9_back := ⟨zG_of (List.mem_of_getElem? (i := 958) (by decide +kernel)) (by decide +kernel), zG_of (List.mem_of_getElem? (i := 39) (by decide +kernel)) (by decide +kernel), zG_of (List.mem_of_getElem? (i := 59) (by decide +kernel)) (by decide +kernel), Or.inl (zG_of (List.mem_of_getElem? (i := 956) (by decide +kernel)) (by decide +kernel))⟩
theorem lX9_182 : zLs RX9 182 yX9_multiple := ⟨zG_of (List.mem_of_getElem? (i := 961) (by decide +kernel)) (by decide +kernel), zG_of (List.mem_of_getElem? (i := 59) (by decide +kernel)) (by decide +kernel), Or.inl (zG_of (List.mem_of_getElem? (i := 960) (by decide +kernel)) (by decide +kernel))⟩
theorem lX9_185 : zLv RX9 185 yX9_calledBy := ⟨zG_of (List.mem_of_getElem? (i := 973) (by decide +kernel)) (by decide +kernel), zG_of (List.mem_of_getElem? (i := 42) (by decide +kernel)) (by decide +kernel), zG_of (List.mem_of_getElem? (i := 59) (by decide +kernel)) (by decide +kernel), Or.inl (zG_of (List.mem_of_getElem? (i := 971) (by decide +kernel)) (by decide +kernel))⟩
theorem lX9_188 : zLv RX9 188 yX9_followAll := ⟨zG_of (List.mem_of_getElem? (i := 946) (by decide +kernel)) (by decide +kernel), zG_of (List.mem_of_getElem? (i := 36) (by decide +kernel)) (by decide +kernel), zG_of (List.mem_of_getElem? (i := 59) (by decide +kernel)) (by decide +kernel), Or.inl (zG_of (List.mem_of_getElem? (i := 944) (by decide +kernel)) (by decide +kernel))⟩
theorem lX9_191 : zLv RX9 191 yX9_order := ⟨zG_of (List.mem_of_getElem? (i := 954) (by decide +kernel)) (by decide +kernel), zG_of (List.mem_of_getElem? (i := 38) (by decide +kernel)) (by decide +kernel), zG_of (List.mem_of_getElem? (i := 59) (by decide +kernel)) (by decide +kernel), Or.inl (zG_of (List.mem_of_getElem? (i := 952) (by decide +kernel)) (by decide +kernel))⟩
theorem lX9_194 : zLv RX9 194 yX9_moved := ⟨zG_of (List.mem_of_getElem? (i := 965) (by decide +kernel)) (by decide +kernel), zG_of (List.mem_of_getElem? (i := 40) (by decide +kernel)) (by decide +kernel), zG_of (List.mem_of_getElem? (i := 59) (by decide +kernel)) (by decide +kernel), Or.inl (zG_of (List.mem_of_getElem? (i := 963) (by decide +kernel)) (by decide +kernel))⟩
theorem lX9_198 : zLv RX9 198 yX9_odd := ⟨zG_of (List.mem_of_getElem? (i := 969) (by decide +kernel)) (by decide +kernel), zG_of (List.mem_of_getElem? (i := 41) (by decide +kernel)) (by decide +kernel), zG_of (List.mem_of_getElem? (i := 59) (by decide +kernel)) (by decide +kernel), Or.inl (zG_of (List.mem_of_getElem? (i := 967) (by decide +kernel)) (by decide +kernel))⟩
theorem lX9_201 : zLv RX9 201 yX9_callers := ⟨zG_of (List.mem_of_getElem? (i := 977) (by decide +kernel)) (by decide +kernel), zG_of (List.mem_of_getElem? (i := 43) (by decide +kernel)) (by decide +kernel), zG_of (List.mem_of_getElem? (i := 59) (by decide +kernel)) (by decide +kernel), Or.inl (zG_of (List.mem_of_getElem? (i := 975) (by decide +kernel)) (by decide +kernel))⟩
theorem lX9_204 : zLv RX9 204 yX9_ofFigure := ⟨zG_of (List.mem_of_getElem? (i := 942) (by decide +kernel)) (by decide +kernel), zG_of (List.mem_of_getElem? (i := 35) (by decide +kernel)) (by decide +kernel), zG_of (List.mem_of_getElem? (i := 59) (by decide +kernel)) (by decide +kernel), Or.inl (zG_of (List.mem_of_getElem? (i := 940) (by decide +kernel)) (by decide +kernel))⟩
theorem lX9_207 : zLv RX9 207 yX9_figuresWithMoves := ⟨zG_of (List.mem_of_getElem? (i := 997) (by decide +kernel)) (by decide +kernel), zG_of (List.mem_of_getElem? (i := 44) (by decide +kernel)) (by decide +kernel), zG_of (List.mem_of_getElem? (i := 59) (by decide +kernel)) (by decide +kernel), Or.inl (zG_of (List.mem_of_getElem? (i := 995) (by decide +kernel)) (by decide +kernel))⟩
theorem lX9_210 : zLv RX9 210 yX9_begin := ⟨zG_of (List.mem_of_getElem? (i := 1013) (by decide +kernel)) (by decide +kernel), zG_of (List.mem_of_getElem? (i := 45) (by decide +kernel)) (by decide +kernel), zG_of (List.mem_of_getElem? (i := 59) (by decide +kernel)) (by decide +kernel), Or.inl (zG_of (List.mem_of_getElem? (i := 1011) (by decide +kernel)) (by decide +kernel))⟩
theorem lX9_213 : zLv RX9 213 yX9_isHome := ⟨zG_of (List.mem_of_getElem? (i := 1017) (by decide +kernel)) (by decide +kernel), zG_of (List.mem_of_getElem? (i := 46) (by decide +kernel)) (by decide +kernel), zG_of (List.mem_of_getElem? (i := 59) (by decide +kernel)) (by decide +kernel), Or.inl (zG_of (List.mem_of_getElem? (i := 1015) (by decide +kernel)) (by decide +kernel))⟩
theorem lX9_216 : zLv RX9 216 yX9_apply := ⟨zG_of (List.mem_of_getElem? (i := 1021) (by decide +kernel)) (by decide +kernel), zG_of (List.mem_of_getElem? (i := 47) (by decide +kernel)) (by decide +kernel), zG_of (List.mem_of_getElem? (i := 59) (by decide +kernel)) (by decide +kernel), Or.inl (zG_of (List.mem_of_getElem? (i := 1019) (by decide +kernel)) (by decide +kernel))⟩
theorem lX9_219 : zLv RX9 219 yX9_shortest := ⟨zG_of (List.mem_of_getElem? (i := 1029) (by decide +kernel)) (by decide +kernel), zG_of (List.mem_of_getElem? (i := 48) (by decide +kernel)) (by decide +kernel), zG_of (List.mem_of_getElem? (i := 59) (by decide +kernel)) (by decide +kernel), Or.inl (zG_of (List.mem_of_getElem? (i := 1027) (by decide +kernel)) (by decide +kernel))⟩
theorem uX9_222 : Jvm.Cond.constantDouble RX9 222 4621819117588971520 ∈ zG := zG_of (List.mem_of_getElem? (i := 1035) (by decide +kernel)) (by decide +kernel)
theorem oX0_3 : zLo RX0 3 := ⟨zG_of (List.mem_of_getElem? (i := 118) (by decide +kernel)) (by decide +kernel), zG_of (List.mem_of_getElem? (i := 68) (by decide +kernel)) (by decide +kernel), zG_of (List.mem_of_getElem? (i := 69) (by decide +kernel)) (by decide +kernel)⟩
theorem fX0_9 : zFp RX0 9 0 0 := ⟨by decide, by decide, rfl, List.mem_of_getElem? (i := 119) (by decide +kernel), by decide +kernel⟩
theorem fX0_15 : zFp RX0 15 0 1 := ⟨by decide, by decide, rfl, List.mem_of_getElem? (i := 120) (by decide +kernel), by decide +kernel⟩
theorem lX0_18 : zLs RX0 18 yX8_copy := ⟨zG_of (List.mem_of_getElem? (i := 313) (by decide +kernel)) (by decide +kernel), zG_of (List.mem_of_getElem? (i := 50) (by decide +kernel)) (by decide +kernel), Or.inr ⟨"DanceFigures", List.mem_of_getElem? (i := 330) (by decide +kernel)⟩⟩
theorem lX0_22 : zLs RX0 22 yX8_read := ⟨zG_of (List.mem_of_getElem? (i := 274) (by decide +kernel)) (by decide +kernel), zG_of (List.mem_of_getElem? (i := 50) (by decide +kernel)) (by decide +kernel), Or.inr ⟨"DanceFigures", List.mem_of_getElem? (i := 280) (by decide +kernel)⟩⟩
theorem lX0_26 : zLv RX0 26 yX0_size := ⟨zG_of (List.mem_of_getElem? (i := 277) (by decide +kernel)) (by decide +kernel), zG_of (List.mem_of_getElem? (i := 278) (by decide +kernel)) (by decide +kernel), zG_of (List.mem_of_getElem? (i := 54) (by decide +kernel)) (by decide +kernel), Or.inl (zG_of (List.mem_of_getElem? (i := 339) (by decide +kernel)) (by decide +kernel))⟩
theorem lX0_30 : zLs RX0 30 yX8_write := ⟨zG_of (List.mem_of_getElem? (i := 341) (by decide +kernel)) (by decide +kernel), zG_of (List.mem_of_getElem? (i := 50) (by decide +kernel)) (by decide +kernel), Or.inr ⟨"DanceFigures", List.mem_of_getElem? (i := 340) (by decide +kernel)⟩⟩
theorem oX1_3 : zLo RX1 3 := ⟨zG_of (List.mem_of_getElem? (i := 156) (by decide +kernel)) (by decide +kernel), zG_of (List.mem_of_getElem? (i := 68) (by decide +kernel)) (by decide +kernel), zG_of (List.mem_of_getElem? (i := 69) (by decide +kernel)) (by decide +kernel)⟩
theorem aX1_9 : Jvm.Cond.classLink RX1 9 RX7 ∈ zG := zG_of (List.mem_of_getElem? (i := 157) (by decide +kernel)) (by decide +kernel)
theorem fX1_11 : zFp RX1 11 1 0 := ⟨by decide, by decide, rfl, List.mem_of_getElem? (i := 160) (by decide +kernel), by decide +kernel⟩
theorem fX1_17 : zFp RX1 17 1 1 := ⟨by decide, by decide, rfl, List.mem_of_getElem? (i := 161) (by decide +kernel), by decide +kernel⟩
theorem fX1_21 : zFp RX1 21 1 2 := ⟨by decide, by decide, rfl, List.mem_of_getElem? (i := 162) (by decide +kernel), by decide +kernel⟩
theorem lX1_24 : zLi RX1 24 yX7_init := ⟨zG_of (List.mem_of_getElem? (i := 73) (by decide +kernel)) (by decide +kernel), rfl, zG_of (List.mem_of_getElem? (i := 51) (by decide +kernel)) (by decide +kernel), Or.inr ⟨"DanceFigures", List.mem_of_getElem? (i := 159) (by decide +kernel)⟩⟩
theorem lX1_25 : zLv RX1 25 yX7_copyFrom := ⟨zG_of (List.mem_of_getElem? (i := 305) (by decide +kernel)) (by decide +kernel), zG_of (List.mem_of_getElem? (i := 306) (by decide +kernel)) (by decide +kernel), zG_of (List.mem_of_getElem? (i := 51) (by decide +kernel)) (by decide +kernel), Or.inl (zG_of (List.mem_of_getElem? (i := 304) (by decide +kernel)) (by decide +kernel))⟩
theorem hX1_29 : zLm RX1 29 Lib.Math.min.name ∧ Jvm.Cond.code Lib.Math.min.name Lib.Math.min.code 2 (some .int) ∈ zG := ⟨⟨zG_of (List.mem_of_getElem? (i := 331) (by decide +kernel)) (by decide +kernel), zG_of (List.mem_of_getElem? (i := 316) (by decide +kernel)) (by decide +kernel), zG_of (List.mem_of_getElem? (i := 60) (by decide +kernel)) (by decide +kernel)⟩, zG_of (List.mem_of_getElem? (i := 317) (by decide +kernel)) (by decide +kernel)⟩
theorem oX2_3 : zLo RX2 3 := ⟨zG_of (List.mem_of_getElem? (i := 105) (by decide +kernel)) (by decide +kernel), zG_of (List.mem_of_getElem? (i := 68) (by decide +kernel)) (by decide +kernel), zG_of (List.mem_of_getElem? (i := 69) (by decide +kernel)) (by decide +kernel)⟩
theorem fX2_9 : zFp RX2 9 2 0 := ⟨by decide, by decide, rfl, List.mem_of_getElem? (i := 106) (by decide +kernel), by decide +kernel⟩
theorem fX2_15 : zFp RX2 15 2 1 := ⟨by decide, by decide, rfl, List.mem_of_getElem? (i := 107) (by decide +kernel), by decide +kernel⟩
theorem lX2_19 : zLs RX2 19 yX8_copy := ⟨zG_of (List.mem_of_getElem? (i := 313) (by decide +kernel)) (by decide +kernel), zG_of (List.mem_of_getElem? (i := 50) (by decide +kernel)) (by decide +kernel), Or.inr ⟨"DanceFigures", List.mem_of_getElem? (i := 325) (by decide +kernel)⟩⟩
theorem lX2_23 : zLs RX2 23 yX8_read := ⟨zG_of (List.mem_of_getElem? (i := 274) (by decide +kernel)) (by decide +kernel), zG_of (List.mem_of_getElem? (i := 50) (by decide +kernel)) (by decide +kernel), Or.inr ⟨"DanceFigures", List.mem_of_getElem? (i := 422) (by decide +kernel)⟩⟩
theorem lX2_27 : zLs RX2 27 yX8_write := ⟨zG_of (List.mem_of_getElem? (i := 341) (by decide +kernel)) (by decide +kernel), zG_of (List.mem_of_getElem? (i := 50) (by decide +kernel)) (by decide +kernel), Or.inr ⟨"DanceFigures", List.mem_of_getElem? (i := 437) (by decide +kernel)⟩⟩
theorem lX2_31 : zLv RX2 31 yX2_isKeptAt := ⟨zG_of (List.mem_of_getElem? (i := 476) (by decide +kernel)) (by decide +kernel), zG_of (List.mem_of_getElem? (i := 10) (by decide +kernel)) (by decide +kernel), zG_of (List.mem_of_getElem? (i := 53) (by decide +kernel)) (by decide +kernel), Or.inl (zG_of (List.mem_of_getElem? (i := 474) (by decide +kernel)) (by decide +kernel))⟩
theorem lX2_35 : zLv RX2 35 yX4_dancerAt := ⟨zG_of (List.mem_of_getElem? (i := 479) (by decide +kernel)) (by decide +kernel), zG_of (List.mem_of_getElem? (i := 480) (by decide +kernel)) (by decide +kernel), zG_of (List.mem_of_getElem? (i := 52) (by decide +kernel)) (by decide +kernel), Or.inl (zG_of (List.mem_of_getElem? (i := 478) (by decide +kernel)) (by decide +kernel))⟩
theorem lX2_41 : zLv RX2 41 yX2_partner := ⟨zG_of (List.mem_of_getElem? (i := 419) (by decide +kernel)) (by decide +kernel), zG_of (List.mem_of_getElem? (i := 420) (by decide +kernel)) (by decide +kernel), zG_of (List.mem_of_getElem? (i := 53) (by decide +kernel)) (by decide +kernel), Or.inl (zG_of (List.mem_of_getElem? (i := 482) (by decide +kernel)) (by decide +kernel))⟩
theorem lX2_44 : zLv RX2 44 yX2_part := ⟨zG_of (List.mem_of_getElem? (i := 447) (by decide +kernel)) (by decide +kernel), zG_of (List.mem_of_getElem? (i := 448) (by decide +kernel)) (by decide +kernel), zG_of (List.mem_of_getElem? (i := 53) (by decide +kernel)) (by decide +kernel), Or.inl (zG_of (List.mem_of_getElem? (i := 500) (by decide +kernel)) (by decide +kernel))⟩
theorem oX3_3 : zLo RX3 3 := ⟨zG_of (List.mem_of_getElem? (i := 188) (by decide +kernel)) (by decide +kernel), zG_of (List.mem_of_getElem? (i := 68) (by decide +kernel)) (by decide +kernel), zG_of (List.mem_of_getElem? (i := 69) (by decide +kernel)) (by decide +kernel)⟩
theorem fX3_9 : zFp RX3 9 3 0 := ⟨by decide, by decide, rfl, List.mem_of_getElem? (i := 192) (by decide +kernel), by decide +kernel⟩
theorem fX3_15 : zFp RX3 15 3 1 := ⟨by decide, by decide, rfl, List.mem_of_getElem? (i := 193) (by decide +kernel), by decide +kernel⟩
theorem fX3_18 : zFp RX3 18 3 2 := ⟨by decide, by decide, rfl, List.mem_of_getElem? (i := 194) (by decide +kernel), by decide +kernel⟩
theorem fX3_21 : zFp RX3 21 3 3 := ⟨by decide, by decide, rfl, List.mem_of_getElem? (i := 195) (by decide +kernel), by decide +kernel⟩
theorem aX3_24 : Jvm.Cond.classLink RX3 24 RX4 ∈ zG := zG_of (List.mem_of_getElem? (i := 189) (by decide +kernel)) (by decide +kernel)
theorem fX3_26 : zFp RX3 26 3 4 := ⟨by decide, by decide, rfl, List.mem_of_getElem? (i := 196) (by decide +kernel), by decide +kernel⟩
theorem lX3_30 : zLi RX3 30 yX4_init := ⟨zG_of (List.mem_of_getElem? (i := 79) (by decide +kernel)) (by decide +kernel), rfl, zG_of (List.mem_of_getElem? (i := 52) (by decide +kernel)) (by decide +kernel), Or.inl (zG_of (List.mem_of_getElem? (i := 191) (by decide +kernel)) (by decide +kernel))⟩
theorem fX3_31 : zFp RX3 31 3 5 := ⟨by decide, by decide, rfl, List.mem_of_getElem? (i := 197) (by decide +kernel), by decide +kernel⟩
theorem lX3_35 : zLv RX3 35 yX4_settle := ⟨zG_of (List.mem_of_getElem? (i := 83) (by decide +kernel)) (by decide +kernel), zG_of (List.mem_of_getElem? (i := 84) (by decide +kernel)) (by decide +kernel), zG_of (List.mem_of_getElem? (i := 52) (by decide +kernel)) (by decide +kernel), Or.inl (zG_of (List.mem_of_getElem? (i := 347) (by decide +kernel)) (by decide +kernel))⟩
theorem lX3_38 : zLv RX3 38 yX0_size := ⟨zG_of (List.mem_of_getElem? (i := 277) (by decide +kernel)) (by decide +kernel), zG_of (List.mem_of_getElem? (i := 278) (by decide +kernel)) (by decide +kernel), zG_of (List.mem_of_getElem? (i := 54) (by decide +kernel)) (by decide +kernel), Or.inl (zG_of (List.mem_of_getElem? (i := 289) (by decide +kernel)) (by decide +kernel))⟩
theorem lX3_44 : zLv RX3 44 yX0_code := ⟨zG_of (List.mem_of_getElem? (i := 291) (by decide +kernel)) (by decide +kernel), zG_of (List.mem_of_getElem? (i := 292) (by decide +kernel)) (by decide +kernel), zG_of (List.mem_of_getElem? (i := 54) (by decide +kernel)) (by decide +kernel), Or.inl (zG_of (List.mem_of_getElem? (i := 290) (by decide +kernel)) (by decide +kernel))⟩
theorem lX3_48 : zLv RX3 48 yX3_include := ⟨zG_of (List.mem_of_getElem? (i := 350) (by decide +kernel)) (by decide +kernel), zG_of (List.mem_of_getElem? (i := 1) (by decide +kernel)) (by decide +kernel), zG_of (List.mem_of_getElem? (i := 57) (by decide +kernel)) (by decide +kernel), Or.inl (zG_of (List.mem_of_getElem? (i := 348) (by decide +kernel)) (by decide +kernel))⟩
theorem lX3_52 : zLs RX3 52 yX8_kindOf := ⟨zG_of (List.mem_of_getElem? (i := 295) (by decide +kernel)) (by decide +kernel), zG_of (List.mem_of_getElem? (i := 50) (by decide +kernel)) (by decide +kernel), Or.inr ⟨"DanceFigures", List.mem_of_getElem? (i := 294) (by decide +kernel)⟩⟩
theorem lX3_55 : zLs RX3 55 yX8_firstOf := ⟨zG_of (List.mem_of_getElem? (i := 298) (by decide +kernel)) (by decide +kernel), zG_of (List.mem_of_getElem? (i := 50) (by decide +kernel)) (by decide +kernel), Or.inr ⟨"DanceFigures", List.mem_of_getElem? (i := 297) (by decide +kernel)⟩⟩
theorem lX3_58 : zLv RX3 58 yX3_includeCall := ⟨zG_of (List.mem_of_getElem? (i := 354) (by decide +kernel)) (by decide +kernel), zG_of (List.mem_of_getElem? (i := 2) (by decide +kernel)) (by decide +kernel), zG_of (List.mem_of_getElem? (i := 57) (by decide +kernel)) (by decide +kernel), Or.inl (zG_of (List.mem_of_getElem? (i := 352) (by decide +kernel)) (by decide +kernel))⟩
theorem lX3_61 : zLv RX3 61 yX3_putStep := ⟨zG_of (List.mem_of_getElem? (i := 359) (by decide +kernel)) (by decide +kernel), zG_of (List.mem_of_getElem? (i := 3) (by decide +kernel)) (by decide +kernel), zG_of (List.mem_of_getElem? (i := 57) (by decide +kernel)) (by decide +kernel), Or.inl (zG_of (List.mem_of_getElem? (i := 357) (by decide +kernel)) (by decide +kernel))⟩
theorem lX3_64 : zLv RX3 64 yX3_effectOf := ⟨zG_of (List.mem_of_getElem? (i := 363) (by decide +kernel)) (by decide +kernel), zG_of (List.mem_of_getElem? (i := 364) (by decide +kernel)) (by decide +kernel), zG_of (List.mem_of_getElem? (i := 57) (by decide +kernel)) (by decide +kernel), Or.inl (zG_of (List.mem_of_getElem? (i := 362) (by decide +kernel)) (by decide +kernel))⟩
theorem lX3_68 : zLv RX3 68 yX4_make := ⟨zG_of (List.mem_of_getElem? (i := 381) (by decide +kernel)) (by decide +kernel), zG_of (List.mem_of_getElem? (i := 382) (by decide +kernel)) (by decide +kernel), zG_of (List.mem_of_getElem? (i := 52) (by decide +kernel)) (by decide +kernel), Or.inl (zG_of (List.mem_of_getElem? (i := 380) (by decide +kernel)) (by decide +kernel))⟩
theorem lX3_72 : zLv RX3 72 yX3_stepCount := ⟨zG_of (List.mem_of_getElem? (i := 270) (by decide +kernel)) (by decide +kernel), zG_of (List.mem_of_getElem? (i := 271) (by decide +kernel)) (by decide +kernel), zG_of (List.mem_of_getElem? (i := 57) (by decide +kernel)) (by decide +kernel), Or.inl (zG_of (List.mem_of_getElem? (i := 356) (by decide +kernel)) (by decide +kernel))⟩
theorem lX3_75 : zLs RX3 75 yX8_read := ⟨zG_of (List.mem_of_getElem? (i := 274) (by decide +kernel)) (by decide +kernel), zG_of (List.mem_of_getElem? (i := 50) (by decide +kernel)) (by decide +kernel), Or.inr ⟨"DanceFigures", List.mem_of_getElem? (i := 273) (by decide +kernel)⟩⟩
theorem lX3_79 : zLv RX3 79 yX4_follow := ⟨zG_of (List.mem_of_getElem? (i := 368) (by decide +kernel)) (by decide +kernel), zG_of (List.mem_of_getElem? (i := 369) (by decide +kernel)) (by decide +kernel), zG_of (List.mem_of_getElem? (i := 52) (by decide +kernel)) (by decide +kernel), Or.inl (zG_of (List.mem_of_getElem? (i := 367) (by decide +kernel)) (by decide +kernel))⟩
theorem lX3_83 : zLv RX3 83 yX3_calledBy := ⟨zG_of (List.mem_of_getElem? (i := 377) (by decide +kernel)) (by decide +kernel), zG_of (List.mem_of_getElem? (i := 378) (by decide +kernel)) (by decide +kernel), zG_of (List.mem_of_getElem? (i := 57) (by decide +kernel)) (by decide +kernel), Or.inl (zG_of (List.mem_of_getElem? (i := 376) (by decide +kernel)) (by decide +kernel))⟩
theorem lX3_86 : zLs RX3 86 yX8_write := ⟨zG_of (List.mem_of_getElem? (i := 341) (by decide +kernel)) (by decide +kernel), zG_of (List.mem_of_getElem? (i := 50) (by decide +kernel)) (by decide +kernel), Or.inr ⟨"DanceFigures", List.mem_of_getElem? (i := 361) (by decide +kernel)⟩⟩
theorem lX3_90 : zLs RX3 90 yX8_undoing := ⟨zG_of (List.mem_of_getElem? (i := 464) (by decide +kernel)) (by decide +kernel), zG_of (List.mem_of_getElem? (i := 50) (by decide +kernel)) (by decide +kernel), Or.inr ⟨"DanceFigures", List.mem_of_getElem? (i := 463) (by decide +kernel)⟩⟩
theorem lX3_93 : zLs RX3 93 yX8_isFigure := ⟨zG_of (List.mem_of_getElem? (i := 261) (by decide +kernel)) (by decide +kernel), zG_of (List.mem_of_getElem? (i := 50) (by decide +kernel)) (by decide +kernel), Or.inr ⟨"DanceFigures", List.mem_of_getElem? (i := 366) (by decide +kernel)⟩⟩
theorem lX3_97 : zLv RX3 97 yX3_growthByCalls := ⟨zG_of (List.mem_of_getElem? (i := 287) (by decide +kernel)) (by decide +kernel), zG_of (List.mem_of_getElem? (i := 0) (by decide +kernel)) (by decide +kernel), zG_of (List.mem_of_getElem? (i := 57) (by decide +kernel)) (by decide +kernel), Or.inl (zG_of (List.mem_of_getElem? (i := 285) (by decide +kernel)) (by decide +kernel))⟩
theorem oX4_3 : zLo RX4 3 := ⟨zG_of (List.mem_of_getElem? (i := 81) (by decide +kernel)) (by decide +kernel), zG_of (List.mem_of_getElem? (i := 68) (by decide +kernel)) (by decide +kernel), zG_of (List.mem_of_getElem? (i := 69) (by decide +kernel)) (by decide +kernel)⟩
theorem fX4_9 : zFp RX4 9 4 0 := ⟨by decide, by decide, rfl, List.mem_of_getElem? (i := 86) (by decide +kernel), by decide +kernel⟩
theorem fX4_15 : zFp RX4 15 4 1 := ⟨by decide, by decide, rfl, List.mem_of_getElem? (i := 87) (by decide +kernel), by decide +kernel⟩
theorem fX4_18 : zFp RX4 18 4 2 := ⟨by decide, by decide, rfl, List.mem_of_getElem? (i := 88) (by decide +kernel), by decide +kernel⟩
theorem fX4_21 : zFp RX4 21 4 3 := ⟨by decide, by decide, rfl, List.mem_of_getElem? (i := 89) (by decide +kernel), by decide +kernel⟩
theorem lX4_24 : zLv RX4 24 yX4_settle := ⟨zG_of (List.mem_of_getElem? (i := 83) (by decide +kernel)) (by decide +kernel), zG_of (List.mem_of_getElem? (i := 84) (by decide +kernel)) (by decide +kernel), zG_of (List.mem_of_getElem? (i := 52) (by decide +kernel)) (by decide +kernel), Or.inl (zG_of (List.mem_of_getElem? (i := 82) (by decide +kernel)) (by decide +kernel))⟩
theorem lX4_27 : zLs RX4 27 yX8_copy := ⟨zG_of (List.mem_of_getElem? (i := 313) (by decide +kernel)) (by decide +kernel), zG_of (List.mem_of_getElem? (i := 50) (by decide +kernel)) (by decide +kernel), Or.inr ⟨"DanceFigures", List.mem_of_getElem? (i := 312) (by decide +kernel)⟩⟩
theorem lX4_31 : zLs RX4 31 yX8_read := ⟨zG_of (List.mem_of_getElem? (i := 274) (by decide +kernel)) (by decide +kernel), zG_of (List.mem_of_getElem? (i := 50) (by decide +kernel)) (by decide +kernel), Or.inr ⟨"DanceFigures", List.mem_of_getElem? (i := 375) (by decide +kernel)⟩⟩
theorem lX4_35 : zLs RX4 35 yX8_firstOf := ⟨zG_of (List.mem_of_getElem? (i := 298) (by decide +kernel)) (by decide +kernel), zG_of (List.mem_of_getElem? (i := 50) (by decide +kernel)) (by decide +kernel), Or.inr ⟨"DanceFigures", List.mem_of_getElem? (i := 384) (by decide +kernel)⟩⟩
theorem lX4_39 : zLs RX4 39 yX8_secondOf := ⟨zG_of (List.mem_of_getElem? (i := 386) (by decide +kernel)) (by decide +kernel), zG_of (List.mem_of_getElem? (i := 50) (by decide +kernel)) (by decide +kernel), Or.inr ⟨"DanceFigures", List.mem_of_getElem? (i := 385) (by decide +kernel)⟩⟩
theorem lX4_42 : zLs RX4 42 yX8_kindOf := ⟨zG_of (List.mem_of_getElem? (i := 295) (by decide +kernel)) (by decide +kernel), zG_of (List.mem_of_getElem? (i := 50) (by decide +kernel)) (by decide +kernel), Or.inr ⟨"DanceFigures", List.mem_of_getElem? (i := 388) (by decide +kernel)⟩⟩
theorem lX4_45 : zLv RX4 45 yX4_exchange := ⟨zG_of (List.mem_of_getElem? (i := 391) (by decide +kernel)) (by decide +kernel), zG_of (List.mem_of_getElem? (i := 5) (by decide +kernel)) (by decide +kernel), zG_of (List.mem_of_getElem? (i := 52) (by decide +kernel)) (by decide +kernel), Or.inl (zG_of (List.mem_of_getElem? (i := 389) (by decide +kernel)) (by decide +kernel))⟩
theorem lX4_49 : zLv RX4 49 yX4_turn := ⟨zG_of (List.mem_of_getElem? (i := 396) (by decide +kernel)) (by decide +kernel), zG_of (List.mem_of_getElem? (i := 6) (by decide +kernel)) (by decide +kernel), zG_of (List.mem_of_getElem? (i := 52) (by decide +kernel)) (by decide +kernel), Or.inl (zG_of (List.mem_of_getElem? (i := 394) (by decide +kernel)) (by decide +kernel))⟩
theorem lX4_52 : zLv RX4 52 yX4_shift := ⟨zG_of (List.mem_of_getElem? (i := 400) (by decide +kernel)) (by decide +kernel), zG_of (List.mem_of_getElem? (i := 7) (by decide +kernel)) (by decide +kernel), zG_of (List.mem_of_getElem? (i := 52) (by decide +kernel)) (by decide +kernel), Or.inl (zG_of (List.mem_of_getElem? (i := 398) (by decide +kernel)) (by decide +kernel))⟩
theorem lX4_56 : zLv RX4 56 yX4_mirror := ⟨zG_of (List.mem_of_getElem? (i := 404) (by decide +kernel)) (by decide +kernel), zG_of (List.mem_of_getElem? (i := 8) (by decide +kernel)) (by decide +kernel), zG_of (List.mem_of_getElem? (i := 52) (by decide +kernel)) (by decide +kernel), Or.inl (zG_of (List.mem_of_getElem? (i := 402) (by decide +kernel)) (by decide +kernel))⟩
theorem lX4_59 : zLs RX4 59 yX8_write := ⟨zG_of (List.mem_of_getElem? (i := 341) (by decide +kernel)) (by decide +kernel), zG_of (List.mem_of_getElem? (i := 50) (by decide +kernel)) (by decide +kernel), Or.inr ⟨"DanceFigures", List.mem_of_getElem? (i := 393) (by decide +kernel)⟩⟩
theorem lX4_63 : zLv RX4 63 yX4_remember := ⟨zG_of (List.mem_of_getElem? (i := 373) (by decide +kernel)) (by decide +kernel), zG_of (List.mem_of_getElem? (i := 4) (by decide +kernel)) (by decide +kernel), zG_of (List.mem_of_getElem? (i := 52) (by decide +kernel)) (by decide +kernel), Or.inl (zG_of (List.mem_of_getElem? (i := 371) (by decide +kernel)) (by decide +kernel))⟩
theorem lX4_66 : zLv RX4 66 yX4_homeCount := ⟨zG_of (List.mem_of_getElem? (i := 492) (by decide +kernel)) (by decide +kernel), zG_of (List.mem_of_getElem? (i := 493) (by decide +kernel)) (by decide +kernel), zG_of (List.mem_of_getElem? (i := 52) (by decide +kernel)) (by decide +kernel), Or.inl (zG_of (List.mem_of_getElem? (i := 606) (by decide +kernel)) (by decide +kernel))⟩
theorem hX4_70 : zLm RX4 70 Lib.Math.abs.name ∧ Jvm.Cond.code Lib.Math.abs.name Lib.Math.abs.code 1 (some .int) ∈ zG := ⟨⟨zG_of (List.mem_of_getElem? (i := 693) (by decide +kernel)) (by decide +kernel), zG_of (List.mem_of_getElem? (i := 431) (by decide +kernel)) (by decide +kernel), zG_of (List.mem_of_getElem? (i := 60) (by decide +kernel)) (by decide +kernel)⟩, zG_of (List.mem_of_getElem? (i := 432) (by decide +kernel)) (by decide +kernel)⟩
theorem hX4_75 : zLm RX4 75 Lib.Math.min.name ∧ Jvm.Cond.code Lib.Math.min.name Lib.Math.min.code 2 (some .int) ∈ zG := ⟨⟨zG_of (List.mem_of_getElem? (i := 694) (by decide +kernel)) (by decide +kernel), zG_of (List.mem_of_getElem? (i := 316) (by decide +kernel)) (by decide +kernel), zG_of (List.mem_of_getElem? (i := 60) (by decide +kernel)) (by decide +kernel)⟩, zG_of (List.mem_of_getElem? (i := 317) (by decide +kernel)) (by decide +kernel)⟩
theorem oX5_3 : zLo RX5 3 := ⟨zG_of (List.mem_of_getElem? (i := 175) (by decide +kernel)) (by decide +kernel), zG_of (List.mem_of_getElem? (i := 68) (by decide +kernel)) (by decide +kernel), zG_of (List.mem_of_getElem? (i := 69) (by decide +kernel)) (by decide +kernel)⟩
theorem fX5_9 : zFp RX5 9 5 0 := ⟨by decide, by decide, rfl, List.mem_of_getElem? (i := 176) (by decide +kernel), by decide +kernel⟩
theorem fX5_15 : zFp RX5 15 5 1 := ⟨by decide, by decide, rfl, List.mem_of_getElem? (i := 177) (by decide +kernel), by decide +kernel⟩
theorem lX5_19 : zLs RX5 19 yX8_write := ⟨zG_of (List.mem_of_getElem? (i := 341) (by decide +kernel)) (by decide +kernel), zG_of (List.mem_of_getElem? (i := 50) (by decide +kernel)) (by decide +kernel), Or.inr ⟨"DanceFigures", List.mem_of_getElem? (i := 513) (by decide +kernel)⟩⟩
theorem hX5_23 : zLm RX5 23 Lib.Math.min.name ∧ Jvm.Cond.code Lib.Math.min.name Lib.Math.min.code 2 (some .int) ∈ zG := ⟨⟨zG_of (List.mem_of_getElem? (i := 514) (by decide +kernel)) (by decide +kernel), zG_of (List.mem_of_getElem? (i := 316) (by decide +kernel)) (by decide +kernel), zG_of (List.mem_of_getElem? (i := 60) (by decide +kernel)) (by decide +kernel)⟩, zG_of (List.mem_of_getElem? (i := 317) (by decide +kernel)) (by decide +kernel)⟩
theorem lX5_29 : zLs RX5 29 yX8_read := ⟨zG_of (List.mem_of_getElem? (i := 274) (by decide +kernel)) (by decide +kernel), zG_of (List.mem_of_getElem? (i := 50) (by decide +kernel)) (by decide +kernel), Or.inr ⟨"DanceFigures", List.mem_of_getElem? (i := 531) (by decide +kernel)⟩⟩
theorem lX5_33 : zLs RX5 33 yX5_after := ⟨zG_of (List.mem_of_getElem? (i := 533) (by decide +kernel)) (by decide +kernel), zG_of (List.mem_of_getElem? (i := 56) (by decide +kernel)) (by decide +kernel), Or.inl (zG_of (List.mem_of_getElem? (i := 532) (by decide +kernel)) (by decide +kernel))⟩
theorem lX5_36 : zLs RX5 36 yX5_isLetter := ⟨zG_of (List.mem_of_getElem? (i := 536) (by decide +kernel)) (by decide +kernel), zG_of (List.mem_of_getElem? (i := 56) (by decide +kernel)) (by decide +kernel), Or.inl (zG_of (List.mem_of_getElem? (i := 535) (by decide +kernel)) (by decide +kernel))⟩
theorem oX6_3 : zLo RX6 3 := ⟨zG_of (List.mem_of_getElem? (i := 216) (by decide +kernel)) (by decide +kernel), zG_of (List.mem_of_getElem? (i := 68) (by decide +kernel)) (by decide +kernel), zG_of (List.mem_of_getElem? (i := 69) (by decide +kernel)) (by decide +kernel)⟩
theorem fX6_9 : zFp RX6 9 6 0 := ⟨by decide, by decide, rfl, List.mem_of_getElem? (i := 219) (by decide +kernel), by decide +kernel⟩
theorem aX6_15 : Jvm.Cond.classLink RX6 15 RX4 ∈ zG := zG_of (List.mem_of_getElem? (i := 217) (by decide +kernel)) (by decide +kernel)
theorem fX6_17 : zFp RX6 17 6 1 := ⟨by decide, by decide, rfl, List.mem_of_getElem? (i := 220) (by decide +kernel), by decide +kernel⟩
theorem lX6_21 : zLi RX6 21 yX4_init := ⟨zG_of (List.mem_of_getElem? (i := 79) (by decide +kernel)) (by decide +kernel), rfl, zG_of (List.mem_of_getElem? (i := 52) (by decide +kernel)) (by decide +kernel), Or.inl (zG_of (List.mem_of_getElem? (i := 218) (by decide +kernel)) (by decide +kernel))⟩
theorem lX6_22 : zLs RX6 22 yX8_read := ⟨zG_of (List.mem_of_getElem? (i := 274) (by decide +kernel)) (by decide +kernel), zG_of (List.mem_of_getElem? (i := 50) (by decide +kernel)) (by decide +kernel), Or.inr ⟨"DanceFigures", List.mem_of_getElem? (i := 684) (by decide +kernel)⟩⟩
theorem lX6_26 : zLv RX6 26 yX4_isHome := ⟨zG_of (List.mem_of_getElem? (i := 603) (by decide +kernel)) (by decide +kernel), zG_of (List.mem_of_getElem? (i := 604) (by decide +kernel)) (by decide +kernel), zG_of (List.mem_of_getElem? (i := 52) (by decide +kernel)) (by decide +kernel), Or.inl (zG_of (List.mem_of_getElem? (i := 669) (by decide +kernel)) (by decide +kernel))⟩
theorem lX6_30 : zLs RX6 30 yX6_leadsHome := ⟨zG_of (List.mem_of_getElem? (i := 671) (by decide +kernel)) (by decide +kernel), zG_of (List.mem_of_getElem? (i := 58) (by decide +kernel)) (by decide +kernel), Or.inl (zG_of (List.mem_of_getElem? (i := 670) (by decide +kernel)) (by decide +kernel))⟩
theorem lX6_34 : zLv RX6 34 yX3_effectOf := ⟨zG_of (List.mem_of_getElem? (i := 363) (by decide +kernel)) (by decide +kernel), zG_of (List.mem_of_getElem? (i := 364) (by decide +kernel)) (by decide +kernel), zG_of (List.mem_of_getElem? (i := 57) (by decide +kernel)) (by decide +kernel), Or.inl (zG_of (List.mem_of_getElem? (i := 673) (by decide +kernel)) (by decide +kernel))⟩
theorem lX6_40 : zLv RX6 40 yX4_isBroughtHomeBy := ⟨zG_of (List.mem_of_getElem? (i := 675) (by decide +kernel)) (by decide +kernel), zG_of (List.mem_of_getElem? (i := 676) (by decide +kernel)) (by decide +kernel), zG_of (List.mem_of_getElem? (i := 52) (by decide +kernel)) (by decide +kernel), Or.inl (zG_of (List.mem_of_getElem? (i := 674) (by decide +kernel)) (by decide +kernel))⟩
theorem lX6_44 : zLv RX6 44 yX4_copyFrom := ⟨zG_of (List.mem_of_getElem? (i := 309) (by decide +kernel)) (by decide +kernel), zG_of (List.mem_of_getElem? (i := 310) (by decide +kernel)) (by decide +kernel), zG_of (List.mem_of_getElem? (i := 52) (by decide +kernel)) (by decide +kernel), Or.inl (zG_of (List.mem_of_getElem? (i := 678) (by decide +kernel)) (by decide +kernel))⟩
theorem lX6_48 : zLv RX6 48 yX4_follow := ⟨zG_of (List.mem_of_getElem? (i := 368) (by decide +kernel)) (by decide +kernel), zG_of (List.mem_of_getElem? (i := 369) (by decide +kernel)) (by decide +kernel), zG_of (List.mem_of_getElem? (i := 52) (by decide +kernel)) (by decide +kernel), Or.inl (zG_of (List.mem_of_getElem? (i := 679) (by decide +kernel)) (by decide +kernel))⟩
theorem oX7_1 : zLo RX7 1 := ⟨zG_of (List.mem_of_getElem? (i := 75) (by decide +kernel)) (by decide +kernel), zG_of (List.mem_of_getElem? (i := 68) (by decide +kernel)) (by decide +kernel), zG_of (List.mem_of_getElem? (i := 69) (by decide +kernel)) (by decide +kernel)⟩
theorem nX7_7 : zLn RX7 7 4 := ⟨by decide, zG_of (List.mem_of_getElem? (i := 76) (by decide +kernel)) (by decide +kernel), zG_of (List.mem_of_getElem? (i := 77) (by decide +kernel)) (by decide +kernel), zG_of (List.mem_of_getElem? (i := 52) (by decide +kernel)) (by decide +kernel)⟩
theorem lX7_9 : zLi RX7 9 yX4_init := ⟨zG_of (List.mem_of_getElem? (i := 79) (by decide +kernel)) (by decide +kernel), rfl, zG_of (List.mem_of_getElem? (i := 52) (by decide +kernel)) (by decide +kernel), Or.inl (zG_of (List.mem_of_getElem? (i := 78) (by decide +kernel)) (by decide +kernel))⟩
theorem fX7_10 : zFp RX7 10 7 0 := ⟨by decide, by decide, rfl, List.mem_of_getElem? (i := 126) (by decide +kernel), by decide +kernel⟩
theorem nX7_16 : zLn RX7 16 2 := ⟨by decide, zG_of (List.mem_of_getElem? (i := 100) (by decide +kernel)) (by decide +kernel), zG_of (List.mem_of_getElem? (i := 101) (by decide +kernel)) (by decide +kernel), zG_of (List.mem_of_getElem? (i := 53) (by decide +kernel)) (by decide +kernel)⟩
theorem lX7_18 : zLi RX7 18 yX2_init := ⟨zG_of (List.mem_of_getElem? (i := 103) (by decide +kernel)) (by decide +kernel), rfl, zG_of (List.mem_of_getElem? (i := 53) (by decide +kernel)) (by decide +kernel), Or.inl (zG_of (List.mem_of_getElem? (i := 102) (by decide +kernel)) (by decide +kernel))⟩
theorem fX7_19 : zFp RX7 19 7 1 := ⟨by decide, by decide, rfl, List.mem_of_getElem? (i := 128) (by decide +kernel), by decide +kernel⟩
theorem nX7_23 : zLn RX7 23 0 := ⟨by decide, zG_of (List.mem_of_getElem? (i := 113) (by decide +kernel)) (by decide +kernel), zG_of (List.mem_of_getElem? (i := 114) (by decide +kernel)) (by decide +kernel), zG_of (List.mem_of_getElem? (i := 54) (by decide +kernel)) (by decide +kernel)⟩
theorem lX7_25 : zLi RX7 25 yX0_init := ⟨zG_of (List.mem_of_getElem? (i := 116) (by decide +kernel)) (by decide +kernel), rfl, zG_of (List.mem_of_getElem? (i := 54) (by decide +kernel)) (by decide +kernel), Or.inr ⟨"DanceFigures", List.mem_of_getElem? (i := 115) (by decide +kernel)⟩⟩
theorem fX7_26 : zFp RX7 26 7 2 := ⟨by decide, by decide, rfl, List.mem_of_getElem? (i := 130) (by decide +kernel), by decide +kernel⟩
theorem fX7_30 : zFp RX7 30 7 3 := ⟨by decide, by decide, rfl, List.mem_of_getElem? (i := 132) (by decide +kernel), by decide +kernel⟩
theorem fX7_34 : zFp RX7 34 7 4 := ⟨by decide, by decide, rfl, List.mem_of_getElem? (i := 134) (by decide +kernel), by decide +kernel⟩
theorem fX7_37 : zFp RX7 37 7 5 := ⟨by decide, by decide, rfl, List.mem_of_getElem? (i := 136) (by decide +kernel), by decide +kernel⟩
theorem lX7_40 : zLv RX7 40 yX4_copyFrom := ⟨zG_of (List.mem_of_getElem? (i := 309) (by decide +kernel)) (by decide +kernel), zG_of (List.mem_of_getElem? (i := 310) (by decide +kernel)) (by decide +kernel), zG_of (List.mem_of_getElem? (i := 52) (by decide +kernel)) (by decide +kernel), Or.inl (zG_of (List.mem_of_getElem? (i := 308) (by decide +kernel)) (by decide +kernel))⟩
theorem lX7_44 : zLv RX7 44 yX2_copyFrom := ⟨zG_of (List.mem_of_getElem? (i := 322) (by decide +kernel)) (by decide +kernel), zG_of (List.mem_of_getElem? (i := 323) (by decide +kernel)) (by decide +kernel), zG_of (List.mem_of_getElem? (i := 53) (by decide +kernel)) (by decide +kernel), Or.inl (zG_of (List.mem_of_getElem? (i := 321) (by decide +kernel)) (by decide +kernel))⟩
theorem lX7_47 : zLv RX7 47 yX0_copyFrom := ⟨zG_of (List.mem_of_getElem? (i := 327) (by decide +kernel)) (by decide +kernel), zG_of (List.mem_of_getElem? (i := 328) (by decide +kernel)) (by decide +kernel), zG_of (List.mem_of_getElem? (i := 54) (by decide +kernel)) (by decide +kernel), Or.inl (zG_of (List.mem_of_getElem? (i := 326) (by decide +kernel)) (by decide +kernel))⟩
theorem nL_7 : zLn "DanceFiguresLaw" 7 8 := ⟨by decide, zG_of (List.mem_of_getElem? (i := 62) (by decide +kernel)) (by decide +kernel), zG_of (List.mem_of_getElem? (i := 63) (by decide +kernel)) (by decide +kernel), zG_of (List.mem_of_getElem? (i := 50) (by decide +kernel)) (by decide +kernel)⟩
theorem lL_9 : zLi "DanceFiguresLaw" 9 yX8_init := ⟨zG_of (List.mem_of_getElem? (i := 65) (by decide +kernel)) (by decide +kernel), rfl, zG_of (List.mem_of_getElem? (i := 50) (by decide +kernel)) (by decide +kernel), Or.inl (zG_of (List.mem_of_getElem? (i := 64) (by decide +kernel)) (by decide +kernel))⟩
theorem nL_10 : zLn "DanceFiguresLaw" 10 9 := ⟨by decide, zG_of (List.mem_of_getElem? (i := 696) (by decide +kernel)) (by decide +kernel), zG_of (List.mem_of_getElem? (i := 697) (by decide +kernel)) (by decide +kernel), zG_of (List.mem_of_getElem? (i := 59) (by decide +kernel)) (by decide +kernel)⟩
theorem lL_12 : zLi "DanceFiguresLaw" 12 yX9_init := ⟨zG_of (List.mem_of_getElem? (i := 699) (by decide +kernel)) (by decide +kernel), rfl, zG_of (List.mem_of_getElem? (i := 59) (by decide +kernel)) (by decide +kernel), Or.inl (zG_of (List.mem_of_getElem? (i := 698) (by decide +kernel)) (by decide +kernel))⟩
theorem lL_13 : zLv "DanceFiguresLaw" 13 yX8_add := ⟨zG_of (List.mem_of_getElem? (i := 257) (by decide +kernel)) (by decide +kernel), zG_of (List.mem_of_getElem? (i := 258) (by decide +kernel)) (by decide +kernel), zG_of (List.mem_of_getElem? (i := 50) (by decide +kernel)) (by decide +kernel), Or.inl (zG_of (List.mem_of_getElem? (i := 256) (by decide +kernel)) (by decide +kernel))⟩
theorem lL_17 : zLv "DanceFiguresLaw" 17 yX9_add := ⟨zG_of (List.mem_of_getElem? (i := 791) (by decide +kernel)) (by decide +kernel), zG_of (List.mem_of_getElem? (i := 792) (by decide +kernel)) (by decide +kernel), zG_of (List.mem_of_getElem? (i := 59) (by decide +kernel)) (by decide +kernel), Or.inl (zG_of (List.mem_of_getElem? (i := 790) (by decide +kernel)) (by decide +kernel))⟩
theorem lL_18 : zLv "DanceFiguresLaw" 18 yX8_drop := ⟨zG_of (List.mem_of_getElem? (i := 407) (by decide +kernel)) (by decide +kernel), zG_of (List.mem_of_getElem? (i := 408) (by decide +kernel)) (by decide +kernel), zG_of (List.mem_of_getElem? (i := 50) (by decide +kernel)) (by decide +kernel), Or.inl (zG_of (List.mem_of_getElem? (i := 406) (by decide +kernel)) (by decide +kernel))⟩
theorem lL_22 : zLv "DanceFiguresLaw" 22 yX9_drop := ⟨zG_of (List.mem_of_getElem? (i := 832) (by decide +kernel)) (by decide +kernel), zG_of (List.mem_of_getElem? (i := 833) (by decide +kernel)) (by decide +kernel), zG_of (List.mem_of_getElem? (i := 59) (by decide +kernel)) (by decide +kernel), Or.inl (zG_of (List.mem_of_getElem? (i := 831) (by decide +kernel)) (by decide +kernel))⟩
theorem lL_23 : zLv "DanceFiguresLaw" 23 yX8_hold := ⟨zG_of (List.mem_of_getElem? (i := 415) (by decide +kernel)) (by decide +kernel), zG_of (List.mem_of_getElem? (i := 416) (by decide +kernel)) (by decide +kernel), zG_of (List.mem_of_getElem? (i := 50) (by decide +kernel)) (by decide +kernel), Or.inl (zG_of (List.mem_of_getElem? (i := 414) (by decide +kernel)) (by decide +kernel))⟩
theorem lL_27 : zLv "DanceFiguresLaw" 27 yX9_hold := ⟨zG_of (List.mem_of_getElem? (i := 836) (by decide +kernel)) (by decide +kernel), zG_of (List.mem_of_getElem? (i := 837) (by decide +kernel)) (by decide +kernel), zG_of (List.mem_of_getElem? (i := 59) (by decide +kernel)) (by decide +kernel), Or.inl (zG_of (List.mem_of_getElem? (i := 835) (by decide +kernel)) (by decide +kernel))⟩
theorem lL_28 : zLv "DanceFiguresLaw" 28 yX8_release := ⟨zG_of (List.mem_of_getElem? (i := 443) (by decide +kernel)) (by decide +kernel), zG_of (List.mem_of_getElem? (i := 444) (by decide +kernel)) (by decide +kernel), zG_of (List.mem_of_getElem? (i := 50) (by decide +kernel)) (by decide +kernel), Or.inl (zG_of (List.mem_of_getElem? (i := 442) (by decide +kernel)) (by decide +kernel))⟩
theorem lL_31 : zLv "DanceFiguresLaw" 31 yX9_release := ⟨zG_of (List.mem_of_getElem? (i := 857) (by decide +kernel)) (by decide +kernel), zG_of (List.mem_of_getElem? (i := 858) (by decide +kernel)) (by decide +kernel), zG_of (List.mem_of_getElem? (i := 59) (by decide +kernel)) (by decide +kernel), Or.inl (zG_of (List.mem_of_getElem? (i := 856) (by decide +kernel)) (by decide +kernel))⟩
theorem lL_32 : zLv "DanceFiguresLaw" 32 yX8_dance := ⟨zG_of (List.mem_of_getElem? (i := 451) (by decide +kernel)) (by decide +kernel), zG_of (List.mem_of_getElem? (i := 452) (by decide +kernel)) (by decide +kernel), zG_of (List.mem_of_getElem? (i := 50) (by decide +kernel)) (by decide +kernel), Or.inl (zG_of (List.mem_of_getElem? (i := 450) (by decide +kernel)) (by decide +kernel))⟩
theorem lL_36 : zLv "DanceFiguresLaw" 36 yX9_dance := ⟨zG_of (List.mem_of_getElem? (i := 861) (by decide +kernel)) (by decide +kernel), zG_of (List.mem_of_getElem? (i := 862) (by decide +kernel)) (by decide +kernel), zG_of (List.mem_of_getElem? (i := 59) (by decide +kernel)) (by decide +kernel), Or.inl (zG_of (List.mem_of_getElem? (i := 860) (by decide +kernel)) (by decide +kernel))⟩
theorem lL_37 : zLv "DanceFiguresLaw" 37 yX8_goHome := ⟨zG_of (List.mem_of_getElem? (i := 488) (by decide +kernel)) (by decide +kernel), zG_of (List.mem_of_getElem? (i := 489) (by decide +kernel)) (by decide +kernel), zG_of (List.mem_of_getElem? (i := 50) (by decide +kernel)) (by decide +kernel), Or.inl (zG_of (List.mem_of_getElem? (i := 487) (by decide +kernel)) (by decide +kernel))⟩
theorem lL_41 : zLv "DanceFiguresLaw" 41 yX9_goHome := ⟨zG_of (List.mem_of_getElem? (i := 893) (by decide +kernel)) (by decide +kernel), zG_of (List.mem_of_getElem? (i := 894) (by decide +kernel)) (by decide +kernel), zG_of (List.mem_of_getElem? (i := 59) (by decide +kernel)) (by decide +kernel), Or.inl (zG_of (List.mem_of_getElem? (i := 892) (by decide +kernel)) (by decide +kernel))⟩
theorem lL_42 : zLv "DanceFiguresLaw" 42 yX8_append := ⟨zG_of (List.mem_of_getElem? (i := 502) (by decide +kernel)) (by decide +kernel), zG_of (List.mem_of_getElem? (i := 503) (by decide +kernel)) (by decide +kernel), zG_of (List.mem_of_getElem? (i := 50) (by decide +kernel)) (by decide +kernel), Or.inl (zG_of (List.mem_of_getElem? (i := 501) (by decide +kernel)) (by decide +kernel))⟩
theorem lL_45 : zLv "DanceFiguresLaw" 45 yX9_append := ⟨zG_of (List.mem_of_getElem? (i := 897) (by decide +kernel)) (by decide +kernel), zG_of (List.mem_of_getElem? (i := 898) (by decide +kernel)) (by decide +kernel), zG_of (List.mem_of_getElem? (i := 59) (by decide +kernel)) (by decide +kernel), Or.inl (zG_of (List.mem_of_getElem? (i := 896) (by decide +kernel)) (by decide +kernel))⟩
theorem lL_46 : zLv "DanceFiguresLaw" 46 yX8_clearText := ⟨zG_of (List.mem_of_getElem? (i := 516) (by decide +kernel)) (by decide +kernel), zG_of (List.mem_of_getElem? (i := 517) (by decide +kernel)) (by decide +kernel), zG_of (List.mem_of_getElem? (i := 50) (by decide +kernel)) (by decide +kernel), Or.inl (zG_of (List.mem_of_getElem? (i := 515) (by decide +kernel)) (by decide +kernel))⟩
theorem lL_49 : zLv "DanceFiguresLaw" 49 yX9_clearText := ⟨zG_of (List.mem_of_getElem? (i := 901) (by decide +kernel)) (by decide +kernel), zG_of (List.mem_of_getElem? (i := 902) (by decide +kernel)) (by decide +kernel), zG_of (List.mem_of_getElem? (i := 59) (by decide +kernel)) (by decide +kernel), Or.inl (zG_of (List.mem_of_getElem? (i := 900) (by decide +kernel)) (by decide +kernel))⟩
theorem lL_50 : zLv "DanceFiguresLaw" 50 yX8_fault := ⟨zG_of (List.mem_of_getElem? (i := 524) (by decide +kernel)) (by decide +kernel), zG_of (List.mem_of_getElem? (i := 525) (by decide +kernel)) (by decide +kernel), zG_of (List.mem_of_getElem? (i := 50) (by decide +kernel)) (by decide +kernel), Or.inl (zG_of (List.mem_of_getElem? (i := 523) (by decide +kernel)) (by decide +kernel))⟩
theorem lL_53 : zLv "DanceFiguresLaw" 53 yX9_fault := ⟨zG_of (List.mem_of_getElem? (i := 905) (by decide +kernel)) (by decide +kernel), zG_of (List.mem_of_getElem? (i := 906) (by decide +kernel)) (by decide +kernel), zG_of (List.mem_of_getElem? (i := 59) (by decide +kernel)) (by decide +kernel), Or.inl (zG_of (List.mem_of_getElem? (i := 904) (by decide +kernel)) (by decide +kernel))⟩
theorem lL_54 : zLv "DanceFiguresLaw" 54 yX8_run := ⟨zG_of (List.mem_of_getElem? (i := 539) (by decide +kernel)) (by decide +kernel), zG_of (List.mem_of_getElem? (i := 540) (by decide +kernel)) (by decide +kernel), zG_of (List.mem_of_getElem? (i := 50) (by decide +kernel)) (by decide +kernel), Or.inl (zG_of (List.mem_of_getElem? (i := 538) (by decide +kernel)) (by decide +kernel))⟩
theorem lL_57 : zLv "DanceFiguresLaw" 57 yX9_run := ⟨zG_of (List.mem_of_getElem? (i := 921) (by decide +kernel)) (by decide +kernel), zG_of (List.mem_of_getElem? (i := 922) (by decide +kernel)) (by decide +kernel), zG_of (List.mem_of_getElem? (i := 59) (by decide +kernel)) (by decide +kernel), Or.inl (zG_of (List.mem_of_getElem? (i := 920) (by decide +kernel)) (by decide +kernel))⟩
theorem lL_58 : zLv "DanceFiguresLaw" 58 yX8_undo := ⟨zG_of (List.mem_of_getElem? (i := 552) (by decide +kernel)) (by decide +kernel), zG_of (List.mem_of_getElem? (i := 553) (by decide +kernel)) (by decide +kernel), zG_of (List.mem_of_getElem? (i := 50) (by decide +kernel)) (by decide +kernel), Or.inl (zG_of (List.mem_of_getElem? (i := 551) (by decide +kernel)) (by decide +kernel))⟩
theorem lL_61 : zLv "DanceFiguresLaw" 61 yX9_undo := ⟨zG_of (List.mem_of_getElem? (i := 771) (by decide +kernel)) (by decide +kernel), zG_of (List.mem_of_getElem? (i := 772) (by decide +kernel)) (by decide +kernel), zG_of (List.mem_of_getElem? (i := 59) (by decide +kernel)) (by decide +kernel), Or.inl (zG_of (List.mem_of_getElem? (i := 770) (by decide +kernel)) (by decide +kernel))⟩
theorem lL_62 : zLv "DanceFiguresLaw" 62 yX8_save := ⟨zG_of (List.mem_of_getElem? (i := 564) (by decide +kernel)) (by decide +kernel), zG_of (List.mem_of_getElem? (i := 565) (by decide +kernel)) (by decide +kernel), zG_of (List.mem_of_getElem? (i := 50) (by decide +kernel)) (by decide +kernel), Or.inl (zG_of (List.mem_of_getElem? (i := 563) (by decide +kernel)) (by decide +kernel))⟩
theorem lL_65 : zLv "DanceFiguresLaw" 65 yX9_save := ⟨zG_of (List.mem_of_getElem? (i := 775) (by decide +kernel)) (by decide +kernel), zG_of (List.mem_of_getElem? (i := 776) (by decide +kernel)) (by decide +kernel), zG_of (List.mem_of_getElem? (i := 59) (by decide +kernel)) (by decide +kernel), Or.inl (zG_of (List.mem_of_getElem? (i := 774) (by decide +kernel)) (by decide +kernel))⟩
theorem lL_66 : zLv "DanceFiguresLaw" 66 yX8_restore := ⟨zG_of (List.mem_of_getElem? (i := 569) (by decide +kernel)) (by decide +kernel), zG_of (List.mem_of_getElem? (i := 570) (by decide +kernel)) (by decide +kernel), zG_of (List.mem_of_getElem? (i := 50) (by decide +kernel)) (by decide +kernel), Or.inl (zG_of (List.mem_of_getElem? (i := 568) (by decide +kernel)) (by decide +kernel))⟩
theorem lL_69 : zLv "DanceFiguresLaw" 69 yX9_restore := ⟨zG_of (List.mem_of_getElem? (i := 783) (by decide +kernel)) (by decide +kernel), zG_of (List.mem_of_getElem? (i := 784) (by decide +kernel)) (by decide +kernel), zG_of (List.mem_of_getElem? (i := 59) (by decide +kernel)) (by decide +kernel), Or.inl (zG_of (List.mem_of_getElem? (i := 782) (by decide +kernel)) (by decide +kernel))⟩
theorem lL_70 : zLv "DanceFiguresLaw" 70 yX8_dancer := ⟨zG_of (List.mem_of_getElem? (i := 573) (by decide +kernel)) (by decide +kernel), zG_of (List.mem_of_getElem? (i := 574) (by decide +kernel)) (by decide +kernel), zG_of (List.mem_of_getElem? (i := 50) (by decide +kernel)) (by decide +kernel), Or.inl (zG_of (List.mem_of_getElem? (i := 572) (by decide +kernel)) (by decide +kernel))⟩
theorem lL_73 : zLv "DanceFiguresLaw" 73 yX9_dancer := ⟨zG_of (List.mem_of_getElem? (i := 925) (by decide +kernel)) (by decide +kernel), zG_of (List.mem_of_getElem? (i := 926) (by decide +kernel)) (by decide +kernel), zG_of (List.mem_of_getElem? (i := 59) (by decide +kernel)) (by decide +kernel), Or.inl (zG_of (List.mem_of_getElem? (i := 924) (by decide +kernel)) (by decide +kernel))⟩
theorem lL_74 : zLv "DanceFiguresLaw" 74 yX8_at := ⟨zG_of (List.mem_of_getElem? (i := 581) (by decide +kernel)) (by decide +kernel), zG_of (List.mem_of_getElem? (i := 582) (by decide +kernel)) (by decide +kernel), zG_of (List.mem_of_getElem? (i := 50) (by decide +kernel)) (by decide +kernel), Or.inl (zG_of (List.mem_of_getElem? (i := 580) (by decide +kernel)) (by decide +kernel))⟩
theorem lL_77 : zLv "DanceFiguresLaw" 77 yX9_at := ⟨zG_of (List.mem_of_getElem? (i := 929) (by decide +kernel)) (by decide +kernel), zG_of (List.mem_of_getElem? (i := 930) (by decide +kernel)) (by decide +kernel), zG_of (List.mem_of_getElem? (i := 59) (by decide +kernel)) (by decide +kernel), Or.inl (zG_of (List.mem_of_getElem? (i := 928) (by decide +kernel)) (by decide +kernel))⟩
theorem lL_78 : zLv "DanceFiguresLaw" 78 yX8_move := ⟨zG_of (List.mem_of_getElem? (i := 586) (by decide +kernel)) (by decide +kernel), zG_of (List.mem_of_getElem? (i := 587) (by decide +kernel)) (by decide +kernel), zG_of (List.mem_of_getElem? (i := 50) (by decide +kernel)) (by decide +kernel), Or.inl (zG_of (List.mem_of_getElem? (i := 585) (by decide +kernel)) (by decide +kernel))⟩
theorem lL_82 : zLv "DanceFiguresLaw" 82 yX9_move := ⟨zG_of (List.mem_of_getElem? (i := 933) (by decide +kernel)) (by decide +kernel), zG_of (List.mem_of_getElem? (i := 934) (by decide +kernel)) (by decide +kernel), zG_of (List.mem_of_getElem? (i := 59) (by decide +kernel)) (by decide +kernel), Or.inl (zG_of (List.mem_of_getElem? (i := 932) (by decide +kernel)) (by decide +kernel))⟩
theorem lL_83 : zLv "DanceFiguresLaw" 83 yX8_figure := ⟨zG_of (List.mem_of_getElem? (i := 591) (by decide +kernel)) (by decide +kernel), zG_of (List.mem_of_getElem? (i := 592) (by decide +kernel)) (by decide +kernel), zG_of (List.mem_of_getElem? (i := 50) (by decide +kernel)) (by decide +kernel), Or.inl (zG_of (List.mem_of_getElem? (i := 590) (by decide +kernel)) (by decide +kernel))⟩
theorem lL_86 : zLv "DanceFiguresLaw" 86 yX9_figure := ⟨zG_of (List.mem_of_getElem? (i := 937) (by decide +kernel)) (by decide +kernel), zG_of (List.mem_of_getElem? (i := 938) (by decide +kernel)) (by decide +kernel), zG_of (List.mem_of_getElem? (i := 59) (by decide +kernel)) (by decide +kernel), Or.inl (zG_of (List.mem_of_getElem? (i := 936) (by decide +kernel)) (by decide +kernel))⟩
theorem lL_87 : zLv "DanceFiguresLaw" 87 yX8_effect := ⟨zG_of (List.mem_of_getElem? (i := 626) (by decide +kernel)) (by decide +kernel), zG_of (List.mem_of_getElem? (i := 627) (by decide +kernel)) (by decide +kernel), zG_of (List.mem_of_getElem? (i := 50) (by decide +kernel)) (by decide +kernel), Or.inl (zG_of (List.mem_of_getElem? (i := 625) (by decide +kernel)) (by decide +kernel))⟩
theorem lL_90 : zLv "DanceFiguresLaw" 90 yX9_effect := ⟨zG_of (List.mem_of_getElem? (i := 980) (by decide +kernel)) (by decide +kernel), zG_of (List.mem_of_getElem? (i := 981) (by decide +kernel)) (by decide +kernel), zG_of (List.mem_of_getElem? (i := 59) (by decide +kernel)) (by decide +kernel), Or.inl (zG_of (List.mem_of_getElem? (i := 979) (by decide +kernel)) (by decide +kernel))⟩
theorem lL_91 : zLv "DanceFiguresLaw" 91 yX8_alike := ⟨zG_of (List.mem_of_getElem? (i := 630) (by decide +kernel)) (by decide +kernel), zG_of (List.mem_of_getElem? (i := 631) (by decide +kernel)) (by decide +kernel), zG_of (List.mem_of_getElem? (i := 50) (by decide +kernel)) (by decide +kernel), Or.inl (zG_of (List.mem_of_getElem? (i := 629) (by decide +kernel)) (by decide +kernel))⟩
theorem lL_94 : zLv "DanceFiguresLaw" 94 yX9_alike := ⟨zG_of (List.mem_of_getElem? (i := 984) (by decide +kernel)) (by decide +kernel), zG_of (List.mem_of_getElem? (i := 985) (by decide +kernel)) (by decide +kernel), zG_of (List.mem_of_getElem? (i := 59) (by decide +kernel)) (by decide +kernel), Or.inl (zG_of (List.mem_of_getElem? (i := 983) (by decide +kernel)) (by decide +kernel))⟩
theorem lL_95 : zLv "DanceFiguresLaw" 95 yX8_commute := ⟨zG_of (List.mem_of_getElem? (i := 638) (by decide +kernel)) (by decide +kernel), zG_of (List.mem_of_getElem? (i := 639) (by decide +kernel)) (by decide +kernel), zG_of (List.mem_of_getElem? (i := 50) (by decide +kernel)) (by decide +kernel), Or.inl (zG_of (List.mem_of_getElem? (i := 637) (by decide +kernel)) (by decide +kernel))⟩
theorem lL_98 : zLv "DanceFiguresLaw" 98 yX9_commute := ⟨zG_of (List.mem_of_getElem? (i := 988) (by decide +kernel)) (by decide +kernel), zG_of (List.mem_of_getElem? (i := 989) (by decide +kernel)) (by decide +kernel), zG_of (List.mem_of_getElem? (i := 59) (by decide +kernel)) (by decide +kernel), Or.inl (zG_of (List.mem_of_getElem? (i := 987) (by decide +kernel)) (by decide +kernel))⟩
theorem lL_99 : zLv "DanceFiguresLaw" 99 yX8_count := ⟨zG_of (List.mem_of_getElem? (i := 642) (by decide +kernel)) (by decide +kernel), zG_of (List.mem_of_getElem? (i := 643) (by decide +kernel)) (by decide +kernel), zG_of (List.mem_of_getElem? (i := 50) (by decide +kernel)) (by decide +kernel), Or.inl (zG_of (List.mem_of_getElem? (i := 641) (by decide +kernel)) (by decide +kernel))⟩
theorem lL_102 : zLv "DanceFiguresLaw" 102 yX9_count := ⟨zG_of (List.mem_of_getElem? (i := 992) (by decide +kernel)) (by decide +kernel), zG_of (List.mem_of_getElem? (i := 993) (by decide +kernel)) (by decide +kernel), zG_of (List.mem_of_getElem? (i := 59) (by decide +kernel)) (by decide +kernel), Or.inl (zG_of (List.mem_of_getElem? (i := 991) (by decide +kernel)) (by decide +kernel))⟩
theorem lL_103 : zLv "DanceFiguresLaw" 103 yX8_total := ⟨zG_of (List.mem_of_getElem? (i := 650) (by decide +kernel)) (by decide +kernel), zG_of (List.mem_of_getElem? (i := 651) (by decide +kernel)) (by decide +kernel), zG_of (List.mem_of_getElem? (i := 50) (by decide +kernel)) (by decide +kernel), Or.inl (zG_of (List.mem_of_getElem? (i := 649) (by decide +kernel)) (by decide +kernel))⟩
theorem lL_106 : zLv "DanceFiguresLaw" 106 yX9_total := ⟨zG_of (List.mem_of_getElem? (i := 1000) (by decide +kernel)) (by decide +kernel), zG_of (List.mem_of_getElem? (i := 1001) (by decide +kernel)) (by decide +kernel), zG_of (List.mem_of_getElem? (i := 59) (by decide +kernel)) (by decide +kernel), Or.inl (zG_of (List.mem_of_getElem? (i := 999) (by decide +kernel)) (by decide +kernel))⟩
theorem lL_107 : zLv "DanceFiguresLaw" 107 yX8_blockedAt := ⟨zG_of (List.mem_of_getElem? (i := 654) (by decide +kernel)) (by decide +kernel), zG_of (List.mem_of_getElem? (i := 655) (by decide +kernel)) (by decide +kernel), zG_of (List.mem_of_getElem? (i := 50) (by decide +kernel)) (by decide +kernel), Or.inl (zG_of (List.mem_of_getElem? (i := 653) (by decide +kernel)) (by decide +kernel))⟩
theorem lL_111 : zLv "DanceFiguresLaw" 111 yX9_blockedAt := ⟨zG_of (List.mem_of_getElem? (i := 1004) (by decide +kernel)) (by decide +kernel), zG_of (List.mem_of_getElem? (i := 1005) (by decide +kernel)) (by decide +kernel), zG_of (List.mem_of_getElem? (i := 59) (by decide +kernel)) (by decide +kernel), Or.inl (zG_of (List.mem_of_getElem? (i := 1003) (by decide +kernel)) (by decide +kernel))⟩
theorem lL_112 : zLv "DanceFiguresLaw" 112 yX8_homeIn := ⟨zG_of (List.mem_of_getElem? (i := 658) (by decide +kernel)) (by decide +kernel), zG_of (List.mem_of_getElem? (i := 659) (by decide +kernel)) (by decide +kernel), zG_of (List.mem_of_getElem? (i := 50) (by decide +kernel)) (by decide +kernel), Or.inl (zG_of (List.mem_of_getElem? (i := 657) (by decide +kernel)) (by decide +kernel))⟩
theorem lL_115 : zLv "DanceFiguresLaw" 115 yX9_homeIn := ⟨zG_of (List.mem_of_getElem? (i := 1008) (by decide +kernel)) (by decide +kernel), zG_of (List.mem_of_getElem? (i := 1009) (by decide +kernel)) (by decide +kernel), zG_of (List.mem_of_getElem? (i := 59) (by decide +kernel)) (by decide +kernel), Or.inl (zG_of (List.mem_of_getElem? (i := 1007) (by decide +kernel)) (by decide +kernel))⟩
theorem lL_116 : zLv "DanceFiguresLaw" 116 yX8_wayHome := ⟨zG_of (List.mem_of_getElem? (i := 662) (by decide +kernel)) (by decide +kernel), zG_of (List.mem_of_getElem? (i := 663) (by decide +kernel)) (by decide +kernel), zG_of (List.mem_of_getElem? (i := 50) (by decide +kernel)) (by decide +kernel), Or.inl (zG_of (List.mem_of_getElem? (i := 661) (by decide +kernel)) (by decide +kernel))⟩
theorem lL_119 : zLv "DanceFiguresLaw" 119 yX9_wayHome := ⟨zG_of (List.mem_of_getElem? (i := 1024) (by decide +kernel)) (by decide +kernel), zG_of (List.mem_of_getElem? (i := 1025) (by decide +kernel)) (by decide +kernel), zG_of (List.mem_of_getElem? (i := 59) (by decide +kernel)) (by decide +kernel), Or.inl (zG_of (List.mem_of_getElem? (i := 1023) (by decide +kernel)) (by decide +kernel))⟩
theorem lL_120 : zLv "DanceFiguresLaw" 120 yX8_distance := ⟨zG_of (List.mem_of_getElem? (i := 686) (by decide +kernel)) (by decide +kernel), zG_of (List.mem_of_getElem? (i := 687) (by decide +kernel)) (by decide +kernel), zG_of (List.mem_of_getElem? (i := 50) (by decide +kernel)) (by decide +kernel), Or.inl (zG_of (List.mem_of_getElem? (i := 685) (by decide +kernel)) (by decide +kernel))⟩
theorem lL_124 : zLv "DanceFiguresLaw" 124 yX9_distance := ⟨zG_of (List.mem_of_getElem? (i := 1032) (by decide +kernel)) (by decide +kernel), zG_of (List.mem_of_getElem? (i := 1033) (by decide +kernel)) (by decide +kernel), zG_of (List.mem_of_getElem? (i := 59) (by decide +kernel)) (by decide +kernel), Or.inl (zG_of (List.mem_of_getElem? (i := 1031) (by decide +kernel)) (by decide +kernel))⟩
theorem nX1_9 : zLn RX1 9 7 := ⟨by decide, zG_of (List.mem_of_getElem? (i := 157) (by decide +kernel)) (by decide +kernel), zG_of (List.mem_of_getElem? (i := 71) (by decide +kernel)) (by decide +kernel), zG_of (List.mem_of_getElem? (i := 51) (by decide +kernel)) (by decide +kernel)⟩
theorem nX3_24 : zLn RX3 24 4 := ⟨by decide, zG_of (List.mem_of_getElem? (i := 189) (by decide +kernel)) (by decide +kernel), zG_of (List.mem_of_getElem? (i := 77) (by decide +kernel)) (by decide +kernel), zG_of (List.mem_of_getElem? (i := 52) (by decide +kernel)) (by decide +kernel)⟩
theorem nX6_15 : zLn RX6 15 4 := ⟨by decide, zG_of (List.mem_of_getElem? (i := 217) (by decide +kernel)) (by decide +kernel), zG_of (List.mem_of_getElem? (i := 77) (by decide +kernel)) (by decide +kernel), zG_of (List.mem_of_getElem? (i := 52) (by decide +kernel)) (by decide +kernel)⟩
def zndv (v : zV) : Bool := match v with
  | Sum.inr (Sum.inr _) => false
  | _ => true
section ZPL
variable {M : zMd} {d r1 r2 : Nat} {Q : zQ} {pc pc' : Nat} {T st : List zV} {sp : zSP} {me : zMe}
theorem z_L0I {x : Int} (dg : decode M.2.1 pc = .ok (.iload_n 0, 1)) (hp : pc + 1 = pc') (k : zW M d r1 r2 Q pc' (zI x :: T) (zI x :: st) sp me) : zW M d r1 r2 Q pc (zI x :: T) st sp me := z_iload_n dg hp rfl k
theorem z_L0R {x : Nat} (dg : decode M.2.1 pc = .ok (.aload_n 0, 1)) (hp : pc + 1 = pc') (k : zW M d r1 r2 Q pc' (zR x :: T) (zR x :: st) sp me) : zW M d r1 r2 Q pc (zR x :: T) st sp me := z_aload_n dg hp rfl k
theorem z_L0D {x : UInt64} (dg : decode M.2.1 pc = .ok (.dload_n 0, 1)) (hp : pc + 1 = pc') (k : zW M d r1 r2 Q pc' (zD x :: T) (zD x :: st) sp me) : zW M d r1 r2 Q pc (zD x :: T) st sp me := z_dload_n dg hp rfl k
theorem z_S0I {l : zV} {x : Int} (dg : decode M.2.1 pc = .ok (.istore_n 0, 1)) (hp : pc + 1 = pc') (k : zW M d r1 r2 Q pc' (zI x :: T) st sp me) : zW M d r1 r2 Q pc (l :: T) (zI x :: st) sp me := z_istore_n dg hp (by show 0 < _; simp) rfl rfl k
theorem z_S0R {l : zV} {x : Nat} (dg : decode M.2.1 pc = .ok (.astore_n 0, 1)) (hp : pc + 1 = pc') (k : zW M d r1 r2 Q pc' (zR x :: T) st sp me) : zW M d r1 r2 Q pc (l :: T) (zR x :: st) sp me := z_astore_n dg hp (by show 0 < _; simp) rfl rfl k
theorem z_inc0 {x n : Int} (dg : decode M.2.1 pc = .ok (.iinc 0 n, 3)) (hp : pc + 3 = pc') (hr : zin (x + n)) (k : zW M d r1 r2 Q pc' (zI (x + n) :: T) st sp me) : zW M d r1 r2 Q pc (zI x :: T) st sp me := z_iinc dg hp rfl hr rfl rfl k
theorem z_L1I {l0 : zV} {x : Int} (dg : decode M.2.1 pc = .ok (.iload_n 1, 1)) (hp : pc + 1 = pc') (k : zW M d r1 r2 Q pc' (l0 :: zI x :: T) (zI x :: st) sp me) : zW M d r1 r2 Q pc (l0 :: zI x :: T) st sp me := z_iload_n dg hp rfl k
theorem z_L1R {l0 : zV} {x : Nat} (dg : decode M.2.1 pc = .ok (.aload_n 1, 1)) (hp : pc + 1 = pc') (k : zW M d r1 r2 Q pc' (l0 :: zR x :: T) (zR x :: st) sp me) : zW M d r1 r2 Q pc (l0 :: zR x :: T) st sp me := z_aload_n dg hp rfl k
theorem z_L1D {l0 : zV} {x : UInt64} (dg : decode M.2.1 pc = .ok (.dload_n 1, 1)) (hp : pc + 1 = pc') (k : zW M d r1 r2 Q pc' (l0 :: zD x :: T) (zD x :: st) sp me) : zW M d r1 r2 Q pc (l0 :: zD x :: T) st sp me := z_dload_n dg hp rfl k
theorem z_S1I {l0 : zV} {l : zV} {x : Int} (hd : zndv l0 = true) (dg : decode M.2.1 pc = .ok (.istore_n 1, 1)) (hp : pc + 1 = pc') (k : zW M d r1 r2 Q pc' (l0 :: zI x :: T) st sp me) : zW M d r1 r2 Q pc (l0 :: l :: T) (zI x :: st) sp me := z_istore_n dg hp (by show 1 < _; simp) (by rcases l0 with a | (a | a) <;> first | rfl | exact absurd hd (by decide) | exact absurd hd (by simp [zndv])) rfl k
theorem z_S1R {l0 : zV} {l : zV} {x : Nat} (hd : zndv l0 = true) (dg : decode M.2.1 pc = .ok (.astore_n 1, 1)) (hp : pc + 1 = pc') (k : zW M d r1 r2 Q pc' (l0 :: zR x :: T) st sp me) : zW M d r1 r2 Q pc (l0 :: l :: T) (zR x :: st) sp me := z_astore_n dg hp (by show 1 < _; simp) (by rcases l0 with a | (a | a) <;> first | rfl | exact absurd hd (by decide) | exact absurd hd (by simp [zndv])) rfl k
theorem z_inc1 {l0 : zV} {x n : Int} (hd : zndv l0 = true) (dg : decode M.2.1 pc = .ok (.iinc 1 n, 3)) (hp : pc + 3 = pc') (hr : zin (x + n)) (k : zW M d r1 r2 Q pc' (l0 :: zI (x + n) :: T) st sp me) : zW M d r1 r2 Q pc (l0 :: zI x :: T) st sp me := z_iinc dg hp rfl hr (by rcases l0 with a | (a | a) <;> first | rfl | exact absurd hd (by decide) | exact absurd hd (by simp [zndv])) rfl k
theorem z_L2I {l0 l1 : zV} {x : Int} (dg : decode M.2.1 pc = .ok (.iload_n 2, 1)) (hp : pc + 1 = pc') (k : zW M d r1 r2 Q pc' (l0 :: l1 :: zI x :: T) (zI x :: st) sp me) : zW M d r1 r2 Q pc (l0 :: l1 :: zI x :: T) st sp me := z_iload_n dg hp rfl k
theorem z_L2R {l0 l1 : zV} {x : Nat} (dg : decode M.2.1 pc = .ok (.aload_n 2, 1)) (hp : pc + 1 = pc') (k : zW M d r1 r2 Q pc' (l0 :: l1 :: zR x :: T) (zR x :: st) sp me) : zW M d r1 r2 Q pc (l0 :: l1 :: zR x :: T) st sp me := z_aload_n dg hp rfl k
theorem z_L2D {l0 l1 : zV} {x : UInt64} (dg : decode M.2.1 pc = .ok (.dload_n 2, 1)) (hp : pc + 1 = pc') (k : zW M d r1 r2 Q pc' (l0 :: l1 :: zD x :: T) (zD x :: st) sp me) : zW M d r1 r2 Q pc (l0 :: l1 :: zD x :: T) st sp me := z_dload_n dg hp rfl k
theorem z_S2I {l0 l1 : zV} {l : zV} {x : Int} (hd : zndv l1 = true) (dg : decode M.2.1 pc = .ok (.istore_n 2, 1)) (hp : pc + 1 = pc') (k : zW M d r1 r2 Q pc' (l0 :: l1 :: zI x :: T) st sp me) : zW M d r1 r2 Q pc (l0 :: l1 :: l :: T) (zI x :: st) sp me := z_istore_n dg hp (by show 2 < _; simp) (by rcases l1 with a | (a | a) <;> first | rfl | exact absurd hd (by decide) | exact absurd hd (by simp [zndv])) rfl k
theorem z_S2R {l0 l1 : zV} {l : zV} {x : Nat} (hd : zndv l1 = true) (dg : decode M.2.1 pc = .ok (.astore_n 2, 1)) (hp : pc + 1 = pc') (k : zW M d r1 r2 Q pc' (l0 :: l1 :: zR x :: T) st sp me) : zW M d r1 r2 Q pc (l0 :: l1 :: l :: T) (zR x :: st) sp me := z_astore_n dg hp (by show 2 < _; simp) (by rcases l1 with a | (a | a) <;> first | rfl | exact absurd hd (by decide) | exact absurd hd (by simp [zndv])) rfl k
theorem z_inc2 {l0 l1 : zV} {x n : Int} (hd : zndv l1 = true) (dg : decode M.2.1 pc = .ok (.iinc 2 n, 3)) (hp : pc + 3 = pc') (hr : zin (x + n)) (k : zW M d r1 r2 Q pc' (l0 :: l1 :: zI (x + n) :: T) st sp me) : zW M d r1 r2 Q pc (l0 :: l1 :: zI x :: T) st sp me := z_iinc dg hp rfl hr (by rcases l1 with a | (a | a) <;> first | rfl | exact absurd hd (by decide) | exact absurd hd (by simp [zndv])) rfl k
theorem z_L3I {l0 l1 l2 : zV} {x : Int} (dg : decode M.2.1 pc = .ok (.iload_n 3, 1)) (hp : pc + 1 = pc') (k : zW M d r1 r2 Q pc' (l0 :: l1 :: l2 :: zI x :: T) (zI x :: st) sp me) : zW M d r1 r2 Q pc (l0 :: l1 :: l2 :: zI x :: T) st sp me := z_iload_n dg hp rfl k
theorem z_L3R {l0 l1 l2 : zV} {x : Nat} (dg : decode M.2.1 pc = .ok (.aload_n 3, 1)) (hp : pc + 1 = pc') (k : zW M d r1 r2 Q pc' (l0 :: l1 :: l2 :: zR x :: T) (zR x :: st) sp me) : zW M d r1 r2 Q pc (l0 :: l1 :: l2 :: zR x :: T) st sp me := z_aload_n dg hp rfl k
theorem z_L3D {l0 l1 l2 : zV} {x : UInt64} (dg : decode M.2.1 pc = .ok (.dload_n 3, 1)) (hp : pc + 1 = pc') (k : zW M d r1 r2 Q pc' (l0 :: l1 :: l2 :: zD x :: T) (zD x :: st) sp me) : zW M d r1 r2 Q pc (l0 :: l1 :: l2 :: zD x :: T) st sp me := z_dload_n dg hp rfl k
theorem z_S3I {l0 l1 l2 : zV} {l : zV} {x : Int} (hd : zndv l2 = true) (dg : decode M.2.1 pc = .ok (.istore_n 3, 1)) (hp : pc + 1 = pc') (k : zW M d r1 r2 Q pc' (l0 :: l1 :: l2 :: zI x :: T) st sp me) : zW M d r1 r2 Q pc (l0 :: l1 :: l2 :: l :: T) (zI x :: st) sp me := z_istore_n dg hp (by show 3 < _; simp) (by rcases l2 with a | (a | a) <;> first | rfl | exact absurd hd (by decide) | exact absurd hd (by simp [zndv])) rfl k
theorem z_S3R {l0 l1 l2 : zV} {l : zV} {x : Nat} (hd : zndv l2 = true) (dg : decode M.2.1 pc = .ok (.astore_n 3, 1)) (hp : pc + 1 = pc') (k : zW M d r1 r2 Q pc' (l0 :: l1 :: l2 :: zR x :: T) st sp me) : zW M d r1 r2 Q pc (l0 :: l1 :: l2 :: l :: T) (zR x :: st) sp me := z_astore_n dg hp (by show 3 < _; simp) (by rcases l2 with a | (a | a) <;> first | rfl | exact absurd hd (by decide) | exact absurd hd (by simp [zndv])) rfl k
theorem z_inc3 {l0 l1 l2 : zV} {x n : Int} (hd : zndv l2 = true) (dg : decode M.2.1 pc = .ok (.iinc 3 n, 3)) (hp : pc + 3 = pc') (hr : zin (x + n)) (k : zW M d r1 r2 Q pc' (l0 :: l1 :: l2 :: zI (x + n) :: T) st sp me) : zW M d r1 r2 Q pc (l0 :: l1 :: l2 :: zI x :: T) st sp me := z_iinc dg hp rfl hr (by rcases l2 with a | (a | a) <;> first | rfl | exact absurd hd (by decide) | exact absurd hd (by simp [zndv])) rfl k
theorem z_L4I {l0 l1 l2 l3 : zV} {x : Int} (dg : decode M.2.1 pc = .ok (.iload 4, 2)) (hp : pc + 2 = pc') (k : zW M d r1 r2 Q pc' (l0 :: l1 :: l2 :: l3 :: zI x :: T) (zI x :: st) sp me) : zW M d r1 r2 Q pc (l0 :: l1 :: l2 :: l3 :: zI x :: T) st sp me := z_iload dg hp rfl k
theorem z_L4R {l0 l1 l2 l3 : zV} {x : Nat} (dg : decode M.2.1 pc = .ok (.aload 4, 2)) (hp : pc + 2 = pc') (k : zW M d r1 r2 Q pc' (l0 :: l1 :: l2 :: l3 :: zR x :: T) (zR x :: st) sp me) : zW M d r1 r2 Q pc (l0 :: l1 :: l2 :: l3 :: zR x :: T) st sp me := z_aload dg hp rfl k
theorem z_L4D {l0 l1 l2 l3 : zV} {x : UInt64} (dg : decode M.2.1 pc = .ok (.dload 4, 2)) (hp : pc + 2 = pc') (k : zW M d r1 r2 Q pc' (l0 :: l1 :: l2 :: l3 :: zD x :: T) (zD x :: st) sp me) : zW M d r1 r2 Q pc (l0 :: l1 :: l2 :: l3 :: zD x :: T) st sp me := z_dload dg hp rfl k
theorem z_S4I {l0 l1 l2 l3 : zV} {l : zV} {x : Int} (hd : zndv l3 = true) (dg : decode M.2.1 pc = .ok (.istore 4, 2)) (hp : pc + 2 = pc') (k : zW M d r1 r2 Q pc' (l0 :: l1 :: l2 :: l3 :: zI x :: T) st sp me) : zW M d r1 r2 Q pc (l0 :: l1 :: l2 :: l3 :: l :: T) (zI x :: st) sp me := z_istore dg hp (by show 4 < _; simp) (by rcases l3 with a | (a | a) <;> first | rfl | exact absurd hd (by decide) | exact absurd hd (by simp [zndv])) rfl k
theorem z_S4R {l0 l1 l2 l3 : zV} {l : zV} {x : Nat} (hd : zndv l3 = true) (dg : decode M.2.1 pc = .ok (.astore 4, 2)) (hp : pc + 2 = pc') (k : zW M d r1 r2 Q pc' (l0 :: l1 :: l2 :: l3 :: zR x :: T) st sp me) : zW M d r1 r2 Q pc (l0 :: l1 :: l2 :: l3 :: l :: T) (zR x :: st) sp me := z_astore dg hp (by show 4 < _; simp) (by rcases l3 with a | (a | a) <;> first | rfl | exact absurd hd (by decide) | exact absurd hd (by simp [zndv])) rfl k
theorem z_inc4 {l0 l1 l2 l3 : zV} {x n : Int} (hd : zndv l3 = true) (dg : decode M.2.1 pc = .ok (.iinc 4 n, 3)) (hp : pc + 3 = pc') (hr : zin (x + n)) (k : zW M d r1 r2 Q pc' (l0 :: l1 :: l2 :: l3 :: zI (x + n) :: T) st sp me) : zW M d r1 r2 Q pc (l0 :: l1 :: l2 :: l3 :: zI x :: T) st sp me := z_iinc dg hp rfl hr (by rcases l3 with a | (a | a) <;> first | rfl | exact absurd hd (by decide) | exact absurd hd (by simp [zndv])) rfl k
theorem z_L5I {l0 l1 l2 l3 l4 : zV} {x : Int} (dg : decode M.2.1 pc = .ok (.iload 5, 2)) (hp : pc + 2 = pc') (k : zW M d r1 r2 Q pc' (l0 :: l1 :: l2 :: l3 :: l4 :: zI x :: T) (zI x :: st) sp me) : zW M d r1 r2 Q pc (l0 :: l1 :: l2 :: l3 :: l4 :: zI x :: T) st sp me := z_iload dg hp rfl k
theorem z_L5R {l0 l1 l2 l3 l4 : zV} {x : Nat} (dg : decode M.2.1 pc = .ok (.aload 5, 2)) (hp : pc + 2 = pc') (k : zW M d r1 r2 Q pc' (l0 :: l1 :: l2 :: l3 :: l4 :: zR x :: T) (zR x :: st) sp me) : zW M d r1 r2 Q pc (l0 :: l1 :: l2 :: l3 :: l4 :: zR x :: T) st sp me := z_aload dg hp rfl k
theorem z_L5D {l0 l1 l2 l3 l4 : zV} {x : UInt64} (dg : decode M.2.1 pc = .ok (.dload 5, 2)) (hp : pc + 2 = pc') (k : zW M d r1 r2 Q pc' (l0 :: l1 :: l2 :: l3 :: l4 :: zD x :: T) (zD x :: st) sp me) : zW M d r1 r2 Q pc (l0 :: l1 :: l2 :: l3 :: l4 :: zD x :: T) st sp me := z_dload dg hp rfl k
theorem z_S5I {l0 l1 l2 l3 l4 : zV} {l : zV} {x : Int} (hd : zndv l4 = true) (dg : decode M.2.1 pc = .ok (.istore 5, 2)) (hp : pc + 2 = pc') (k : zW M d r1 r2 Q pc' (l0 :: l1 :: l2 :: l3 :: l4 :: zI x :: T) st sp me) : zW M d r1 r2 Q pc (l0 :: l1 :: l2 :: l3 :: l4 :: l :: T) (zI x :: st) sp me := z_istore dg hp (by show 5 < _; simp) (by rcases l4 with a | (a | a) <;> first | rfl | exact absurd hd (by decide) | exact absurd hd (by simp [zndv])) rfl k
theorem z_S5R {l0 l1 l2 l3 l4 : zV} {l : zV} {x : Nat} (hd : zndv l4 = true) (dg : decode M.2.1 pc = .ok (.astore 5, 2)) (hp : pc + 2 = pc') (k : zW M d r1 r2 Q pc' (l0 :: l1 :: l2 :: l3 :: l4 :: zR x :: T) st sp me) : zW M d r1 r2 Q pc (l0 :: l1 :: l2 :: l3 :: l4 :: l :: T) (zR x :: st) sp me := z_astore dg hp (by show 5 < _; simp) (by rcases l4 with a | (a | a) <;> first | rfl | exact absurd hd (by decide) | exact absurd hd (by simp [zndv])) rfl k
theorem z_inc5 {l0 l1 l2 l3 l4 : zV} {x n : Int} (hd : zndv l4 = true) (dg : decode M.2.1 pc = .ok (.iinc 5 n, 3)) (hp : pc + 3 = pc') (hr : zin (x + n)) (k : zW M d r1 r2 Q pc' (l0 :: l1 :: l2 :: l3 :: l4 :: zI (x + n) :: T) st sp me) : zW M d r1 r2 Q pc (l0 :: l1 :: l2 :: l3 :: l4 :: zI x :: T) st sp me := z_iinc dg hp rfl hr (by rcases l4 with a | (a | a) <;> first | rfl | exact absurd hd (by decide) | exact absurd hd (by simp [zndv])) rfl k
theorem z_L6I {l0 l1 l2 l3 l4 l5 : zV} {x : Int} (dg : decode M.2.1 pc = .ok (.iload 6, 2)) (hp : pc + 2 = pc') (k : zW M d r1 r2 Q pc' (l0 :: l1 :: l2 :: l3 :: l4 :: l5 :: zI x :: T) (zI x :: st) sp me) : zW M d r1 r2 Q pc (l0 :: l1 :: l2 :: l3 :: l4 :: l5 :: zI x :: T) st sp me := z_iload dg hp rfl k
theorem z_L6R {l0 l1 l2 l3 l4 l5 : zV} {x : Nat} (dg : decode M.2.1 pc = .ok (.aload 6, 2)) (hp : pc + 2 = pc') (k : zW M d r1 r2 Q pc' (l0 :: l1 :: l2 :: l3 :: l4 :: l5 :: zR x :: T) (zR x :: st) sp me) : zW M d r1 r2 Q pc (l0 :: l1 :: l2 :: l3 :: l4 :: l5 :: zR x :: T) st sp me := z_aload dg hp rfl k
theorem z_L6D {l0 l1 l2 l3 l4 l5 : zV} {x : UInt64} (dg : decode M.2.1 pc = .ok (.dload 6, 2)) (hp : pc + 2 = pc') (k : zW M d r1 r2 Q pc' (l0 :: l1 :: l2 :: l3 :: l4 :: l5 :: zD x :: T) (zD x :: st) sp me) : zW M d r1 r2 Q pc (l0 :: l1 :: l2 :: l3 :: l4 :: l5 :: zD x :: T) st sp me := z_dload dg hp rfl k
theorem z_S6I {l0 l1 l2 l3 l4 l5 : zV} {l : zV} {x : Int} (hd : zndv l5 = true) (dg : decode M.2.1 pc = .ok (.istore 6, 2)) (hp : pc + 2 = pc') (k : zW M d r1 r2 Q pc' (l0 :: l1 :: l2 :: l3 :: l4 :: l5 :: zI x :: T) st sp me) : zW M d r1 r2 Q pc (l0 :: l1 :: l2 :: l3 :: l4 :: l5 :: l :: T) (zI x :: st) sp me := z_istore dg hp (by show 6 < _; simp) (by rcases l5 with a | (a | a) <;> first | rfl | exact absurd hd (by decide) | exact absurd hd (by simp [zndv])) rfl k
theorem z_S6R {l0 l1 l2 l3 l4 l5 : zV} {l : zV} {x : Nat} (hd : zndv l5 = true) (dg : decode M.2.1 pc = .ok (.astore 6, 2)) (hp : pc + 2 = pc') (k : zW M d r1 r2 Q pc' (l0 :: l1 :: l2 :: l3 :: l4 :: l5 :: zR x :: T) st sp me) : zW M d r1 r2 Q pc (l0 :: l1 :: l2 :: l3 :: l4 :: l5 :: l :: T) (zR x :: st) sp me := z_astore dg hp (by show 6 < _; simp) (by rcases l5 with a | (a | a) <;> first | rfl | exact absurd hd (by decide) | exact absurd hd (by simp [zndv])) rfl k
theorem z_inc6 {l0 l1 l2 l3 l4 l5 : zV} {x n : Int} (hd : zndv l5 = true) (dg : decode M.2.1 pc = .ok (.iinc 6 n, 3)) (hp : pc + 3 = pc') (hr : zin (x + n)) (k : zW M d r1 r2 Q pc' (l0 :: l1 :: l2 :: l3 :: l4 :: l5 :: zI (x + n) :: T) st sp me) : zW M d r1 r2 Q pc (l0 :: l1 :: l2 :: l3 :: l4 :: l5 :: zI x :: T) st sp me := z_iinc dg hp rfl hr (by rcases l5 with a | (a | a) <;> first | rfl | exact absurd hd (by decide) | exact absurd hd (by simp [zndv])) rfl k
theorem z_L7I {l0 l1 l2 l3 l4 l5 l6 : zV} {x : Int} (dg : decode M.2.1 pc = .ok (.iload 7, 2)) (hp : pc + 2 = pc') (k : zW M d r1 r2 Q pc' (l0 :: l1 :: l2 :: l3 :: l4 :: l5 :: l6 :: zI x :: T) (zI x :: st) sp me) : zW M d r1 r2 Q pc (l0 :: l1 :: l2 :: l3 :: l4 :: l5 :: l6 :: zI x :: T) st sp me := z_iload dg hp rfl k
theorem z_L7R {l0 l1 l2 l3 l4 l5 l6 : zV} {x : Nat} (dg : decode M.2.1 pc = .ok (.aload 7, 2)) (hp : pc + 2 = pc') (k : zW M d r1 r2 Q pc' (l0 :: l1 :: l2 :: l3 :: l4 :: l5 :: l6 :: zR x :: T) (zR x :: st) sp me) : zW M d r1 r2 Q pc (l0 :: l1 :: l2 :: l3 :: l4 :: l5 :: l6 :: zR x :: T) st sp me := z_aload dg hp rfl k
theorem z_L7D {l0 l1 l2 l3 l4 l5 l6 : zV} {x : UInt64} (dg : decode M.2.1 pc = .ok (.dload 7, 2)) (hp : pc + 2 = pc') (k : zW M d r1 r2 Q pc' (l0 :: l1 :: l2 :: l3 :: l4 :: l5 :: l6 :: zD x :: T) (zD x :: st) sp me) : zW M d r1 r2 Q pc (l0 :: l1 :: l2 :: l3 :: l4 :: l5 :: l6 :: zD x :: T) st sp me := z_dload dg hp rfl k
theorem z_S7I {l0 l1 l2 l3 l4 l5 l6 : zV} {l : zV} {x : Int} (hd : zndv l6 = true) (dg : decode M.2.1 pc = .ok (.istore 7, 2)) (hp : pc + 2 = pc') (k : zW M d r1 r2 Q pc' (l0 :: l1 :: l2 :: l3 :: l4 :: l5 :: l6 :: zI x :: T) st sp me) : zW M d r1 r2 Q pc (l0 :: l1 :: l2 :: l3 :: l4 :: l5 :: l6 :: l :: T) (zI x :: st) sp me := z_istore dg hp (by show 7 < _; simp) (by rcases l6 with a | (a | a) <;> first | rfl | exact absurd hd (by decide) | exact absurd hd (by simp [zndv])) rfl k
theorem z_S7R {l0 l1 l2 l3 l4 l5 l6 : zV} {l : zV} {x : Nat} (hd : zndv l6 = true) (dg : decode M.2.1 pc = .ok (.astore 7, 2)) (hp : pc + 2 = pc') (k : zW M d r1 r2 Q pc' (l0 :: l1 :: l2 :: l3 :: l4 :: l5 :: l6 :: zR x :: T) st sp me) : zW M d r1 r2 Q pc (l0 :: l1 :: l2 :: l3 :: l4 :: l5 :: l6 :: l :: T) (zR x :: st) sp me := z_astore dg hp (by show 7 < _; simp) (by rcases l6 with a | (a | a) <;> first | rfl | exact absurd hd (by decide) | exact absurd hd (by simp [zndv])) rfl k
theorem z_inc7 {l0 l1 l2 l3 l4 l5 l6 : zV} {x n : Int} (hd : zndv l6 = true) (dg : decode M.2.1 pc = .ok (.iinc 7 n, 3)) (hp : pc + 3 = pc') (hr : zin (x + n)) (k : zW M d r1 r2 Q pc' (l0 :: l1 :: l2 :: l3 :: l4 :: l5 :: l6 :: zI (x + n) :: T) st sp me) : zW M d r1 r2 Q pc (l0 :: l1 :: l2 :: l3 :: l4 :: l5 :: l6 :: zI x :: T) st sp me := z_iinc dg hp rfl hr (by rcases l6 with a | (a | a) <;> first | rfl | exact absurd hd (by decide) | exact absurd hd (by simp [zndv])) rfl k
theorem z_L8I {l0 l1 l2 l3 l4 l5 l6 l7 : zV} {x : Int} (dg : decode M.2.1 pc = .ok (.iload 8, 2)) (hp : pc + 2 = pc') (k : zW M d r1 r2 Q pc' (l0 :: l1 :: l2 :: l3 :: l4 :: l5 :: l6 :: l7 :: zI x :: T) (zI x :: st) sp me) : zW M d r1 r2 Q pc (l0 :: l1 :: l2 :: l3 :: l4 :: l5 :: l6 :: l7 :: zI x :: T) st sp me := z_iload dg hp rfl k
theorem z_L8R {l0 l1 l2 l3 l4 l5 l6 l7 : zV} {x : Nat} (dg : decode M.2.1 pc = .ok (.aload 8, 2)) (hp : pc + 2 = pc') (k : zW M d r1 r2 Q pc' (l0 :: l1 :: l2 :: l3 :: l4 :: l5 :: l6 :: l7 :: zR x :: T) (zR x :: st) sp me) : zW M d r1 r2 Q pc (l0 :: l1 :: l2 :: l3 :: l4 :: l5 :: l6 :: l7 :: zR x :: T) st sp me := z_aload dg hp rfl k
theorem z_L8D {l0 l1 l2 l3 l4 l5 l6 l7 : zV} {x : UInt64} (dg : decode M.2.1 pc = .ok (.dload 8, 2)) (hp : pc + 2 = pc') (k : zW M d r1 r2 Q pc' (l0 :: l1 :: l2 :: l3 :: l4 :: l5 :: l6 :: l7 :: zD x :: T) (zD x :: st) sp me) : zW M d r1 r2 Q pc (l0 :: l1 :: l2 :: l3 :: l4 :: l5 :: l6 :: l7 :: zD x :: T) st sp me := z_dload dg hp rfl k
theorem z_S8I {l0 l1 l2 l3 l4 l5 l6 l7 : zV} {l : zV} {x : Int} (hd : zndv l7 = true) (dg : decode M.2.1 pc = .ok (.istore 8, 2)) (hp : pc + 2 = pc') (k : zW M d r1 r2 Q pc' (l0 :: l1 :: l2 :: l3 :: l4 :: l5 :: l6 :: l7 :: zI x :: T) st sp me) : zW M d r1 r2 Q pc (l0 :: l1 :: l2 :: l3 :: l4 :: l5 :: l6 :: l7 :: l :: T) (zI x :: st) sp me := z_istore dg hp (by show 8 < _; simp) (by rcases l7 with a | (a | a) <;> first | rfl | exact absurd hd (by decide) | exact absurd hd (by simp [zndv])) rfl k
theorem z_S8R {l0 l1 l2 l3 l4 l5 l6 l7 : zV} {l : zV} {x : Nat} (hd : zndv l7 = true) (dg : decode M.2.1 pc = .ok (.astore 8, 2)) (hp : pc + 2 = pc') (k : zW M d r1 r2 Q pc' (l0 :: l1 :: l2 :: l3 :: l4 :: l5 :: l6 :: l7 :: zR x :: T) st sp me) : zW M d r1 r2 Q pc (l0 :: l1 :: l2 :: l3 :: l4 :: l5 :: l6 :: l7 :: l :: T) (zR x :: st) sp me := z_astore dg hp (by show 8 < _; simp) (by rcases l7 with a | (a | a) <;> first | rfl | exact absurd hd (by decide) | exact absurd hd (by simp [zndv])) rfl k
theorem z_inc8 {l0 l1 l2 l3 l4 l5 l6 l7 : zV} {x n : Int} (hd : zndv l7 = true) (dg : decode M.2.1 pc = .ok (.iinc 8 n, 3)) (hp : pc + 3 = pc') (hr : zin (x + n)) (k : zW M d r1 r2 Q pc' (l0 :: l1 :: l2 :: l3 :: l4 :: l5 :: l6 :: l7 :: zI (x + n) :: T) st sp me) : zW M d r1 r2 Q pc (l0 :: l1 :: l2 :: l3 :: l4 :: l5 :: l6 :: l7 :: zI x :: T) st sp me := z_iinc dg hp rfl hr (by rcases l7 with a | (a | a) <;> first | rfl | exact absurd hd (by decide) | exact absurd hd (by simp [zndv])) rfl k
end ZPL
end
section
section ZR2
variable {M : zMd} {d r1 r2 : Nat} {Q : zQ} {pc pc' n a : Nat} {L st : List zV} {sp : zSP} {me : zMe} {i x : Int}
theorem z_ild (dg : decode M.2.1 pc = .ok (.iaload, 1)) (hp : pc + 1 = pc') (hs : sp.1 a = (1, n)) (h0 : 0 ≤ i) (h1 : i < (n : Int)) (k : zW M d r1 r2 Q pc' L (zI (me a i) :: st) sp me) : zW M d r1 r2 Q pc L (zI i :: zR a :: st) sp me := z_iaload dg hp (by rw [hs]) h0 (by rw [hs]; exact h1) k
theorem z_ist (dg : decode M.2.1 pc = .ok (.iastore, 1)) (hp : pc + 1 = pc') (hs : sp.1 a = (1, n)) (h0 : 0 ≤ i) (h1 : i < (n : Int)) (k : zW M d r1 r2 Q pc' L st sp (zset me a (zup (me a) i x))) : zW M d r1 r2 Q pc L (zI x :: zI i :: zR a :: st) sp me := z_iastore dg hp (by rw [hs]) h0 (by rw [hs]; exact h1) k
theorem z_bld (dg : decode M.2.1 pc = .ok (.baload, 1)) (hp : pc + 1 = pc') (hs : sp.1 a = (2, n)) (h0 : 0 ≤ i) (h1 : i < (n : Int)) (k : zW M d r1 r2 Q pc' L (zI (me a i) :: st) sp me) : zW M d r1 r2 Q pc L (zI i :: zR a :: st) sp me := z_baload dg hp (by rw [hs]) h0 (by rw [hs]; exact h1) k
theorem z_bst (dg : decode M.2.1 pc = .ok (.bastore, 1)) (hp : pc + 1 = pc') (hs : sp.1 a = (2, n)) (h0 : 0 ≤ i) (h1 : i < (n : Int)) (h2 : x = 0 ∨ x = 1) (k : zW M d r1 r2 Q pc' L st sp (zset me a (zup (me a) i x))) : zW M d r1 r2 Q pc L (zI x :: zI i :: zR a :: st) sp me := z_bastore dg hp (by rw [hs]) h0 (by rw [hs]; exact h1) h2 k
theorem z_al (dg : decode M.2.1 pc = .ok (.arraylength, 1)) (hp : pc + 1 = pc') (hs : sp.1 a = (1, n)) (k : zW M d r1 r2 Q pc' L (zI (n : Int) :: st) sp me) : zW M d r1 r2 Q pc L (zR a :: st) sp me := z_alen dg hp (by rw [hs]) (by rw [hs]; exact k)
theorem z_qld {a' : Nat} (kd : Nat) (dg : decode M.2.1 pc = .ok (.aaload, 1)) (hp : pc + 1 = pc') (hs : sp.1 a = (kd, n)) (hk : kd = 3 ∨ kd = 4) (h0 : 0 ≤ i) (h1 : i < (n : Int)) (hv : sp.2.1 a i = some a') (k : zW M d r1 r2 Q pc' L (zR a' :: st) sp me) : zW M d r1 r2 Q pc L (zI i :: zR a :: st) sp me := z_aaload dg hp (by rw [hs]; exact hk) h0 (by rw [hs]; exact h1) hv k
theorem zwf_out (h : zwf sp me) (hs : sp.1 a = (1, n)) (hi : ¬ (0 ≤ i ∧ i < (n : Int))) : me a i = 0 := h.2.2.1 a i (Or.inl (by rw [hs])) (by rw [hs]; exact hi)
end ZR2

def zRing (sp : zSP) (a : Nat) : Prop := sp.1 a = (14, 4) ∧ sp.2.1 a 0 = some (a + 1) ∧ sp.2.1 a 1 = some (a + 2) ∧ sp.2.1 a 2 = some (a + 3) ∧ sp.2.1 a 3 = some (a + 4) ∧ sp.1 (a + 1) = (1, 10) ∧ sp.1 (a + 2) = (1, 10) ∧ sp.1 (a + 3) = (1, 10) ∧ sp.1 (a + 4) = (1, 10)
theorem zRing.sh {sp : zSP} {a : Nat} (h : zRing sp a) : sp.1 a = (14, 4) := h.1
theorem zRing.p0 {sp : zSP} {a : Nat} (h : zRing sp a) : sp.2.1 a 0 = some (a + 1) := h.2.1
theorem zRing.p1 {sp : zSP} {a : Nat} (h : zRing sp a) : sp.2.1 a 1 = some (a + 2) := h.2.2.1
theorem zRing.p2 {sp : zSP} {a : Nat} (h : zRing sp a) : sp.2.1 a 2 = some (a + 3) := h.2.2.2.1
theorem zRing.p3 {sp : zSP} {a : Nat} (h : zRing sp a) : sp.2.1 a 3 = some (a + 4) := h.2.2.2.2.1
theorem zRing.a1 {sp : zSP} {a : Nat} (h : zRing sp a) : sp.1 (a + 1) = (1, 10) := h.2.2.2.2.2.1
theorem zRing.a2 {sp : zSP} {a : Nat} (h : zRing sp a) : sp.1 (a + 2) = (1, 10) := h.2.2.2.2.2.2.1
theorem zRing.a3 {sp : zSP} {a : Nat} (h : zRing sp a) : sp.1 (a + 3) = (1, 10) := h.2.2.2.2.2.2.2.1
theorem zRing.a4 {sp : zSP} {a : Nat} (h : zRing sp a) : sp.1 (a + 4) = (1, 10) := h.2.2.2.2.2.2.2.2
theorem zRing.s {sp : zSP} {a : Nat} (h : zRing sp a) : (sp.1 a).1 = 10 + 4 := by rw [h.sh]
def zHold (sp : zSP) (a : Nat) : Prop := sp.1 a = (12, 2) ∧ sp.2.1 a 0 = some (a + 1) ∧ sp.1 (a + 1) = (1, 10)
theorem zHold.sh {sp : zSP} {a : Nat} (h : zHold sp a) : sp.1 a = (12, 2) := h.1
theorem zHold.p0 {sp : zSP} {a : Nat} (h : zHold sp a) : sp.2.1 a 0 = some (a + 1) := h.2.1
theorem zHold.a1 {sp : zSP} {a : Nat} (h : zHold sp a) : sp.1 (a + 1) = (1, 10) := h.2.2
theorem zHold.s {sp : zSP} {a : Nat} (h : zHold sp a) : (sp.1 a).1 = 10 + 2 := by rw [h.sh]
def zFigs (sp : zSP) (a : Nat) : Prop := sp.1 a = (10, 2) ∧ sp.2.1 a 0 = some (a + 1) ∧ sp.2.1 a 1 = some (a + 2) ∧ sp.1 (a + 1) = (1, 8) ∧ sp.1 (a + 2) = (1, 80)
theorem zFigs.sh {sp : zSP} {a : Nat} (h : zFigs sp a) : sp.1 a = (10, 2) := h.1
theorem zFigs.p0 {sp : zSP} {a : Nat} (h : zFigs sp a) : sp.2.1 a 0 = some (a + 1) := h.2.1
theorem zFigs.p1 {sp : zSP} {a : Nat} (h : zFigs sp a) : sp.2.1 a 1 = some (a + 2) := h.2.2.1
theorem zFigs.a1 {sp : zSP} {a : Nat} (h : zFigs sp a) : sp.1 (a + 1) = (1, 8) := h.2.2.2.1
theorem zFigs.a2 {sp : zSP} {a : Nat} (h : zFigs sp a) : sp.1 (a + 2) = (1, 80) := h.2.2.2.2
theorem zFigs.s {sp : zSP} {a : Nat} (h : zFigs sp a) : (sp.1 a).1 = 10 + 0 := by rw [h.sh]
def zSta (sp : zSP) (a : Nat) : Prop := sp.1 a = (17, 6) ∧ sp.2.1 a 0 = some (a + 1) ∧ sp.2.1 a 1 = some (a + 6) ∧ sp.2.1 a 2 = some (a + 8) ∧ zRing sp (a + 1) ∧ zHold sp (a + 6) ∧ zFigs sp (a + 8)
theorem zSta.sh {sp : zSP} {a : Nat} (h : zSta sp a) : sp.1 a = (17, 6) := h.1
theorem zSta.p0 {sp : zSP} {a : Nat} (h : zSta sp a) : sp.2.1 a 0 = some (a + 1) := h.2.1
theorem zSta.p1 {sp : zSP} {a : Nat} (h : zSta sp a) : sp.2.1 a 1 = some (a + 6) := h.2.2.1
theorem zSta.p2 {sp : zSP} {a : Nat} (h : zSta sp a) : sp.2.1 a 2 = some (a + 8) := h.2.2.2.1
theorem zSta.o1 {sp : zSP} {a : Nat} (h : zSta sp a) : zRing sp (a + 1) := h.2.2.2.2.1
theorem zSta.o6 {sp : zSP} {a : Nat} (h : zSta sp a) : zHold sp (a + 6) := h.2.2.2.2.2.1
theorem zSta.o8 {sp : zSP} {a : Nat} (h : zSta sp a) : zFigs sp (a + 8) := h.2.2.2.2.2.2
theorem zSta.s {sp : zSP} {a : Nat} (h : zSta sp a) : (sp.1 a).1 = 10 + 7 := by rw [h.sh]
def zHis (sp : zSP) (a : Nat) : Prop := sp.1 a = (11, 3) ∧ sp.2.1 a 0 = some (a + 1) ∧ sp.1 (a + 1) = (4, 5) ∧ ∀ i : Int, 0 ≤ i → i < 5 → sp.2.1 (a + 1) i = some (a + 2 + 11 * i.toNat) ∧ zSta sp (a + 2 + 11 * i.toNat)
theorem zHis.sh {sp : zSP} {a : Nat} (h : zHis sp a) : sp.1 a = (11, 3) := h.1
theorem zHis.p0 {sp : zSP} {a : Nat} (h : zHis sp a) : sp.2.1 a 0 = some (a + 1) := h.2.1
theorem zHis.a1 {sp : zSP} {a : Nat} (h : zHis sp a) : sp.1 (a + 1) = (4, 5) := h.2.2.1
theorem zHis.q {sp : zSP} {a : Nat} (h : zHis sp a) : ∀ i : Int, 0 ≤ i → i < 5 → sp.2.1 (a + 1) i = some (a + 2 + 11 * i.toNat) ∧ zSta sp (a + 2 + 11 * i.toNat) := h.2.2.2
theorem zHis.s {sp : zSP} {a : Nat} (h : zHis sp a) : (sp.1 a).1 = 10 + 1 := by rw [h.sh]
def zScr (sp : zSP) (a : Nat) : Prop := sp.1 a = (15, 2) ∧ sp.2.1 a 0 = some (a + 1) ∧ sp.1 (a + 1) = (1, 80)
theorem zScr.sh {sp : zSP} {a : Nat} (h : zScr sp a) : sp.1 a = (15, 2) := h.1
theorem zScr.p0 {sp : zSP} {a : Nat} (h : zScr sp a) : sp.2.1 a 0 = some (a + 1) := h.2.1
theorem zScr.a1 {sp : zSP} {a : Nat} (h : zScr sp a) : sp.1 (a + 1) = (1, 80) := h.2.2
theorem zScr.s {sp : zSP} {a : Nat} (h : zScr sp a) : (sp.1 a).1 = 10 + 5 := by rw [h.sh]
def zPlan (sp : zSP) (a : Nat) : Prop := sp.1 a = (13, 6) ∧ sp.2.1 a 0 = some (a + 1) ∧ sp.2.1 a 1 = some (a + 2) ∧ sp.2.1 a 2 = some (a + 3) ∧ sp.2.1 a 3 = some (a + 4) ∧ sp.2.1 a 4 = some (a + 5) ∧ sp.2.1 a 5 = some (a + 6) ∧ sp.1 (a + 1) = (1, 8) ∧ sp.1 (a + 2) = (1, 960) ∧ sp.1 (a + 3) = (1, 8) ∧ sp.1 (a + 4) = (1, 8) ∧ sp.1 (a + 5) = (3, 8) ∧ zRing sp (a + 6) ∧ ∀ i : Int, 0 ≤ i → i < 8 → sp.2.1 (a + 5) i = some (a + 11 + 5 * i.toNat) ∧ zRing sp (a + 11 + 5 * i.toNat)
theorem zPlan.sh {sp : zSP} {a : Nat} (h : zPlan sp a) : sp.1 a = (13, 6) := h.1
theorem zPlan.p0 {sp : zSP} {a : Nat} (h : zPlan sp a) : sp.2.1 a 0 = some (a + 1) := h.2.1
theorem zPlan.p1 {sp : zSP} {a : Nat} (h : zPlan sp a) : sp.2.1 a 1 = some (a + 2) := h.2.2.1
theorem zPlan.p2 {sp : zSP} {a : Nat} (h : zPlan sp a) : sp.2.1 a 2 = some (a + 3) := h.2.2.2.1
theorem zPlan.p3 {sp : zSP} {a : Nat} (h : zPlan sp a) : sp.2.1 a 3 = some (a + 4) := h.2.2.2.2.1
theorem zPlan.p4 {sp : zSP} {a : Nat} (h : zPlan sp a) : sp.2.1 a 4 = some (a + 5) := h.2.2.2.2.2.1
theorem zPlan.p5 {sp : zSP} {a : Nat} (h : zPlan sp a) : sp.2.1 a 5 = some (a + 6) := h.2.2.2.2.2.2.1
theorem zPlan.a1 {sp : zSP} {a : Nat} (h : zPlan sp a) : sp.1 (a + 1) = (1, 8) := h.2.2.2.2.2.2.2.1
theorem zPlan.a2 {sp : zSP} {a : Nat} (h : zPlan sp a) : sp.1 (a + 2) = (1, 960) := h.2.2.2.2.2.2.2.2.1
theorem zPlan.a3 {sp : zSP} {a : Nat} (h : zPlan sp a) : sp.1 (a + 3) = (1, 8) := h.2.2.2.2.2.2.2.2.2.1
theorem zPlan.a4 {sp : zSP} {a : Nat} (h : zPlan sp a) : sp.1 (a + 4) = (1, 8) := h.2.2.2.2.2.2.2.2.2.2.1
theorem zPlan.a5 {sp : zSP} {a : Nat} (h : zPlan sp a) : sp.1 (a + 5) = (3, 8) := h.2.2.2.2.2.2.2.2.2.2.2.1
theorem zPlan.o6 {sp : zSP} {a : Nat} (h : zPlan sp a) : zRing sp (a + 6) := h.2.2.2.2.2.2.2.2.2.2.2.2.1
theorem zPlan.q {sp : zSP} {a : Nat} (h : zPlan sp a) : ∀ i : Int, 0 ≤ i → i < 8 → sp.2.1 (a + 5) i = some (a + 11 + 5 * i.toNat) ∧ zRing sp (a + 11 + 5 * i.toNat) := h.2.2.2.2.2.2.2.2.2.2.2.2.2
theorem zPlan.s {sp : zSP} {a : Nat} (h : zPlan sp a) : (sp.1 a).1 = 10 + 3 := by rw [h.sh]
def zSea (sp : zSP) (a : Nat) : Prop := sp.1 a = (16, 2) ∧ sp.2.1 a 0 = some (a + 1) ∧ sp.2.1 a 1 = some (a + 2) ∧ sp.1 (a + 1) = (1, 4) ∧ sp.1 (a + 2) = (3, 4) ∧ ∀ i : Int, 0 ≤ i → i < 4 → sp.2.1 (a + 2) i = some (a + 3 + 5 * i.toNat) ∧ zRing sp (a + 3 + 5 * i.toNat)
theorem zSea.sh {sp : zSP} {a : Nat} (h : zSea sp a) : sp.1 a = (16, 2) := h.1
theorem zSea.p0 {sp : zSP} {a : Nat} (h : zSea sp a) : sp.2.1 a 0 = some (a + 1) := h.2.1
theorem zSea.p1 {sp : zSP} {a : Nat} (h : zSea sp a) : sp.2.1 a 1 = some (a + 2) := h.2.2.1
theorem zSea.a1 {sp : zSP} {a : Nat} (h : zSea sp a) : sp.1 (a + 1) = (1, 4) := h.2.2.2.1
theorem zSea.a2 {sp : zSP} {a : Nat} (h : zSea sp a) : sp.1 (a + 2) = (3, 4) := h.2.2.2.2.1
theorem zSea.q {sp : zSP} {a : Nat} (h : zSea sp a) : ∀ i : Int, 0 ≤ i → i < 4 → sp.2.1 (a + 2) i = some (a + 3 + 5 * i.toNat) ∧ zRing sp (a + 3 + 5 * i.toNat) := h.2.2.2.2.2
theorem zSea.s {sp : zSP} {a : Nat} (h : zSea sp a) : (sp.1 a).1 = 10 + 6 := by rw [h.sh]
section ZFN
theorem zset_11 {α : Type} (me : Nat → α) (a : Nat) (f f' : α) : zset (zset me a f) a f' = zset me a f' := by
  funext j; by_cases h : j = a <;> simp [zset, h]
theorem zset_21 {α : Type} (me : Nat → α) (a b : Nat) (f f' g : α) (h : a ≠ b) : zset (zset (zset me a f) b g) a f' = zset (zset me a f') b g := by
  funext j
  by_cases h1 : j = a
  · subst h1; simp [zset, h]
  · by_cases h2 : j = b
    · subst h2; simp [zset, h1]
    · simp [zset, h1, h2]
theorem zset_31 {α : Type} (me : Nat → α) (a b c : Nat) (f f' g h : α) (h1 : a ≠ b) (h2 : a ≠ c) : zset (zset (zset (zset me a f) b g) c h) a f' = zset (zset (zset me a f') b g) c h := by
  funext j
  by_cases e1 : j = a
  · subst e1; simp [zset, h1, h2]
  · by_cases e2 : j = b
    · subst e2; simp [zset, e1]
    · simp [zset, e1, e2]
theorem zset_41 {α : Type} (me : Nat → α) (a b c d : Nat) (f f' g h i : α) (h1 : a ≠ b) (h2 : a ≠ c) (h3 : a ≠ d) : zset (zset (zset (zset (zset me a f) b g) c h) d i) a f' = zset (zset (zset (zset me a f') b g) c h) d i := by
  funext j
  by_cases e1 : j = a
  · subst e1; simp [zset, h1, h2, h3]
  · by_cases e2 : j = b
    · subst e2; simp [zset, e1]
    · simp [zset, e1, e2]
theorem zset_self {α : Type} (me : Nat → α) (a : Nat) : zset me a (me a) = me := by
  funext j; by_cases h : j = a <;> simp [zset, h]
theorem zset_id {α : Type} (me : Nat → α) (a : Nat) (f : α) (h : me a = f) : zset me a f = me := by
  subst h; exact zset_self me a
theorem zset_comm {α : Type} (me : Nat → α) (a b : Nat) (f g : α) (h : a ≠ b) : zset (zset me a f) b g = zset (zset me b g) a f := by
  funext j
  by_cases h1 : j = a
  · subst h1; simp [zset, h]
  · simp [zset, h1]
theorem zup_zup {α : Type} (f : Int → α) (i : Int) (x y : α) : zup (zup f i x) i y = zup f i y := by
  funext j; by_cases h : j = i <;> simp [zup, h]
theorem zup_self {α : Type} (f : Int → α) (i : Int) : zup f i (f i) = f := by
  funext j; by_cases h : j = i <;> simp [zup, h]
/-- filled up to k -/
def zfil {α : Type} (f g : Int → α) (k : Int) : Int → α := fun p => if 0 ≤ p ∧ p < k then g p else f p
theorem zfil_0 {α : Type} (f g : Int → α) : zfil f g 0 = f := by
  funext p; unfold zfil; rw [if_neg (by omega)]
theorem zfil_up {α : Type} (f g : Int → α) (k : Int) (x : α) (h0 : 0 ≤ k) (hx : x = g k) : zup (zfil f g k) k x = zfil f g (k + 1) := by
  funext p
  unfold zup zfil
  by_cases h : p = k
  · subst h; rw [if_pos rfl, if_pos (by omega), hx]
  · rw [if_neg h]
    by_cases h2 : 0 ≤ p ∧ p < k
    · rw [if_pos h2, if_pos (by omega)]
    · rw [if_neg h2, if_neg (by omega)]
theorem zfil_in {α : Type} (f g : Int → α) (k p : Int) (h0 : 0 ≤ p) (h1 : p < k) : zfil f g k p = g p := by unfold zfil; rw [if_pos ⟨h0, h1⟩]
theorem zfil_out {α : Type} (f g : Int → α) (k p : Int) (h : ¬ (0 ≤ p ∧ p < k)) : zfil f g k p = f p := by unfold zfil; rw [if_neg h]
def zcut (n : Int) (g : Int → Int) : Int → Int := fun p => if 0 ≤ p ∧ p < n then g p else 0
theorem zcut_in (n : Int) (g : Int → Int) (p : Int) (h0 : 0 ≤ p) (h1 : p < n) : zcut n g p = g p := by unfold zcut; rw [if_pos ⟨h0, h1⟩]
theorem zcut_out (n : Int) (g : Int → Int) (p : Int) (h : ¬ (0 ≤ p ∧ p < n)) : zcut n g p = 0 := by unfold zcut; rw [if_neg h]
theorem zfil_cut {sp : zSP} {me : zMe} {a n : Nat} {m : Int} (g : Int → Int) (hwf : zwf sp me) (hs : sp.1 a = (1, n)) (hm : (n : Int) = m) : zfil (me a) g m = zcut m g := by
  subst hm
  funext p
  unfold zfil zcut
  by_cases h : 0 ≤ p ∧ p < (n : Int)
  · rw [if_pos h, if_pos h]
  · rw [if_neg h, if_neg h, zwf_out hwf hs h]
theorem zcut_me {sp : zSP} {me : zMe} {a n : Nat} {m : Int} (hwf : zwf sp me) (hs : sp.1 a = (1, n)) (hm : (n : Int) = m) : zcut m (me a) = me a := by
  subst hm
  funext p
  unfold zcut
  by_cases h : 0 ≤ p ∧ p < (n : Int)
  · rw [if_pos h]
  · rw [if_neg h, zwf_out hwf hs h]
theorem zcut_congr {n : Int} {f g : Int → Int} (h : ∀ p, 0 ≤ p → p < n → f p = g p) : zcut n f = zcut n g := by
  funext p
  unfold zcut
  by_cases e : 0 ≤ p ∧ p < n
  · rw [if_pos e, if_pos e, h p e.1 e.2]
  · rw [if_neg e, if_neg e]
theorem zW_to {M : zMd} {d r1 r2 : Nat} {Q : zQ} {pc : Nat} {L L' st st' : List zV} {sp : zSP} {me me' : zMe} (h : zW M d r1 r2 Q pc L st sp me) (hL : L' = L) (hs : st' = st) (hm : me' = me) : zW M d r1 r2 Q pc L' st' sp me' := by
  subst hL; subst hs; subst hm; exact h
def zsN (g : Int → Int) : Nat → Int
  | 0 => 0
  | n + 1 => zsN g n + g (n : Int)
def zSm (g : Int → Int) (k : Int) : Int := zsN g k.toNat
theorem zSm_0 (g : Int → Int) : zSm g 0 = 0 := rfl
theorem zSm_up (g : Int → Int) (k : Int) (h : 0 ≤ k) : zSm g (k + 1) = zSm g k + g k := by
  unfold zSm
  obtain ⟨n, rfl⟩ := Int.eq_ofNat_of_zero_le h
  rfl
theorem zSm_ind {P : Int → Int → Prop} (g : Int → Int) (h0 : P 0 0) (hs : ∀ k s, 0 ≤ k → P k s → P (k + 1) (s + g k)) (k : Int) (h : 0 ≤ k) : P k (zSm g k) := by
  obtain ⟨n, rfl⟩ := Int.eq_ofNat_of_zero_le h
  induction n with
  | zero => exact h0
  | succ n ih =>
    have h1 : zSm g ((n : Int) + 1) = zSm g (n : Int) + g (n : Int) := zSm_up g _ (by omega)
    have h2 := hs (n : Int) _ (by omega) (ih (by omega))
    rw [← h1] at h2
    exact h2
theorem zSm_bd {g : Int → Int} {a b : Int} (hg : ∀ p, 0 ≤ p → a ≤ g p ∧ g p ≤ b) (k : Int) (h : 0 ≤ k) : a * k ≤ zSm g k ∧ zSm g k ≤ b * k := by
  refine zSm_ind (P := fun k s => a * k ≤ s ∧ s ≤ b * k) g (by simp) (fun k s hk hs => ?_) k h
  have := hg k hk
  rw [Int.mul_add, Int.mul_add]
  omega
theorem zSm_congr {g g' : Int → Int} (k : Int) (h : ∀ p, 0 ≤ p → p < k → g p = g' p) : zSm g k = zSm g' k := by
  unfold zSm
  have : ∀ n : Nat, (n : Int) ≤ k → zsN g n = zsN g' n := by
    intro n
    induction n with
    | zero => intro _; rfl
    | succ n ih =>
      intro hn
      show zsN g n + g n = zsN g' n + g' n
      rw [ih (by omega), h n (by omega) (by omega)]
  by_cases hk : 0 ≤ k
  · exact this _ (by omega)
  · rw [show k.toNat = 0 by omega]; rfl
end ZFN
end
section
section ZSMALL
set_option maxRecDepth 100000 in
set_option maxHeartbeats 1000000 in
theorem c_read {d : Nat} {sp : zSP} {me : zMe} {Q : zQ} {a n : Nat} {i : Int} (hs : sp.1 a = (1, n)) (hQ : Q (some (zI (me a i))) sp me) : zCall mX8_read d 0 0 [zR a, zI i] sp me Q := by
  refine z_met kX8_read (by simp) (by simp) ?_
  show zW mX8_read d 0 0 Q 0 [zR a, zI i] [] sp me
  refine z_wf (fun hwf => ?_)
  refine z_L1I (pc' := 1) dX8_read_0 rfl ?_
  refine z_if_lt (tgt := 16) (pc' := 4) dX8_read_1 (by decide) rfl (fun h1 => ?_) (fun h1 => ?_)
  · have hv := zwf_out hwf hs (i := i) (by omega)
    rw [hv] at hQ
    refine z_iconst (pc' := 17) dX8_read_16 rfl (by unfold zin; decide) ?_
    refine z_ireturn rfl rfl dX8_read_17 ?_
    exact hQ
  · refine z_L1I (pc' := 5) dX8_read_4 rfl ?_
    refine z_L0R (pc' := 6) dX8_read_5 rfl ?_
    refine z_al (pc' := 7) dX8_read_6 rfl hs ?_
    refine z_icmp_ge (tgt := 16) (pc' := 10) dX8_read_7 (by decide) rfl (fun h7 => ?_) (fun h7 => ?_)
    · have hv := zwf_out hwf hs (i := i) (by omega)
      rw [hv] at hQ
      refine z_iconst (pc' := 17) dX8_read_16 rfl (by unfold zin; decide) ?_
      refine z_ireturn rfl rfl dX8_read_17 ?_
      exact hQ
    · refine z_L0R (pc' := 11) dX8_read_10 rfl ?_
      refine z_L1I (pc' := 12) dX8_read_11 rfl ?_
      refine z_ild (pc' := 13) dX8_read_12 rfl hs (by omega) (by omega) ?_
      refine z_goto (tgt := 17) dX8_read_13 (by decide) ?_
      refine z_ireturn rfl rfl dX8_read_17 ?_
      exact hQ
set_option maxRecDepth 100000 in
set_option maxHeartbeats 1000000 in
theorem c_write {d : Nat} {sp : zSP} {me : zMe} {Q : zQ} {a n : Nat} {i x : Int} (hs : sp.1 a = (1, n)) (h0 : 0 ≤ i) (h1 : i < (n : Int)) (hQ : Q none sp (zset me a (zup (me a) i x))) : zCall mX8_write d 0 0 [zR a, zI i, zI x] sp me Q := by
  refine z_met kX8_write (by simp) (by simp) ?_
  show zW mX8_write d 0 0 Q 0 [zR a, zI i, zI x] [] sp me
  refine z_L1I (pc' := 1) dX8_write_0 rfl ?_
  refine z_if_lt (tgt := 14) (pc' := 4) dX8_write_1 (by decide) rfl (fun h1 => absurd h1 (by omega)) (fun h1 => ?_)
  refine z_L1I (pc' := 5) dX8_write_4 rfl ?_
  refine z_L0R (pc' := 6) dX8_write_5 rfl ?_
  refine z_al (pc' := 7) dX8_write_6 rfl hs ?_
  refine z_icmp_ge (tgt := 14) (pc' := 10) dX8_write_7 (by decide) rfl (fun h7 => absurd h7 (by omega)) (fun h7 => ?_)
  refine z_L0R (pc' := 11) dX8_write_10 rfl ?_
  refine z_L1I (pc' := 12) dX8_write_11 rfl ?_
  refine z_L2I (pc' := 13) dX8_write_12 rfl ?_
  refine z_ist (pc' := 14) dX8_write_13 rfl hs (by omega) (by omega) ?_
  refine z_return rfl rfl dX8_write_14 ?_
  exact hQ
set_option maxRecDepth 100000 in
set_option maxHeartbeats 1000000 in
theorem c_copy {d : Nat} {sp : zSP} {me : zMe} {Q : zQ} {a b n : Nat} (hd : 1 ≤ d) (ha : sp.1 a = (1, n)) (hb : sp.1 b = (1, n)) (hQ : Q none sp (zset me b (me a))) : zCall mX8_copy d 0 0 [zR a, zR b] sp me Q := by
  refine z_met kX8_copy (by simp) (by simp) ?_
  show zW mX8_copy d 0 0 Q 0 [zR a, zR b] [] sp me
  refine z_L0R (pc' := 1) dX8_copy_0 rfl ?_
  refine z_iconst (pc' := 2) dX8_copy_1 rfl (by unfold zin; decide) ?_
  refine z_L1R (pc' := 3) dX8_copy_2 rfl ?_
  refine z_iconst (pc' := 4) dX8_copy_3 rfl (by unfold zin; decide) ?_
  refine z_L0R (pc' := 5) dX8_copy_4 rfl ?_
  refine z_al (pc' := 6) dX8_copy_5 rfl (by first | exact ha | exact hb) ?_
  refine z_L1R (pc' := 7) dX8_copy_6 rfl ?_
  refine z_al (pc' := 8) dX8_copy_7 rfl (by first | exact ha | exact hb) ?_
  refine z_min (pc' := 11) hX8_282 dX8_copy_8 rfl (by omega) (Nat.le_of_ble_eq_true rfl) ?_
  rw [if_neg (Int.lt_irrefl _)]
  refine z_copy (pc' := 14) pX8_285 dX8_copy_11 rfl (by omega) rfl ha hb ?_
  refine z_return rfl rfl dX8_copy_14 ?_
  exact hQ
set_option maxRecDepth 100000 in
set_option maxHeartbeats 1000000 in
theorem c_kindOf {d : Nat} {sp : zSP} {me : zMe} {Q : zQ} {x : Int} (h0 : 0 ≤ x) (hQ : Q (some (zI (x / 100))) sp me) : zCall mX8_kindOf d 0 0 [zI x] sp me Q := by
  refine z_met kX8_kindOf (by simp) (by simp) ?_
  show zW mX8_kindOf d 0 0 Q 0 [zI x] [] sp me
  refine z_L0I (pc' := 1) dX8_kindOf_0 rfl ?_
  refine z_bipush (pc' := 3) dX8_kindOf_1 rfl (by decide) ?_
  refine z_idiv (pc' := 4) dX8_kindOf_3 rfl (by omega) (by omega) ?_
  refine z_ireturn rfl rfl dX8_kindOf_4 ?_
  exact hQ
set_option maxRecDepth 100000 in
set_option maxHeartbeats 1000000 in
theorem c_firstOf {d : Nat} {sp : zSP} {me : zMe} {Q : zQ} {x : Int} (h0 : 0 ≤ x) (hQ : Q (some (zI (x / 10 % 10))) sp me) : zCall mX8_firstOf d 0 0 [zI x] sp me Q := by
  refine z_met kX8_firstOf (by simp) (by simp) ?_
  show zW mX8_firstOf d 0 0 Q 0 [zI x] [] sp me
  refine z_L0I (pc' := 1) dX8_firstOf_0 rfl ?_
  refine z_bipush (pc' := 3) dX8_firstOf_1 rfl (by decide) ?_
  refine z_idiv (pc' := 4) dX8_firstOf_3 rfl (by omega) (by omega) ?_
  refine z_bipush (pc' := 6) dX8_firstOf_4 rfl (by decide) ?_
  refine z_irem (pc' := 7) dX8_firstOf_6 rfl (by omega) (by omega) ?_
  refine z_ireturn rfl rfl dX8_firstOf_7 ?_
  exact hQ
set_option maxRecDepth 100000 in
set_option maxHeartbeats 1000000 in
theorem c_secondOf {d : Nat} {sp : zSP} {me : zMe} {Q : zQ} {x : Int} (h0 : 0 ≤ x) (hQ : Q (some (zI (x % 10))) sp me) : zCall mX8_secondOf d 0 0 [zI x] sp me Q := by
  refine z_met kX8_secondOf (by simp) (by simp) ?_
  show zW mX8_secondOf d 0 0 Q 0 [zI x] [] sp me
  refine z_L0I (pc' := 1) dX8_secondOf_0 rfl ?_
  refine z_bipush (pc' := 3) dX8_secondOf_1 rfl (by decide) ?_
  refine z_irem (pc' := 4) dX8_secondOf_3 rfl (by omega) (by omega) ?_
  refine z_ireturn rfl rfl dX8_secondOf_4 ?_
  exact hQ
set_option maxRecDepth 100000 in
set_option maxHeartbeats 1000000 in
theorem c_settle {d : Nat} {sp : zSP} {me : zMe} {Q : zQ} {r : Nat} (hr : zRing sp r) (hQ : Q none sp (zset (zset me (r + 1) (zcut 10 (fun p => p))) (r + 2) (zcut 10 (fun _ => 0)))) : zCall mX4_settle d 0 0 [zR r] sp me Q := by
  refine z_met kX4_settle (by simp) (by simp) ?_
  show zW mX4_settle d 0 0 Q 0 [zR r, zU] [] sp me
  refine z_wf (fun hwf => ?_)
  refine z_iconst (pc' := 1) dX4_settle_0 rfl (by unfold zin; decide) ?_
  refine z_S1I (pc' := 2) rfl dX4_settle_1 rfl ?_
  suffices H : ∀ (n : Nat) (k : Int), 0 ≤ k → k ≤ 10 → 10 - k < n → zW mX4_settle d 0 0 Q 2 [zR r, zI k] [] sp (zset (zset me (r + 1) (zfil (me (r + 1)) (fun p => p) k)) (r + 2) (zfil (me (r + 2)) (fun _ => 0) k)) by
    refine zW_to (H ((10 - 0 + 1 : Int).toNat) (0) (by omega) (by omega) (by omega) ) rfl rfl ?_
    simp only [zfil_0, zset_self]
  intro n
  induction n with
  | zero => intro k hk0 hk1 hk2; omega
  | succ n ih =>
  intro k hk0 hk1 hk2
  refine z_L1I (pc' := 3) dX4_settle_2 rfl ?_
  refine z_bipush (pc' := 5) dX4_settle_3 rfl (by decide) ?_
  refine z_icmp_ge (tgt := 28) (pc' := 8) dX4_settle_5 (by decide) rfl (fun h5 => ?_) (fun h5 => ?_)
  · obtain rfl : k = 10 := by omega
    rw [zfil_cut (m := 10) _ hwf hr.a1 rfl, zfil_cut (m := 10) _ hwf hr.a2 rfl]
    refine z_return rfl rfl dX4_settle_28 ?_
    exact hQ
  · refine z_L0R (pc' := 9) dX4_settle_8 rfl ?_
    refine z_getR (pc' := 12) (ki := 0) 0 fX4_9.l rfl rfl dX4_settle_9 rfl hr.s hr.p0 ?_
    refine z_L1I (pc' := 13) dX4_settle_12 rfl ?_
    refine z_L1I (pc' := 14) dX4_settle_13 rfl ?_
    refine z_ist (pc' := 15) dX4_settle_14 rfl (by first | exact hr.a1 | exact hr.a2 | exact hr.a3 | exact hr.a4) (by omega) (by omega) ?_
    refine z_L0R (pc' := 16) dX4_settle_15 rfl ?_
    refine z_getR (pc' := 19) (ki := 1) 1 fX4_15.l rfl rfl dX4_settle_16 rfl hr.s hr.p1 ?_
    refine z_L1I (pc' := 20) dX4_settle_19 rfl ?_
    refine z_iconst (pc' := 21) dX4_settle_20 rfl (by unfold zin; decide) ?_
    refine z_ist (pc' := 22) dX4_settle_21 rfl (by first | exact hr.a1 | exact hr.a2 | exact hr.a3 | exact hr.a4) (by omega) (by omega) ?_
    refine z_inc1 (pc' := 25) rfl dX4_settle_22 rfl (by unfold zin; omega) ?_
    refine z_goto (tgt := 2) dX4_settle_25 (by decide) ?_
    refine zW_to (ih (k + 1) (by omega) (by omega) (by omega) ) rfl rfl ?_
    simp (disch := first | omega | rfl) only [zset_eq, zset_ne, zset_11, zset_21, zset_31, zset_41, zfil_up, zup_eq, zup_ne]
set_option maxRecDepth 100000 in
set_option maxHeartbeats 1000000 in
theorem c_ringCopy {d : Nat} {sp : zSP} {me : zMe} {Q : zQ} {r e : Nat} (hd : 2 ≤ d) (hr : zRing sp r) (he : zRing sp e) (hne : r = e ∨ r + 4 < e ∨ e + 4 < r) (hQ : Q none sp (zset (zset me (r + 1) (me (e + 1))) (r + 2) (me (e + 2)))) : zCall mX4_copyFrom d 0 0 [zR r, zR e] sp me Q := by
  refine z_met kX4_copyFrom (by simp) (by simp) ?_
  show zW mX4_copyFrom d 0 0 Q 0 [zR r, zR e] [] sp me
  refine z_L1R (pc' := 1) dX4_copyFrom_0 rfl ?_
  refine z_getR (pc' := 4) (ki := 0) 0 fX4_9.l rfl rfl dX4_copyFrom_1 rfl (by first | exact hr.s | exact he.s) (by first | exact hr.p0 | exact he.p0) ?_
  refine z_L0R (pc' := 5) dX4_copyFrom_4 rfl ?_
  refine z_getR (pc' := 8) (ki := 0) 0 fX4_9.l rfl rfl dX4_copyFrom_5 rfl (by first | exact hr.s | exact he.s) (by first | exact hr.p0 | exact he.p0) ?_
  refine z_S20 (pc' := 11) kX8_copy lX4_27 dX4_copyFrom_8 rfl (by omega) (Nat.le_of_ble_eq_true rfl) ?_
  refine c_copy (by omega) he.a1 hr.a1 (zK0_i ?_)
  refine z_L1R (pc' := 12) dX4_copyFrom_11 rfl ?_
  refine z_getR (pc' := 15) (ki := 1) 1 fX4_15.l rfl rfl dX4_copyFrom_12 rfl (by first | exact hr.s | exact he.s) (by first | exact hr.p1 | exact he.p1) ?_
  refine z_L0R (pc' := 16) dX4_copyFrom_15 rfl ?_
  refine z_getR (pc' := 19) (ki := 1) 1 fX4_15.l rfl rfl dX4_copyFrom_16 rfl (by first | exact hr.s | exact he.s) (by first | exact hr.p1 | exact he.p1) ?_
  refine z_S20 (pc' := 22) kX8_copy lX4_27 dX4_copyFrom_19 rfl (by omega) (Nat.le_of_ble_eq_true rfl) ?_
  refine c_copy (by omega) he.a2 hr.a2 (zK0_i ?_)
  rw [zset_ne _ _ _ (by omega)]
  refine z_return rfl rfl dX4_copyFrom_22 ?_
  exact hQ
set_option maxRecDepth 100000 in
set_option maxHeartbeats 1000000 in
theorem c_remember {d : Nat} {sp : zSP} {me : zMe} {Q : zQ} {r : Nat} (hd : 2 ≤ d) (hr : zRing sp r) (hQ : Q none sp (zset (zset me (r + 3) (me (r + 1))) (r + 4) (me (r + 2)))) : zCall mX4_remember d 0 0 [zR r] sp me Q := by
  refine z_met kX4_remember (by simp) (by simp) ?_
  show zW mX4_remember d 0 0 Q 0 [zR r] [] sp me
  refine z_L0R (pc' := 1) dX4_remember_0 rfl ?_
  refine z_getR (pc' := 4) (ki := 0) 0 fX4_9.l rfl rfl dX4_remember_1 rfl hr.s hr.p0 ?_
  refine z_L0R (pc' := 5) dX4_remember_4 rfl ?_
  refine z_getR (pc' := 8) (ki := 2) 2 fX4_18.l rfl rfl dX4_remember_5 rfl hr.s hr.p2 ?_
  refine z_S20 (pc' := 11) kX8_copy lX4_27 dX4_remember_8 rfl (by omega) (Nat.le_of_ble_eq_true rfl) ?_
  refine c_copy (by omega) hr.a1 hr.a3 (zK0_i ?_)
  refine z_L0R (pc' := 12) dX4_remember_11 rfl ?_
  refine z_getR (pc' := 15) (ki := 1) 1 fX4_15.l rfl rfl dX4_remember_12 rfl hr.s hr.p1 ?_
  refine z_L0R (pc' := 16) dX4_remember_15 rfl ?_
  refine z_getR (pc' := 19) (ki := 3) 3 fX4_21.l rfl rfl dX4_remember_16 rfl hr.s hr.p3 ?_
  refine z_S20 (pc' := 22) kX8_copy lX4_27 dX4_remember_19 rfl (by omega) (Nat.le_of_ble_eq_true rfl) ?_
  refine c_copy (by omega) hr.a2 hr.a4 (zK0_i ?_)
  rw [zset_ne _ _ _ (by omega)]
  refine z_return rfl rfl dX4_remember_22 ?_
  exact hQ
set_option maxRecDepth 100000 in
set_option maxHeartbeats 1000000 in
theorem c_dancerAt {d : Nat} {sp : zSP} {me : zMe} {Q : zQ} {r : Nat} {i : Int} (hd : 1 ≤ d) (hr : zRing sp r) (hQ : Q (some (zI (me (r + 1) i))) sp me) : zCall mX4_dancerAt d 0 0 [zR r, zI i] sp me Q := by
  refine z_met kX4_dancerAt (by simp) (by simp) ?_
  show zW mX4_dancerAt d 0 0 Q 0 [zR r, zI i] [] sp me
  refine z_L0R (pc' := 1) dX4_dancerAt_0 rfl ?_
  refine z_getR (pc' := 4) (ki := 0) 0 fX4_9.l rfl rfl dX4_dancerAt_1 rfl hr.s hr.p0 ?_
  refine z_L1I (pc' := 5) dX4_dancerAt_4 rfl ?_
  refine z_S2v (pc' := 8) kX8_read lX4_31 dX4_dancerAt_5 rfl (by omega) (Nat.le_of_ble_eq_true rfl) ?_
  refine c_read hr.a1 (zKv_i ?_)
  refine z_ireturn rfl rfl dX4_dancerAt_8 ?_
  exact hQ
set_option maxRecDepth 100000 in
set_option maxHeartbeats 1000000 in
theorem c_faceAt {d : Nat} {sp : zSP} {me : zMe} {Q : zQ} {r : Nat} {i : Int} (hd : 1 ≤ d) (hr : zRing sp r) (hQ : Q (some (zI (me (r + 2) i))) sp me) : zCall mX4_faceAt d 0 0 [zR r, zI i] sp me Q := by
  refine z_met kX4_faceAt (by simp) (by simp) ?_
  show zW mX4_faceAt d 0 0 Q 0 [zR r, zI i] [] sp me
  refine z_L0R (pc' := 1) dX4_faceAt_0 rfl ?_
  refine z_getR (pc' := 4) (ki := 1) 1 fX4_15.l rfl rfl dX4_faceAt_1 rfl hr.s hr.p1 ?_
  refine z_L1I (pc' := 5) dX4_faceAt_4 rfl ?_
  refine z_S2v (pc' := 8) kX8_read lX4_31 dX4_faceAt_5 rfl (by omega) (Nat.le_of_ble_eq_true rfl) ?_
  refine c_read hr.a2 (zKv_i ?_)
  refine z_ireturn rfl rfl dX4_faceAt_8 ?_
  exact hQ
end ZSMALL
end
section
section ZRING
def zr4 (me : zMe) (r : Nat) (j3 j4 W F : Int → Int) : zMe := zset (zset (zset (zset me (r + 3) j3) (r + 4) j4) (r + 1) W) (r + 2) F
theorem zr4_1 (me : zMe) (r : Nat) (j3 j4 W F : Int → Int) : zr4 me r j3 j4 W F (r + 1) = W := by
  unfold zr4; rw [zset_ne _ _ _ (by omega), zset_eq]
theorem zr4_2 (me : zMe) (r : Nat) (j3 j4 W F : Int → Int) : zr4 me r j3 j4 W F (r + 2) = F := by
  unfold zr4; rw [zset_eq]
theorem zr4_3 (me : zMe) (r : Nat) (j3 j4 W F : Int → Int) : zr4 me r j3 j4 W F (r + 3) = j3 := by
  unfold zr4; rw [zset_ne _ _ _ (by omega), zset_ne _ _ _ (by omega), zset_ne _ _ _ (by omega), zset_eq]
theorem zr4_4 (me : zMe) (r : Nat) (j3 j4 W F : Int → Int) : zr4 me r j3 j4 W F (r + 4) = j4 := by
  unfold zr4; rw [zset_ne _ _ _ (by omega), zset_ne _ _ _ (by omega), zset_eq]
theorem zr4_o (me : zMe) (r : Nat) (j3 j4 W F : Int → Int) (a : Nat) (h : a < r + 1 ∨ r + 4 < a) : zr4 me r j3 j4 W F a = me a := by
  unfold zr4; rw [zset_ne _ _ _ (by omega), zset_ne _ _ _ (by omega), zset_ne _ _ _ (by omega), zset_ne _ _ _ (by omega)]
theorem zr4_ext {me me' : zMe} {r : Nat} (h : ∀ a, (a < r + 1 ∨ r + 4 < a) → me' a = me a) : me' = zr4 me r (me' (r + 3)) (me' (r + 4)) (me' (r + 1)) (me' (r + 2)) := by
  funext a
  by_cases h1 : a = r + 1
  · rw [h1, zr4_1]
  by_cases h2 : a = r + 2
  · rw [h2, zr4_2]
  by_cases h3 : a = r + 3
  · rw [h3, zr4_3]
  by_cases h4 : a = r + 4
  · rw [h4, zr4_4]
  rw [zr4_o _ _ _ _ _ _ _ (by omega), h a (by omega)]
theorem zr4_zr4 (me : zMe) (r : Nat) (j3 j4 W F k3 k4 W' F' : Int → Int) : zr4 (zr4 me r j3 j4 W F) r k3 k4 W' F' = zr4 me r k3 k4 W' F' := by
  funext a
  by_cases h1 : a = r + 1
  · rw [h1, zr4_1, zr4_1]
  by_cases h2 : a = r + 2
  · rw [h2, zr4_2, zr4_2]
  by_cases h3 : a = r + 3
  · rw [h3, zr4_3, zr4_3]
  by_cases h4 : a = r + 4
  · rw [h4, zr4_4, zr4_4]
  rw [zr4_o _ _ _ _ _ _ _ (by omega), zr4_o _ _ _ _ _ _ _ (by omega), zr4_o _ _ _ _ _ _ _ (by omega)]
theorem zr4_set (me : zMe) (r : Nat) (W F : Int → Int) : zset (zset me (r + 1) W) (r + 2) F = zr4 me r (me (r + 3)) (me (r + 4)) W F := by
  unfold zr4
  rw [zset_self, zset_self]
/-- two change places in a row -/
def zex (g : Int → Int) (p o : Int) : Int → Int := zup (zup g p (g o)) o (g p)
/-- the step with a code: from where who comes to a place, and by how many quarters -/
def zg (c q : Int) : Int :=
  if c / 100 = 0 then (if q = c / 10 % 10 then c % 10 else if q = c % 10 then c / 10 % 10 else q)
  else if c / 100 = 1 then q
  else if c / 100 = 2 then (q - c / 10 % 10 + 10) % 10
  else (if c / 10 % 10 ≤ q ∧ q ≤ c % 10 then c / 10 % 10 + c % 10 - q else q)
def zt (c q : Int) : Int :=
  if c / 100 = 1 then (if q = c / 10 % 10 then c % 10 else 0)
  else if c / 100 = 3 then (if c / 10 % 10 ≤ q ∧ q ≤ c % 10 then 2 else 0)
  else 0
def zvs (c : Int) : Prop := 0 ≤ c ∧ ((c / 100 = 0 ∧ c / 10 % 10 < c % 10) ∨ (c / 100 = 1 ∧ 1 ≤ c % 10 ∧ c % 10 ≤ 3) ∨ (c / 100 = 2 ∧ 1 ≤ c / 10 % 10 ∧ c % 10 = 0) ∨ (c / 100 = 3 ∧ c / 10 % 10 < c % 10))
/-- who stands where, with which face -/
def zgR (w f : Int → Int) : Prop := (∀ p, 0 ≤ p → p < 10 → 0 ≤ w p ∧ w p < 10 ∧ 0 ≤ f p ∧ f p < 4) ∧ (∀ p q, 0 ≤ p → p < 10 → 0 ≤ q → q < 10 → w p = w q → p = q) ∧ (∀ p, ¬ (0 ≤ p ∧ p < 10) → w p = 0 ∧ f p = 0)
/-- what an effect (g, t) makes of them -/
def zaw (w g : Int → Int) : Int → Int := zcut 10 (fun q => w (g q))
def zaf (f g t : Int → Int) : Int → Int := zcut 10 (fun q => (f (g q) + t q) % 4)
set_option maxRecDepth 100000 in
set_option maxHeartbeats 1000000 in
theorem c_placeOf {d : Nat} {sp : zSP} {me : zMe} {Q : zQ} {r : Nat} {i p : Int} (hr : zRing sp r) (h0 : 0 ≤ p) (h1 : p < 10) (hp : me (r + 1) p = i) (hlt : ∀ q, 0 ≤ q → q < p → me (r + 1) q ≠ i) (hQ : Q (some (zI p)) sp me) : zCall mX4_placeOf d 0 0 [zR r, zI i] sp me Q := by
  refine z_met kX4_placeOf (by simp) (by simp) ?_
  show zW mX4_placeOf d 0 0 Q 0 [zR r, zI i, zU] [] sp me
  refine z_iconst (pc' := 1) dX4_placeOf_0 rfl (by unfold zin; decide) ?_
  refine z_S2I (pc' := 2) rfl dX4_placeOf_1 rfl ?_
  suffices H : ∀ (n : Nat) (k : Int), 0 ≤ k → k ≤ p → p - k < n → zW mX4_placeOf d 0 0 Q 2 [zR r, zI i, zI k] [] sp (me) by
    refine zW_to (H ((p - 0 + 1 : Int).toNat) (0) (by omega) (by omega) (by omega) ) rfl rfl ?_
    rfl
  intro n
  induction n with
  | zero => intro k hk0 hk1 hk2; omega
  | succ n ih =>
  intro k hk0 hk1 hk2
  refine z_L2I (pc' := 3) dX4_placeOf_2 rfl ?_
  refine z_bipush (pc' := 5) dX4_placeOf_3 rfl (by decide) ?_
  refine z_icmp_ge (tgt := 26) (pc' := 8) dX4_placeOf_5 (by decide) rfl (fun h5 => absurd h5 (by omega)) (fun h5 => ?_)
  refine z_L0R (pc' := 9) dX4_placeOf_8 rfl ?_
  refine z_getR (pc' := 12) (ki := 0) 0 fX4_9.l rfl rfl dX4_placeOf_9 rfl hr.s hr.p0 ?_
  refine z_L2I (pc' := 13) dX4_placeOf_12 rfl ?_
  refine z_ild (pc' := 14) dX4_placeOf_13 rfl (by first | exact hr.a1 | exact hr.a2 | exact hr.a3 | exact hr.a4) (by omega) (by omega) ?_
  refine z_L1I (pc' := 15) dX4_placeOf_14 rfl ?_
  refine z_icmp_ne (tgt := 20) (pc' := 18) dX4_placeOf_15 (by decide) rfl (fun h15 => ?_) (fun h15 => ?_)
  · have e1 : k ≠ p := fun e => h15 (by rw [e]; exact hp)
    refine z_inc2 (pc' := 23) rfl dX4_placeOf_20 rfl (by unfold zin; omega) ?_
    refine z_goto (tgt := 2) dX4_placeOf_23 (by decide) ?_
    refine zW_to (ih (k + 1) (by omega) (by omega) (by omega) ) rfl rfl ?_
    rfl
  · have e1 : k = p := by
      by_cases h : k < p
      · exact absurd h15 (hlt k hk0 h)
      · omega
    subst e1
    refine z_L2I (pc' := 19) dX4_placeOf_18 rfl ?_
    refine z_ireturn rfl rfl dX4_placeOf_19 ?_
    exact hQ
set_option maxRecDepth 100000 in
set_option maxHeartbeats 1000000 in
theorem c_exchange {d : Nat} {sp : zSP} {me : zMe} {Q : zQ} {r : Nat} {p o : Int} (hd : 1 ≤ d) (hr : zRing sp r) (hp0 : 0 ≤ p) (hp1 : p < 10) (ho0 : 0 ≤ o) (ho1 : o < 10) (hQ : Q none sp (zset (zset me (r + 1) (zex (me (r + 1)) p o)) (r + 2) (zex (me (r + 2)) p o))) : zCall mX4_exchange d 0 0 [zR r, zI p, zI o] sp me Q := by
  refine z_met kX4_exchange (by simp) (by simp) ?_
  show zW mX4_exchange d 0 0 Q 0 [zR r, zI p, zI o, zU, zU] [] sp me
  refine z_L0R (pc' := 1) dX4_exchange_0 rfl ?_
  refine z_getR (pc' := 4) (ki := 0) 0 fX4_9.l rfl rfl dX4_exchange_1 rfl hr.s hr.p0 ?_
  refine z_L1I (pc' := 5) dX4_exchange_4 rfl ?_
  refine z_S2v (pc' := 8) kX8_read lX4_31 dX4_exchange_5 rfl (by omega) (Nat.le_of_ble_eq_true rfl) ?_
  refine c_read hr.a1 (zKv_i ?_)
  refine z_S3I (pc' := 9) rfl dX4_exchange_8 rfl ?_
  refine z_L0R (pc' := 10) dX4_exchange_9 rfl ?_
  refine z_getR (pc' := 13) (ki := 1) 1 fX4_15.l rfl rfl dX4_exchange_10 rfl hr.s hr.p1 ?_
  refine z_L1I (pc' := 14) dX4_exchange_13 rfl ?_
  refine z_S2v (pc' := 17) kX8_read lX4_31 dX4_exchange_14 rfl (by omega) (Nat.le_of_ble_eq_true rfl) ?_
  refine c_read hr.a2 (zKv_i ?_)
  refine z_S4I (pc' := 19) rfl dX4_exchange_17 rfl ?_
  refine z_L0R (pc' := 20) dX4_exchange_19 rfl ?_
  refine z_getR (pc' := 23) (ki := 0) 0 fX4_9.l rfl rfl dX4_exchange_20 rfl hr.s hr.p0 ?_
  refine z_L1I (pc' := 24) dX4_exchange_23 rfl ?_
  refine z_L0R (pc' := 25) dX4_exchange_24 rfl ?_
  refine z_getR (pc' := 28) (ki := 0) 0 fX4_9.l rfl rfl dX4_exchange_25 rfl hr.s hr.p0 ?_
  refine z_L2I (pc' := 29) dX4_exchange_28 rfl ?_
  refine z_S2v (pc' := 32) kX8_read lX4_31 dX4_exchange_29 rfl (by omega) (Nat.le_of_ble_eq_true rfl) ?_
  refine c_read hr.a1 (zKv_i ?_)
  refine z_S30 (pc' := 35) kX8_write lX4_59 dX4_exchange_32 rfl (by omega) (Nat.le_of_ble_eq_true rfl) ?_
  refine c_write hr.a1 (by omega) (by omega) (zK0_i ?_)
  refine z_L0R (pc' := 36) dX4_exchange_35 rfl ?_
  refine z_getR (pc' := 39) (ki := 1) 1 fX4_15.l rfl rfl dX4_exchange_36 rfl hr.s hr.p1 ?_
  refine z_L1I (pc' := 40) dX4_exchange_39 rfl ?_
  refine z_L0R (pc' := 41) dX4_exchange_40 rfl ?_
  refine z_getR (pc' := 44) (ki := 1) 1 fX4_15.l rfl rfl dX4_exchange_41 rfl hr.s hr.p1 ?_
  refine z_L2I (pc' := 45) dX4_exchange_44 rfl ?_
  refine z_S2v (pc' := 48) kX8_read lX4_31 dX4_exchange_45 rfl (by omega) (Nat.le_of_ble_eq_true rfl) ?_
  refine c_read hr.a2 (zKv_i ?_)
  refine z_S30 (pc' := 51) kX8_write lX4_59 dX4_exchange_48 rfl (by omega) (Nat.le_of_ble_eq_true rfl) ?_
  refine c_write hr.a2 (by omega) (by omega) (zK0_i ?_)
  refine z_L0R (pc' := 52) dX4_exchange_51 rfl ?_
  refine z_getR (pc' := 55) (ki := 0) 0 fX4_9.l rfl rfl dX4_exchange_52 rfl hr.s hr.p0 ?_
  refine z_L2I (pc' := 56) dX4_exchange_55 rfl ?_
  refine z_L3I (pc' := 57) dX4_exchange_56 rfl ?_
  refine z_S30 (pc' := 60) kX8_write lX4_59 dX4_exchange_57 rfl (by omega) (Nat.le_of_ble_eq_true rfl) ?_
  refine c_write hr.a1 (by omega) (by omega) (zK0_i ?_)
  refine z_L0R (pc' := 61) dX4_exchange_60 rfl ?_
  refine z_getR (pc' := 64) (ki := 1) 1 fX4_15.l rfl rfl dX4_exchange_61 rfl hr.s hr.p1 ?_
  refine z_L2I (pc' := 65) dX4_exchange_64 rfl ?_
  refine z_L4I (pc' := 67) dX4_exchange_65 rfl ?_
  refine z_S30 (pc' := 70) kX8_write lX4_59 dX4_exchange_67 rfl (by omega) (Nat.le_of_ble_eq_true rfl) ?_
  refine c_write hr.a2 (by omega) (by omega) (zK0_i ?_)
  simp (disch := first | omega | rfl) only [zset_eq, zset_ne, zset_11, zset_21, zset_31, zset_41, zfil_up, zup_eq, zup_ne]
  refine z_return rfl rfl dX4_exchange_70 ?_
  exact hQ
set_option maxRecDepth 100000 in
set_option maxHeartbeats 1000000 in
theorem c_turn {d : Nat} {sp : zSP} {me : zMe} {Q : zQ} {r : Nat} {p x : Int} (hd : 1 ≤ d) (hr : zRing sp r) (hp0 : 0 ≤ p) (hp1 : p < 10) (hf0 : 0 ≤ me (r + 2) p) (hf1 : me (r + 2) p < 4) (hx0 : 0 ≤ x) (hx1 : x < 10) (hQ : Q none sp (zset me (r + 2) (zup (me (r + 2)) p ((me (r + 2) p + x) % 4)))) : zCall mX4_turn d 0 0 [zR r, zI p, zI x] sp me Q := by
  refine z_met kX4_turn (by simp) (by simp) ?_
  show zW mX4_turn d 0 0 Q 0 [zR r, zI p, zI x] [] sp me
  refine z_L0R (pc' := 1) dX4_turn_0 rfl ?_
  refine z_getR (pc' := 4) (ki := 1) 1 fX4_15.l rfl rfl dX4_turn_1 rfl hr.s hr.p1 ?_
  refine z_L1I (pc' := 5) dX4_turn_4 rfl ?_
  refine z_L0R (pc' := 6) dX4_turn_5 rfl ?_
  refine z_getR (pc' := 9) (ki := 1) 1 fX4_15.l rfl rfl dX4_turn_6 rfl hr.s hr.p1 ?_
  refine z_L1I (pc' := 10) dX4_turn_9 rfl ?_
  refine z_S2v (pc' := 13) kX8_read lX4_31 dX4_turn_10 rfl (by omega) (Nat.le_of_ble_eq_true rfl) ?_
  refine c_read hr.a2 (zKv_i ?_)
  refine z_L2I (pc' := 14) dX4_turn_13 rfl ?_
  refine z_iadd (pc' := 15) dX4_turn_14 rfl (by unfold zin; omega) ?_
  refine z_iconst (pc' := 16) dX4_turn_15 rfl (by unfold zin; decide) ?_
  refine z_irem (pc' := 17) dX4_turn_16 rfl (by omega) (by omega) ?_
  refine z_S30 (pc' := 20) kX8_write lX4_59 dX4_turn_17 rfl (by omega) (Nat.le_of_ble_eq_true rfl) ?_
  refine c_write hr.a2 (by omega) (by omega) (zK0_i ?_)
  refine z_return rfl rfl dX4_turn_20 ?_
  exact hQ
set_option maxRecDepth 100000 in
set_option maxHeartbeats 1000000 in
theorem c_shift {d : Nat} {sp : zSP} {me : zMe} {Q : zQ} {r : Nat} {b : Int} (hd : 3 ≤ d) (hr : zRing sp r) (hb0 : 0 ≤ b) (hb1 : b < 10) (hQ : ∀ j3 j4, Q none sp (zr4 me r j3 j4 (zcut 10 (fun t => me (r + 1) ((t - b + 10) % 10))) (zcut 10 (fun t => me (r + 2) ((t - b + 10) % 10))))) : zCall mX4_shift d 0 0 [zR r, zI b] sp me Q := by
  refine z_met kX4_shift (by simp) (by simp) ?_
  show zW mX4_shift d 0 0 Q 0 [zR r, zI b, zU, zU] [] sp me
  refine z_wf (fun hwf => ?_)
  refine z_L0R (pc' := 1) dX4_shift_0 rfl ?_
  refine z_V00 (pc' := 4) (ci := 4) kX4_remember lX4_63 dX4_shift_1 rfl (by omega) (Nat.le_of_ble_eq_true rfl) (by decide) rfl hr.s ?_
  refine c_remember (by omega) hr (zK0_i ?_)
  refine z_iconst (pc' := 5) dX4_shift_4 rfl (by unfold zin; decide) ?_
  refine z_S2I (pc' := 6) rfl dX4_shift_5 rfl ?_
  suffices H : ∀ (n : Nat) (k : Int) (v : zV) (W F : Int → Int), 0 ≤ k → k ≤ 10 → 10 - k < n → zndv v = true → (∀ t, 0 ≤ t → t < 10 → (t - b + 10) % 10 < k → W t = me (r + 1) ((t - b + 10) % 10) ∧ F t = me (r + 2) ((t - b + 10) % 10)) → (∀ t, ¬ (0 ≤ t ∧ t < 10) → W t = 0 ∧ F t = 0) → zW mX4_shift d 0 0 Q 6 [zR r, zI b, zI k, v] [] sp (zr4 me r (me (r + 1)) (me (r + 2)) W F) by
    refine zW_to (H 11 0 zU (me (r + 1)) (me (r + 2)) (by omega) (by omega) (by omega) rfl (fun t h0 h1 h2 => ?_) (fun t h => ⟨zwf_out hwf hr.a1 h, zwf_out hwf hr.a2 h⟩)) rfl rfl ?_
    · omega
    · unfold zr4
      rw [zset_id _ (r + 2) _ (by simp (disch := first | omega | rfl) only [zset_eq, zset_ne, zset_11, zset_21, zset_31, zset_41, zfil_up, zup_eq, zup_ne]), zset_id _ (r + 1) _ (by simp (disch := first | omega | rfl) only [zset_eq, zset_ne, zset_11, zset_21, zset_31, zset_41, zfil_up, zup_eq, zup_ne])]
  intro n
  induction n with
  | zero => intro k v W F hk0 hk1 hk2; omega
  | succ n ih =>
  intro k v W F hk0 hk1 hk2 hv hWF hout
  refine z_L2I (pc' := 7) dX4_shift_6 rfl ?_
  refine z_bipush (pc' := 9) dX4_shift_7 rfl (by decide) ?_
  refine z_icmp_ge (tgt := 53) (pc' := 12) dX4_shift_9 (by decide) rfl (fun h9 => ?_) (fun h9 => ?_)
  · obtain rfl : k = 10 := by omega
    have eW : W = zcut 10 (fun t => me (r + 1) ((t - b + 10) % 10)) := by
      funext t
      by_cases h : 0 ≤ t ∧ t < 10
      · rw [zcut_in _ _ _ h.1 h.2]; exact (hWF t h.1 h.2 (by omega)).1
      · rw [zcut_out _ _ _ h]; exact (hout t h).1
    have eF : F = zcut 10 (fun t => me (r + 2) ((t - b + 10) % 10)) := by
      funext t
      by_cases h : 0 ≤ t ∧ t < 10
      · rw [zcut_in _ _ _ h.1 h.2]; exact (hWF t h.1 h.2 (by omega)).2
      · rw [zcut_out _ _ _ h]; exact (hout t h).2
    rw [eW, eF]
    refine z_return rfl rfl dX4_shift_53 ?_
    exact hQ _ _
  · refine z_L2I (pc' := 13) dX4_shift_12 rfl ?_
    refine z_L1I (pc' := 14) dX4_shift_13 rfl ?_
    refine z_iadd (pc' := 15) dX4_shift_14 rfl (by unfold zin; omega) ?_
    refine z_bipush (pc' := 17) dX4_shift_15 rfl (by decide) ?_
    refine z_irem (pc' := 18) dX4_shift_17 rfl (by omega) (by omega) ?_
    refine z_S3I (pc' := 19) rfl dX4_shift_18 rfl ?_
    refine z_L0R (pc' := 20) dX4_shift_19 rfl ?_
    refine z_getR (pc' := 23) (ki := 0) 0 fX4_9.l rfl rfl dX4_shift_20 rfl hr.s hr.p0 ?_
    refine z_L3I (pc' := 24) dX4_shift_23 rfl ?_
    refine z_L0R (pc' := 25) dX4_shift_24 rfl ?_
    refine z_getR (pc' := 28) (ki := 2) 2 fX4_18.l rfl rfl dX4_shift_25 rfl hr.s hr.p2 ?_
    refine z_L2I (pc' := 29) dX4_shift_28 rfl ?_
    refine z_ild (pc' := 30) dX4_shift_29 rfl (by first | exact hr.a1 | exact hr.a2 | exact hr.a3 | exact hr.a4) (by omega) (by omega) ?_
    refine z_S30 (pc' := 33) kX8_write lX4_59 dX4_shift_30 rfl (by omega) (Nat.le_of_ble_eq_true rfl) ?_
    refine c_write hr.a1 (by omega) (by omega) (zK0_i ?_)
    simp only [zr4_1, zr4_2, zr4_3, zr4_4]
    refine z_L0R (pc' := 34) dX4_shift_33 rfl ?_
    refine z_getR (pc' := 37) (ki := 1) 1 fX4_15.l rfl rfl dX4_shift_34 rfl hr.s hr.p1 ?_
    refine z_L3I (pc' := 38) dX4_shift_37 rfl ?_
    refine z_L0R (pc' := 39) dX4_shift_38 rfl ?_
    refine z_getR (pc' := 42) (ki := 3) 3 fX4_21.l rfl rfl dX4_shift_39 rfl hr.s hr.p3 ?_
    refine z_L2I (pc' := 43) dX4_shift_42 rfl ?_
    refine z_ild (pc' := 44) dX4_shift_43 rfl (by first | exact hr.a1 | exact hr.a2 | exact hr.a3 | exact hr.a4) (by omega) (by omega) ?_
    refine z_S30 (pc' := 47) kX8_write lX4_59 dX4_shift_44 rfl (by omega) (Nat.le_of_ble_eq_true rfl) ?_
    refine c_write hr.a2 (by omega) (by omega) (zK0_i ?_)
    refine z_inc2 (pc' := 50) rfl dX4_shift_47 rfl (by unfold zin; omega) ?_
    refine z_goto (tgt := 6) dX4_shift_50 (by decide) ?_
    refine zW_to (ih (k + 1) (zI ((k + b) % 10)) (zup W ((k + b) % 10) (me (r + 1) k)) (zup F ((k + b) % 10) (me (r + 2) k)) (by omega) (by omega) (by omega) rfl (fun t h0 h1 h2 => ?_) (fun t h => ?_)) rfl rfl ?_
    · by_cases e : t = (k + b) % 10
      · have e2 : (t - b + 10) % 10 = k := by omega
        rw [e2, e, zup_eq, zup_eq]
        exact ⟨rfl, rfl⟩
      · rw [zup_ne _ _ _ e, zup_ne _ _ _ e]
        exact hWF t h0 h1 (by omega)
    · rw [zup_ne _ _ _ (by omega), zup_ne _ _ _ (by omega)]
      exact hout t h
    · unfold zr4
      simp (disch := first | omega | rfl) only [zset_eq, zset_ne, zset_11, zset_21, zset_31, zset_41, zfil_up, zup_eq, zup_ne]
end ZRING
end
section
section ZRING2
set_option maxRecDepth 100000 in
set_option maxHeartbeats 1000000 in
theorem c_mirror {d : Nat} {sp : zSP} {me : zMe} {Q : zQ} {r : Nat} {a b : Int} (hd : 2 ≤ d) (hr : zRing sp r) (ha0 : 0 ≤ a) (hab : a < b) (hb1 : b < 10) (hf : ∀ p, 0 ≤ p → p < 10 → 0 ≤ me (r + 2) p ∧ me (r + 2) p < 4) (hQ : Q none sp (zset (zset me (r + 1) (fun q => if a ≤ q ∧ q ≤ b then me (r + 1) (a + b - q) else me (r + 1) q)) (r + 2) (fun q => if a ≤ q ∧ q ≤ b then (me (r + 2) (a + b - q) + 2) % 4 else me (r + 2) q))) : zCall mX4_mirror d 0 0 [zR r, zI a, zI b] sp me Q := by
  refine z_met kX4_mirror (by simp) (by simp) ?_
  show zW mX4_mirror d 0 0 Q 0 [zR r, zI a, zI b, zU] [] sp me
  refine z_L1I (pc' := 1) dX4_mirror_0 rfl ?_
  refine z_S3I (pc' := 2) rfl dX4_mirror_1 rfl ?_
  suffices H : ∀ (n : Nat) (k : Int), a ≤ k → k ≤ b + 1 → b + 1 - k < n → zW mX4_mirror d 0 0 Q 2 [zR r, zI a, zI b, zI k] [] sp (zset me (r + 2) (fun q => if a ≤ q ∧ q < k then (me (r + 2) q + 2) % 4 else me (r + 2) q)) by
    refine zW_to (H 11 a (by omega) (by omega) (by omega)) rfl rfl ?_
    symm
    apply zset_id
    funext q
    rw [if_neg (by omega)]
  intro n
  induction n with
  | zero => intro k hk0 hk1 hk2; omega
  | succ n ih =>
  intro k hk0 hk1 hk2
  refine z_L3I (pc' := 3) dX4_mirror_2 rfl ?_
  refine z_L2I (pc' := 4) dX4_mirror_3 rfl ?_
  refine z_icmp_gt (tgt := 19) (pc' := 7) dX4_mirror_4 (by decide) rfl (fun h4 => ?_) (fun h4 => ?_)
  · obtain rfl : k = b + 1 := by omega
    clear ih
    refine z_iconst (pc' := 20) dX4_mirror_19 rfl (by unfold zin; decide) ?_
    refine z_S3I (pc' := 21) rfl dX4_mirror_20 rfl ?_
    suffices H : ∀ (n : Nat) (k : Int), 0 ≤ k → 2 * k ≤ b - a + 1 → b - a + 1 - 2 * k < n → zW mX4_mirror d 0 0 Q 21 [zR r, zI a, zI b, zI k] [] sp (zset (zset me (r + 1) (fun q => if a ≤ q ∧ q ≤ b ∧ (q < a + k ∨ b - k < q) then me (r + 1) (a + b - q) else me (r + 1) q)) (r + 2) (fun q => if a ≤ q ∧ q ≤ b then (me (r + 2) (if q < a + k ∨ b - k < q then a + b - q else q) + 2) % 4 else me (r + 2) q)) by
      refine zW_to (H 11 0 (by omega) (by omega) (by omega)) rfl rfl ?_
      rw [zset_id me (r + 1) _ (by funext q; rw [if_neg (by omega)])]
      congr 1
      funext q
      ((repeat' split) <;> first | rfl | (exfalso; omega) | (congr 1; omega) | (congr 2; omega) | (congr 3; omega) | omega)
    intro n2
    induction n2 with
    | zero => intro k hk0 hk1 hk2; omega
    | succ n2 ih =>
    intro k hk0 hk1 hk2
    refine z_L1I (pc' := 22) dX4_mirror_21 rfl ?_
    refine z_L3I (pc' := 23) dX4_mirror_22 rfl ?_
    refine z_iadd (pc' := 24) dX4_mirror_23 rfl (by unfold zin; omega) ?_
    refine z_L2I (pc' := 25) dX4_mirror_24 rfl ?_
    refine z_L3I (pc' := 26) dX4_mirror_25 rfl ?_
    refine z_isub (pc' := 27) dX4_mirror_26 rfl (by unfold zin; omega) ?_
    refine z_icmp_ge (tgt := 46) (pc' := 30) dX4_mirror_27 (by decide) rfl (fun h27 => ?_) (fun h27 => ?_)
    · refine z_return rfl rfl dX4_mirror_46 ?_
      have e1 : (fun q => if a ≤ q ∧ q ≤ b ∧ (q < a + k ∨ b - k < q) then me (r + 1) (a + b - q) else me (r + 1) q) = (fun q => if a ≤ q ∧ q ≤ b then me (r + 1) (a + b - q) else me (r + 1) q) := by
        funext q
        ((repeat' split) <;> first | rfl | (exfalso; omega) | (congr 1; omega) | (congr 2; omega) | (congr 3; omega) | omega)
      have e2 : (fun q => if a ≤ q ∧ q ≤ b then (me (r + 2) (if q < a + k ∨ b - k < q then a + b - q else q) + 2) % 4 else me (r + 2) q) = (fun q => if a ≤ q ∧ q ≤ b then (me (r + 2) (a + b - q) + 2) % 4 else me (r + 2) q) := by
        funext q
        ((repeat' split) <;> first | rfl | (exfalso; omega) | (congr 1; omega) | (congr 2; omega) | (congr 3; omega) | omega)
      rw [e1, e2]
      exact hQ
    · refine z_L0R (pc' := 31) dX4_mirror_30 rfl ?_
      refine z_L1I (pc' := 32) dX4_mirror_31 rfl ?_
      refine z_L3I (pc' := 33) dX4_mirror_32 rfl ?_
      refine z_iadd (pc' := 34) dX4_mirror_33 rfl (by unfold zin; omega) ?_
      refine z_L2I (pc' := 35) dX4_mirror_34 rfl ?_
      refine z_L3I (pc' := 36) dX4_mirror_35 rfl ?_
      refine z_isub (pc' := 37) dX4_mirror_36 rfl (by unfold zin; omega) ?_
      refine z_V20 (pc' := 40) (ci := 4) kX4_exchange lX4_45 dX4_mirror_37 rfl (by omega) (Nat.le_of_ble_eq_true rfl) (by decide) rfl hr.s ?_
      refine c_exchange (by omega) hr (by omega) (by omega) (by omega) (by omega) (zK0_i ?_)
      refine z_inc3 (pc' := 43) rfl dX4_mirror_40 rfl (by unfold zin; omega) ?_
      refine z_goto (tgt := 21) dX4_mirror_43 (by decide) ?_
      refine zW_to (ih (k + 1) (by omega) (by omega) (by omega)) rfl rfl ?_
      simp (disch := first | omega | rfl) only [zset_eq, zset_ne, zset_11, zset_21, zset_31, zset_41, zfil_up, zup_eq, zup_ne]
      congr 1
      · congr 1
        funext q
        unfold zex zup
        dsimp only
        ((repeat' split) <;> first | rfl | (exfalso; omega) | (congr 1; omega) | (congr 2; omega) | (congr 3; omega) | omega)
      · funext q
        unfold zex zup
        dsimp only
        ((repeat' split) <;> first | rfl | (exfalso; omega) | (congr 1; omega) | (congr 2; omega) | (congr 3; omega) | omega)
  · refine z_L0R (pc' := 8) dX4_mirror_7 rfl ?_
    refine z_L3I (pc' := 9) dX4_mirror_8 rfl ?_
    refine z_iconst (pc' := 10) dX4_mirror_9 rfl (by unfold zin; decide) ?_
    refine z_V20 (pc' := 13) (ci := 4) kX4_turn lX4_49 dX4_mirror_10 rfl (by omega) (Nat.le_of_ble_eq_true rfl) (by decide) rfl hr.s ?_
    have hfk := hf k (by omega) (by omega)
    refine c_turn (by omega) hr (by omega) (by omega) (by rw [zset_eq, if_neg (by omega)]; omega) (by rw [zset_eq, if_neg (by omega)]; omega) (by omega) (by omega) (zK0_i ?_)
    refine z_inc3 (pc' := 16) rfl dX4_mirror_13 rfl (by unfold zin; omega) ?_
    refine z_goto (tgt := 2) dX4_mirror_16 (by decide) ?_
    refine zW_to (ih (k + 1) (by omega) (by omega) (by omega)) rfl rfl ?_
    rw [zset_eq, zset_11]
    congr 1
    funext q
    unfold zup
    dsimp only
    ((repeat' split) <;> first | rfl | (exfalso; omega) | (congr 1; omega) | (congr 2; omega) | (congr 3; omega) | omega)
theorem zg_in {c q : Int} (hc : zvs c) (h0 : 0 ≤ q) (h1 : q < 10) : 0 ≤ zg c q ∧ zg c q < 10 := by
  obtain ⟨h, hc⟩ := hc
  unfold zg
  refine ⟨?_, ?_⟩ <;> (repeat' split) <;> omega
theorem zg_inj {c q q' : Int} (hc : zvs c) (h0 : 0 ≤ q) (h1 : q < 10) (h2 : 0 ≤ q') (h3 : q' < 10) (h : zg c q = zg c q') : q = q' := by
  obtain ⟨h9, hc⟩ := hc
  unfold zg at h
  (repeat' split at h) <;> omega
theorem zt_in {c q : Int} (hc : zvs c) : 0 ≤ zt c q ∧ zt c q < 4 := by
  obtain ⟨h, hc⟩ := hc
  unfold zt
  refine ⟨?_, ?_⟩ <;> (repeat' split) <;> omega
theorem zgR_act {w f g t : Int → Int} (h : zgR w f) (hg : ∀ q, 0 ≤ q → q < 10 → 0 ≤ g q ∧ g q < 10) (hi : ∀ q q', 0 ≤ q → q < 10 → 0 ≤ q' → q' < 10 → g q = g q' → q = q') : zgR (zaw w g) (zaf f g t) := by
  obtain ⟨h1, h2, h3⟩ := h
  refine ⟨fun p h0 h9 => ?_, fun p q hp0 hp1 hq0 hq1 h => ?_, fun p hp => ?_⟩
  · unfold zaw zaf
    rw [zcut_in _ _ _ h0 h9, zcut_in _ _ _ h0 h9]
    have := hg p h0 h9
    have := h1 (g p) this.1 this.2
    omega
  · unfold zaw at h
    rw [zcut_in _ _ _ hp0 hp1, zcut_in _ _ _ hq0 hq1] at h
    have e1 := hg p hp0 hp1
    have e2 := hg q hq0 hq1
    exact hi p q hp0 hp1 hq0 hq1 (h2 _ _ e1.1 e1.2 e2.1 e2.2 h)
  · unfold zaw zaf
    rw [zcut_out _ _ _ hp, zcut_out _ _ _ hp]
    exact ⟨rfl, rfl⟩
theorem zgR_step {w f : Int → Int} {c : Int} (h : zgR w f) (hc : zvs c) : zgR (zaw w (zg c)) (zaf f (zg c) (zt c)) := zgR_act h (fun q h0 h1 => zg_in hc h0 h1) (fun q q' h0 h1 h2 h3 h4 => zg_inj hc h0 h1 h2 h3 h4)
theorem zgR_ring {w f g t : Int → Int} (h : zgR w f) (he : zgR g t) : zgR (zaw w g) (zaf f g t) := zgR_act h (fun q h0 h1 => ⟨(he.1 q h0 h1).1, (he.1 q h0 h1).2.1⟩) he.2.1
theorem zr4_set2 (me : zMe) (r : Nat) (F : Int → Int) : zset me (r + 2) F = zr4 me r (me (r + 3)) (me (r + 4)) (me (r + 1)) F := by
  unfold zr4
  rw [zset_self, zset_self, zset_self]
theorem zmk0 {w f : Int → Int} {c : Int} (hg : zgR w f) (hc : 0 ≤ c) (h0 : c / 100 = 0) (hab : c / 10 % 10 < c % 10) : zex w (c / 10 % 10) (c % 10) = zaw w (zg c) ∧ zex f (c / 10 % 10) (c % 10) = zaf f (zg c) (zt c) := by
  have a2 := hg.1 (c % 10) (by omega) (by omega)
  have a3 := hg.1 (c / 10 % 10) (by omega) (by omega)
  constructor
  · funext q
    have a1 := hg.1 q
    have a4 := hg.2.2 q
    unfold zaw zcut zg zex zup
    dsimp only
    ((repeat' split) <;> first | rfl | (exfalso; omega) | (congr 1; omega) | (congr 2; omega) | (congr 3; omega) | omega)
  · funext q
    have a1 := hg.1 q
    have a4 := hg.2.2 q
    unfold zaf zcut zg zex zup zt
    dsimp only
    ((repeat' split) <;> first | rfl | (exfalso; omega) | (congr 1; omega) | (congr 2; omega) | (congr 3; omega) | omega)
theorem zmk1 {w f : Int → Int} {c : Int} (hg : zgR w f) (hc : 0 ≤ c) (h0 : c / 100 = 1) : w = zaw w (zg c) ∧ zup f (c / 10 % 10) ((f (c / 10 % 10) + c % 10) % 4) = zaf f (zg c) (zt c) := by
  constructor
  · funext q
    have a1 := hg.1 q
    have a4 := hg.2.2 q
    unfold zaw zcut zg
    dsimp only
    ((repeat' split) <;> first | rfl | (exfalso; omega) | (congr 1; omega) | (congr 2; omega) | (congr 3; omega) | omega)
  · funext q
    have a1 := hg.1 q
    have a4 := hg.2.2 q
    unfold zaf zcut zg zup zt
    dsimp only
    ((repeat' split) <;> first | rfl | (exfalso; omega) | (congr 1; omega) | (congr 2; omega) | (congr 3; omega) | omega)
theorem zmk2 {w f : Int → Int} {c : Int} (hg : zgR w f) (hc : 0 ≤ c) (h0 : c / 100 = 2) : zcut 10 (fun t => w ((t - c / 10 % 10 + 10) % 10)) = zaw w (zg c) ∧ zcut 10 (fun t => f ((t - c / 10 % 10 + 10) % 10)) = zaf f (zg c) (zt c) := by
  constructor
  · apply zcut_congr
    intro q h1 h2
    unfold zg
    ((repeat' split) <;> first | rfl | (exfalso; omega) | (congr 1; omega) | (congr 2; omega) | (congr 3; omega) | omega)
  · apply zcut_congr
    intro q h1 h2
    have a1 := hg.1 ((q - c / 10 % 10 + 10) % 10) (by omega) (by omega)
    unfold zg zt
    ((repeat' split) <;> first | rfl | (exfalso; omega) | (congr 1; omega) | (congr 2; omega) | (congr 3; omega) | omega)
theorem zmk3 {w f : Int → Int} {c : Int} (hg : zgR w f) (hc : 0 ≤ c) (h0 : c / 100 = 3) : (fun q => if c / 10 % 10 ≤ q ∧ q ≤ c % 10 then w (c / 10 % 10 + c % 10 - q) else w q) = zaw w (zg c) ∧ (fun q => if c / 10 % 10 ≤ q ∧ q ≤ c % 10 then (f (c / 10 % 10 + c % 10 - q) + 2) % 4 else f q) = zaf f (zg c) (zt c) := by
  constructor
  · funext q
    have a1 := hg.1 q
    have a4 := hg.2.2 q
    unfold zaw zcut zg
    dsimp only
    ((repeat' split) <;> first | rfl | (exfalso; omega) | (congr 1; omega) | (congr 2; omega) | (congr 3; omega) | omega)
  · funext q
    have a1 := hg.1 q
    have a4 := hg.2.2 q
    unfold zaf zcut zg zt
    dsimp only
    ((repeat' split) <;> first | rfl | (exfalso; omega) | (congr 1; omega) | (congr 2; omega) | (congr 3; omega) | omega)
set_option maxRecDepth 100000 in
set_option maxHeartbeats 1000000 in
theorem c_make {d : Nat} {sp : zSP} {me : zMe} {Q : zQ} {r : Nat} {c : Int} (hd : 4 ≤ d) (hr : zRing sp r) (hc : zvs c) (hg : zgR (me (r + 1)) (me (r + 2))) (hQ : ∀ j3 j4, Q none sp (zr4 me r j3 j4 (zaw (me (r + 1)) (zg c)) (zaf (me (r + 2)) (zg c) (zt c)))) : zCall mX4_make d 0 0 [zR r, zI c] sp me Q := by
  refine z_met kX4_make (by simp) (by simp) ?_
  show zW mX4_make d 0 0 Q 0 [zR r, zI c, zU, zU] [] sp me
  have hc0 := hc
  obtain ⟨hcp, hcc⟩ := hc
  refine z_L1I (pc' := 1) dX4_make_0 rfl ?_
  refine z_S1v (pc' := 4) kX8_firstOf lX4_35 dX4_make_1 rfl (by omega) (Nat.le_of_ble_eq_true rfl) ?_
  refine c_firstOf hcp (zKv_i ?_)
  refine z_S2I (pc' := 5) rfl dX4_make_4 rfl ?_
  refine z_L1I (pc' := 6) dX4_make_5 rfl ?_
  refine z_S1v (pc' := 9) kX8_secondOf lX4_39 dX4_make_6 rfl (by omega) (Nat.le_of_ble_eq_true rfl) ?_
  refine c_secondOf hcp (zKv_i ?_)
  refine z_S3I (pc' := 10) rfl dX4_make_9 rfl ?_
  refine z_L1I (pc' := 11) dX4_make_10 rfl ?_
  refine z_S1v (pc' := 14) kX8_kindOf lX4_42 dX4_make_11 rfl (by omega) (Nat.le_of_ble_eq_true rfl) ?_
  refine c_kindOf hcp (zKv_i ?_)
  have e4 : c / 100 = 0 ∨ c / 100 = 1 ∨ c / 100 = 2 ∨ c / 100 = 3 ∨ (3 < c / 100) := by omega
  rcases e4 with e4 | e4 | e4 | e4 | e4
  · rw [e4]
    refine z_tswIn (tgt := 44) dX4_make_14 (by decide) (by decide) rfl (by decide) ?_
    refine z_L0R (pc' := 45) dX4_make_44 rfl ?_
    refine z_L2I (pc' := 46) dX4_make_45 rfl ?_
    refine z_L3I (pc' := 47) dX4_make_46 rfl ?_
    refine z_V20 (pc' := 50) (ci := 4) kX4_exchange lX4_45 dX4_make_47 rfl (by omega) (Nat.le_of_ble_eq_true rfl) (by decide) rfl hr.s ?_
    refine c_exchange (by omega) hr (by omega) (by omega) (by omega) (by omega) (zK0_i ?_)
    rw [zr4_set, (zmk0 hg hcp e4 (by omega)).1, (zmk0 hg hcp e4 (by omega)).2]
    refine z_goto (tgt := 79) dX4_make_50 (by decide) ?_
    first | omega | (refine z_return rfl rfl dX4_make_79 ?_; exact hQ _ _)
  · rw [e4]
    refine z_tswIn (tgt := 53) dX4_make_14 (by decide) (by decide) rfl (by decide) ?_
    refine z_L0R (pc' := 54) dX4_make_53 rfl ?_
    refine z_L2I (pc' := 55) dX4_make_54 rfl ?_
    refine z_L3I (pc' := 56) dX4_make_55 rfl ?_
    refine z_V20 (pc' := 59) (ci := 4) kX4_turn lX4_49 dX4_make_56 rfl (by omega) (Nat.le_of_ble_eq_true rfl) (by decide) rfl hr.s ?_
    have a3 := hg.1 (c / 10 % 10) (by omega) (by omega)
    refine c_turn (by omega) hr (by omega) (by omega) (by omega) (by omega) (by omega) (by omega) (zK0_i ?_)
    have e5 := zmk1 hg hcp e4
    refine zW_to (me := zr4 me r (me (r + 3)) (me (r + 4)) (zaw (me (r + 1)) (zg c)) (zaf (me (r + 2)) (zg c) (zt c))) ?_ rfl rfl (by rw [← e5.1, ← e5.2]; exact zr4_set2 _ _ _)
    refine z_goto (tgt := 79) dX4_make_59 (by decide) ?_
    first | omega | (refine z_return rfl rfl dX4_make_79 ?_; exact hQ _ _)
  · rw [e4]
    refine z_tswIn (tgt := 62) dX4_make_14 (by decide) (by decide) rfl (by decide) ?_
    refine z_L0R (pc' := 63) dX4_make_62 rfl ?_
    refine z_L2I (pc' := 64) dX4_make_63 rfl ?_
    refine z_V10 (pc' := 67) (ci := 4) kX4_shift lX4_52 dX4_make_64 rfl (by omega) (Nat.le_of_ble_eq_true rfl) (by decide) rfl hr.s ?_
    refine c_shift (by omega) hr (by omega) (by omega) (fun j3 j4 => zK0_i ?_)
    rw [(zmk2 hg hcp e4).1, (zmk2 hg hcp e4).2]
    refine z_goto (tgt := 79) dX4_make_67 (by decide) ?_
    first | omega | (refine z_return rfl rfl dX4_make_79 ?_; exact hQ _ _)
  · rw [e4]
    refine z_tswIn (tgt := 70) dX4_make_14 (by decide) (by decide) rfl (by decide) ?_
    refine z_L0R (pc' := 71) dX4_make_70 rfl ?_
    refine z_L2I (pc' := 72) dX4_make_71 rfl ?_
    refine z_L3I (pc' := 73) dX4_make_72 rfl ?_
    refine z_V20 (pc' := 76) (ci := 4) kX4_mirror lX4_56 dX4_make_73 rfl (by omega) (Nat.le_of_ble_eq_true rfl) (by decide) rfl hr.s ?_
    refine c_mirror (by omega) hr (by omega) (by omega) (by omega) (fun p h0 h1 => ⟨(hg.1 p h0 h1).2.2.1, (hg.1 p h0 h1).2.2.2⟩) (zK0_i ?_)
    rw [zr4_set, (zmk3 hg hcp e4).1, (zmk3 hg hcp e4).2]
    refine z_goto (tgt := 79) dX4_make_76 (by decide) ?_
    first | omega | (refine z_return rfl rfl dX4_make_79 ?_; exact hQ _ _)
  · refine z_tswOut (tgt := 79) dX4_make_14 (by omega) (by decide) ?_
    first | omega | (refine z_return rfl rfl dX4_make_79 ?_; exact hQ _ _)
end ZRING2
end
section
section ZRING3
/-- all at home -/
def zhm (w f : Int → Int) : Prop := ∀ p, 0 ≤ p → p < 10 → w p = p ∧ f p = 0
def zdist (p q : Int) : Int := if 10 - (if 0 ≤ p - q then p - q else -(p - q)) < (if 0 ≤ p - q then p - q else -(p - q)) then 10 - (if 0 ≤ p - q then p - q else -(p - q)) else (if 0 ≤ p - q then p - q else -(p - q))
theorem zdist_in {p q : Int} (h0 : 0 ≤ p) (h1 : p < 10) (h2 : 0 ≤ q) (h3 : q < 10) : 0 ≤ zdist p q ∧ zdist p q ≤ 5 := by
  unfold zdist
  refine ⟨?_, ?_⟩ <;> (repeat' split) <;> omega
theorem zhm_cnt {w f : Int → Int} : zSm (fun p => if w p = p ∧ f p = 0 then 1 else 0) 10 = 10 ↔ zhm w f := by
  have key : ∀ n : Nat, zSm (fun p => if w p = p ∧ f p = 0 then 1 else 0) (n : Int) ≤ n ∧ (zSm (fun p => if w p = p ∧ f p = 0 then 1 else 0) (n : Int) = n ↔ ∀ p, 0 ≤ p → p < (n : Int) → w p = p ∧ f p = 0) := by
    intro n
    induction n with
    | zero => exact ⟨Int.le_refl _, fun _ p h0 h1 => by omega, fun _ => rfl⟩
    | succ n ih =>
      have h1 : zSm (fun p => if w p = p ∧ f p = 0 then 1 else 0) ((n : Int) + 1) = zSm (fun p => if w p = p ∧ f p = 0 then 1 else 0) (n : Int) + (if w (n : Int) = (n : Int) ∧ f (n : Int) = 0 then 1 else 0) := zSm_up _ _ (by omega)
      have e : ((n + 1 : Nat) : Int) = (n : Int) + 1 := by omega
      rw [e, h1]
      by_cases h : w (n : Int) = (n : Int) ∧ f (n : Int) = 0
      · rw [if_pos h]
        refine ⟨by omega, fun h2 p h3 h4 => ?_, fun h2 => ?_⟩
        · by_cases e2 : p = (n : Int)
          · rw [e2]; exact h
          · exact ih.2.mp (by omega) p h3 (by omega)
        · rw [ih.2.mpr (fun p h3 h4 => h2 p h3 (by omega))]
      · rw [if_neg h]
        refine ⟨by omega, fun h2 => by omega, fun h2 => absurd (h2 (n : Int) (by omega) (by omega)) h⟩
  exact (key 10).2
set_option maxRecDepth 100000 in
set_option maxHeartbeats 1000000 in
theorem c_follow {d : Nat} {sp : zSP} {me : zMe} {Q : zQ} {r e : Nat} (hd : 4 ≤ d) (hr : zRing sp r) (he : zRing sp e) (hne : r + 4 < e ∨ e + 4 < r) (hg : zgR (me (r + 1)) (me (r + 2))) (hge : zgR (me (e + 1)) (me (e + 2))) (hQ : ∀ j3 j4, Q none sp (zr4 me r j3 j4 (zaw (me (r + 1)) (me (e + 1))) (zaf (me (r + 2)) (me (e + 1)) (me (e + 2))))) : zCall mX4_follow d 0 0 [zR r, zR e] sp me Q := by
  refine z_met kX4_follow (by simp) (by simp) ?_
  show zW mX4_follow d 0 0 Q 0 [zR r, zR e, zU, zU] [] sp me
  refine z_wf (fun hwf => ?_)
  refine z_L0R (pc' := 1) dX4_follow_0 rfl ?_
  refine z_V00 (pc' := 4) (ci := 4) kX4_remember lX4_63 dX4_follow_1 rfl (by omega) (Nat.le_of_ble_eq_true rfl) (by decide) rfl (by first | exact hr.s | exact he.s) ?_
  refine c_remember (by omega) hr (zK0_i ?_)
  refine z_iconst (pc' := 5) dX4_follow_4 rfl (by unfold zin; decide) ?_
  refine z_S2I (pc' := 6) rfl dX4_follow_5 rfl ?_
  suffices H : ∀ (n : Nat) (k : Int) (v : zV), 0 ≤ k → k ≤ 10 → 10 - k < n → zndv v = true → zW mX4_follow d 0 0 Q 6 [zR r, zR e, zI k, v] [] sp (zr4 me r (me (r + 1)) (me (r + 2)) (zfil (me (r + 1)) (fun q => me (r + 1) (me (e + 1) q)) k) (zfil (me (r + 2)) (fun q => (me (r + 2) (me (e + 1) q) + me (e + 2) q) % 4) k)) by
    refine zW_to (H 11 0 zU (by omega) (by omega) (by omega) rfl) rfl rfl ?_
    unfold zr4
    rw [zfil_0, zfil_0, zset_id _ (r + 2) _ (by simp (disch := first | omega | rfl) only [zset_eq, zset_ne, zset_11, zset_21, zset_31, zset_41, zfil_up, zup_eq, zup_ne]), zset_id _ (r + 1) _ (by simp (disch := first | omega | rfl) only [zset_eq, zset_ne, zset_11, zset_21, zset_31, zset_41, zfil_up, zup_eq, zup_ne])]
  intro n
  induction n with
  | zero => intro k v hk0 hk1 hk2; omega
  | succ n ih =>
  intro k v hk0 hk1 hk2 hv
  refine z_L2I (pc' := 7) dX4_follow_6 rfl ?_
  refine z_bipush (pc' := 9) dX4_follow_7 rfl (by decide) ?_
  have ge := hge.1 k
  have eq1 : zr4 me r (me (r + 1)) (me (r + 2)) (zfil (me (r + 1)) (fun q => me (r + 1) (me (e + 1) q)) k) (zfil (me (r + 2)) (fun q => (me (r + 2) (me (e + 1) q) + me (e + 2) q) % 4) k) (e + 1) = me (e + 1) := zr4_o _ _ _ _ _ _ _ (by omega)
  have eq2 : zr4 me r (me (r + 1)) (me (r + 2)) (zfil (me (r + 1)) (fun q => me (r + 1) (me (e + 1) q)) k) (zfil (me (r + 2)) (fun q => (me (r + 2) (me (e + 1) q) + me (e + 2) q) % 4) k) (e + 2) = me (e + 2) := zr4_o _ _ _ _ _ _ _ (by omega)
  refine z_icmp_ge (tgt := 62) (pc' := 12) dX4_follow_9 (by decide) rfl (fun h9 => ?_) (fun h9 => ?_)
  · obtain rfl : k = 10 := by omega
    rw [zfil_cut (m := 10) _ hwf hr.a1 rfl, zfil_cut (m := 10) _ hwf hr.a2 rfl]
    refine z_return rfl rfl dX4_follow_62 ?_
    exact hQ _ _
  · refine z_L1R (pc' := 13) dX4_follow_12 rfl ?_
    refine z_getR (pc' := 16) (ki := 0) 0 fX4_9.l rfl rfl dX4_follow_13 rfl (by first | exact hr.s | exact he.s) (by first | exact hr.p0 | exact he.p0) ?_
    refine z_L2I (pc' := 17) dX4_follow_16 rfl ?_
    refine z_ild (pc' := 18) dX4_follow_17 rfl (by first | exact hr.a1 | exact hr.a2 | exact hr.a3 | exact hr.a4 | exact he.a1 | exact he.a2 | exact he.a3 | exact he.a4) (by omega) (by omega) ?_
    rw [eq1]
    refine z_S3I (pc' := 19) rfl dX4_follow_18 rfl ?_
    refine z_L0R (pc' := 20) dX4_follow_19 rfl ?_
    refine z_getR (pc' := 23) (ki := 0) 0 fX4_9.l rfl rfl dX4_follow_20 rfl (by first | exact hr.s | exact he.s) (by first | exact hr.p0 | exact he.p0) ?_
    refine z_L2I (pc' := 24) dX4_follow_23 rfl ?_
    refine z_L0R (pc' := 25) dX4_follow_24 rfl ?_
    refine z_getR (pc' := 28) (ki := 2) 2 fX4_18.l rfl rfl dX4_follow_25 rfl (by first | exact hr.s | exact he.s) (by first | exact hr.p2 | exact he.p2) ?_
    refine z_L3I (pc' := 29) dX4_follow_28 rfl ?_
    refine z_S2v (pc' := 32) kX8_read lX4_31 dX4_follow_29 rfl (by omega) (Nat.le_of_ble_eq_true rfl) ?_
    refine c_read hr.a3 (zKv_i ?_)
    simp only [zr4_3]
    refine z_ist (pc' := 33) dX4_follow_32 rfl (by first | exact hr.a1 | exact hr.a2 | exact hr.a3 | exact hr.a4 | exact he.a1 | exact he.a2 | exact he.a3 | exact he.a4) (by omega) (by omega) ?_
    refine z_L0R (pc' := 34) dX4_follow_33 rfl ?_
    refine z_getR (pc' := 37) (ki := 1) 1 fX4_15.l rfl rfl dX4_follow_34 rfl (by first | exact hr.s | exact he.s) (by first | exact hr.p1 | exact he.p1) ?_
    refine z_L2I (pc' := 38) dX4_follow_37 rfl ?_
    refine z_L0R (pc' := 39) dX4_follow_38 rfl ?_
    refine z_getR (pc' := 42) (ki := 3) 3 fX4_21.l rfl rfl dX4_follow_39 rfl (by first | exact hr.s | exact he.s) (by first | exact hr.p3 | exact he.p3) ?_
    refine z_L3I (pc' := 43) dX4_follow_42 rfl ?_
    refine z_S2v (pc' := 46) kX8_read lX4_31 dX4_follow_43 rfl (by omega) (Nat.le_of_ble_eq_true rfl) ?_
    have g4 := hg.1 (me (e + 1) k) (by omega) (by omega)
    refine c_read hr.a4 (zKv_i ?_)
    rw [zset_ne _ _ _ (by omega), zr4_4]
    refine z_L1R (pc' := 47) dX4_follow_46 rfl ?_
    refine z_getR (pc' := 50) (ki := 1) 1 fX4_15.l rfl rfl dX4_follow_47 rfl (by first | exact hr.s | exact he.s) (by first | exact hr.p1 | exact he.p1) ?_
    refine z_L2I (pc' := 51) dX4_follow_50 rfl ?_
    refine z_ild (pc' := 52) dX4_follow_51 rfl (by first | exact hr.a1 | exact hr.a2 | exact hr.a3 | exact hr.a4 | exact he.a1 | exact he.a2 | exact he.a3 | exact he.a4) (by omega) (by omega) ?_
    rw [zset_ne _ _ _ (by omega), eq2]
    refine z_iadd (pc' := 53) dX4_follow_52 rfl (by unfold zin; omega) ?_
    refine z_iconst (pc' := 54) dX4_follow_53 rfl (by unfold zin; decide) ?_
    refine z_irem (pc' := 55) dX4_follow_54 rfl (by omega) (by omega) ?_
    refine z_ist (pc' := 56) dX4_follow_55 rfl (by first | exact hr.a1 | exact hr.a2 | exact hr.a3 | exact hr.a4 | exact he.a1 | exact he.a2 | exact he.a3 | exact he.a4) (by omega) (by omega) ?_
    refine z_inc2 (pc' := 59) rfl dX4_follow_56 rfl (by unfold zin; omega) ?_
    refine z_goto (tgt := 6) dX4_follow_59 (by decide) ?_
    refine zW_to (ih (k + 1) (zI (me (e + 1) k)) (by omega) (by omega) (by omega) rfl) rfl rfl ?_
    unfold zr4
    simp (disch := first | omega | rfl) only [zset_eq, zset_ne, zset_11, zset_21, zset_31, zset_41, zfil_up, zup_eq, zup_ne]
set_option maxRecDepth 100000 in
set_option maxHeartbeats 1000000 in
theorem c_isBrought {d : Nat} {sp : zSP} {me : zMe} {Q : zQ} {r e : Nat} (hd : 2 ≤ d) (hr : zRing sp r) (he : zRing sp e) (hg : zgR (me (r + 1)) (me (r + 2))) (hge : zgR (me (e + 1)) (me (e + 2))) (hQ1 : zhm (zaw (me (r + 1)) (me (e + 1))) (zaf (me (r + 2)) (me (e + 1)) (me (e + 2))) → Q (some (zI 1)) sp me) (hQ0 : ¬ zhm (zaw (me (r + 1)) (me (e + 1))) (zaf (me (r + 2)) (me (e + 1)) (me (e + 2))) → Q (some (zI 0)) sp me) : zCall mX4_isBroughtHomeBy d 0 0 [zR r, zR e] sp me Q := by
  refine z_met kX4_isBroughtHomeBy (by simp) (by simp) ?_
  show zW mX4_isBroughtHomeBy d 0 0 Q 0 [zR r, zR e, zU, zU] [] sp me
  refine z_iconst (pc' := 1) dX4_isBroughtHomeBy_0 rfl (by unfold zin; decide) ?_
  refine z_S2I (pc' := 2) rfl dX4_isBroughtHomeBy_1 rfl ?_
  suffices H : ∀ (n : Nat) (k : Int) (v : zV), 0 ≤ k → k ≤ 10 → 10 - k < n → zndv v = true → (∀ p, 0 ≤ p → p < k → me (r + 1) (me (e + 1) p) = p ∧ (me (r + 2) (me (e + 1) p) + me (e + 2) p) % 4 = 0) → zW mX4_isBroughtHomeBy d 0 0 Q 2 [zR r, zR e, zI k, v] [] sp me by
    exact H 11 0 zU (by omega) (by omega) (by omega) rfl (fun p h0 h1 => by omega)
  intro n
  induction n with
  | zero => intro k v hk0 hk1 hk2; omega
  | succ n ih =>
  intro k v hk0 hk1 hk2 hv hall
  refine z_L2I (pc' := 3) dX4_isBroughtHomeBy_2 rfl ?_
  refine z_bipush (pc' := 5) dX4_isBroughtHomeBy_3 rfl (by decide) ?_
  refine z_icmp_ge (tgt := 55) (pc' := 8) dX4_isBroughtHomeBy_5 (by decide) rfl (fun h5 => ?_) (fun h5 => ?_)
  · refine z_iconst (pc' := 56) dX4_isBroughtHomeBy_55 rfl (by unfold zin; decide) ?_
    refine z_zreturn rfl rfl dX4_isBroughtHomeBy_56 (by omega) ?_
    refine hQ1 (fun p h0 h1 => ?_)
    unfold zaw zaf
    rw [zcut_in _ _ _ h0 h1, zcut_in _ _ _ h0 h1]
    exact hall p h0 (by omega)
  · have ge := hge.1 k hk0 (by omega)
    refine z_L1R (pc' := 9) dX4_isBroughtHomeBy_8 rfl ?_
    refine z_getR (pc' := 12) (ki := 0) 0 fX4_9.l rfl rfl dX4_isBroughtHomeBy_9 rfl (by first | exact hr.s | exact he.s) (by first | exact hr.p0 | exact he.p0) ?_
    refine z_L2I (pc' := 13) dX4_isBroughtHomeBy_12 rfl ?_
    refine z_ild (pc' := 14) dX4_isBroughtHomeBy_13 rfl (by first | exact hr.a1 | exact hr.a2 | exact hr.a3 | exact hr.a4 | exact he.a1 | exact he.a2 | exact he.a3 | exact he.a4) (by omega) (by omega) ?_
    refine z_S3I (pc' := 15) rfl dX4_isBroughtHomeBy_14 rfl ?_
    refine z_L0R (pc' := 16) dX4_isBroughtHomeBy_15 rfl ?_
    refine z_getR (pc' := 19) (ki := 0) 0 fX4_9.l rfl rfl dX4_isBroughtHomeBy_16 rfl (by first | exact hr.s | exact he.s) (by first | exact hr.p0 | exact he.p0) ?_
    refine z_L3I (pc' := 20) dX4_isBroughtHomeBy_19 rfl ?_
    refine z_S2v (pc' := 23) kX8_read lX4_31 dX4_isBroughtHomeBy_20 rfl (by omega) (Nat.le_of_ble_eq_true rfl) ?_
    refine c_read hr.a1 (zKv_i ?_)
    refine z_L2I (pc' := 24) dX4_isBroughtHomeBy_23 rfl ?_
    refine z_icmp_ne (tgt := 47) (pc' := 27) dX4_isBroughtHomeBy_24 (by decide) rfl (fun h24 => ?_) (fun h24 => ?_)
    · have hno : ¬ zhm (zaw (me (r + 1)) (me (e + 1))) (zaf (me (r + 2)) (me (e + 1)) (me (e + 2))) := fun z => by
        have z1 := z k hk0 (by omega)
        unfold zaw zaf at z1
        rw [zcut_in _ _ _ hk0 (by omega), zcut_in _ _ _ hk0 (by omega)] at z1
        first | exact h24 z1.1 | exact h44 z1.2
      refine z_iconst (pc' := 48) dX4_isBroughtHomeBy_47 rfl (by unfold zin; decide) ?_
      refine z_zreturn rfl rfl dX4_isBroughtHomeBy_48 (by omega) ?_
      exact hQ0 hno
    · refine z_L0R (pc' := 28) dX4_isBroughtHomeBy_27 rfl ?_
      refine z_getR (pc' := 31) (ki := 1) 1 fX4_15.l rfl rfl dX4_isBroughtHomeBy_28 rfl (by first | exact hr.s | exact he.s) (by first | exact hr.p1 | exact he.p1) ?_
      refine z_L3I (pc' := 32) dX4_isBroughtHomeBy_31 rfl ?_
      refine z_S2v (pc' := 35) kX8_read lX4_31 dX4_isBroughtHomeBy_32 rfl (by omega) (Nat.le_of_ble_eq_true rfl) ?_
      have g4 := hg.1 (me (e + 1) k) (by omega) (by omega)
      refine c_read hr.a2 (zKv_i ?_)
      refine z_L1R (pc' := 36) dX4_isBroughtHomeBy_35 rfl ?_
      refine z_getR (pc' := 39) (ki := 1) 1 fX4_15.l rfl rfl dX4_isBroughtHomeBy_36 rfl (by first | exact hr.s | exact he.s) (by first | exact hr.p1 | exact he.p1) ?_
      refine z_L2I (pc' := 40) dX4_isBroughtHomeBy_39 rfl ?_
      refine z_ild (pc' := 41) dX4_isBroughtHomeBy_40 rfl (by first | exact hr.a1 | exact hr.a2 | exact hr.a3 | exact hr.a4 | exact he.a1 | exact he.a2 | exact he.a3 | exact he.a4) (by omega) (by omega) ?_
      refine z_iadd (pc' := 42) dX4_isBroughtHomeBy_41 rfl (by unfold zin; omega) ?_
      refine z_iconst (pc' := 43) dX4_isBroughtHomeBy_42 rfl (by unfold zin; decide) ?_
      refine z_irem (pc' := 44) dX4_isBroughtHomeBy_43 rfl (by omega) (by omega) ?_
      refine z_if_eq (tgt := 49) (pc' := 47) dX4_isBroughtHomeBy_44 (by decide) rfl (fun h44 => ?_) (fun h44 => ?_)
      · refine z_inc2 (pc' := 52) rfl dX4_isBroughtHomeBy_49 rfl (by unfold zin; omega) ?_
        refine z_goto (tgt := 2) dX4_isBroughtHomeBy_52 (by decide) ?_
        refine ih (k + 1) _ (by omega) (by omega) (by omega) rfl (fun p h0 h1 => ?_)
        by_cases e1 : p = k
        · subst e1; exact ⟨h24, h44⟩
        · exact hall p h0 (by omega)
      · have hno : ¬ zhm (zaw (me (r + 1)) (me (e + 1))) (zaf (me (r + 2)) (me (e + 1)) (me (e + 2))) := fun z => by
          have z1 := z k hk0 (by omega)
          unfold zaw zaf at z1
          rw [zcut_in _ _ _ hk0 (by omega), zcut_in _ _ _ hk0 (by omega)] at z1
          first | exact h24 z1.1 | exact h44 z1.2
        refine z_iconst (pc' := 48) dX4_isBroughtHomeBy_47 rfl (by unfold zin; decide) ?_
        refine z_zreturn rfl rfl dX4_isBroughtHomeBy_48 (by omega) ?_
        exact hQ0 hno
set_option maxRecDepth 100000 in
set_option maxHeartbeats 1000000 in
theorem c_isSame {d : Nat} {sp : zSP} {me : zMe} {Q : zQ} {r e : Nat} (hr : zRing sp r) (he : zRing sp e) (hQ1 : (∀ p, 0 ≤ p → p < 10 → me (r + 1) p = me (e + 1) p ∧ me (r + 2) p = me (e + 2) p) → Q (some (zI 1)) sp me) (hQ0 : ¬ (∀ p, 0 ≤ p → p < 10 → me (r + 1) p = me (e + 1) p ∧ me (r + 2) p = me (e + 2) p) → Q (some (zI 0)) sp me) : zCall mX4_isSameAs d 0 0 [zR r, zR e] sp me Q := by
  refine z_met kX4_isSameAs (by simp) (by simp) ?_
  show zW mX4_isSameAs d 0 0 Q 0 [zR r, zR e, zU] [] sp me
  refine z_iconst (pc' := 1) dX4_isSameAs_0 rfl (by unfold zin; decide) ?_
  refine z_S2I (pc' := 2) rfl dX4_isSameAs_1 rfl ?_
  suffices H : ∀ (n : Nat) (k : Int), 0 ≤ k → k ≤ 10 → 10 - k < n → (∀ p, 0 ≤ p → p < k → me (r + 1) p = me (e + 1) p ∧ me (r + 2) p = me (e + 2) p) → zW mX4_isSameAs d 0 0 Q 2 [zR r, zR e, zI k] [] sp me by
    exact H 11 0 (by omega) (by omega) (by omega) (fun p h0 h1 => by omega)
  intro n
  induction n with
  | zero => intro k hk0 hk1 hk2; omega
  | succ n ih =>
  intro k hk0 hk1 hk2 hall
  refine z_L2I (pc' := 3) dX4_isSameAs_2 rfl ?_
  refine z_bipush (pc' := 5) dX4_isSameAs_3 rfl (by decide) ?_
  refine z_icmp_ge (tgt := 46) (pc' := 8) dX4_isSameAs_5 (by decide) rfl (fun h5 => ?_) (fun h5 => ?_)
  · refine z_iconst (pc' := 47) dX4_isSameAs_46 rfl (by unfold zin; decide) ?_
    refine z_zreturn rfl rfl dX4_isSameAs_47 (by omega) ?_
    exact hQ1 (fun p h0 h1 => hall p h0 (by omega))
  · refine z_L0R (pc' := 9) dX4_isSameAs_8 rfl ?_
    refine z_getR (pc' := 12) (ki := 0) 0 fX4_9.l rfl rfl dX4_isSameAs_9 rfl (by first | exact hr.s | exact he.s) (by first | exact hr.p0 | exact he.p0) ?_
    refine z_L2I (pc' := 13) dX4_isSameAs_12 rfl ?_
    refine z_ild (pc' := 14) dX4_isSameAs_13 rfl (by first | exact hr.a1 | exact hr.a2 | exact hr.a3 | exact hr.a4 | exact he.a1 | exact he.a2 | exact he.a3 | exact he.a4) (by omega) (by omega) ?_
    refine z_L1R (pc' := 15) dX4_isSameAs_14 rfl ?_
    refine z_getR (pc' := 18) (ki := 0) 0 fX4_9.l rfl rfl dX4_isSameAs_15 rfl (by first | exact hr.s | exact he.s) (by first | exact hr.p0 | exact he.p0) ?_
    refine z_L2I (pc' := 19) dX4_isSameAs_18 rfl ?_
    refine z_ild (pc' := 20) dX4_isSameAs_19 rfl (by first | exact hr.a1 | exact hr.a2 | exact hr.a3 | exact hr.a4 | exact he.a1 | exact he.a2 | exact he.a3 | exact he.a4) (by omega) (by omega) ?_
    refine z_icmp_ne (tgt := 38) (pc' := 23) dX4_isSameAs_20 (by decide) rfl (fun h20 => ?_) (fun h20 => ?_)
    · refine z_iconst (pc' := 39) dX4_isSameAs_38 rfl (by unfold zin; decide) ?_
      refine z_zreturn rfl rfl dX4_isSameAs_39 (by omega) ?_
      exact hQ0 (fun z => by first | exact h20 (z k hk0 (by omega)).1 | exact h35 (z k hk0 (by omega)).2)
    · refine z_L0R (pc' := 24) dX4_isSameAs_23 rfl ?_
      refine z_getR (pc' := 27) (ki := 1) 1 fX4_15.l rfl rfl dX4_isSameAs_24 rfl (by first | exact hr.s | exact he.s) (by first | exact hr.p1 | exact he.p1) ?_
      refine z_L2I (pc' := 28) dX4_isSameAs_27 rfl ?_
      refine z_ild (pc' := 29) dX4_isSameAs_28 rfl (by first | exact hr.a1 | exact hr.a2 | exact hr.a3 | exact hr.a4 | exact he.a1 | exact he.a2 | exact he.a3 | exact he.a4) (by omega) (by omega) ?_
      refine z_L1R (pc' := 30) dX4_isSameAs_29 rfl ?_
      refine z_getR (pc' := 33) (ki := 1) 1 fX4_15.l rfl rfl dX4_isSameAs_30 rfl (by first | exact hr.s | exact he.s) (by first | exact hr.p1 | exact he.p1) ?_
      refine z_L2I (pc' := 34) dX4_isSameAs_33 rfl ?_
      refine z_ild (pc' := 35) dX4_isSameAs_34 rfl (by first | exact hr.a1 | exact hr.a2 | exact hr.a3 | exact hr.a4 | exact he.a1 | exact he.a2 | exact he.a3 | exact he.a4) (by omega) (by omega) ?_
      refine z_icmp_eq (tgt := 40) (pc' := 38) dX4_isSameAs_35 (by decide) rfl (fun h35 => ?_) (fun h35 => ?_)
      · refine z_inc2 (pc' := 43) rfl dX4_isSameAs_40 rfl (by unfold zin; omega) ?_
        refine z_goto (tgt := 2) dX4_isSameAs_43 (by decide) ?_
        refine ih (k + 1) (by omega) (by omega) (by omega) (fun p h0 h1 => ?_)
        by_cases e1 : p = k
        · subst e1; exact ⟨h20, h35⟩
        · exact hall p h0 (by omega)
      · refine z_iconst (pc' := 39) dX4_isSameAs_38 rfl (by unfold zin; decide) ?_
        refine z_zreturn rfl rfl dX4_isSameAs_39 (by omega) ?_
        exact hQ0 (fun z => by first | exact h20 (z k hk0 (by omega)).1 | exact h35 (z k hk0 (by omega)).2)
set_option maxRecDepth 100000 in
set_option maxHeartbeats 1000000 in
theorem c_homeCount {d : Nat} {sp : zSP} {me : zMe} {Q : zQ} {r : Nat} (hr : zRing sp r) (hQ : Q (some (zI (zSm (fun p => if me (r + 1) p = p ∧ me (r + 2) p = 0 then 1 else 0) 10))) sp me) : zCall mX4_homeCount d 0 0 [zR r] sp me Q := by
  refine z_met kX4_homeCount (by simp) (by simp) ?_
  show zW mX4_homeCount d 0 0 Q 0 [zR r, zU, zU] [] sp me
  refine z_iconst (pc' := 1) dX4_homeCount_0 rfl (by unfold zin; decide) ?_
  refine z_S1I (pc' := 2) rfl dX4_homeCount_1 rfl ?_
  refine z_iconst (pc' := 3) dX4_homeCount_2 rfl (by unfold zin; decide) ?_
  refine z_S2I (pc' := 4) rfl dX4_homeCount_3 rfl ?_
  suffices H : ∀ (n : Nat) (k : Int), 0 ≤ k → k ≤ 10 → 10 - k < n → zW mX4_homeCount d 0 0 Q 4 [zR r, zI (zSm (fun p => if me (r + 1) p = p ∧ me (r + 2) p = 0 then 1 else 0) k), zI k] [] sp (me) by
    refine zW_to (H ((10 - 0 + 1 : Int).toNat) (0) (by omega) (by omega) (by omega) ) rfl rfl ?_
    rfl
  intro n
  induction n with
  | zero => intro k hk0 hk1 hk2; omega
  | succ n ih =>
  intro k hk0 hk1 hk2
  refine z_L2I (pc' := 5) dX4_homeCount_4 rfl ?_
  refine z_bipush (pc' := 7) dX4_homeCount_5 rfl (by decide) ?_
  refine z_icmp_ge (tgt := 38) (pc' := 10) dX4_homeCount_7 (by decide) rfl (fun h7 => ?_) (fun h7 => ?_)
  · obtain rfl : k = 10 := by omega
    refine z_L1I (pc' := 39) dX4_homeCount_38 rfl ?_
    refine z_ireturn rfl rfl dX4_homeCount_39 ?_
    exact hQ
  · have hbd := zSm_bd (g := fun p => if me (r + 1) p = p ∧ me (r + 2) p = 0 then 1 else 0) (a := 0) (b := 1) (fun p _ => by split <;> omega) k hk0
    refine z_L0R (pc' := 11) dX4_homeCount_10 rfl ?_
    refine z_getR (pc' := 14) (ki := 0) 0 fX4_9.l rfl rfl dX4_homeCount_11 rfl hr.s hr.p0 ?_
    refine z_L2I (pc' := 15) dX4_homeCount_14 rfl ?_
    refine z_ild (pc' := 16) dX4_homeCount_15 rfl (by first | exact hr.a1 | exact hr.a2 | exact hr.a3 | exact hr.a4) (by omega) (by omega) ?_
    refine z_L2I (pc' := 17) dX4_homeCount_16 rfl ?_
    refine z_icmp_ne (tgt := 32) (pc' := 20) dX4_homeCount_17 (by decide) rfl (fun h17 => ?_) (fun h17 => ?_)
    · refine z_inc2 (pc' := 35) rfl dX4_homeCount_32 rfl (by unfold zin; omega) ?_
      refine z_goto (tgt := 4) dX4_homeCount_35 (by decide) ?_
      refine zW_to (ih (k + 1) (by omega) (by omega) (by omega) ) (by rw [zSm_up _ _ hk0]; first | (simp [h17, h26]; done) | (simp [h17]; done)) rfl ?_
      rfl
    · refine z_L0R (pc' := 21) dX4_homeCount_20 rfl ?_
      refine z_getR (pc' := 24) (ki := 1) 1 fX4_15.l rfl rfl dX4_homeCount_21 rfl hr.s hr.p1 ?_
      refine z_L2I (pc' := 25) dX4_homeCount_24 rfl ?_
      refine z_ild (pc' := 26) dX4_homeCount_25 rfl (by first | exact hr.a1 | exact hr.a2 | exact hr.a3 | exact hr.a4) (by omega) (by omega) ?_
      refine z_if_ne (tgt := 32) (pc' := 29) dX4_homeCount_26 (by decide) rfl (fun h26 => ?_) (fun h26 => ?_)
      · refine z_inc2 (pc' := 35) rfl dX4_homeCount_32 rfl (by unfold zin; omega) ?_
        refine z_goto (tgt := 4) dX4_homeCount_35 (by decide) ?_
        refine zW_to (ih (k + 1) (by omega) (by omega) (by omega) ) (by rw [zSm_up _ _ hk0]; first | (simp [h17, h26]; done) | (simp [h17]; done)) rfl ?_
        rfl
      · refine z_inc1 (pc' := 32) rfl dX4_homeCount_29 rfl (by unfold zin; omega) ?_
        refine z_inc2 (pc' := 35) rfl dX4_homeCount_32 rfl (by unfold zin; omega) ?_
        refine z_goto (tgt := 4) dX4_homeCount_35 (by decide) ?_
        refine zW_to (ih (k + 1) (by omega) (by omega) (by omega) ) (by rw [zSm_up _ _ hk0]; first | (simp [h17, h26]; done) | (simp [h17]; done)) rfl ?_
        rfl
set_option maxRecDepth 100000 in
set_option maxHeartbeats 1000000 in
theorem c_isHome {d : Nat} {sp : zSP} {me : zMe} {Q : zQ} {r : Nat} (hd : 1 ≤ d) (hr : zRing sp r) (hQ1 : zhm (me (r + 1)) (me (r + 2)) → Q (some (zI 1)) sp me) (hQ0 : ¬ zhm (me (r + 1)) (me (r + 2)) → Q (some (zI 0)) sp me) : zCall mX4_isHome d 0 0 [zR r] sp me Q := by
  refine z_met kX4_isHome (by simp) (by simp) ?_
  show zW mX4_isHome d 0 0 Q 0 [zR r] [] sp me
  refine z_L0R (pc' := 1) dX4_isHome_0 rfl ?_
  refine z_V0v (pc' := 4) (ci := 4) kX4_homeCount lX4_66 dX4_isHome_1 rfl (by omega) (Nat.le_of_ble_eq_true rfl) (by decide) rfl hr.s ?_
  refine c_homeCount hr (zKv_i ?_)
  refine z_bipush (pc' := 6) dX4_isHome_4 rfl (by decide) ?_
  refine z_icmp_ne (tgt := 13) (pc' := 9) dX4_isHome_6 (by decide) rfl (fun h6 => ?_) (fun h6 => ?_)
  · refine z_iconst (pc' := 14) dX4_isHome_13 rfl (by unfold zin; decide) ?_
    refine z_zreturn rfl rfl dX4_isHome_14 (by omega) ?_
    first | exact hQ1 (zhm_cnt.mp h6) | exact hQ0 (fun z => h6 (zhm_cnt.mpr z))
  · refine z_iconst (pc' := 10) dX4_isHome_9 rfl (by unfold zin; decide) ?_
    refine z_goto (tgt := 14) dX4_isHome_10 (by decide) ?_
    refine z_zreturn rfl rfl dX4_isHome_14 (by omega) ?_
    first | exact hQ1 (zhm_cnt.mp h6) | exact hQ0 (fun z => h6 (zhm_cnt.mpr z))
set_option maxRecDepth 100000 in
set_option maxHeartbeats 1000000 in
theorem c_placedCount {d : Nat} {sp : zSP} {me : zMe} {Q : zQ} {r : Nat} (hr : zRing sp r) (hQ : Q (some (zI (zSm (fun p => if me (r + 1) p = p then 1 else 0) 10))) sp me) : zCall mX4_placedCount d 0 0 [zR r] sp me Q := by
  refine z_met kX4_placedCount (by simp) (by simp) ?_
  show zW mX4_placedCount d 0 0 Q 0 [zR r, zU, zU] [] sp me
  refine z_iconst (pc' := 1) dX4_placedCount_0 rfl (by unfold zin; decide) ?_
  refine z_S1I (pc' := 2) rfl dX4_placedCount_1 rfl ?_
  refine z_iconst (pc' := 3) dX4_placedCount_2 rfl (by unfold zin; decide) ?_
  refine z_S2I (pc' := 4) rfl dX4_placedCount_3 rfl ?_
  suffices H : ∀ (n : Nat) (k : Int), 0 ≤ k → k ≤ 10 → 10 - k < n → zW mX4_placedCount d 0 0 Q 4 [zR r, zI (zSm (fun p => if me (r + 1) p = p then 1 else 0) k), zI k] [] sp (me) by
    refine zW_to (H ((10 - 0 + 1 : Int).toNat) (0) (by omega) (by omega) (by omega) ) rfl rfl ?_
    rfl
  intro n
  induction n with
  | zero => intro k hk0 hk1 hk2; omega
  | succ n ih =>
  intro k hk0 hk1 hk2
  refine z_L2I (pc' := 5) dX4_placedCount_4 rfl ?_
  refine z_bipush (pc' := 7) dX4_placedCount_5 rfl (by decide) ?_
  refine z_icmp_ge (tgt := 29) (pc' := 10) dX4_placedCount_7 (by decide) rfl (fun h7 => ?_) (fun h7 => ?_)
  · obtain rfl : k = 10 := by omega
    refine z_L1I (pc' := 30) dX4_placedCount_29 rfl ?_
    refine z_ireturn rfl rfl dX4_placedCount_30 ?_
    exact hQ
  · have hbd := zSm_bd (g := fun p => if me (r + 1) p = p then 1 else 0) (a := 0) (b := 1) (fun p _ => by split <;> omega) k hk0
    refine z_L0R (pc' := 11) dX4_placedCount_10 rfl ?_
    refine z_getR (pc' := 14) (ki := 0) 0 fX4_9.l rfl rfl dX4_placedCount_11 rfl hr.s hr.p0 ?_
    refine z_L2I (pc' := 15) dX4_placedCount_14 rfl ?_
    refine z_ild (pc' := 16) dX4_placedCount_15 rfl (by first | exact hr.a1 | exact hr.a2 | exact hr.a3 | exact hr.a4) (by omega) (by omega) ?_
    refine z_L2I (pc' := 17) dX4_placedCount_16 rfl ?_
    refine z_icmp_ne (tgt := 23) (pc' := 20) dX4_placedCount_17 (by decide) rfl (fun h17 => ?_) (fun h17 => ?_)
    · refine z_inc2 (pc' := 26) rfl dX4_placedCount_23 rfl (by unfold zin; omega) ?_
      refine z_goto (tgt := 4) dX4_placedCount_26 (by decide) ?_
      refine zW_to (ih (k + 1) (by omega) (by omega) (by omega) ) (by rw [zSm_up _ _ hk0]; simp [h17]) rfl ?_
      rfl
    · refine z_inc1 (pc' := 23) rfl dX4_placedCount_20 rfl (by unfold zin; omega) ?_
      refine z_inc2 (pc' := 26) rfl dX4_placedCount_23 rfl (by unfold zin; omega) ?_
      refine z_goto (tgt := 4) dX4_placedCount_26 (by decide) ?_
      refine zW_to (ih (k + 1) (by omega) (by omega) (by omega) ) (by rw [zSm_up _ _ hk0]; simp [h17]) rfl ?_
      rfl
set_option maxRecDepth 100000 in
set_option maxHeartbeats 1000000 in
theorem c_straightCount {d : Nat} {sp : zSP} {me : zMe} {Q : zQ} {r : Nat} (hr : zRing sp r) (hQ : Q (some (zI (zSm (fun p => if me (r + 2) p = 0 then 1 else 0) 10))) sp me) : zCall mX4_straightCount d 0 0 [zR r] sp me Q := by
  refine z_met kX4_straightCount (by simp) (by simp) ?_
  show zW mX4_straightCount d 0 0 Q 0 [zR r, zU, zU] [] sp me
  refine z_iconst (pc' := 1) dX4_straightCount_0 rfl (by unfold zin; decide) ?_
  refine z_S1I (pc' := 2) rfl dX4_straightCount_1 rfl ?_
  refine z_iconst (pc' := 3) dX4_straightCount_2 rfl (by unfold zin; decide) ?_
  refine z_S2I (pc' := 4) rfl dX4_straightCount_3 rfl ?_
  suffices H : ∀ (n : Nat) (k : Int), 0 ≤ k → k ≤ 10 → 10 - k < n → zW mX4_straightCount d 0 0 Q 4 [zR r, zI (zSm (fun p => if me (r + 2) p = 0 then 1 else 0) k), zI k] [] sp (me) by
    refine zW_to (H ((10 - 0 + 1 : Int).toNat) (0) (by omega) (by omega) (by omega) ) rfl rfl ?_
    rfl
  intro n
  induction n with
  | zero => intro k hk0 hk1 hk2; omega
  | succ n ih =>
  intro k hk0 hk1 hk2
  refine z_L2I (pc' := 5) dX4_straightCount_4 rfl ?_
  refine z_bipush (pc' := 7) dX4_straightCount_5 rfl (by decide) ?_
  refine z_icmp_ge (tgt := 28) (pc' := 10) dX4_straightCount_7 (by decide) rfl (fun h7 => ?_) (fun h7 => ?_)
  · obtain rfl : k = 10 := by omega
    refine z_L1I (pc' := 29) dX4_straightCount_28 rfl ?_
    refine z_ireturn rfl rfl dX4_straightCount_29 ?_
    exact hQ
  · have hbd := zSm_bd (g := fun p => if me (r + 2) p = 0 then 1 else 0) (a := 0) (b := 1) (fun p _ => by split <;> omega) k hk0
    refine z_L0R (pc' := 11) dX4_straightCount_10 rfl ?_
    refine z_getR (pc' := 14) (ki := 1) 1 fX4_15.l rfl rfl dX4_straightCount_11 rfl hr.s hr.p1 ?_
    refine z_L2I (pc' := 15) dX4_straightCount_14 rfl ?_
    refine z_ild (pc' := 16) dX4_straightCount_15 rfl (by first | exact hr.a1 | exact hr.a2 | exact hr.a3 | exact hr.a4) (by omega) (by omega) ?_
    refine z_if_ne (tgt := 22) (pc' := 19) dX4_straightCount_16 (by decide) rfl (fun h16 => ?_) (fun h16 => ?_)
    · refine z_inc2 (pc' := 25) rfl dX4_straightCount_22 rfl (by unfold zin; omega) ?_
      refine z_goto (tgt := 4) dX4_straightCount_25 (by decide) ?_
      refine zW_to (ih (k + 1) (by omega) (by omega) (by omega) ) (by rw [zSm_up _ _ hk0]; simp [h16]) rfl ?_
      rfl
    · refine z_inc1 (pc' := 22) rfl dX4_straightCount_19 rfl (by unfold zin; omega) ?_
      refine z_inc2 (pc' := 25) rfl dX4_straightCount_22 rfl (by unfold zin; omega) ?_
      refine z_goto (tgt := 4) dX4_straightCount_25 (by decide) ?_
      refine zW_to (ih (k + 1) (by omega) (by omega) (by omega) ) (by rw [zSm_up _ _ hk0]; simp [h16]) rfl ?_
      rfl
/-- how many later ones stand ahead -/
def zinv (w : Int → Int) (p l : Int) : Int := zSm (fun j => if p < j ∧ w p > w j then 1 else 0) l
theorem zinv_bd (w : Int → Int) (p l : Int) (h : 0 ≤ l) : 0 ≤ zinv w p l ∧ zinv w p l ≤ l := by
  have := zSm_bd (g := fun j => if p < j ∧ w p > w j then 1 else 0) (a := 0) (b := 1) (fun j _ => by split <;> omega) l h
  unfold zinv
  omega
theorem zinv_0 (w : Int → Int) (p : Int) (h : 0 ≤ p) : zinv w p (p + 1) = 0 := by
  unfold zinv
  rw [zSm_congr (g' := fun _ => 0) _ (fun j h0 h1 => by rw [if_neg (by omega)])]
  have := zSm_bd (g := fun _ => 0) (a := 0) (b := 0) (fun j _ => by omega) (p + 1) (by omega)
  omega
set_option maxRecDepth 100000 in
set_option maxHeartbeats 1000000 in
theorem c_oddness {d : Nat} {sp : zSP} {me : zMe} {Q : zQ} {r : Nat} (hr : zRing sp r) (hQ : Q (some (zI (zSm (fun p => zinv (me (r + 1)) p 10) 10 % 2))) sp me) : zCall mX4_oddness d 0 0 [zR r] sp me Q := by
  refine z_met kX4_oddness (by simp) (by simp) ?_
  show zW mX4_oddness d 0 0 Q 0 [zR r, zU, zU, zU] [] sp me
  refine z_iconst (pc' := 1) dX4_oddness_0 rfl (by unfold zin; decide) ?_
  refine z_S1I (pc' := 2) rfl dX4_oddness_1 rfl ?_
  refine z_iconst (pc' := 3) dX4_oddness_2 rfl (by unfold zin; decide) ?_
  refine z_S2I (pc' := 4) rfl dX4_oddness_3 rfl ?_
  suffices H : ∀ (n : Nat) (k : Int) (v : zV), 0 ≤ k → k ≤ 10 → 10 - k < n → zW mX4_oddness d 0 0 Q 4 [zR r, zI (zSm (fun p => zinv (me (r + 1)) p 10) k), zI k, v] [] sp me by
    exact H 11 0 zU (by omega) (by omega) (by omega)
  intro n
  induction n with
  | zero => intro k v hk0 hk1 hk2; omega
  | succ n ih =>
  intro k v hk0 hk1 hk2
  have hbd := zSm_bd (g := fun p => zinv (me (r + 1)) p 10) (a := 0) (b := 10) (fun p _ => zinv_bd _ _ 10 (by omega)) k hk0
  refine z_L2I (pc' := 5) dX4_oddness_4 rfl ?_
  refine z_bipush (pc' := 7) dX4_oddness_5 rfl (by decide) ?_
  refine z_icmp_ge (tgt := 50) (pc' := 10) dX4_oddness_7 (by decide) rfl (fun h7 => ?_) (fun h7 => ?_)
  · obtain rfl : k = 10 := by omega
    refine z_L1I (pc' := 51) dX4_oddness_50 rfl ?_
    refine z_iconst (pc' := 52) dX4_oddness_51 rfl (by unfold zin; decide) ?_
    refine z_irem (pc' := 53) dX4_oddness_52 rfl (by omega) (by omega) ?_
    refine z_ireturn rfl rfl dX4_oddness_53 ?_
    exact hQ
  · refine z_L2I (pc' := 11) dX4_oddness_10 rfl ?_
    refine z_iconst (pc' := 12) dX4_oddness_11 rfl (by unfold zin; decide) ?_
    refine z_iadd (pc' := 13) dX4_oddness_12 rfl (by unfold zin; omega) ?_
    refine z_S3I (pc' := 14) rfl dX4_oddness_13 rfl ?_
    suffices H : ∀ (n2 : Nat) (l : Int), k + 1 ≤ l → l ≤ 10 → 10 - l < n2 → zW mX4_oddness d 0 0 Q 14 [zR r, zI (zSm (fun p => zinv (me (r + 1)) p 10) k + zinv (me (r + 1)) k l), zI k, zI l] [] sp me by
      have := H 11 (k + 1) (by omega) (by omega) (by omega)
      rw [zinv_0 _ _ hk0, Int.add_zero] at this
      exact this
    intro n2
    induction n2 with
    | zero => intro l hl0 hl1 hl2; omega
    | succ n2 ih2 =>
    intro l hl0 hl1 hl2
    have hbd2 := zinv_bd (me (r + 1)) k l (by omega)
    refine z_L3I (pc' := 15) dX4_oddness_14 rfl ?_
    refine z_bipush (pc' := 17) dX4_oddness_15 rfl (by decide) ?_
    refine z_icmp_ge (tgt := 44) (pc' := 20) dX4_oddness_17 (by decide) rfl (fun h17 => ?_) (fun h17 => ?_)
    · refine z_inc2 (pc' := 47) rfl dX4_oddness_44 rfl (by unfold zin; omega) ?_
      refine z_goto (tgt := 4) dX4_oddness_47 (by decide) ?_
      obtain rfl : l = 10 := by omega
      refine zW_to (ih (k + 1) (zI 10) (by omega) (by omega) (by omega)) (by rw [zSm_up _ _ hk0]) rfl rfl
    · refine z_L0R (pc' := 21) dX4_oddness_20 rfl ?_
      refine z_getR (pc' := 24) (ki := 0) 0 fX4_9.l rfl rfl dX4_oddness_21 rfl hr.s hr.p0 ?_
      refine z_L2I (pc' := 25) dX4_oddness_24 rfl ?_
      refine z_ild (pc' := 26) dX4_oddness_25 rfl (by first | exact hr.a1 | exact hr.a2 | exact hr.a3 | exact hr.a4) (by omega) (by omega) ?_
      refine z_L0R (pc' := 27) dX4_oddness_26 rfl ?_
      refine z_getR (pc' := 30) (ki := 0) 0 fX4_9.l rfl rfl dX4_oddness_27 rfl hr.s hr.p0 ?_
      refine z_L3I (pc' := 31) dX4_oddness_30 rfl ?_
      refine z_ild (pc' := 32) dX4_oddness_31 rfl (by first | exact hr.a1 | exact hr.a2 | exact hr.a3 | exact hr.a4) (by omega) (by omega) ?_
      refine z_icmp_le (tgt := 38) (pc' := 35) dX4_oddness_32 (by decide) rfl (fun h32 => ?_) (fun h32 => ?_)
      · refine z_inc3 (pc' := 41) rfl dX4_oddness_38 rfl (by unfold zin; omega) ?_
        refine z_goto (tgt := 14) dX4_oddness_41 (by decide) ?_
        refine zW_to (ih2 (l + 1) (by omega) (by omega) (by omega)) ?_ rfl rfl
        have e1 : zinv (me (r + 1)) k (l + 1) = zinv (me (r + 1)) k l + (if k < l ∧ me (r + 1) k > me (r + 1) l then 1 else 0) := zSm_up _ _ (by omega)
        rw [e1]
        first | rw [if_neg (by omega), Int.add_zero] | rw [if_pos (by omega), Int.add_assoc]
      · refine z_inc1 (pc' := 38) rfl dX4_oddness_35 rfl (by unfold zin; omega) ?_
        refine z_inc3 (pc' := 41) rfl dX4_oddness_38 rfl (by unfold zin; omega) ?_
        refine z_goto (tgt := 14) dX4_oddness_41 (by decide) ?_
        refine zW_to (ih2 (l + 1) (by omega) (by omega) (by omega)) ?_ rfl rfl
        have e1 : zinv (me (r + 1)) k (l + 1) = zinv (me (r + 1)) k l + (if k < l ∧ me (r + 1) k > me (r + 1) l then 1 else 0) := zSm_up _ _ (by omega)
        rw [e1]
        first | rw [if_neg (by omega), Int.add_zero] | rw [if_pos (by omega), Int.add_assoc]
set_option maxRecDepth 100000 in
set_option maxHeartbeats 1000000 in
theorem c_placesFromHome {d : Nat} {sp : zSP} {me : zMe} {Q : zQ} {r : Nat} (hd : 1 ≤ d) (hr : zRing sp r) (hg : zgR (me (r + 1)) (me (r + 2))) (hQ : Q (some (zI (zSm (fun p => zdist p (me (r + 1) p)) 10))) sp me) : zCall mX4_placesFromHome d 0 0 [zR r] sp me Q := by
  refine z_met kX4_placesFromHome (by simp) (by simp) ?_
  show zW mX4_placesFromHome d 0 0 Q 0 [zR r, zU, zU, zU] [] sp me
  refine z_iconst (pc' := 1) dX4_placesFromHome_0 rfl (by unfold zin; decide) ?_
  refine z_S1I (pc' := 2) rfl dX4_placesFromHome_1 rfl ?_
  refine z_iconst (pc' := 3) dX4_placesFromHome_2 rfl (by unfold zin; decide) ?_
  refine z_S2I (pc' := 4) rfl dX4_placesFromHome_3 rfl ?_
  suffices H : ∀ (n : Nat) (k : Int) (v : zV), 0 ≤ k → k ≤ 10 → 10 - k < n → zW mX4_placesFromHome d 0 0 Q 4 [zR r, zI (zSm (fun p => zdist p (me (r + 1) p)) k), zI k, v] [] sp me by
    exact H 11 0 zU (by omega) (by omega) (by omega)
  intro n
  induction n with
  | zero => intro k v hk0 hk1 hk2; omega
  | succ n ih =>
  intro k v hk0 hk1 hk2
  have hbd : 0 ≤ zSm (fun p => zdist p (me (r + 1) p)) k ∧ zSm (fun p => zdist p (me (r + 1) p)) k ≤ 5 * k := by
    have : ∀ j : Int, 0 ≤ j → j ≤ 10 → 0 ≤ zSm (fun p => zdist p (me (r + 1) p)) j ∧ zSm (fun p => zdist p (me (r + 1) p)) j ≤ 5 * j := by
      intro j hj
      refine zSm_ind (P := fun j s => j ≤ 10 → 0 ≤ s ∧ s ≤ 5 * j) _ (fun _ => by omega) (fun j s hj hs hj2 => ?_) j hj
      have h1 := hs (by omega)
      have h2 := hg.1 j hj (by omega)
      have h3 := zdist_in hj (show j < 10 by omega) h2.1 h2.2.1
      omega
    exact this k hk0 hk1
  refine z_L2I (pc' := 5) dX4_placesFromHome_4 rfl ?_
  refine z_bipush (pc' := 7) dX4_placesFromHome_5 rfl (by decide) ?_
  refine z_icmp_ge (tgt := 39) (pc' := 10) dX4_placesFromHome_7 (by decide) rfl (fun h7 => ?_) (fun h7 => ?_)
  · obtain rfl : k = 10 := by omega
    refine z_L1I (pc' := 40) dX4_placesFromHome_39 rfl ?_
    refine z_ireturn rfl rfl dX4_placesFromHome_40 ?_
    exact hQ
  · have g4 := hg.1 k
    refine z_L2I (pc' := 11) dX4_placesFromHome_10 rfl ?_
    refine z_L0R (pc' := 12) dX4_placesFromHome_11 rfl ?_
    refine z_getR (pc' := 15) (ki := 0) 0 fX4_9.l rfl rfl dX4_placesFromHome_12 rfl hr.s hr.p0 ?_
    refine z_L2I (pc' := 16) dX4_placesFromHome_15 rfl ?_
    refine z_ild (pc' := 17) dX4_placesFromHome_16 rfl (by first | exact hr.a1 | exact hr.a2 | exact hr.a3 | exact hr.a4) (by omega) (by omega) ?_
    refine z_isub (pc' := 18) dX4_placesFromHome_17 rfl (by unfold zin; omega) ?_
    refine z_abs (pc' := 21) hX4_70 dX4_placesFromHome_18 rfl (by omega) (Nat.le_of_ble_eq_true rfl) (by unfold zin; omega) ?_
    have e9 : 0 ≤ (if 0 ≤ k - me (r + 1) k then k - me (r + 1) k else -(k - me (r + 1) k)) ∧ (if 0 ≤ k - me (r + 1) k then k - me (r + 1) k else -(k - me (r + 1) k)) < 10 := by
      constructor <;> split <;> omega
    refine z_S3I (pc' := 22) rfl dX4_placesFromHome_21 rfl ?_
    refine z_L1I (pc' := 23) dX4_placesFromHome_22 rfl ?_
    refine z_L3I (pc' := 24) dX4_placesFromHome_23 rfl ?_
    refine z_bipush (pc' := 26) dX4_placesFromHome_24 rfl (by decide) ?_
    refine z_L3I (pc' := 27) dX4_placesFromHome_26 rfl ?_
    refine z_isub (pc' := 28) dX4_placesFromHome_27 rfl (by unfold zin; omega) ?_
    refine z_min (pc' := 31) hX4_75 dX4_placesFromHome_28 rfl (by omega) (Nat.le_of_ble_eq_true rfl) ?_
    refine z_iadd (pc' := 32) dX4_placesFromHome_31 rfl (by unfold zin; have := zdist_in hk0 (show k < 10 by omega) (g4 hk0 (by omega)).1 (g4 hk0 (by omega)).2.1; unfold zdist at this; omega) ?_
    refine z_S1I (pc' := 33) rfl dX4_placesFromHome_32 rfl ?_
    refine z_inc2 (pc' := 36) rfl dX4_placesFromHome_33 rfl (by unfold zin; omega) ?_
    refine z_goto (tgt := 4) dX4_placesFromHome_36 (by decide) ?_
    refine zW_to (ih (k + 1) _ (by omega) (by omega) (by omega)) (by rw [zSm_up _ _ hk0]; rfl) rfl rfl
end ZRING3
end
section
section ZHOLD
set_option maxRecDepth 100000 in
set_option maxHeartbeats 1000000 in
theorem c_isFigure {d : Nat} {sp : zSP} {me : zMe} {Q : zQ} {x : Int} (hQ1 : 0 ≤ x ∧ x < 8 → Q (some (zI 1)) sp me) (hQ0 : ¬ (0 ≤ x ∧ x < 8) → Q (some (zI 0)) sp me) : zCall mX8_isFigure d 0 0 [zI x] sp me Q := by
  refine z_met kX8_isFigure (by simp) (by simp) ?_
  show zW mX8_isFigure d 0 0 Q 0 [zI x] [] sp me
  refine z_L0I (pc' := 1) dX8_isFigure_0 rfl ?_
  refine z_if_lt (tgt := 14) (pc' := 4) dX8_isFigure_1 (by decide) rfl (fun h1 => ?_) (fun h1 => ?_)
  · refine z_iconst (pc' := 15) dX8_isFigure_14 rfl (by unfold zin; decide) ?_
    refine z_zreturn rfl rfl dX8_isFigure_15 (by omega) ?_
    first | exact hQ1 (by omega) | exact hQ0 (by omega)
  · refine z_L0I (pc' := 5) dX8_isFigure_4 rfl ?_
    refine z_bipush (pc' := 7) dX8_isFigure_5 rfl (by decide) ?_
    refine z_icmp_ge (tgt := 14) (pc' := 10) dX8_isFigure_7 (by decide) rfl (fun h7 => ?_) (fun h7 => ?_)
    · refine z_iconst (pc' := 15) dX8_isFigure_14 rfl (by unfold zin; decide) ?_
      refine z_zreturn rfl rfl dX8_isFigure_15 (by omega) ?_
      first | exact hQ1 (by omega) | exact hQ0 (by omega)
    · refine z_iconst (pc' := 11) dX8_isFigure_10 rfl (by unfold zin; decide) ?_
      refine z_goto (tgt := 15) dX8_isFigure_11 (by decide) ?_
      refine z_zreturn rfl rfl dX8_isFigure_15 (by omega) ?_
      first | exact hQ1 (by omega) | exact hQ0 (by omega)
set_option maxRecDepth 100000 in
set_option maxHeartbeats 1000000 in
theorem c_isPlace {d : Nat} {sp : zSP} {me : zMe} {Q : zQ} {x : Int} (hQ1 : 0 ≤ x ∧ x < 10 → Q (some (zI 1)) sp me) (hQ0 : ¬ (0 ≤ x ∧ x < 10) → Q (some (zI 0)) sp me) : zCall mX8_isPlace d 0 0 [zI x] sp me Q := by
  refine z_met kX8_isPlace (by simp) (by simp) ?_
  show zW mX8_isPlace d 0 0 Q 0 [zI x] [] sp me
  refine z_L0I (pc' := 1) dX8_isPlace_0 rfl ?_
  refine z_if_lt (tgt := 14) (pc' := 4) dX8_isPlace_1 (by decide) rfl (fun h1 => ?_) (fun h1 => ?_)
  · refine z_iconst (pc' := 15) dX8_isPlace_14 rfl (by unfold zin; decide) ?_
    refine z_zreturn rfl rfl dX8_isPlace_15 (by omega) ?_
    first | exact hQ1 (by omega) | exact hQ0 (by omega)
  · refine z_L0I (pc' := 5) dX8_isPlace_4 rfl ?_
    refine z_bipush (pc' := 7) dX8_isPlace_5 rfl (by decide) ?_
    refine z_icmp_ge (tgt := 14) (pc' := 10) dX8_isPlace_7 (by decide) rfl (fun h7 => ?_) (fun h7 => ?_)
    · refine z_iconst (pc' := 15) dX8_isPlace_14 rfl (by unfold zin; decide) ?_
      refine z_zreturn rfl rfl dX8_isPlace_15 (by omega) ?_
      first | exact hQ1 (by omega) | exact hQ0 (by omega)
    · refine z_iconst (pc' := 11) dX8_isPlace_10 rfl (by unfold zin; decide) ?_
      refine z_goto (tgt := 15) dX8_isPlace_11 (by decide) ?_
      refine z_zreturn rfl rfl dX8_isPlace_15 (by omega) ?_
      first | exact hQ1 (by omega) | exact hQ0 (by omega)
/-- neighbors in the ring -/
def znb (p q : Int) : Prop := p - q = 1 ∨ q - p = 1 ∨ p - q = 9 ∨ q - p = 9
set_option maxRecDepth 100000 in
set_option maxHeartbeats 1000000 in
theorem c_areNb {d : Nat} {sp : zSP} {me : zMe} {Q : zQ} {x y : Int} (hd : 1 ≤ d) (hx0 : 0 ≤ x) (hx1 : x < 10) (hy0 : 0 ≤ y) (hy1 : y < 10) (hQ1 : znb x y → Q (some (zI 1)) sp me) (hQ0 : ¬ znb x y → Q (some (zI 0)) sp me) : zCall mX8_areNeighbors d 0 0 [zI x, zI y] sp me Q := by
  refine z_met kX8_areNeighbors (by simp) (by simp) ?_
  show zW mX8_areNeighbors d 0 0 Q 0 [zI x, zI y, zU] [] sp me
  unfold znb at hQ1 hQ0
  refine z_L0I (pc' := 1) dX8_areNeighbors_0 rfl ?_
  refine z_L1I (pc' := 2) dX8_areNeighbors_1 rfl ?_
  refine z_isub (pc' := 3) dX8_areNeighbors_2 rfl (by unfold zin; omega) ?_
  refine z_abs (pc' := 6) hX8_277 dX8_areNeighbors_3 rfl (by omega) (Nat.le_of_ble_eq_true rfl) (by unfold zin; omega) ?_
  have e1 : (if 0 ≤ x - y then x - y else -(x - y)) = x - y ∨ (if 0 ≤ x - y then x - y else -(x - y)) = y - x := by split <;> omega
  have e2 : 0 ≤ (if 0 ≤ x - y then x - y else -(x - y)) := by split <;> omega
  refine z_S2I (pc' := 7) rfl dX8_areNeighbors_6 rfl ?_
  refine z_L2I (pc' := 8) dX8_areNeighbors_7 rfl ?_
  refine z_iconst (pc' := 9) dX8_areNeighbors_8 rfl (by unfold zin; decide) ?_
  refine z_icmp_eq (tgt := 18) (pc' := 12) dX8_areNeighbors_9 (by decide) rfl (fun h9 => ?_) (fun h9 => ?_)
  · refine z_iconst (pc' := 19) dX8_areNeighbors_18 rfl (by unfold zin; decide) ?_
    refine z_goto (tgt := 23) dX8_areNeighbors_19 (by decide) ?_
    refine z_zreturn rfl rfl dX8_areNeighbors_23 (by omega) ?_
    first | exact hQ1 (by omega) | exact hQ0 (by omega)
  · refine z_L2I (pc' := 13) dX8_areNeighbors_12 rfl ?_
    refine z_bipush (pc' := 15) dX8_areNeighbors_13 rfl (by decide) ?_
    refine z_icmp_ne (tgt := 22) (pc' := 18) dX8_areNeighbors_15 (by decide) rfl (fun h15 => ?_) (fun h15 => ?_)
    · refine z_iconst (pc' := 23) dX8_areNeighbors_22 rfl (by unfold zin; decide) ?_
      refine z_zreturn rfl rfl dX8_areNeighbors_23 (by omega) ?_
      first | exact hQ1 (by omega) | exact hQ0 (by omega)
    · refine z_iconst (pc' := 19) dX8_areNeighbors_18 rfl (by unfold zin; decide) ?_
      refine z_goto (tgt := 23) dX8_areNeighbors_19 (by decide) ?_
      refine z_zreturn rfl rfl dX8_areNeighbors_23 (by omega) ?_
      first | exact hQ1 (by omega) | exact hQ0 (by omega)
set_option maxRecDepth 100000 in
set_option maxHeartbeats 1000000 in
theorem c_partner {d : Nat} {sp : zSP} {me : zMe} {Q : zQ} {h : Nat} {i : Int} (hd : 1 ≤ d) (hh : zHold sp h) (hQ : Q (some (zI (me (h + 1) i))) sp me) : zCall mX2_partner d 0 0 [zR h, zI i] sp me Q := by
  refine z_met kX2_partner (by simp) (by simp) ?_
  show zW mX2_partner d 0 0 Q 0 [zR h, zI i] [] sp me
  refine z_L0R (pc' := 1) dX2_partner_0 rfl ?_
  refine z_getR (pc' := 4) (ki := 0) 0 fX2_9.l rfl rfl dX2_partner_1 rfl hh.s hh.p0 ?_
  refine z_L1I (pc' := 5) dX2_partner_4 rfl ?_
  refine z_S2v (pc' := 8) kX8_read lX2_23 dX2_partner_5 rfl (by omega) (Nat.le_of_ble_eq_true rfl) ?_
  refine c_read hh.a1 (zKv_i ?_)
  refine z_ireturn rfl rfl dX2_partner_8 ?_
  exact hQ
set_option maxRecDepth 100000 in
set_option maxHeartbeats 1000000 in
theorem c_pairs {d : Nat} {sp : zSP} {me : zMe} {Q : zQ} {h : Nat} (hh : zHold sp h) (hQ : Q (some (zI (me h 1))) sp me) : zCall mX2_pairs d 0 0 [zR h] sp me Q := by
  refine z_met kX2_pairs (by simp) (by simp) ?_
  show zW mX2_pairs d 0 0 Q 0 [zR h] [] sp me
  refine z_L0R (pc' := 1) dX2_pairs_0 rfl ?_
  refine z_getI (pc' := 4) (ki := 1) 1 fX2_15.l rfl rfl dX2_pairs_1 rfl hh.s ?_
  refine z_ireturn rfl rfl dX2_pairs_4 ?_
  exact hQ
set_option maxRecDepth 100000 in
set_option maxHeartbeats 1000000 in
theorem c_holdCopy {d : Nat} {sp : zSP} {me : zMe} {Q : zQ} {h e : Nat} (hd : 2 ≤ d) (hh : zHold sp h) (he : zHold sp e) (hne : h = e ∨ h + 1 < e ∨ e + 1 < h) (hQ : Q none sp (zset (zset me (h + 1) (me (e + 1))) h (zup (me h) 1 (me e 1)))) : zCall mX2_copyFrom d 0 0 [zR h, zR e] sp me Q := by
  refine z_met kX2_copyFrom (by simp) (by simp) ?_
  show zW mX2_copyFrom d 0 0 Q 0 [zR h, zR e] [] sp me
  refine z_L1R (pc' := 1) dX2_copyFrom_0 rfl ?_
  refine z_getR (pc' := 4) (ki := 0) 0 fX2_9.l rfl rfl dX2_copyFrom_1 rfl (by first | exact hh.s | exact he.s) (by first | exact hh.p0 | exact he.p0) ?_
  refine z_L0R (pc' := 5) dX2_copyFrom_4 rfl ?_
  refine z_getR (pc' := 8) (ki := 0) 0 fX2_9.l rfl rfl dX2_copyFrom_5 rfl (by first | exact hh.s | exact he.s) (by first | exact hh.p0 | exact he.p0) ?_
  refine z_S20 (pc' := 11) kX8_copy lX2_19 dX2_copyFrom_8 rfl (by omega) (Nat.le_of_ble_eq_true rfl) ?_
  refine c_copy (by omega) he.a1 hh.a1 (zK0_i ?_)
  refine z_L0R (pc' := 12) dX2_copyFrom_11 rfl ?_
  refine z_L1R (pc' := 13) dX2_copyFrom_12 rfl ?_
  refine z_getI (pc' := 16) (ki := 1) 1 fX2_15.l rfl rfl dX2_copyFrom_13 rfl (by first | exact hh.s | exact he.s) ?_
  refine z_putI (pc' := 19) (ki := 1) 1 fX2_15.l rfl (Or.inl rfl) rfl dX2_copyFrom_16 rfl (by first | exact hh.s | exact he.s) ?_
  rw [zset_ne _ _ _ (show e ≠ h + 1 by omega), zset_ne _ _ _ (show h ≠ h + 1 by omega)]
  refine z_return rfl rfl dX2_copyFrom_19 ?_
  exact hQ
set_option maxRecDepth 100000 in
set_option maxHeartbeats 1000000 in
theorem c_join {d : Nat} {sp : zSP} {me : zMe} {Q : zQ} {h : Nat} {i j : Int} (hd : 1 ≤ d) (hh : zHold sp h) (hi0 : 0 ≤ i) (hi1 : i < 10) (hj0 : 0 ≤ j) (hj1 : j < 10) (hp0 : -100 ≤ me h 1) (hp1 : me h 1 ≤ 100) (hQ : Q none sp (zset (zset me (h + 1) (zup (zup (me (h + 1)) i j) j i)) h (zup (me h) 1 (me h 1 + 1)))) : zCall mX2_join d 0 0 [zR h, zI i, zI j] sp me Q := by
  refine z_met kX2_join (by simp) (by simp) ?_
  show zW mX2_join d 0 0 Q 0 [zR h, zI i, zI j] [] sp me
  refine z_L0R (pc' := 1) dX2_join_0 rfl ?_
  refine z_getR (pc' := 4) (ki := 0) 0 fX2_9.l rfl rfl dX2_join_1 rfl hh.s hh.p0 ?_
  refine z_L1I (pc' := 5) dX2_join_4 rfl ?_
  refine z_L2I (pc' := 6) dX2_join_5 rfl ?_
  refine z_S30 (pc' := 9) kX8_write lX2_27 dX2_join_6 rfl (by omega) (Nat.le_of_ble_eq_true rfl) ?_
  refine c_write hh.a1 (by omega) (by omega) (zK0_i ?_)
  refine z_L0R (pc' := 10) dX2_join_9 rfl ?_
  refine z_getR (pc' := 13) (ki := 0) 0 fX2_9.l rfl rfl dX2_join_10 rfl hh.s hh.p0 ?_
  refine z_L2I (pc' := 14) dX2_join_13 rfl ?_
  refine z_L1I (pc' := 15) dX2_join_14 rfl ?_
  refine z_S30 (pc' := 18) kX8_write lX2_27 dX2_join_15 rfl (by omega) (Nat.le_of_ble_eq_true rfl) ?_
  refine c_write hh.a1 (by omega) (by omega) (zK0_i ?_)
  simp (disch := first | omega | rfl) only [zset_eq, zset_ne, zset_11, zset_21, zset_31, zset_41, zfil_up, zup_eq, zup_ne]
  refine z_L0R (pc' := 19) dX2_join_18 rfl ?_
  refine z_dupR (pc' := 20) dX2_join_19 rfl ?_
  refine z_getI (pc' := 23) (ki := 1) 1 fX2_15.l rfl rfl dX2_join_20 rfl hh.s ?_
  refine z_iconst (pc' := 24) dX2_join_23 rfl (by unfold zin; decide) ?_
  rw [zset_ne _ _ _ (show h ≠ h + 1 by omega)]
  refine z_iadd (pc' := 25) dX2_join_24 rfl (by unfold zin; omega) ?_
  refine z_putI (pc' := 28) (ki := 1) 1 fX2_15.l rfl (Or.inl rfl) rfl dX2_join_25 rfl hh.s ?_
  rw [zset_ne _ _ _ (show h ≠ h + 1 by omega)]
  refine z_return rfl rfl dX2_join_28 ?_
  exact hQ
set_option maxRecDepth 100000 in
set_option maxHeartbeats 1000000 in
theorem c_part {d : Nat} {sp : zSP} {me : zMe} {Q : zQ} {h : Nat} {i j : Int} (hd : 1 ≤ d) (hh : zHold sp h) (hi0 : 0 ≤ i) (hi1 : i < 10) (hj0 : 0 ≤ j) (hj1 : j < 10) (hp0 : -100 ≤ me h 1) (hp1 : me h 1 ≤ 100) (hQ : Q none sp (zset (zset me (h + 1) (zup (zup (me (h + 1)) i (-5)) j (-5))) h (zup (me h) 1 (me h 1 - 1)))) : zCall mX2_part d 0 0 [zR h, zI i, zI j] sp me Q := by
  refine z_met kX2_part (by simp) (by simp) ?_
  show zW mX2_part d 0 0 Q 0 [zR h, zI i, zI j] [] sp me
  refine z_L0R (pc' := 1) dX2_part_0 rfl ?_
  refine z_getR (pc' := 4) (ki := 0) 0 fX2_9.l rfl rfl dX2_part_1 rfl hh.s hh.p0 ?_
  refine z_L1I (pc' := 5) dX2_part_4 rfl ?_
  refine z_bipush (pc' := 7) dX2_part_5 rfl (by decide) ?_
  refine z_S30 (pc' := 10) kX8_write lX2_27 dX2_part_7 rfl (by omega) (Nat.le_of_ble_eq_true rfl) ?_
  refine c_write hh.a1 (by omega) (by omega) (zK0_i ?_)
  refine z_L0R (pc' := 11) dX2_part_10 rfl ?_
  refine z_getR (pc' := 14) (ki := 0) 0 fX2_9.l rfl rfl dX2_part_11 rfl hh.s hh.p0 ?_
  refine z_L2I (pc' := 15) dX2_part_14 rfl ?_
  refine z_bipush (pc' := 17) dX2_part_15 rfl (by decide) ?_
  refine z_S30 (pc' := 20) kX8_write lX2_27 dX2_part_17 rfl (by omega) (Nat.le_of_ble_eq_true rfl) ?_
  refine c_write hh.a1 (by omega) (by omega) (zK0_i ?_)
  simp (disch := first | omega | rfl) only [zset_eq, zset_ne, zset_11, zset_21, zset_31, zset_41, zfil_up, zup_eq, zup_ne]
  refine z_L0R (pc' := 21) dX2_part_20 rfl ?_
  refine z_dupR (pc' := 22) dX2_part_21 rfl ?_
  refine z_getI (pc' := 25) (ki := 1) 1 fX2_15.l rfl rfl dX2_part_22 rfl hh.s ?_
  refine z_iconst (pc' := 26) dX2_part_25 rfl (by unfold zin; decide) ?_
  rw [zset_ne _ _ _ (show h ≠ h + 1 by omega)]
  refine z_isub (pc' := 27) dX2_part_26 rfl (by unfold zin; omega) ?_
  refine z_putI (pc' := 30) (ki := 1) 1 fX2_15.l rfl (Or.inl rfl) rfl dX2_part_27 rfl hh.s ?_
  rw [zset_ne _ _ _ (show h ≠ h + 1 by omega)]
  refine z_return rfl rfl dX2_part_30 ?_
  exact hQ
/-- those who hold each other stay neighbors -/
def zkept (w h : Int → Int) (p : Int) : Prop := h (w p) = -5 ∨ h (w p) = w ((p + 1) % 10) ∨ h (w p) = w ((p + 10 - 1) % 10)
def zkall (w h : Int → Int) : Prop := ∀ p, 0 ≤ p → p < 10 → zkept w h p
set_option maxRecDepth 100000 in
set_option maxHeartbeats 1000000 in
theorem c_isKeptAt {d : Nat} {sp : zSP} {me : zMe} {Q : zQ} {h r : Nat} {p : Int} (hd : 2 ≤ d) (hh : zHold sp h) (hr : zRing sp r) (hp0 : 0 ≤ p) (hp1 : p < 10) (hQ1 : zkept (me (r + 1)) (me (h + 1)) p → Q (some (zI 1)) sp me) (hQ0 : ¬ zkept (me (r + 1)) (me (h + 1)) p → Q (some (zI 0)) sp me) : zCall mX2_isKeptAt d 0 0 [zR h, zR r, zI p] sp me Q := by
  refine z_met kX2_isKeptAt (by simp) (by simp) ?_
  show zW mX2_isKeptAt d 0 0 Q 0 [zR h, zR r, zI p, zU] [] sp me
  unfold zkept at hQ1 hQ0
  refine z_L0R (pc' := 1) dX2_isKeptAt_0 rfl ?_
  refine z_L1R (pc' := 2) dX2_isKeptAt_1 rfl ?_
  refine z_L2I (pc' := 3) dX2_isKeptAt_2 rfl ?_
  refine z_V1v (pc' := 6) (ci := 4) kX4_dancerAt lX2_35 dX2_isKeptAt_3 rfl (by omega) (Nat.le_of_ble_eq_true rfl) (by decide) rfl hr.s ?_
  refine c_dancerAt (by omega) hr (zKv_i ?_)
  refine z_V1v (pc' := 9) (ci := 2) kX2_partner lX2_41 dX2_isKeptAt_6 rfl (by omega) (Nat.le_of_ble_eq_true rfl) (by decide) rfl hh.s ?_
  refine c_partner (by omega) hh (zKv_i ?_)
  refine z_S3I (pc' := 10) rfl dX2_isKeptAt_9 rfl ?_
  refine z_L3I (pc' := 11) dX2_isKeptAt_10 rfl ?_
  refine z_bipush (pc' := 13) dX2_isKeptAt_11 rfl (by decide) ?_
  refine z_icmp_eq (tgt := 47) (pc' := 16) dX2_isKeptAt_13 (by decide) rfl (fun h13 => ?_) (fun h13 => ?_)
  · refine z_iconst (pc' := 48) dX2_isKeptAt_47 rfl (by unfold zin; decide) ?_
    refine z_goto (tgt := 52) dX2_isKeptAt_48 (by decide) ?_
    refine z_zreturn rfl rfl dX2_isKeptAt_52 (by omega) ?_
    first | exact hQ1 (Or.inl h13) | exact hQ1 (Or.inr (Or.inl h27)) | exact hQ1 (Or.inr (Or.inr h44)) | exact hQ0 (fun z => z.elim h13 (fun z => z.elim h27 h44))
  · refine z_L3I (pc' := 17) dX2_isKeptAt_16 rfl ?_
    refine z_L1R (pc' := 18) dX2_isKeptAt_17 rfl ?_
    refine z_L2I (pc' := 19) dX2_isKeptAt_18 rfl ?_
    refine z_iconst (pc' := 20) dX2_isKeptAt_19 rfl (by unfold zin; decide) ?_
    refine z_iadd (pc' := 21) dX2_isKeptAt_20 rfl (by unfold zin; omega) ?_
    refine z_bipush (pc' := 23) dX2_isKeptAt_21 rfl (by decide) ?_
    refine z_irem (pc' := 24) dX2_isKeptAt_23 rfl (by omega) (by omega) ?_
    refine z_V1v (pc' := 27) (ci := 4) kX4_dancerAt lX2_35 dX2_isKeptAt_24 rfl (by omega) (Nat.le_of_ble_eq_true rfl) (by decide) rfl hr.s ?_
    refine c_dancerAt (by omega) hr (zKv_i ?_)
    refine z_icmp_eq (tgt := 47) (pc' := 30) dX2_isKeptAt_27 (by decide) rfl (fun h27 => ?_) (fun h27 => ?_)
    · refine z_iconst (pc' := 48) dX2_isKeptAt_47 rfl (by unfold zin; decide) ?_
      refine z_goto (tgt := 52) dX2_isKeptAt_48 (by decide) ?_
      refine z_zreturn rfl rfl dX2_isKeptAt_52 (by omega) ?_
      first | exact hQ1 (Or.inl h13) | exact hQ1 (Or.inr (Or.inl h27)) | exact hQ1 (Or.inr (Or.inr h44)) | exact hQ0 (fun z => z.elim h13 (fun z => z.elim h27 h44))
    · refine z_L3I (pc' := 31) dX2_isKeptAt_30 rfl ?_
      refine z_L1R (pc' := 32) dX2_isKeptAt_31 rfl ?_
      refine z_L2I (pc' := 33) dX2_isKeptAt_32 rfl ?_
      refine z_bipush (pc' := 35) dX2_isKeptAt_33 rfl (by decide) ?_
      refine z_iadd (pc' := 36) dX2_isKeptAt_35 rfl (by unfold zin; omega) ?_
      refine z_iconst (pc' := 37) dX2_isKeptAt_36 rfl (by unfold zin; decide) ?_
      refine z_isub (pc' := 38) dX2_isKeptAt_37 rfl (by unfold zin; omega) ?_
      refine z_bipush (pc' := 40) dX2_isKeptAt_38 rfl (by decide) ?_
      refine z_irem (pc' := 41) dX2_isKeptAt_40 rfl (by omega) (by omega) ?_
      refine z_V1v (pc' := 44) (ci := 4) kX4_dancerAt lX2_35 dX2_isKeptAt_41 rfl (by omega) (Nat.le_of_ble_eq_true rfl) (by decide) rfl hr.s ?_
      refine c_dancerAt (by omega) hr (zKv_i ?_)
      refine z_icmp_ne (tgt := 51) (pc' := 47) dX2_isKeptAt_44 (by decide) rfl (fun h44 => ?_) (fun h44 => ?_)
      · refine z_iconst (pc' := 52) dX2_isKeptAt_51 rfl (by unfold zin; decide) ?_
        refine z_zreturn rfl rfl dX2_isKeptAt_52 (by omega) ?_
        first | exact hQ1 (Or.inl h13) | exact hQ1 (Or.inr (Or.inl h27)) | exact hQ1 (Or.inr (Or.inr h44)) | exact hQ0 (fun z => z.elim h13 (fun z => z.elim h27 h44))
      · refine z_iconst (pc' := 48) dX2_isKeptAt_47 rfl (by unfold zin; decide) ?_
        refine z_goto (tgt := 52) dX2_isKeptAt_48 (by decide) ?_
        refine z_zreturn rfl rfl dX2_isKeptAt_52 (by omega) ?_
        first | exact hQ1 (Or.inl h13) | exact hQ1 (Or.inr (Or.inl h27)) | exact hQ1 (Or.inr (Or.inr h44)) | exact hQ0 (fun z => z.elim h13 (fun z => z.elim h27 h44))
set_option maxRecDepth 100000 in
set_option maxHeartbeats 1000000 in
theorem c_areKept {d : Nat} {sp : zSP} {me : zMe} {Q : zQ} {h r : Nat} (hd : 3 ≤ d) (hh : zHold sp h) (hr : zRing sp r) (hg : zgR (me (r + 1)) (me (r + 2))) (hpr : me h 1 = 0 → ∀ i, 0 ≤ i → i < 10 → me (h + 1) i = -5) (hQ1 : zkall (me (r + 1)) (me (h + 1)) → Q (some (zI 1)) sp me) (hQ0 : ¬ zkall (me (r + 1)) (me (h + 1)) → Q (some (zI 0)) sp me) : zCall mX2_areKept d 0 0 [zR h, zR r] sp me Q := by
  refine z_met kX2_areKept (by simp) (by simp) ?_
  show zW mX2_areKept d 0 0 Q 0 [zR h, zR r, zU] [] sp me
  refine z_L0R (pc' := 1) dX2_areKept_0 rfl ?_
  refine z_getI (pc' := 4) (ki := 1) 1 fX2_15.l rfl rfl dX2_areKept_1 rfl hh.s ?_
  refine z_if_ne (tgt := 9) (pc' := 7) dX2_areKept_4 (by decide) rfl (fun h4 => ?_) (fun h4 => ?_)
  · refine z_iconst (pc' := 10) dX2_areKept_9 rfl (by unfold zin; decide) ?_
    refine z_S2I (pc' := 11) rfl dX2_areKept_10 rfl ?_
    suffices H : ∀ (n : Nat) (k : Int), 0 ≤ k → k ≤ 10 → 10 - k < n → (∀ p, 0 ≤ p → p < k → zkept (me (r + 1)) (me (h + 1)) p) → zW mX2_areKept d 0 0 Q 11 [zR h, zR r, zI k] [] sp me by
      exact H 11 0 (by omega) (by omega) (by omega) (fun p h0 h1 => by omega)
    intro n
    induction n with
    | zero => intro k hk0 hk1 hk2; omega
    | succ n ih =>
    intro k hk0 hk1 hk2 hall
    refine z_L2I (pc' := 12) dX2_areKept_11 rfl ?_
    refine z_bipush (pc' := 14) dX2_areKept_12 rfl (by decide) ?_
    refine z_icmp_ge (tgt := 34) (pc' := 17) dX2_areKept_14 (by decide) rfl (fun h14 => ?_) (fun h14 => ?_)
    · refine z_iconst (pc' := 35) dX2_areKept_34 rfl (by unfold zin; decide) ?_
      refine z_zreturn rfl rfl dX2_areKept_35 (by omega) ?_
      exact hQ1 (fun p h0 h1 => hall p h0 (by omega))
    · refine z_L0R (pc' := 18) dX2_areKept_17 rfl ?_
      refine z_L1R (pc' := 19) dX2_areKept_18 rfl ?_
      refine z_L2I (pc' := 20) dX2_areKept_19 rfl ?_
      refine z_V2v (pc' := 23) (ci := 2) kX2_isKeptAt lX2_31 dX2_areKept_20 rfl (by omega) (Nat.le_of_ble_eq_true rfl) (by decide) rfl hh.s ?_
      refine c_isKeptAt (by omega) hh hr (by omega) (by omega) (fun hkk => zKv_i ?_) (fun hkk => zKv_i ?_)
      rotate_left
      · refine z_if_ne (tgt := 28) (pc' := 26) dX2_areKept_23 (by decide) rfl (fun h23 => absurd rfl h23) (fun h23 => ?_)
        refine z_iconst (pc' := 27) dX2_areKept_26 rfl (by unfold zin; decide) ?_
        refine z_zreturn rfl rfl dX2_areKept_27 (by omega) ?_
        exact hQ0 (fun z => hkk (z k (by omega) (by omega)))
      refine z_if_ne (tgt := 28) (pc' := 26) dX2_areKept_23 (by decide) rfl (fun h23 => ?_) (fun h23 => absurd h23 (by omega))
      refine z_inc2 (pc' := 31) rfl dX2_areKept_28 rfl (by unfold zin; omega) ?_
      refine z_goto (tgt := 11) dX2_areKept_31 (by decide) ?_
      refine ih (k + 1) (by omega) (by omega) (by omega) (fun p h0 h1 => ?_)
      by_cases e1 : p = k
      · subst e1; exact hkk
      · exact hall p h0 (by omega)
  · refine z_iconst (pc' := 8) dX2_areKept_7 rfl (by unfold zin; decide) ?_
    refine z_zreturn rfl rfl dX2_areKept_8 (by omega) ?_
    exact hQ1 (fun p h0 h1 => Or.inl (hpr (by omega) _ (hg.1 p h0 h1).1 (hg.1 p h0 h1).2.1))
/-- the holds: each one's partner holds back -/
def zHok (h : Int → Int) : Prop := (∀ i, 0 ≤ i → i < 10 → h i = -5 ∨ (0 ≤ h i ∧ h i < 10 ∧ h i ≠ i ∧ h (h i) = i)) ∧ ∀ i, ¬ (0 ≤ i ∧ i < 10) → h i = 0
/-- who must let go when all are home -/
def zunk (h : Int → Int) (i : Int) : Prop := h i ≠ -5 ∧ ¬ znb i (h i)
def zhh (h : Int → Int) (k : Int) : Int → Int := fun i => if 0 ≤ i ∧ i < 10 ∧ h i ≠ -5 ∧ ¬ (h i - i = 1 ∨ i - h i = 1 ∨ h i - i = 9 ∨ i - h i = 9) ∧ (i < k ∨ h i < k) then -5 else h i
def zhc (h : Int → Int) (k : Int) : Int := zSm (fun i => if i < h i ∧ ¬ (h i - i = 1 ∨ h i - i = 9) then 1 else 0) k
theorem zhh_10 (h : Int → Int) (k : Int) (hk : 10 ≤ k) : zhh h k = zhh h 10 := by
  funext i
  unfold zhh
  ((repeat' split) <;> first | rfl | (exfalso; omega) | (congr 1; omega) | (congr 2; omega) | (congr 3; omega) | omega)
set_option maxRecDepth 100000 in
set_option maxHeartbeats 1000000 in
theorem c_partNN {d : Nat} {sp : zSP} {me : zMe} {Q : zQ} {h r : Nat} (hd : 3 ≤ d) (hh : zHold sp h) (hr : zRing sp r) (hdis : r + 4 < h ∨ h + 1 < r) (hw : ∀ p, 0 ≤ p → p < 10 → me (r + 1) p = p) (hok : zHok (me (h + 1))) (hp0 : 0 ≤ me h 1) (hp1 : me h 1 ≤ 5) (hQ : Q (some (zI (zhc (me (h + 1)) 10))) sp (zset (zset me (h + 1) (zhh (me (h + 1)) 10)) h (zup (me h) 1 (me h 1 - zhc (me (h + 1)) 10)))) : zCall mX2_partNotNeighbors d 0 0 [zR h, zR r] sp me Q := by
  refine z_met kX2_partNotNeighbors (by simp) (by simp) ?_
  show zW mX2_partNotNeighbors d 0 0 Q 0 [zR h, zR r, zU, zU, zU] [] sp me
  refine z_iconst (pc' := 1) dX2_partNotNeighbors_0 rfl (by unfold zin; decide) ?_
  refine z_S2I (pc' := 2) rfl dX2_partNotNeighbors_1 rfl ?_
  refine z_iconst (pc' := 3) dX2_partNotNeighbors_2 rfl (by unfold zin; decide) ?_
  refine z_S3I (pc' := 4) rfl dX2_partNotNeighbors_3 rfl ?_
  suffices H : ∀ (n : Nat) (k : Int) (v : zV), 0 ≤ k → k ≤ 10 → 10 - k < n → zW mX2_partNotNeighbors d 0 0 Q 4 [zR h, zR r, zI (zhc (me (h + 1)) k), zI k, v] [] sp (zset (zset me (h + 1) (zhh (me (h + 1)) k)) h (zup (me h) 1 (me h 1 - zhc (me (h + 1)) k))) by
    refine zW_to (H 11 0 zU (by omega) (by omega) (by omega)) rfl rfl ?_
    have e0 : zhc (me (h + 1)) 0 = 0 := zSm_0 _
    have e1 : zhh (me (h + 1)) 0 = me (h + 1) := by
      funext i
      have := hok.1 i
      unfold zhh
      ((repeat' split) <;> first | rfl | (exfalso; omega) | (congr 1; omega) | (congr 2; omega) | (congr 3; omega) | omega)
    rw [e0, e1, Int.sub_zero, zup_self, zset_self, zset_self]
  intro n
  induction n with
  | zero => intro k v hk0 hk1 hk2; omega
  | succ n ih =>
  intro k v hk0 hk1 hk2
  have hbd := zSm_bd (g := fun i => if i < me (h + 1) i ∧ ¬ (me (h + 1) i - i = 1 ∨ me (h + 1) i - i = 9) then 1 else 0) (a := 0) (b := 1) (fun p _ => by split <;> omega) k hk0
  have hbd : 0 ≤ zhc (me (h + 1)) k ∧ zhc (me (h + 1)) k ≤ 10 := by unfold zhc; omega
  have e9 : zhc (me (h + 1)) (k + 1) = zhc (me (h + 1)) k + (if k < me (h + 1) k ∧ ¬ (me (h + 1) k - k = 1 ∨ me (h + 1) k - k = 9) then 1 else 0) := zSm_up _ _ hk0
  refine z_L3I (pc' := 5) dX2_partNotNeighbors_4 rfl ?_
  refine z_bipush (pc' := 7) dX2_partNotNeighbors_5 rfl (by decide) ?_
  refine z_icmp_ge (tgt := 47) (pc' := 10) dX2_partNotNeighbors_7 (by decide) rfl (fun h7 => ?_) (fun h7 => ?_)
  · obtain rfl : k = 10 := by omega
    refine z_L2I (pc' := 48) dX2_partNotNeighbors_47 rfl ?_
    refine z_ireturn rfl rfl dX2_partNotNeighbors_48 ?_
    exact hQ
  · refine z_L0R (pc' := 11) dX2_partNotNeighbors_10 rfl ?_
    refine z_L1R (pc' := 12) dX2_partNotNeighbors_11 rfl ?_
    refine z_L3I (pc' := 13) dX2_partNotNeighbors_12 rfl ?_
    refine z_V2v (pc' := 16) (ci := 2) kX2_isKeptAt lX2_31 dX2_partNotNeighbors_13 rfl (by omega) (Nat.le_of_ble_eq_true rfl) (by decide) rfl hh.s ?_
    have er1 : ∀ F G, zset (zset me (h + 1) F) h G (r + 1) = me (r + 1) := fun F G => by rw [zset_ne _ _ _ (by omega), zset_ne _ _ _ (by omega)]
    have eh1 : ∀ F G, zset (zset me (h + 1) F) h G (h + 1) = F := fun F G => by rw [zset_ne _ _ _ (by omega), zset_eq]
    have hokk := hok.1 k hk0 (by omega)
    have ekept : zkept (me (r + 1)) (zhh (me (h + 1)) k) k ↔ ¬ (k < me (h + 1) k ∧ ¬ (me (h + 1) k - k = 1 ∨ me (h + 1) k - k = 9)) := by
      unfold zkept
      rw [hw k hk0 (by omega), hw ((k + 1) % 10) (by omega) (by omega), hw ((k + 10 - 1) % 10) (by omega) (by omega)]
      unfold zhh
      split <;> omega
    refine c_isKeptAt (by omega) hh hr (by omega) (by omega) (fun hkk => zKv_i ?_) (fun hkk => zKv_i ?_)
    rotate_left
    · rw [er1, eh1, ekept] at hkk
      have hkk : k < me (h + 1) k ∧ ¬ (me (h + 1) k - k = 1 ∨ me (h + 1) k - k = 9) := Decidable.not_not.mp hkk
      refine z_if_ne (tgt := 41) (pc' := 19) dX2_partNotNeighbors_16 (by decide) rfl (fun h23 => absurd rfl h23) (fun h23 => ?_)
      refine z_L1R (pc' := 20) dX2_partNotNeighbors_19 rfl ?_
      refine z_L3I (pc' := 21) dX2_partNotNeighbors_20 rfl ?_
      refine z_V1v (pc' := 24) (ci := 4) kX4_dancerAt lX2_35 dX2_partNotNeighbors_21 rfl (by omega) (Nat.le_of_ble_eq_true rfl) (by decide) rfl hr.s ?_
      refine c_dancerAt (by omega) hr (zKv_i ?_)
      rw [er1, hw k hk0 (by omega)]
      refine z_S4I (pc' := 26) rfl dX2_partNotNeighbors_24 rfl ?_
      refine z_L0R (pc' := 27) dX2_partNotNeighbors_26 rfl ?_
      refine z_L4I (pc' := 29) dX2_partNotNeighbors_27 rfl ?_
      refine z_L0R (pc' := 30) dX2_partNotNeighbors_29 rfl ?_
      refine z_L4I (pc' := 32) dX2_partNotNeighbors_30 rfl ?_
      refine z_V1v (pc' := 35) (ci := 2) kX2_partner lX2_41 dX2_partNotNeighbors_32 rfl (by omega) (Nat.le_of_ble_eq_true rfl) (by decide) rfl hh.s ?_
      refine c_partner (by omega) hh (zKv_i ?_)
      have ek : zhh (me (h + 1)) k k = me (h + 1) k := by unfold zhh; rw [if_neg (by omega)]
      rw [eh1, ek]
      refine z_V20 (pc' := 38) (ci := 2) kX2_part lX2_44 dX2_partNotNeighbors_35 rfl (by omega) (Nat.le_of_ble_eq_true rfl) (by decide) rfl hh.s ?_
      refine c_part (by omega) hh hk0 (by omega) (by omega) (by omega) (by rw [zset_eq, zup_eq]; omega) (by rw [zset_eq, zup_eq]; omega) (zK0_i ?_)
      refine z_inc2 (pc' := 41) rfl dX2_partNotNeighbors_38 rfl (by unfold zin; omega) ?_
      refine z_inc3 (pc' := 44) rfl dX2_partNotNeighbors_41 rfl (by unfold zin; omega) ?_
      refine z_goto (tgt := 4) dX2_partNotNeighbors_44 (by decide) ?_
      rw [if_pos hkk] at e9
      refine zW_to (ih (k + 1) (zI k) (by omega) (by omega) (by omega)) (by rw [e9]) rfl ?_
      simp (disch := first | omega | rfl) only [zset_eq, zset_ne, zset_11, zset_21, zset_31, zset_41, zfil_up, zup_eq, zup_ne]
      have e10 : zup (zup (zhh (me (h + 1)) k) k (-5)) (me (h + 1) k) (-5) = zhh (me (h + 1)) (k + 1) := by
        funext i
        have hi := hok.1 i
        have hi2 := hok.2 i
        unfold zup zhh
        by_cases e1 : i = me (h + 1) k
        · rw [if_pos e1]
          have e2 : me (h + 1) i = k := by rw [e1]; omega
          rw [if_pos (by omega)]
        · rw [if_neg e1]
          by_cases e2 : i = k
          · rw [if_pos e2, if_pos (by rw [e2]; omega)]
          · rw [if_neg e2]
            have e3 : 0 ≤ i → i < 10 → me (h + 1) i ≠ k := fun h1 h2 h3 => by
              have h4 := hi h1 h2
              rw [h3] at h4
              omega
            ((repeat' split) <;> first | rfl | (exfalso; omega) | (congr 1; omega) | (congr 2; omega) | (congr 3; omega) | omega)
      rw [e10, e9, zup_zup]
      congr 2
      omega
    rw [er1, eh1, ekept] at hkk
    rw [if_neg hkk] at e9
    have e10 : zhh (me (h + 1)) k = zhh (me (h + 1)) (k + 1) := by
      funext i
      have hi := hok.1 i
      unfold zhh
      by_cases e2 : i = k
      · rw [e2]; split <;> split <;> omega
      · have e3 : 0 ≤ i → i < 10 → me (h + 1) i = k → me (h + 1) k = i := fun h1 h2 h3 => by
          have h4 := hi h1 h2
          rw [h3] at h4
          omega
        ((repeat' split) <;> first | rfl | (exfalso; omega) | (congr 1; omega) | (congr 2; omega) | (congr 3; omega) | omega)
    refine z_if_ne (tgt := 41) (pc' := 19) dX2_partNotNeighbors_16 (by decide) rfl (fun h16 => ?_) (fun h16 => absurd h16 (by omega))
    refine z_inc3 (pc' := 44) rfl dX2_partNotNeighbors_41 rfl (by unfold zin; omega) ?_
    refine z_goto (tgt := 4) dX2_partNotNeighbors_44 (by decide) ?_
    refine zW_to (ih (k + 1) v (by omega) (by omega) (by omega)) (by rw [e9, Int.add_zero]) rfl ?_
    rw [e9, Int.add_zero, ← e10]
end ZHOLD
end
