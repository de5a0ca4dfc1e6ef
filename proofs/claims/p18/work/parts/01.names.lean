-- ===== PART A: goes FIRST, ahead of the names: the tables' words, and 'selects' of the private methods out of them =====
/-- a private method of a class that the tables say can be made, by its rows of tables_1 -/
noncomputable def lw_okq (q : MethodName × Nat) : Prop := (q.1.cls ≠ "java/lang/invoke/MethodHandle" ∧ q.1.cls ≠ "java/lang/invoke/VarHandle") ∧ Cond.instantiable q.1.cls q.2 ∈ tables_1 ∧ Cond.privateMethod q.1 ∈ tables_1 ∧ Cond.instanceMethod q.1 ∈ tables_1
theorem lw_p0 : lw_okq (⟨"GlassBox", "refuse", "(I)I"⟩, 18) := ⟨⟨by decide +kernel, by decide +kernel⟩, List.mem_of_getElem? (i := 22) (by decide +kernel), List.mem_of_getElem? (i := 420) (by decide +kernel), List.mem_of_getElem? (i := 421) (by decide +kernel)⟩
theorem lw_p1 : lw_okq (⟨"GlassBox", "accept", "(I)I"⟩, 18) := ⟨⟨by decide +kernel, by decide +kernel⟩, List.mem_of_getElem? (i := 22) (by decide +kernel), List.mem_of_getElem? (i := 431) (by decide +kernel), List.mem_of_getElem? (i := 432) (by decide +kernel)⟩
theorem lw_p2 : lw_okq (⟨"GlassBox", "takeTape", "()I"⟩, 18) := ⟨⟨by decide +kernel, by decide +kernel⟩, List.mem_of_getElem? (i := 22) (by decide +kernel), List.mem_of_getElem? (i := 464) (by decide +kernel), List.mem_of_getElem? (i := 465) (by decide +kernel)⟩
theorem lw_p3 : lw_okq (⟨"GlassBox", "isRow", "(I)Z"⟩, 18) := ⟨⟨by decide +kernel, by decide +kernel⟩, List.mem_of_getElem? (i := 22) (by decide +kernel), List.mem_of_getElem? (i := 471) (by decide +kernel), List.mem_of_getElem? (i := 472) (by decide +kernel)⟩
theorem lw_p4 : lw_okq (⟨"GlassBox$State", "beginsWith", "(I[III)Z"⟩, 16) := ⟨⟨by decide +kernel, by decide +kernel⟩, List.mem_of_getElem? (i := 30) (by decide +kernel), List.mem_of_getElem? (i := 479) (by decide +kernel), List.mem_of_getElem? (i := 480) (by decide +kernel)⟩
theorem lw_p5 : lw_okq (⟨"GlassBox$Tree", "growSentence", "(LGlassBox$State;II)V"⟩, 18) := ⟨⟨by decide +kernel, by decide +kernel⟩, List.mem_of_getElem? (i := 162) (by decide +kernel), List.mem_of_getElem? (i := 566) (by decide +kernel), List.mem_of_getElem? (i := 567) (by decide +kernel)⟩
theorem lw_p6 : lw_okq (⟨"GlassBox$Tree", "addPlace", "(ILGlassBox$State;I)I"⟩, 18) := ⟨⟨by decide +kernel, by decide +kernel⟩, List.mem_of_getElem? (i := 162) (by decide +kernel), List.mem_of_getElem? (i := 575) (by decide +kernel), List.mem_of_getElem? (i := 576) (by decide +kernel)⟩
theorem lw_p7 : lw_okq (⟨"GlassBox$Tree", "describe", "(LGlassBox$State;II)V"⟩, 18) := ⟨⟨by decide +kernel, by decide +kernel⟩, List.mem_of_getElem? (i := 162) (by decide +kernel), List.mem_of_getElem? (i := 582) (by decide +kernel), List.mem_of_getElem? (i := 583) (by decide +kernel)⟩
theorem lw_p8 : lw_okq (⟨"GlassBox$Solver", "lossFrom", "(IIII)J"⟩, 5) := ⟨⟨by decide +kernel, by decide +kernel⟩, List.mem_of_getElem? (i := 244) (by decide +kernel), List.mem_of_getElem? (i := 606) (by decide +kernel), List.mem_of_getElem? (i := 607) (by decide +kernel)⟩
theorem lw_p9 : lw_okq (⟨"GlassBox$Solver", "seenFrom", "(III)I"⟩, 5) := ⟨⟨by decide +kernel, by decide +kernel⟩, List.mem_of_getElem? (i := 244) (by decide +kernel), List.mem_of_getElem? (i := 610) (by decide +kernel), List.mem_of_getElem? (i := 611) (by decide +kernel)⟩
theorem lw_p10 : lw_okq (⟨"GlassBox$Solver", "fateOf", "(II)I"⟩, 5) := ⟨⟨by decide +kernel, by decide +kernel⟩, List.mem_of_getElem? (i := 244) (by decide +kernel), List.mem_of_getElem? (i := 620) (by decide +kernel), List.mem_of_getElem? (i := 621) (by decide +kernel)⟩
theorem lw_p11 : lw_okq (⟨"GlassBox$Solver", "choose", "(IIII)J"⟩, 5) := ⟨⟨by decide +kernel, by decide +kernel⟩, List.mem_of_getElem? (i := 244) (by decide +kernel), List.mem_of_getElem? (i := 624) (by decide +kernel), List.mem_of_getElem? (i := 625) (by decide +kernel)⟩
theorem lw_p12 : lw_okq (⟨"GlassBox$Solver", "lossAfter", "(IIII)J"⟩, 5) := ⟨⟨by decide +kernel, by decide +kernel⟩, List.mem_of_getElem? (i := 244) (by decide +kernel), List.mem_of_getElem? (i := 629) (by decide +kernel), List.mem_of_getElem? (i := 630) (by decide +kernel)⟩
theorem lw_p13 : lw_okq (⟨"GlassBox$Solver", "chooseNext", "(IIII)J"⟩, 5) := ⟨⟨by decide +kernel, by decide +kernel⟩, List.mem_of_getElem? (i := 244) (by decide +kernel), List.mem_of_getElem? (i := 637) (by decide +kernel), List.mem_of_getElem? (i := 638) (by decide +kernel)⟩
theorem lw_p14 : lw_okq (⟨"GlassBox$Solver", "chooseMend", "(IIIII)J"⟩, 5) := ⟨⟨by decide +kernel, by decide +kernel⟩, List.mem_of_getElem? (i := 244) (by decide +kernel), List.mem_of_getElem? (i := 647) (by decide +kernel), List.mem_of_getElem? (i := 648) (by decide +kernel)⟩
theorem lw_p15 : lw_okq (⟨"GlassBox", "putBytes", "(I)V"⟩, 18) := ⟨⟨by decide +kernel, by decide +kernel⟩, List.mem_of_getElem? (i := 22) (by decide +kernel), List.mem_of_getElem? (i := 701) (by decide +kernel), List.mem_of_getElem? (i := 702) (by decide +kernel)⟩
noncomputable def lw_privs_1 : List (MethodName × Nat) := [(⟨"GlassBox", "refuse", "(I)I"⟩, 18), (⟨"GlassBox", "accept", "(I)I"⟩, 18), (⟨"GlassBox", "takeTape", "()I"⟩, 18), (⟨"GlassBox", "isRow", "(I)Z"⟩, 18), (⟨"GlassBox$State", "beginsWith", "(I[III)Z"⟩, 16), (⟨"GlassBox$Tree", "growSentence", "(LGlassBox$State;II)V"⟩, 18), (⟨"GlassBox$Tree", "addPlace", "(ILGlassBox$State;I)I"⟩, 18), (⟨"GlassBox$Tree", "describe", "(LGlassBox$State;II)V"⟩, 18), (⟨"GlassBox$Solver", "lossFrom", "(IIII)J"⟩, 5), (⟨"GlassBox$Solver", "seenFrom", "(III)I"⟩, 5), (⟨"GlassBox$Solver", "fateOf", "(II)I"⟩, 5), (⟨"GlassBox$Solver", "choose", "(IIII)J"⟩, 5), (⟨"GlassBox$Solver", "lossAfter", "(IIII)J"⟩, 5), (⟨"GlassBox$Solver", "chooseNext", "(IIII)J"⟩, 5), (⟨"GlassBox$Solver", "chooseMend", "(IIIII)J"⟩, 5), (⟨"GlassBox", "putBytes", "(I)V"⟩, 18)]
theorem lw_r1 : ∀ q ∈ lw_privs_1, lw_okq q := List.forall_mem_cons.mpr ⟨lw_p0, List.forall_mem_cons.mpr ⟨lw_p1, List.forall_mem_cons.mpr ⟨lw_p2, List.forall_mem_cons.mpr ⟨lw_p3, List.forall_mem_cons.mpr ⟨lw_p4, List.forall_mem_cons.mpr ⟨lw_p5, List.forall_mem_cons.mpr ⟨lw_p6, List.forall_mem_cons.mpr ⟨lw_p7, List.forall_mem_cons.mpr ⟨lw_p8, List.forall_mem_cons.mpr ⟨lw_p9, List.forall_mem_cons.mpr ⟨lw_p10, List.forall_mem_cons.mpr ⟨lw_p11, List.forall_mem_cons.mpr ⟨lw_p12, List.forall_mem_cons.mpr ⟨lw_p13, List.forall_mem_cons.mpr ⟨lw_p14, List.forall_mem_cons.mpr ⟨lw_p15, fun _ h => absurd h List.not_mem_nil⟩⟩⟩⟩⟩⟩⟩⟩⟩⟩⟩⟩⟩⟩⟩⟩
theorem lw_p16 : lw_okq (⟨"GlassBox$Reader", "splitTokens", "([II)V"⟩, 11) := ⟨⟨by decide +kernel, by decide +kernel⟩, List.mem_of_getElem? (i := 121) (by decide +kernel), List.mem_of_getElem? (i := 718) (by decide +kernel), List.mem_of_getElem? (i := 719) (by decide +kernel)⟩
theorem lw_p17 : lw_okq (⟨"GlassBox$Reader", "takesClauses", "()Z"⟩, 11) := ⟨⟨by decide +kernel, by decide +kernel⟩, List.mem_of_getElem? (i := 121) (by decide +kernel), List.mem_of_getElem? (i := 788) (by decide +kernel), List.mem_of_getElem? (i := 789) (by decide +kernel)⟩
theorem lw_p18 : lw_okq (⟨"GlassBox$Reader", "fail", "()Z"⟩, 11) := ⟨⟨by decide +kernel, by decide +kernel⟩, List.mem_of_getElem? (i := 121) (by decide +kernel), List.mem_of_getElem? (i := 792) (by decide +kernel), List.mem_of_getElem? (i := 793) (by decide +kernel)⟩
theorem lw_p19 : lw_okq (⟨"GlassBox$Reader", "advance", "()V"⟩, 11) := ⟨⟨by decide +kernel, by decide +kernel⟩, List.mem_of_getElem? (i := 121) (by decide +kernel), List.mem_of_getElem? (i := 796) (by decide +kernel), List.mem_of_getElem? (i := 797) (by decide +kernel)⟩
theorem lw_p20 : lw_okq (⟨"GlassBox$Reader", "takesTest", "(I)Z"⟩, 11) := ⟨⟨by decide +kernel, by decide +kernel⟩, List.mem_of_getElem? (i := 121) (by decide +kernel), List.mem_of_getElem? (i := 800) (by decide +kernel), List.mem_of_getElem? (i := 801) (by decide +kernel)⟩
theorem lw_p21 : lw_okq (⟨"GlassBox$Reader", "takesBoth", "(I)Z"⟩, 11) := ⟨⟨by decide +kernel, by decide +kernel⟩, List.mem_of_getElem? (i := 121) (by decide +kernel), List.mem_of_getElem? (i := 804) (by decide +kernel), List.mem_of_getElem? (i := 805) (by decide +kernel)⟩
theorem lw_p22 : lw_okq (⟨"GlassBox$Reader", "takesPlain", "(I)Z"⟩, 11) := ⟨⟨by decide +kernel, by decide +kernel⟩, List.mem_of_getElem? (i := 121) (by decide +kernel), List.mem_of_getElem? (i := 808) (by decide +kernel), List.mem_of_getElem? (i := 809) (by decide +kernel)⟩
theorem lw_p23 : lw_okq (⟨"GlassBox$Reader", "takesBracket", "(I)Z"⟩, 11) := ⟨⟨by decide +kernel, by decide +kernel⟩, List.mem_of_getElem? (i := 121) (by decide +kernel), List.mem_of_getElem? (i := 812) (by decide +kernel), List.mem_of_getElem? (i := 813) (by decide +kernel)⟩
theorem lw_p24 : lw_okq (⟨"GlassBox$Reader", "takesSign", "(C)Z"⟩, 11) := ⟨⟨by decide +kernel, by decide +kernel⟩, List.mem_of_getElem? (i := 121) (by decide +kernel), List.mem_of_getElem? (i := 816) (by decide +kernel), List.mem_of_getElem? (i := 817) (by decide +kernel)⟩
theorem lw_p25 : lw_okq (⟨"GlassBox$Reader", "takesPart", "(II)Z"⟩, 11) := ⟨⟨by decide +kernel, by decide +kernel⟩, List.mem_of_getElem? (i := 121) (by decide +kernel), List.mem_of_getElem? (i := 820) (by decide +kernel), List.mem_of_getElem? (i := 821) (by decide +kernel)⟩
theorem lw_p26 : lw_okq (⟨"GlassBox$Reader", "put", "(II)I"⟩, 11) := ⟨⟨by decide +kernel, by decide +kernel⟩, List.mem_of_getElem? (i := 121) (by decide +kernel), List.mem_of_getElem? (i := 824) (by decide +kernel), List.mem_of_getElem? (i := 825) (by decide +kernel)⟩
theorem lw_p27 : lw_okq (⟨"GlassBox$Reader", "takesComparison", "(I)Z"⟩, 11) := ⟨⟨by decide +kernel, by decide +kernel⟩, List.mem_of_getElem? (i := 121) (by decide +kernel), List.mem_of_getElem? (i := 828) (by decide +kernel), List.mem_of_getElem? (i := 829) (by decide +kernel)⟩
theorem lw_p28 : lw_okq (⟨"GlassBox$Reader", "takesSum", "(I)Z"⟩, 11) := ⟨⟨by decide +kernel, by decide +kernel⟩, List.mem_of_getElem? (i := 121) (by decide +kernel), List.mem_of_getElem? (i := 832) (by decide +kernel), List.mem_of_getElem? (i := 833) (by decide +kernel)⟩
theorem lw_p29 : lw_okq (⟨"GlassBox$Reader", "takesTerm", "(I)Z"⟩, 11) := ⟨⟨by decide +kernel, by decide +kernel⟩, List.mem_of_getElem? (i := 121) (by decide +kernel), List.mem_of_getElem? (i := 836) (by decide +kernel), List.mem_of_getElem? (i := 837) (by decide +kernel)⟩
theorem lw_p30 : lw_okq (⟨"GlassBox$Reader", "takesFactor", "(I)Z"⟩, 11) := ⟨⟨by decide +kernel, by decide +kernel⟩, List.mem_of_getElem? (i := 121) (by decide +kernel), List.mem_of_getElem? (i := 840) (by decide +kernel), List.mem_of_getElem? (i := 841) (by decide +kernel)⟩
theorem lw_p31 : lw_okq (⟨"GlassBox$Reader", "aim", "(I)V"⟩, 11) := ⟨⟨by decide +kernel, by decide +kernel⟩, List.mem_of_getElem? (i := 121) (by decide +kernel), List.mem_of_getElem? (i := 844) (by decide +kernel), List.mem_of_getElem? (i := 845) (by decide +kernel)⟩
noncomputable def lw_privs_2 : List (MethodName × Nat) := [(⟨"GlassBox$Reader", "splitTokens", "([II)V"⟩, 11), (⟨"GlassBox$Reader", "takesClauses", "()Z"⟩, 11), (⟨"GlassBox$Reader", "fail", "()Z"⟩, 11), (⟨"GlassBox$Reader", "advance", "()V"⟩, 11), (⟨"GlassBox$Reader", "takesTest", "(I)Z"⟩, 11), (⟨"GlassBox$Reader", "takesBoth", "(I)Z"⟩, 11), (⟨"GlassBox$Reader", "takesPlain", "(I)Z"⟩, 11), (⟨"GlassBox$Reader", "takesBracket", "(I)Z"⟩, 11), (⟨"GlassBox$Reader", "takesSign", "(C)Z"⟩, 11), (⟨"GlassBox$Reader", "takesPart", "(II)Z"⟩, 11), (⟨"GlassBox$Reader", "put", "(II)I"⟩, 11), (⟨"GlassBox$Reader", "takesComparison", "(I)Z"⟩, 11), (⟨"GlassBox$Reader", "takesSum", "(I)Z"⟩, 11), (⟨"GlassBox$Reader", "takesTerm", "(I)Z"⟩, 11), (⟨"GlassBox$Reader", "takesFactor", "(I)Z"⟩, 11), (⟨"GlassBox$Reader", "aim", "(I)V"⟩, 11)]
theorem lw_r2 : ∀ q ∈ lw_privs_2, lw_okq q := List.forall_mem_cons.mpr ⟨lw_p16, List.forall_mem_cons.mpr ⟨lw_p17, List.forall_mem_cons.mpr ⟨lw_p18, List.forall_mem_cons.mpr ⟨lw_p19, List.forall_mem_cons.mpr ⟨lw_p20, List.forall_mem_cons.mpr ⟨lw_p21, List.forall_mem_cons.mpr ⟨lw_p22, List.forall_mem_cons.mpr ⟨lw_p23, List.forall_mem_cons.mpr ⟨lw_p24, List.forall_mem_cons.mpr ⟨lw_p25, List.forall_mem_cons.mpr ⟨lw_p26, List.forall_mem_cons.mpr ⟨lw_p27, List.forall_mem_cons.mpr ⟨lw_p28, List.forall_mem_cons.mpr ⟨lw_p29, List.forall_mem_cons.mpr ⟨lw_p30, List.forall_mem_cons.mpr ⟨lw_p31, fun _ h => absurd h List.not_mem_nil⟩⟩⟩⟩⟩⟩⟩⟩⟩⟩⟩⟩⟩⟩⟩⟩
theorem lw_p32 : lw_okq (⟨"GlassBox", "freshenTree", "()V"⟩, 18) := ⟨⟨by decide +kernel, by decide +kernel⟩, List.mem_of_getElem? (i := 22) (by decide +kernel), List.mem_of_getElem? (i := 896) (by decide +kernel), List.mem_of_getElem? (i := 897) (by decide +kernel)⟩
theorem lw_p33 : lw_okq (⟨"GlassBox$Booth", "askAll", "(LGlassBox$Tree;II)V"⟩, 7) := ⟨⟨by decide +kernel, by decide +kernel⟩, List.mem_of_getElem? (i := 268) (by decide +kernel), List.mem_of_getElem? (i := 905) (by decide +kernel), List.mem_of_getElem? (i := 906) (by decide +kernel)⟩
theorem lw_p34 : lw_okq (⟨"GlassBox$Booth", "askMends", "(LGlassBox$Tree;I)I"⟩, 7) := ⟨⟨by decide +kernel, by decide +kernel⟩, List.mem_of_getElem? (i := 268) (by decide +kernel), List.mem_of_getElem? (i := 914) (by decide +kernel), List.mem_of_getElem? (i := 915) (by decide +kernel)⟩
theorem lw_p35 : lw_okq (⟨"GlassBox$Booth", "chooseBy", "(LGlassBox$Tree;LGlassBox$Habit;I)I"⟩, 7) := ⟨⟨by decide +kernel, by decide +kernel⟩, List.mem_of_getElem? (i := 268) (by decide +kernel), List.mem_of_getElem? (i := 928) (by decide +kernel), List.mem_of_getElem? (i := 929) (by decide +kernel)⟩
theorem lw_p36 : lw_okq (⟨"GlassBox$Booth", "possible", "(LGlassBox$Tree;II)I"⟩, 7) := ⟨⟨by decide +kernel, by decide +kernel⟩, List.mem_of_getElem? (i := 268) (by decide +kernel), List.mem_of_getElem? (i := 932) (by decide +kernel), List.mem_of_getElem? (i := 933) (by decide +kernel)⟩
theorem lw_p37 : lw_okq (⟨"GlassBox$Booth", "isSo", "([III)Z"⟩, 7) := ⟨⟨by decide +kernel, by decide +kernel⟩, List.mem_of_getElem? (i := 268) (by decide +kernel), List.mem_of_getElem? (i := 936) (by decide +kernel), List.mem_of_getElem? (i := 937) (by decide +kernel)⟩
theorem lw_p38 : lw_okq (⟨"GlassBox$Booth", "isBroken", "(II)Z"⟩, 7) := ⟨⟨by decide +kernel, by decide +kernel⟩, List.mem_of_getElem? (i := 268) (by decide +kernel), List.mem_of_getElem? (i := 940) (by decide +kernel), List.mem_of_getElem? (i := 941) (by decide +kernel)⟩
theorem lw_p39 : lw_okq (⟨"GlassBox", "sparedBy", "(IJ)J"⟩, 18) := ⟨⟨by decide +kernel, by decide +kernel⟩, List.mem_of_getElem? (i := 22) (by decide +kernel), List.mem_of_getElem? (i := 980) (by decide +kernel), List.mem_of_getElem? (i := 981) (by decide +kernel)⟩
theorem lw_p40 : lw_okq (⟨"GlassBox$Chain", "extend", "([IIIII)V"⟩, 4) := ⟨⟨by decide +kernel, by decide +kernel⟩, List.mem_of_getElem? (i := 301) (by decide +kernel), List.mem_of_getElem? (i := 1009) (by decide +kernel), List.mem_of_getElem? (i := 1010) (by decide +kernel)⟩
theorem lw_p41 : lw_okq (⟨"GlassBox$Relief", "sitFrom", "(I[III)V"⟩, 4) := ⟨⟨by decide +kernel, by decide +kernel⟩, List.mem_of_getElem? (i := 322) (by decide +kernel), List.mem_of_getElem? (i := 1031) (by decide +kernel), List.mem_of_getElem? (i := 1032) (by decide +kernel)⟩
theorem lw_p42 : lw_okq (⟨"GlassBox", "soundsLike", "(I)Z"⟩, 18) := ⟨⟨by decide +kernel, by decide +kernel⟩, List.mem_of_getElem? (i := 22) (by decide +kernel), List.mem_of_getElem? (i := 1063) (by decide +kernel), List.mem_of_getElem? (i := 1064) (by decide +kernel)⟩
theorem lw_p43 : lw_okq (⟨"GlassBox", "pairsApart", "(I)I"⟩, 18) := ⟨⟨by decide +kernel, by decide +kernel⟩, List.mem_of_getElem? (i := 22) (by decide +kernel), List.mem_of_getElem? (i := 1071) (by decide +kernel), List.mem_of_getElem? (i := 1072) (by decide +kernel)⟩
theorem lw_p44 : lw_okq (⟨"GlassBoxModel", "refuses", "(I)I"⟩, 59) := ⟨⟨by decide +kernel, by decide +kernel⟩, List.mem_of_getElem? (i := 1095) (by decide +kernel), List.mem_of_getElem? (i := 1287) (by decide +kernel), List.mem_of_getElem? (i := 1288) (by decide +kernel)⟩
theorem lw_p45 : lw_okq (⟨"GlassBoxModel", "good", "(I)I"⟩, 59) := ⟨⟨by decide +kernel, by decide +kernel⟩, List.mem_of_getElem? (i := 1095) (by decide +kernel), List.mem_of_getElem? (i := 1291) (by decide +kernel), List.mem_of_getElem? (i := 1292) (by decide +kernel)⟩
theorem lw_p46 : lw_okq (⟨"GlassBoxModel", "term", "(I)I"⟩, 59) := ⟨⟨by decide +kernel, by decide +kernel⟩, List.mem_of_getElem? (i := 1095) (by decide +kernel), List.mem_of_getElem? (i := 1307) (by decide +kernel), List.mem_of_getElem? (i := 1308) (by decide +kernel)⟩
theorem lw_p47 : lw_okq (⟨"GlassBoxModel", "isTapeRow", "(II)Z"⟩, 59) := ⟨⟨by decide +kernel, by decide +kernel⟩, List.mem_of_getElem? (i := 1095) (by decide +kernel), List.mem_of_getElem? (i := 1327) (by decide +kernel), List.mem_of_getElem? (i := 1328) (by decide +kernel)⟩
noncomputable def lw_privs_3 : List (MethodName × Nat) := [(⟨"GlassBox", "freshenTree", "()V"⟩, 18), (⟨"GlassBox$Booth", "askAll", "(LGlassBox$Tree;II)V"⟩, 7), (⟨"GlassBox$Booth", "askMends", "(LGlassBox$Tree;I)I"⟩, 7), (⟨"GlassBox$Booth", "chooseBy", "(LGlassBox$Tree;LGlassBox$Habit;I)I"⟩, 7), (⟨"GlassBox$Booth", "possible", "(LGlassBox$Tree;II)I"⟩, 7), (⟨"GlassBox$Booth", "isSo", "([III)Z"⟩, 7), (⟨"GlassBox$Booth", "isBroken", "(II)Z"⟩, 7), (⟨"GlassBox", "sparedBy", "(IJ)J"⟩, 18), (⟨"GlassBox$Chain", "extend", "([IIIII)V"⟩, 4), (⟨"GlassBox$Relief", "sitFrom", "(I[III)V"⟩, 4), (⟨"GlassBox", "soundsLike", "(I)Z"⟩, 18), (⟨"GlassBox", "pairsApart", "(I)I"⟩, 18), (⟨"GlassBoxModel", "refuses", "(I)I"⟩, 59), (⟨"GlassBoxModel", "good", "(I)I"⟩, 59), (⟨"GlassBoxModel", "term", "(I)I"⟩, 59), (⟨"GlassBoxModel", "isTapeRow", "(II)Z"⟩, 59)]
theorem lw_r3 : ∀ q ∈ lw_privs_3, lw_okq q := List.forall_mem_cons.mpr ⟨lw_p32, List.forall_mem_cons.mpr ⟨lw_p33, List.forall_mem_cons.mpr ⟨lw_p34, List.forall_mem_cons.mpr ⟨lw_p35, List.forall_mem_cons.mpr ⟨lw_p36, List.forall_mem_cons.mpr ⟨lw_p37, List.forall_mem_cons.mpr ⟨lw_p38, List.forall_mem_cons.mpr ⟨lw_p39, List.forall_mem_cons.mpr ⟨lw_p40, List.forall_mem_cons.mpr ⟨lw_p41, List.forall_mem_cons.mpr ⟨lw_p42, List.forall_mem_cons.mpr ⟨lw_p43, List.forall_mem_cons.mpr ⟨lw_p44, List.forall_mem_cons.mpr ⟨lw_p45, List.forall_mem_cons.mpr ⟨lw_p46, List.forall_mem_cons.mpr ⟨lw_p47, fun _ h => absurd h List.not_mem_nil⟩⟩⟩⟩⟩⟩⟩⟩⟩⟩⟩⟩⟩⟩⟩⟩
theorem lw_p48 : lw_okq (⟨"GlassBoxModel", "lengthOf", "(I)I"⟩, 59) := ⟨⟨by decide +kernel, by decide +kernel⟩, List.mem_of_getElem? (i := 1095) (by decide +kernel), List.mem_of_getElem? (i := 1331) (by decide +kernel), List.mem_of_getElem? (i := 1332) (by decide +kernel)⟩
theorem lw_p49 : lw_okq (⟨"GlassBoxModel", "wordOfRow", "(II)I"⟩, 59) := ⟨⟨by decide +kernel, by decide +kernel⟩, List.mem_of_getElem? (i := 1095) (by decide +kernel), List.mem_of_getElem? (i := 1335) (by decide +kernel), List.mem_of_getElem? (i := 1336) (by decide +kernel)⟩
theorem lw_p50 : lw_okq (⟨"GlassBoxModel", "isSentence", "(I)Z"⟩, 59) := ⟨⟨by decide +kernel, by decide +kernel⟩, List.mem_of_getElem? (i := 1095) (by decide +kernel), List.mem_of_getElem? (i := 1343) (by decide +kernel), List.mem_of_getElem? (i := 1344) (by decide +kernel)⟩
theorem lw_p51 : lw_okq (⟨"GlassBoxModel", "isSpoken", "(I)Z"⟩, 59) := ⟨⟨by decide +kernel, by decide +kernel⟩, List.mem_of_getElem? (i := 1095) (by decide +kernel), List.mem_of_getElem? (i := 1355) (by decide +kernel), List.mem_of_getElem? (i := 1356) (by decide +kernel)⟩
theorem lw_p52 : lw_okq (⟨"GlassBoxModel", "weightOf", "(I)I"⟩, 59) := ⟨⟨by decide +kernel, by decide +kernel⟩, List.mem_of_getElem? (i := 1095) (by decide +kernel), List.mem_of_getElem? (i := 1359) (by decide +kernel), List.mem_of_getElem? (i := 1360) (by decide +kernel)⟩
theorem lw_p53 : lw_okq (⟨"GlassBoxModel", "setOf", "(IIZ)I"⟩, 59) := ⟨⟨by decide +kernel, by decide +kernel⟩, List.mem_of_getElem? (i := 1095) (by decide +kernel), List.mem_of_getElem? (i := 1363) (by decide +kernel), List.mem_of_getElem? (i := 1364) (by decide +kernel)⟩
theorem lw_p54 : lw_okq (⟨"GlassBoxModel", "begins", "(III)Z"⟩, 59) := ⟨⟨by decide +kernel, by decide +kernel⟩, List.mem_of_getElem? (i := 1095) (by decide +kernel), List.mem_of_getElem? (i := 1367) (by decide +kernel), List.mem_of_getElem? (i := 1368) (by decide +kernel)⟩
theorem lw_p55 : lw_okq (⟨"GlassBoxModel", "valuesOf", "(II)I"⟩, 59) := ⟨⟨by decide +kernel, by decide +kernel⟩, List.mem_of_getElem? (i := 1095) (by decide +kernel), List.mem_of_getElem? (i := 1371) (by decide +kernel), List.mem_of_getElem? (i := 1372) (by decide +kernel)⟩
theorem lw_p56 : lw_okq (⟨"GlassBoxModel", "valueOf", "(II)I"⟩, 59) := ⟨⟨by decide +kernel, by decide +kernel⟩, List.mem_of_getElem? (i := 1095) (by decide +kernel), List.mem_of_getElem? (i := 1375) (by decide +kernel), List.mem_of_getElem? (i := 1376) (by decide +kernel)⟩
theorem lw_p57 : lw_okq (⟨"GlassBoxModel", "weightOfValue", "(III)I"⟩, 59) := ⟨⟨by decide +kernel, by decide +kernel⟩, List.mem_of_getElem? (i := 1095) (by decide +kernel), List.mem_of_getElem? (i := 1386) (by decide +kernel), List.mem_of_getElem? (i := 1387) (by decide +kernel)⟩
theorem lw_p58 : lw_okq (⟨"GlassBoxModel", "weightOfAll", "(I)I"⟩, 59) := ⟨⟨by decide +kernel, by decide +kernel⟩, List.mem_of_getElem? (i := 1095) (by decide +kernel), List.mem_of_getElem? (i := 1390) (by decide +kernel), List.mem_of_getElem? (i := 1391) (by decide +kernel)⟩
theorem lw_p59 : lw_okq (⟨"GlassBoxModel", "openingFor", "(II)I"⟩, 59) := ⟨⟨by decide +kernel, by decide +kernel⟩, List.mem_of_getElem? (i := 1095) (by decide +kernel), List.mem_of_getElem? (i := 1401) (by decide +kernel), List.mem_of_getElem? (i := 1402) (by decide +kernel)⟩
theorem lw_p60 : lw_okq (⟨"GlassBoxModel", "leastOf", "()J"⟩, 59) := ⟨⟨by decide +kernel, by decide +kernel⟩, List.mem_of_getElem? (i := 1095) (by decide +kernel), List.mem_of_getElem? (i := 1409) (by decide +kernel), List.mem_of_getElem? (i := 1410) (by decide +kernel)⟩
theorem lw_p61 : lw_okq (⟨"GlassBoxModel", "overs", "(I)V"⟩, 59) := ⟨⟨by decide +kernel, by decide +kernel⟩, List.mem_of_getElem? (i := 1095) (by decide +kernel), List.mem_of_getElem? (i := 1413) (by decide +kernel), List.mem_of_getElem? (i := 1414) (by decide +kernel)⟩
theorem lw_p62 : lw_okq (⟨"GlassBoxModel", "place", "(IIZ)V"⟩, 59) := ⟨⟨by decide +kernel, by decide +kernel⟩, List.mem_of_getElem? (i := 1095) (by decide +kernel), List.mem_of_getElem? (i := 1417) (by decide +kernel), List.mem_of_getElem? (i := 1418) (by decide +kernel)⟩
theorem lw_p63 : lw_okq (⟨"GlassBoxModel", "wrongs", "(II)I"⟩, 59) := ⟨⟨by decide +kernel, by decide +kernel⟩, List.mem_of_getElem? (i := 1095) (by decide +kernel), List.mem_of_getElem? (i := 1424) (by decide +kernel), List.mem_of_getElem? (i := 1425) (by decide +kernel)⟩
noncomputable def lw_privs_4 : List (MethodName × Nat) := [(⟨"GlassBoxModel", "lengthOf", "(I)I"⟩, 59), (⟨"GlassBoxModel", "wordOfRow", "(II)I"⟩, 59), (⟨"GlassBoxModel", "isSentence", "(I)Z"⟩, 59), (⟨"GlassBoxModel", "isSpoken", "(I)Z"⟩, 59), (⟨"GlassBoxModel", "weightOf", "(I)I"⟩, 59), (⟨"GlassBoxModel", "setOf", "(IIZ)I"⟩, 59), (⟨"GlassBoxModel", "begins", "(III)Z"⟩, 59), (⟨"GlassBoxModel", "valuesOf", "(II)I"⟩, 59), (⟨"GlassBoxModel", "valueOf", "(II)I"⟩, 59), (⟨"GlassBoxModel", "weightOfValue", "(III)I"⟩, 59), (⟨"GlassBoxModel", "weightOfAll", "(I)I"⟩, 59), (⟨"GlassBoxModel", "openingFor", "(II)I"⟩, 59), (⟨"GlassBoxModel", "leastOf", "()J"⟩, 59), (⟨"GlassBoxModel", "overs", "(I)V"⟩, 59), (⟨"GlassBoxModel", "place", "(IIZ)V"⟩, 59), (⟨"GlassBoxModel", "wrongs", "(II)I"⟩, 59)]
theorem lw_r4 : ∀ q ∈ lw_privs_4, lw_okq q := List.forall_mem_cons.mpr ⟨lw_p48, List.forall_mem_cons.mpr ⟨lw_p49, List.forall_mem_cons.mpr ⟨lw_p50, List.forall_mem_cons.mpr ⟨lw_p51, List.forall_mem_cons.mpr ⟨lw_p52, List.forall_mem_cons.mpr ⟨lw_p53, List.forall_mem_cons.mpr ⟨lw_p54, List.forall_mem_cons.mpr ⟨lw_p55, List.forall_mem_cons.mpr ⟨lw_p56, List.forall_mem_cons.mpr ⟨lw_p57, List.forall_mem_cons.mpr ⟨lw_p58, List.forall_mem_cons.mpr ⟨lw_p59, List.forall_mem_cons.mpr ⟨lw_p60, List.forall_mem_cons.mpr ⟨lw_p61, List.forall_mem_cons.mpr ⟨lw_p62, List.forall_mem_cons.mpr ⟨lw_p63, fun _ h => absurd h List.not_mem_nil⟩⟩⟩⟩⟩⟩⟩⟩⟩⟩⟩⟩⟩⟩⟩⟩
theorem lw_p64 : lw_okq (⟨"GlassBoxModel", "slotAt", "(I)I"⟩, 59) := ⟨⟨by decide +kernel, by decide +kernel⟩, List.mem_of_getElem? (i := 1095) (by decide +kernel), List.mem_of_getElem? (i := 1428) (by decide +kernel), List.mem_of_getElem? (i := 1429) (by decide +kernel)⟩
theorem lw_p65 : lw_okq (⟨"GlassBoxModel", "overAt", "(II)V"⟩, 59) := ⟨⟨by decide +kernel, by decide +kernel⟩, List.mem_of_getElem? (i := 1095) (by decide +kernel), List.mem_of_getElem? (i := 1432) (by decide +kernel), List.mem_of_getElem? (i := 1433) (by decide +kernel)⟩
theorem lw_p66 : lw_okq (⟨"GlassBoxModel", "does", "(II)Z"⟩, 59) := ⟨⟨by decide +kernel, by decide +kernel⟩, List.mem_of_getElem? (i := 1095) (by decide +kernel), List.mem_of_getElem? (i := 1439) (by decide +kernel), List.mem_of_getElem? (i := 1440) (by decide +kernel)⟩
theorem lw_p67 : lw_okq (⟨"GlassBoxModel", "canMend", "(II)Z"⟩, 59) := ⟨⟨by decide +kernel, by decide +kernel⟩, List.mem_of_getElem? (i := 1095) (by decide +kernel), List.mem_of_getElem? (i := 1443) (by decide +kernel), List.mem_of_getElem? (i := 1444) (by decide +kernel)⟩
theorem lw_p68 : lw_okq (⟨"GlassBoxModel", "indexOf", "(I)I"⟩, 59) := ⟨⟨by decide +kernel, by decide +kernel⟩, List.mem_of_getElem? (i := 1095) (by decide +kernel), List.mem_of_getElem? (i := 1447) (by decide +kernel), List.mem_of_getElem? (i := 1448) (by decide +kernel)⟩
theorem lw_p69 : lw_okq (⟨"GlassBoxModel", "endOf", "(II)I"⟩, 59) := ⟨⟨by decide +kernel, by decide +kernel⟩, List.mem_of_getElem? (i := 1095) (by decide +kernel), List.mem_of_getElem? (i := 1457) (by decide +kernel), List.mem_of_getElem? (i := 1458) (by decide +kernel)⟩
theorem lw_p70 : lw_okq (⟨"GlassBoxModel", "secondOf", "(I)I"⟩, 59) := ⟨⟨by decide +kernel, by decide +kernel⟩, List.mem_of_getElem? (i := 1095) (by decide +kernel), List.mem_of_getElem? (i := 1461) (by decide +kernel), List.mem_of_getElem? (i := 1462) (by decide +kernel)⟩
theorem lw_p71 : lw_okq (⟨"GlassBoxModel", "heldWith", "(I)I"⟩, 59) := ⟨⟨by decide +kernel, by decide +kernel⟩, List.mem_of_getElem? (i := 1095) (by decide +kernel), List.mem_of_getElem? (i := 1465) (by decide +kernel), List.mem_of_getElem? (i := 1466) (by decide +kernel)⟩
theorem lw_p72 : lw_okq (⟨"GlassBoxModel", "writes", "(IIJI)V"⟩, 59) := ⟨⟨by decide +kernel, by decide +kernel⟩, List.mem_of_getElem? (i := 1095) (by decide +kernel), List.mem_of_getElem? (i := 1469) (by decide +kernel), List.mem_of_getElem? (i := 1470) (by decide +kernel)⟩
theorem lw_p73 : lw_okq (⟨"GlassBoxModel", "firstOf", "(II)I"⟩, 59) := ⟨⟨by decide +kernel, by decide +kernel⟩, List.mem_of_getElem? (i := 1095) (by decide +kernel), List.mem_of_getElem? (i := 1473) (by decide +kernel), List.mem_of_getElem? (i := 1474) (by decide +kernel)⟩
theorem lw_p74 : lw_okq (⟨"GlassBoxModel", "placeAt", "(II)V"⟩, 59) := ⟨⟨by decide +kernel, by decide +kernel⟩, List.mem_of_getElem? (i := 1095) (by decide +kernel), List.mem_of_getElem? (i := 1477) (by decide +kernel), List.mem_of_getElem? (i := 1478) (by decide +kernel)⟩
theorem lw_p75 : lw_okq (⟨"GlassBoxModel", "follows", "(II)V"⟩, 59) := ⟨⟨by decide +kernel, by decide +kernel⟩, List.mem_of_getElem? (i := 1095) (by decide +kernel), List.mem_of_getElem? (i := 1481) (by decide +kernel), List.mem_of_getElem? (i := 1482) (by decide +kernel)⟩
theorem lw_p76 : lw_okq (⟨"GlassBoxModel", "plansOf", "(I)V"⟩, 59) := ⟨⟨by decide +kernel, by decide +kernel⟩, List.mem_of_getElem? (i := 1095) (by decide +kernel), List.mem_of_getElem? (i := 1485) (by decide +kernel), List.mem_of_getElem? (i := 1486) (by decide +kernel)⟩
theorem lw_p77 : lw_okq (⟨"GlassBoxModel", "isTabled", "(I)Z"⟩, 59) := ⟨⟨by decide +kernel, by decide +kernel⟩, List.mem_of_getElem? (i := 1095) (by decide +kernel), List.mem_of_getElem? (i := 1493) (by decide +kernel), List.mem_of_getElem? (i := 1494) (by decide +kernel)⟩
theorem lw_p78 : lw_okq (⟨"GlassBoxModel", "writing", "(IJ)J"⟩, 59) := ⟨⟨by decide +kernel, by decide +kernel⟩, List.mem_of_getElem? (i := 1095) (by decide +kernel), List.mem_of_getElem? (i := 1510) (by decide +kernel), List.mem_of_getElem? (i := 1511) (by decide +kernel)⟩
theorem lw_p79 : lw_okq (⟨"GlassBoxModel", "isHeard", "(I)Z"⟩, 59) := ⟨⟨by decide +kernel, by decide +kernel⟩, List.mem_of_getElem? (i := 1095) (by decide +kernel), List.mem_of_getElem? (i := 1514) (by decide +kernel), List.mem_of_getElem? (i := 1515) (by decide +kernel)⟩
noncomputable def lw_privs_5 : List (MethodName × Nat) := [(⟨"GlassBoxModel", "slotAt", "(I)I"⟩, 59), (⟨"GlassBoxModel", "overAt", "(II)V"⟩, 59), (⟨"GlassBoxModel", "does", "(II)Z"⟩, 59), (⟨"GlassBoxModel", "canMend", "(II)Z"⟩, 59), (⟨"GlassBoxModel", "indexOf", "(I)I"⟩, 59), (⟨"GlassBoxModel", "endOf", "(II)I"⟩, 59), (⟨"GlassBoxModel", "secondOf", "(I)I"⟩, 59), (⟨"GlassBoxModel", "heldWith", "(I)I"⟩, 59), (⟨"GlassBoxModel", "writes", "(IIJI)V"⟩, 59), (⟨"GlassBoxModel", "firstOf", "(II)I"⟩, 59), (⟨"GlassBoxModel", "placeAt", "(II)V"⟩, 59), (⟨"GlassBoxModel", "follows", "(II)V"⟩, 59), (⟨"GlassBoxModel", "plansOf", "(I)V"⟩, 59), (⟨"GlassBoxModel", "isTabled", "(I)Z"⟩, 59), (⟨"GlassBoxModel", "writing", "(IJ)J"⟩, 59), (⟨"GlassBoxModel", "isHeard", "(I)Z"⟩, 59)]
theorem lw_r5 : ∀ q ∈ lw_privs_5, lw_okq q := List.forall_mem_cons.mpr ⟨lw_p64, List.forall_mem_cons.mpr ⟨lw_p65, List.forall_mem_cons.mpr ⟨lw_p66, List.forall_mem_cons.mpr ⟨lw_p67, List.forall_mem_cons.mpr ⟨lw_p68, List.forall_mem_cons.mpr ⟨lw_p69, List.forall_mem_cons.mpr ⟨lw_p70, List.forall_mem_cons.mpr ⟨lw_p71, List.forall_mem_cons.mpr ⟨lw_p72, List.forall_mem_cons.mpr ⟨lw_p73, List.forall_mem_cons.mpr ⟨lw_p74, List.forall_mem_cons.mpr ⟨lw_p75, List.forall_mem_cons.mpr ⟨lw_p76, List.forall_mem_cons.mpr ⟨lw_p77, List.forall_mem_cons.mpr ⟨lw_p78, List.forall_mem_cons.mpr ⟨lw_p79, fun _ h => absurd h List.not_mem_nil⟩⟩⟩⟩⟩⟩⟩⟩⟩⟩⟩⟩⟩⟩⟩⟩
theorem lw_p80 : lw_okq (⟨"GlassBoxModel", "reads", "()Z"⟩, 59) := ⟨⟨by decide +kernel, by decide +kernel⟩, List.mem_of_getElem? (i := 1095) (by decide +kernel), List.mem_of_getElem? (i := 1530) (by decide +kernel), List.mem_of_getElem? (i := 1531) (by decide +kernel)⟩
theorem lw_p81 : lw_okq (⟨"GlassBoxModel", "cuts", "(I)V"⟩, 59) := ⟨⟨by decide +kernel, by decide +kernel⟩, List.mem_of_getElem? (i := 1095) (by decide +kernel), List.mem_of_getElem? (i := 1534) (by decide +kernel), List.mem_of_getElem? (i := 1535) (by decide +kernel)⟩
theorem lw_p82 : lw_okq (⟨"GlassBoxModel", "wordOf", "(II)I"⟩, 59) := ⟨⟨by decide +kernel, by decide +kernel⟩, List.mem_of_getElem? (i := 1095) (by decide +kernel), List.mem_of_getElem? (i := 1544) (by decide +kernel), List.mem_of_getElem? (i := 1545) (by decide +kernel)⟩
theorem lw_p83 : lw_okq (⟨"GlassBoxModel", "readClause", "()V"⟩, 59) := ⟨⟨by decide +kernel, by decide +kernel⟩, List.mem_of_getElem? (i := 1095) (by decide +kernel), List.mem_of_getElem? (i := 1549) (by decide +kernel), List.mem_of_getElem? (i := 1550) (by decide +kernel)⟩
theorem lw_p84 : lw_okq (⟨"GlassBoxModel", "fine", "()Z"⟩, 59) := ⟨⟨by decide +kernel, by decide +kernel⟩, List.mem_of_getElem? (i := 1095) (by decide +kernel), List.mem_of_getElem? (i := 1553) (by decide +kernel), List.mem_of_getElem? (i := 1554) (by decide +kernel)⟩
theorem lw_p85 : lw_okq (⟨"GlassBoxModel", "faults", "()V"⟩, 59) := ⟨⟨by decide +kernel, by decide +kernel⟩, List.mem_of_getElem? (i := 1095) (by decide +kernel), List.mem_of_getElem? (i := 1557) (by decide +kernel), List.mem_of_getElem? (i := 1558) (by decide +kernel)⟩
theorem lw_p86 : lw_okq (⟨"GlassBoxModel", "takes", "(I)Z"⟩, 59) := ⟨⟨by decide +kernel, by decide +kernel⟩, List.mem_of_getElem? (i := 1095) (by decide +kernel), List.mem_of_getElem? (i := 1561) (by decide +kernel), List.mem_of_getElem? (i := 1562) (by decide +kernel)⟩
theorem lw_p87 : lw_okq (⟨"GlassBoxModel", "readTest", "(I)V"⟩, 59) := ⟨⟨by decide +kernel, by decide +kernel⟩, List.mem_of_getElem? (i := 1095) (by decide +kernel), List.mem_of_getElem? (i := 1565) (by decide +kernel), List.mem_of_getElem? (i := 1566) (by decide +kernel)⟩
theorem lw_p88 : lw_okq (⟨"GlassBoxModel", "readBoth", "(I)V"⟩, 59) := ⟨⟨by decide +kernel, by decide +kernel⟩, List.mem_of_getElem? (i := 1095) (by decide +kernel), List.mem_of_getElem? (i := 1569) (by decide +kernel), List.mem_of_getElem? (i := 1570) (by decide +kernel)⟩
theorem lw_p89 : lw_okq (⟨"GlassBoxModel", "readPlain", "(I)V"⟩, 59) := ⟨⟨by decide +kernel, by decide +kernel⟩, List.mem_of_getElem? (i := 1095) (by decide +kernel), List.mem_of_getElem? (i := 1573) (by decide +kernel), List.mem_of_getElem? (i := 1574) (by decide +kernel)⟩
theorem lw_p90 : lw_okq (⟨"GlassBoxModel", "must", "(I)V"⟩, 59) := ⟨⟨by decide +kernel, by decide +kernel⟩, List.mem_of_getElem? (i := 1095) (by decide +kernel), List.mem_of_getElem? (i := 1580) (by decide +kernel), List.mem_of_getElem? (i := 1581) (by decide +kernel)⟩
theorem lw_p91 : lw_okq (⟨"GlassBoxModel", "leaf", "()V"⟩, 59) := ⟨⟨by decide +kernel, by decide +kernel⟩, List.mem_of_getElem? (i := 1095) (by decide +kernel), List.mem_of_getElem? (i := 1584) (by decide +kernel), List.mem_of_getElem? (i := 1585) (by decide +kernel)⟩
theorem lw_p92 : lw_okq (⟨"GlassBoxModel", "readSum", "(I)V"⟩, 59) := ⟨⟨by decide +kernel, by decide +kernel⟩, List.mem_of_getElem? (i := 1095) (by decide +kernel), List.mem_of_getElem? (i := 1588) (by decide +kernel), List.mem_of_getElem? (i := 1589) (by decide +kernel)⟩
theorem lw_p93 : lw_okq (⟨"GlassBoxModel", "readTerm", "(I)V"⟩, 59) := ⟨⟨by decide +kernel, by decide +kernel⟩, List.mem_of_getElem? (i := 1095) (by decide +kernel), List.mem_of_getElem? (i := 1592) (by decide +kernel), List.mem_of_getElem? (i := 1593) (by decide +kernel)⟩
theorem lw_p94 : lw_okq (⟨"GlassBoxModel", "readPart", "(I)V"⟩, 59) := ⟨⟨by decide +kernel, by decide +kernel⟩, List.mem_of_getElem? (i := 1095) (by decide +kernel), List.mem_of_getElem? (i := 1596) (by decide +kernel), List.mem_of_getElem? (i := 1597) (by decide +kernel)⟩
theorem lw_p95 : lw_okq (⟨"GlassBoxModel", "isText", "(I)Z"⟩, 59) := ⟨⟨by decide +kernel, by decide +kernel⟩, List.mem_of_getElem? (i := 1095) (by decide +kernel), List.mem_of_getElem? (i := 1609) (by decide +kernel), List.mem_of_getElem? (i := 1610) (by decide +kernel)⟩
noncomputable def lw_privs_6 : List (MethodName × Nat) := [(⟨"GlassBoxModel", "reads", "()Z"⟩, 59), (⟨"GlassBoxModel", "cuts", "(I)V"⟩, 59), (⟨"GlassBoxModel", "wordOf", "(II)I"⟩, 59), (⟨"GlassBoxModel", "readClause", "()V"⟩, 59), (⟨"GlassBoxModel", "fine", "()Z"⟩, 59), (⟨"GlassBoxModel", "faults", "()V"⟩, 59), (⟨"GlassBoxModel", "takes", "(I)Z"⟩, 59), (⟨"GlassBoxModel", "readTest", "(I)V"⟩, 59), (⟨"GlassBoxModel", "readBoth", "(I)V"⟩, 59), (⟨"GlassBoxModel", "readPlain", "(I)V"⟩, 59), (⟨"GlassBoxModel", "must", "(I)V"⟩, 59), (⟨"GlassBoxModel", "leaf", "()V"⟩, 59), (⟨"GlassBoxModel", "readSum", "(I)V"⟩, 59), (⟨"GlassBoxModel", "readTerm", "(I)V"⟩, 59), (⟨"GlassBoxModel", "readPart", "(I)V"⟩, 59), (⟨"GlassBoxModel", "isText", "(I)Z"⟩, 59)]
theorem lw_r6 : ∀ q ∈ lw_privs_6, lw_okq q := List.forall_mem_cons.mpr ⟨lw_p80, List.forall_mem_cons.mpr ⟨lw_p81, List.forall_mem_cons.mpr ⟨lw_p82, List.forall_mem_cons.mpr ⟨lw_p83, List.forall_mem_cons.mpr ⟨lw_p84, List.forall_mem_cons.mpr ⟨lw_p85, List.forall_mem_cons.mpr ⟨lw_p86, List.forall_mem_cons.mpr ⟨lw_p87, List.forall_mem_cons.mpr ⟨lw_p88, List.forall_mem_cons.mpr ⟨lw_p89, List.forall_mem_cons.mpr ⟨lw_p90, List.forall_mem_cons.mpr ⟨lw_p91, List.forall_mem_cons.mpr ⟨lw_p92, List.forall_mem_cons.mpr ⟨lw_p93, List.forall_mem_cons.mpr ⟨lw_p94, List.forall_mem_cons.mpr ⟨lw_p95, fun _ h => absurd h List.not_mem_nil⟩⟩⟩⟩⟩⟩⟩⟩⟩⟩⟩⟩⟩⟩⟩⟩
theorem lw_p96 : lw_okq (⟨"GlassBoxModel", "plays", "(II)J"⟩, 59) := ⟨⟨by decide +kernel, by decide +kernel⟩, List.mem_of_getElem? (i := 1095) (by decide +kernel), List.mem_of_getElem? (i := 1613) (by decide +kernel), List.mem_of_getElem? (i := 1614) (by decide +kernel)⟩
theorem lw_p97 : lw_okq (⟨"GlassBoxModel", "habitOf", "(III)I"⟩, 59) := ⟨⟨by decide +kernel, by decide +kernel⟩, List.mem_of_getElem? (i := 1095) (by decide +kernel), List.mem_of_getElem? (i := 1617) (by decide +kernel), List.mem_of_getElem? (i := 1618) (by decide +kernel)⟩
theorem lw_p98 : lw_okq (⟨"GlassBoxModel", "asksAt", "(II)V"⟩, 59) := ⟨⟨by decide +kernel, by decide +kernel⟩, List.mem_of_getElem? (i := 1095) (by decide +kernel), List.mem_of_getElem? (i := 1621) (by decide +kernel), List.mem_of_getElem? (i := 1622) (by decide +kernel)⟩
theorem lw_p99 : lw_okq (⟨"GlassBoxModel", "likeliest", "()I"⟩, 59) := ⟨⟨by decide +kernel, by decide +kernel⟩, List.mem_of_getElem? (i := 1095) (by decide +kernel), List.mem_of_getElem? (i := 1625) (by decide +kernel), List.mem_of_getElem? (i := 1626) (by decide +kernel)⟩
theorem lw_p100 : lw_okq (⟨"GlassBoxModel", "codeAt", "(I)I"⟩, 59) := ⟨⟨by decide +kernel, by decide +kernel⟩, List.mem_of_getElem? (i := 1095) (by decide +kernel), List.mem_of_getElem? (i := 1629) (by decide +kernel), List.mem_of_getElem? (i := 1630) (by decide +kernel)⟩
theorem lw_p101 : lw_okq (⟨"GlassBoxModel", "passes", "(I)Z"⟩, 59) := ⟨⟨by decide +kernel, by decide +kernel⟩, List.mem_of_getElem? (i := 1095) (by decide +kernel), List.mem_of_getElem? (i := 1633) (by decide +kernel), List.mem_of_getElem? (i := 1634) (by decide +kernel)⟩
theorem lw_p102 : lw_okq (⟨"GlassBoxModel", "testOf", "(Z)Z"⟩, 59) := ⟨⟨by decide +kernel, by decide +kernel⟩, List.mem_of_getElem? (i := 1095) (by decide +kernel), List.mem_of_getElem? (i := 1637) (by decide +kernel), List.mem_of_getElem? (i := 1638) (by decide +kernel)⟩
theorem lw_p103 : lw_okq (⟨"GlassBoxModel", "bothOf", "(Z)Z"⟩, 59) := ⟨⟨by decide +kernel, by decide +kernel⟩, List.mem_of_getElem? (i := 1095) (by decide +kernel), List.mem_of_getElem? (i := 1641) (by decide +kernel), List.mem_of_getElem? (i := 1642) (by decide +kernel)⟩
theorem lw_p104 : lw_okq (⟨"GlassBoxModel", "plainOf", "(Z)Z"⟩, 59) := ⟨⟨by decide +kernel, by decide +kernel⟩, List.mem_of_getElem? (i := 1095) (by decide +kernel), List.mem_of_getElem? (i := 1645) (by decide +kernel), List.mem_of_getElem? (i := 1646) (by decide +kernel)⟩
theorem lw_p105 : lw_okq (⟨"GlassBoxModel", "positiveOf", "(Z)Z"⟩, 59) := ⟨⟨by decide +kernel, by decide +kernel⟩, List.mem_of_getElem? (i := 1095) (by decide +kernel), List.mem_of_getElem? (i := 1649) (by decide +kernel), List.mem_of_getElem? (i := 1650) (by decide +kernel)⟩
theorem lw_p106 : lw_okq (⟨"GlassBoxModel", "sumOf", "(Z)J"⟩, 59) := ⟨⟨by decide +kernel, by decide +kernel⟩, List.mem_of_getElem? (i := 1095) (by decide +kernel), List.mem_of_getElem? (i := 1653) (by decide +kernel), List.mem_of_getElem? (i := 1654) (by decide +kernel)⟩
theorem lw_p107 : lw_okq (⟨"GlassBoxModel", "termOf", "(Z)J"⟩, 59) := ⟨⟨by decide +kernel, by decide +kernel⟩, List.mem_of_getElem? (i := 1095) (by decide +kernel), List.mem_of_getElem? (i := 1657) (by decide +kernel), List.mem_of_getElem? (i := 1658) (by decide +kernel)⟩
theorem lw_p108 : lw_okq (⟨"GlassBoxModel", "partOf", "(Z)J"⟩, 59) := ⟨⟨by decide +kernel, by decide +kernel⟩, List.mem_of_getElem? (i := 1095) (by decide +kernel), List.mem_of_getElem? (i := 1661) (by decide +kernel), List.mem_of_getElem? (i := 1662) (by decide +kernel)⟩
theorem lw_p109 : lw_okq (⟨"GlassBoxModel", "bounded", "(JZ)J"⟩, 59) := ⟨⟨by decide +kernel, by decide +kernel⟩, List.mem_of_getElem? (i := 1095) (by decide +kernel), List.mem_of_getElem? (i := 1665) (by decide +kernel), List.mem_of_getElem? (i := 1666) (by decide +kernel)⟩
theorem lw_p110 : lw_okq (⟨"GlassBoxModel", "moveFor", "(II)I"⟩, 59) := ⟨⟨by decide +kernel, by decide +kernel⟩, List.mem_of_getElem? (i := 1095) (by decide +kernel), List.mem_of_getElem? (i := 1671) (by decide +kernel), List.mem_of_getElem? (i := 1672) (by decide +kernel)⟩
theorem lw_p111 : lw_okq (⟨"GlassBoxModel", "firstMend", "(I)I"⟩, 59) := ⟨⟨by decide +kernel, by decide +kernel⟩, List.mem_of_getElem? (i := 1095) (by decide +kernel), List.mem_of_getElem? (i := 1675) (by decide +kernel), List.mem_of_getElem? (i := 1676) (by decide +kernel)⟩
noncomputable def lw_privs_7 : List (MethodName × Nat) := [(⟨"GlassBoxModel", "plays", "(II)J"⟩, 59), (⟨"GlassBoxModel", "habitOf", "(III)I"⟩, 59), (⟨"GlassBoxModel", "asksAt", "(II)V"⟩, 59), (⟨"GlassBoxModel", "likeliest", "()I"⟩, 59), (⟨"GlassBoxModel", "codeAt", "(I)I"⟩, 59), (⟨"GlassBoxModel", "passes", "(I)Z"⟩, 59), (⟨"GlassBoxModel", "testOf", "(Z)Z"⟩, 59), (⟨"GlassBoxModel", "bothOf", "(Z)Z"⟩, 59), (⟨"GlassBoxModel", "plainOf", "(Z)Z"⟩, 59), (⟨"GlassBoxModel", "positiveOf", "(Z)Z"⟩, 59), (⟨"GlassBoxModel", "sumOf", "(Z)J"⟩, 59), (⟨"GlassBoxModel", "termOf", "(Z)J"⟩, 59), (⟨"GlassBoxModel", "partOf", "(Z)J"⟩, 59), (⟨"GlassBoxModel", "bounded", "(JZ)J"⟩, 59), (⟨"GlassBoxModel", "moveFor", "(II)I"⟩, 59), (⟨"GlassBoxModel", "firstMend", "(I)I"⟩, 59)]
theorem lw_r7 : ∀ q ∈ lw_privs_7, lw_okq q := List.forall_mem_cons.mpr ⟨lw_p96, List.forall_mem_cons.mpr ⟨lw_p97, List.forall_mem_cons.mpr ⟨lw_p98, List.forall_mem_cons.mpr ⟨lw_p99, List.forall_mem_cons.mpr ⟨lw_p100, List.forall_mem_cons.mpr ⟨lw_p101, List.forall_mem_cons.mpr ⟨lw_p102, List.forall_mem_cons.mpr ⟨lw_p103, List.forall_mem_cons.mpr ⟨lw_p104, List.forall_mem_cons.mpr ⟨lw_p105, List.forall_mem_cons.mpr ⟨lw_p106, List.forall_mem_cons.mpr ⟨lw_p107, List.forall_mem_cons.mpr ⟨lw_p108, List.forall_mem_cons.mpr ⟨lw_p109, List.forall_mem_cons.mpr ⟨lw_p110, List.forall_mem_cons.mpr ⟨lw_p111, fun _ h => absurd h List.not_mem_nil⟩⟩⟩⟩⟩⟩⟩⟩⟩⟩⟩⟩⟩⟩⟩⟩
theorem lw_p112 : lw_okq (⟨"GlassBoxModel", "isRow", "(I)Z"⟩, 59) := ⟨⟨by decide +kernel, by decide +kernel⟩, List.mem_of_getElem? (i := 1095) (by decide +kernel), List.mem_of_getElem? (i := 1695) (by decide +kernel), List.mem_of_getElem? (i := 1696) (by decide +kernel)⟩
theorem lw_p113 : lw_okq (⟨"GlassBoxModel", "keptBy", "()I"⟩, 59) := ⟨⟨by decide +kernel, by decide +kernel⟩, List.mem_of_getElem? (i := 1095) (by decide +kernel), List.mem_of_getElem? (i := 1699) (by decide +kernel), List.mem_of_getElem? (i := 1700) (by decide +kernel)⟩
theorem lw_p114 : lw_okq (⟨"GlassBoxModel", "saved", "(I)I"⟩, 59) := ⟨⟨by decide +kernel, by decide +kernel⟩, List.mem_of_getElem? (i := 1095) (by decide +kernel), List.mem_of_getElem? (i := 1723) (by decide +kernel), List.mem_of_getElem? (i := 1724) (by decide +kernel)⟩
theorem lw_p115 : lw_okq (⟨"GlassBoxModel", "areAlike", "(II)Z"⟩, 59) := ⟨⟨by decide +kernel, by decide +kernel⟩, List.mem_of_getElem? (i := 1095) (by decide +kernel), List.mem_of_getElem? (i := 1739) (by decide +kernel), List.mem_of_getElem? (i := 1740) (by decide +kernel)⟩
noncomputable def lw_privs_8 : List (MethodName × Nat) := [(⟨"GlassBoxModel", "isRow", "(I)Z"⟩, 59), (⟨"GlassBoxModel", "keptBy", "()I"⟩, 59), (⟨"GlassBoxModel", "saved", "(I)I"⟩, 59), (⟨"GlassBoxModel", "areAlike", "(II)Z"⟩, 59)]
theorem lw_r8 : ∀ q ∈ lw_privs_8, lw_okq q := List.forall_mem_cons.mpr ⟨lw_p112, List.forall_mem_cons.mpr ⟨lw_p113, List.forall_mem_cons.mpr ⟨lw_p114, List.forall_mem_cons.mpr ⟨lw_p115, fun _ h => absurd h List.not_mem_nil⟩⟩⟩⟩
noncomputable def lw_privs : List (MethodName × Nat) := lw_privs_1 ++ (lw_privs_2 ++ (lw_privs_3 ++ (lw_privs_4 ++ (lw_privs_5 ++ (lw_privs_6 ++ (lw_privs_7 ++ (lw_privs_8)))))))
noncomputable def lw_tbl : List Cond := k2_sels lw_privs ++ tables_1
theorem lw_privs_ok : ∀ q ∈ lw_privs, lw_okq q := by
  show ∀ q ∈ lw_privs_1 ++ (lw_privs_2 ++ (lw_privs_3 ++ (lw_privs_4 ++ (lw_privs_5 ++ (lw_privs_6 ++ (lw_privs_7 ++ (lw_privs_8))))))), lw_okq q
  exact List.forall_mem_append.mpr ⟨lw_r1, List.forall_mem_append.mpr ⟨lw_r2, List.forall_mem_append.mpr ⟨lw_r3, List.forall_mem_append.mpr ⟨lw_r4, List.forall_mem_append.mpr ⟨lw_r5, List.forall_mem_append.mpr ⟨lw_r6, List.forall_mem_append.mpr ⟨lw_r7, lw_r8⟩⟩⟩⟩⟩⟩⟩
theorem goodIn_r {big : List Cond} (ws : List Cond) (ps : List Nat) (hp : ws = ps.filterMap (fun i => big[i]?)) (h : ws.all goodWord = true) : GoodIn big ws := by
  intro w hw
  have h1 := List.all_eq_true.mp h w hw
  rw [hp] at hw
  obtain ⟨i, -, hi⟩ := List.mem_filterMap.mp hw
  have hm : w ∈ big := by first | exact List.mem_of_getElem? hi | exact List.getElem?_mem hi
  exact ⟨hm, good_of_word h1⟩
theorem goodIn_app {big a b : List Cond} (ha : GoodIn big a) (hb : GoodIn big b) : GoodIn big (a ++ b) := fun w h => (List.mem_append.mp h).elim (ha w) (hb w)
theorem goodIn_ca {big a b : List Cond} {c : Cond} (ha : GoodIn big (c :: a)) (hb : GoodIn big b) : GoodIn big (c :: (a ++ b)) := fun w h => (List.mem_cons.mp h).elim (fun e => ha w (List.mem_cons.mpr (Or.inl e))) (fun h => (List.mem_append.mp h).elim (fun h => ha w (List.mem_cons.mpr (Or.inr h))) (hb w))
theorem goodIn_sub {big ws : List Cond} (hm : ∀ w ∈ ws, w ∈ big) (h : ws.all goodWord = true) : GoodIn big ws := fun w hw => ⟨hm w hw, good_of_word (List.all_eq_true.mp h w hw)⟩
noncomputable def RX0 : String := "GlassBox$Booth"
noncomputable def TX0 : u_T := fun k => match k with
  | 0 => ("GlassBox$Booth", "moves", "[I", true)
  | 1 => ("GlassBox$Booth", "seconds", "I", false)
  | 2 => ("GlassBox$Booth", "trace", "J", false)
  | 3 => ("GlassBox$Booth", "said", "I", false)
  | 4 => ("GlassBox$Booth", "asked", "[J", true)
  | 5 => ("GlassBox$Booth", "mendMove", "I", false)
  | _ => ("GlassBox$Booth", "stack", "[J", true)
noncomputable def tyX0 : Nat → FieldType := fun k => match k with
  | 0 => .array .int
  | 1 => .int
  | 2 => .long
  | 3 => .int
  | 4 => .array .long
  | 5 => .int
  | _ => .array .long
noncomputable abbrev wsX00 : List Cond := u_ws RX0 TX0 7
theorem nmX0 : ∀ a, a < 7 → ∀ b, b < 7 → a ≠ b → (TX0 a).2.1 ≠ (TX0 b).2.1 := by decide +kernel
theorem tyX0_ok : ∀ k, k < 7 → parseFieldDescriptor (TX0 k).2.2.1 = some (tyX0 k) := by decide +kernel
noncomputable abbrev cX0_init : ByteArray := prog_2_method_1_code
noncomputable def yX0_init : MethodName := ⟨RX0, "<init>", "()V"⟩
noncomputable abbrev cX0_play : ByteArray := prog_2_method_2_code
noncomputable def yX0_play : MethodName := ⟨RX0, "play", "(LGlassBox$Tree;LGlassBox$Habit;I)I"⟩
noncomputable abbrev cX0_askAll : ByteArray := prog_2_method_3_code
noncomputable def yX0_askAll : MethodName := ⟨RX0, "askAll", "(LGlassBox$Tree;II)V"⟩
noncomputable abbrev cX0_askMends : ByteArray := prog_2_method_4_code
noncomputable def yX0_askMends : MethodName := ⟨RX0, "askMends", "(LGlassBox$Tree;I)I"⟩
noncomputable abbrev cX0_chooseBy : ByteArray := prog_2_method_5_code
noncomputable def yX0_chooseBy : MethodName := ⟨RX0, "chooseBy", "(LGlassBox$Tree;LGlassBox$Habit;I)I"⟩
noncomputable abbrev cX0_possible : ByteArray := prog_2_method_6_code
noncomputable def yX0_possible : MethodName := ⟨RX0, "possible", "(LGlassBox$Tree;II)I"⟩
noncomputable abbrev cX0_isSo : ByteArray := prog_2_method_7_code
noncomputable def yX0_isSo : MethodName := ⟨RX0, "isSo", "([III)Z"⟩
noncomputable abbrev cX0_isBroken : ByteArray := prog_2_method_8_code
noncomputable def yX0_isBroken : MethodName := ⟨RX0, "isBroken", "(II)Z"⟩
noncomputable abbrev cX0_joined : ByteArray := prog_2_method_9_code
noncomputable def yX0_joined : MethodName := ⟨RX0, "joined", "(IJJ)J"⟩
noncomputable def RX1 : String := "GlassBox$Chain"
noncomputable def TX1 : u_T := fun k => match k with
  | 0 => ("GlassBox$Chain", "links", "[I", true)
  | 1 => ("GlassBox$Chain", "length", "I", false)
  | 2 => ("GlassBox$Chain", "tried", "[I", true)
  | _ => ("GlassBox$Chain", "most", "I", false)
noncomputable def tyX1 : Nat → FieldType := fun k => match k with
  | 0 => .array .int
  | 1 => .int
  | 2 => .array .int
  | _ => .int
noncomputable abbrev wsX10 : List Cond := u_ws RX1 TX1 4
theorem nmX1 : ∀ a, a < 4 → ∀ b, b < 4 → a ≠ b → (TX1 a).2.1 ≠ (TX1 b).2.1 := by decide +kernel
theorem tyX1_ok : ∀ k, k < 4 → parseFieldDescriptor (TX1 k).2.2.1 = some (tyX1 k) := by decide +kernel
noncomputable abbrev cX1_init : ByteArray := prog_3_method_1_code
noncomputable def yX1_init : MethodName := ⟨RX1, "<init>", "()V"⟩
noncomputable abbrev cX1_find : ByteArray := prog_3_method_2_code
noncomputable def yX1_find : MethodName := ⟨RX1, "find", "([II)I"⟩
noncomputable abbrev cX1_extend : ByteArray := prog_3_method_3_code
noncomputable def yX1_extend : MethodName := ⟨RX1, "extend", "([IIIII)V"⟩
noncomputable def RX2 : String := "GlassBox$Glossary"
noncomputable def TX2 : u_T := fun k => match k with
  | 0 => ("GlassBox$Glossary", "most", "[I", true)
  | _ => ("GlassBox$Glossary", "sets", "[I", true)
noncomputable def tyX2 : Nat → FieldType := fun k => match k with
  | 0 => .array .int
  | _ => .array .int
noncomputable abbrev wsX20 : List Cond := u_ws RX2 TX2 2
theorem nmX2 : ∀ a, a < 2 → ∀ b, b < 2 → a ≠ b → (TX2 a).2.1 ≠ (TX2 b).2.1 := by decide +kernel
theorem tyX2_ok : ∀ k, k < 2 → parseFieldDescriptor (TX2 k).2.2.1 = some (tyX2 k) := by decide +kernel
noncomputable abbrev cX2_init : ByteArray := prog_4_method_1_code
noncomputable def yX2_init : MethodName := ⟨RX2, "<init>", "()V"⟩
noncomputable abbrev cX2_find : ByteArray := prog_4_method_2_code
noncomputable def yX2_find : MethodName := ⟨RX2, "find", "(LGlassBox$State;I)V"⟩
noncomputable abbrev cX2_savedBy : ByteArray := prog_4_method_3_code
noncomputable def yX2_savedBy : MethodName := ⟨RX2, "savedBy", "(LGlassBox$State;I)I"⟩
noncomputable def RX3 : String := "GlassBox$Habit"
noncomputable def TX3 : u_T := fun k => match k with
  | 0 => ("GlassBox$Habit", "heads", "[I", true)
  | 1 => ("GlassBox$Habit", "ends", "[I", true)
  | _ => ("GlassBox$Habit", "code", "[I", true)
noncomputable def tyX3 : Nat → FieldType := fun k => match k with
  | 0 => .array .int
  | 1 => .array .int
  | _ => .array .int
noncomputable abbrev wsX30 : List Cond := u_ws RX3 TX3 3
theorem nmX3 : ∀ a, a < 3 → ∀ b, b < 3 → a ≠ b → (TX3 a).2.1 ≠ (TX3 b).2.1 := by decide +kernel
theorem tyX3_ok : ∀ k, k < 3 → parseFieldDescriptor (TX3 k).2.2.1 = some (tyX3 k) := by decide +kernel
noncomputable abbrev cX3_init : ByteArray := prog_5_method_1_code
noncomputable def yX3_init : MethodName := ⟨RX3, "<init>", "([I[I[I)V"⟩
noncomputable def RX4 : String := "GlassBox$Reader"
noncomputable def TX4 : u_T := fun k => match k with
  | 0 => ("GlassBox$Reader", "tokens", "[I", true)
  | 1 => ("GlassBox$Reader", "starts", "[I", true)
  | 2 => ("GlassBox$Reader", "at", "I", false)
  | 3 => ("GlassBox$Reader", "kind", "I", false)
  | 4 => ("GlassBox$Reader", "parts", "I", false)
  | 5 => ("GlassBox$Reader", "heads", "[I", true)
  | 6 => ("GlassBox$Reader", "ends", "[I", true)
  | 7 => ("GlassBox$Reader", "clauses", "I", false)
  | 8 => ("GlassBox$Reader", "code", "[I", true)
  | 9 => ("GlassBox$Reader", "used", "I", false)
  | _ => ("GlassBox$Reader", "faultAt", "I", false)
noncomputable def tyX4 : Nat → FieldType := fun k => match k with
  | 0 => .array .int
  | 1 => .array .int
  | 2 => .int
  | 3 => .int
  | 4 => .int
  | 5 => .array .int
  | 6 => .array .int
  | 7 => .int
  | 8 => .array .int
  | 9 => .int
  | _ => .int
noncomputable abbrev wsX40 : List Cond := u_ws RX4 TX4 11
theorem nmX4 : ∀ a, a < 11 → ∀ b, b < 11 → a ≠ b → (TX4 a).2.1 ≠ (TX4 b).2.1 := by decide +kernel
theorem tyX4_ok : ∀ k, k < 11 → parseFieldDescriptor (TX4 k).2.2.1 = some (tyX4 k) := by decide +kernel
noncomputable abbrev cX4_init : ByteArray := prog_6_method_1_code
noncomputable def yX4_init : MethodName := ⟨RX4, "<init>", "()V"⟩
noncomputable abbrev cX4_readHabit : ByteArray := prog_6_method_2_code
noncomputable def yX4_readHabit : MethodName := ⟨RX4, "readHabit", "([II)LGlassBox$Habit;"⟩
noncomputable abbrev cX4_splitTokens : ByteArray := prog_6_method_3_code
noncomputable def yX4_splitTokens : MethodName := ⟨RX4, "splitTokens", "([II)V"⟩
noncomputable abbrev cX4_tokenEnd : ByteArray := prog_6_method_4_code
noncomputable def yX4_tokenEnd : MethodName := ⟨RX4, "tokenEnd", "([III)I"⟩
noncomputable abbrev cX4_tokenOf : ByteArray := prog_6_method_5_code
noncomputable def yX4_tokenOf : MethodName := ⟨RX4, "tokenOf", "([III)I"⟩
noncomputable abbrev cX4_keyword : ByteArray := prog_6_method_6_code
noncomputable def yX4_keyword : MethodName := ⟨RX4, "keyword", "([III)I"⟩
noncomputable abbrev cX4_isLetter : ByteArray := prog_6_method_7_code
noncomputable def yX4_isLetter : MethodName := ⟨RX4, "isLetter", "(I)Z"⟩
noncomputable abbrev cX4_isDigit : ByteArray := prog_6_method_8_code
noncomputable def yX4_isDigit : MethodName := ⟨RX4, "isDigit", "(I)Z"⟩
noncomputable abbrev cX4_takesClauses : ByteArray := prog_6_method_9_code
noncomputable def yX4_takesClauses : MethodName := ⟨RX4, "takesClauses", "()Z"⟩
noncomputable abbrev cX4_takesTest : ByteArray := prog_6_method_10_code
noncomputable def yX4_takesTest : MethodName := ⟨RX4, "takesTest", "(I)Z"⟩
noncomputable abbrev cX4_takesBoth : ByteArray := prog_6_method_11_code
noncomputable def yX4_takesBoth : MethodName := ⟨RX4, "takesBoth", "(I)Z"⟩
noncomputable abbrev cX4_takesPlain : ByteArray := prog_6_method_12_code
noncomputable def yX4_takesPlain : MethodName := ⟨RX4, "takesPlain", "(I)Z"⟩
noncomputable abbrev cX4_takesComparison : ByteArray := prog_6_method_13_code
noncomputable def yX4_takesComparison : MethodName := ⟨RX4, "takesComparison", "(I)Z"⟩
noncomputable abbrev cX4_takesSum : ByteArray := prog_6_method_14_code
noncomputable def yX4_takesSum : MethodName := ⟨RX4, "takesSum", "(I)Z"⟩
noncomputable abbrev cX4_takesTerm : ByteArray := prog_6_method_15_code
noncomputable def yX4_takesTerm : MethodName := ⟨RX4, "takesTerm", "(I)Z"⟩
noncomputable abbrev cX4_takesFactor : ByteArray := prog_6_method_16_code
noncomputable def yX4_takesFactor : MethodName := ⟨RX4, "takesFactor", "(I)Z"⟩
noncomputable abbrev cX4_takesBracket : ByteArray := prog_6_method_17_code
noncomputable def yX4_takesBracket : MethodName := ⟨RX4, "takesBracket", "(I)Z"⟩
noncomputable abbrev cX4_takesPart : ByteArray := prog_6_method_18_code
noncomputable def yX4_takesPart : MethodName := ⟨RX4, "takesPart", "(II)Z"⟩
noncomputable abbrev cX4_takesSign : ByteArray := prog_6_method_19_code
noncomputable def yX4_takesSign : MethodName := ⟨RX4, "takesSign", "(C)Z"⟩
noncomputable abbrev cX4_advance : ByteArray := prog_6_method_20_code
noncomputable def yX4_advance : MethodName := ⟨RX4, "advance", "()V"⟩
noncomputable abbrev cX4_fail : ByteArray := prog_6_method_21_code
noncomputable def yX4_fail : MethodName := ⟨RX4, "fail", "()Z"⟩
noncomputable abbrev cX4_put : ByteArray := prog_6_method_22_code
noncomputable def yX4_put : MethodName := ⟨RX4, "put", "(II)I"⟩
noncomputable abbrev cX4_aim : ByteArray := prog_6_method_23_code
noncomputable def yX4_aim : MethodName := ⟨RX4, "aim", "(I)V"⟩
noncomputable def RX5 : String := "GlassBox$Relief"
noncomputable def TX5 : u_T := fun k => match k with
  | 0 => ("GlassBox$Relief", "changes", "[I", true)
  | 1 => ("GlassBox$Relief", "changeCount", "I", false)
  | 2 => ("GlassBox$Relief", "least", "[I", true)
  | _ => ("GlassBox$Relief", "sits", "[I", true)
noncomputable def tyX5 : Nat → FieldType := fun k => match k with
  | 0 => .array .int
  | 1 => .int
  | 2 => .array .int
  | _ => .array .int
noncomputable abbrev wsX50 : List Cond := u_ws RX5 TX5 4
theorem nmX5 : ∀ a, a < 4 → ∀ b, b < 4 → a ≠ b → (TX5 a).2.1 ≠ (TX5 b).2.1 := by decide +kernel
theorem tyX5_ok : ∀ k, k < 4 → parseFieldDescriptor (TX5 k).2.2.1 = some (tyX5 k) := by decide +kernel
noncomputable abbrev cX5_init : ByteArray := prog_7_method_1_code
noncomputable def yX5_init : MethodName := ⟨RX5, "<init>", "()V"⟩
noncomputable abbrev cX5_find : ByteArray := prog_7_method_2_code
noncomputable def yX5_find : MethodName := ⟨RX5, "find", "([III)I"⟩
noncomputable abbrev cX5_sitFrom : ByteArray := prog_7_method_3_code
noncomputable def yX5_sitFrom : MethodName := ⟨RX5, "sitFrom", "(I[III)V"⟩
noncomputable def RX6 : String := "GlassBox$Said"
noncomputable def TX6 : u_T := fun k => match k with
  | _ => ("", "", "", false)
noncomputable def tyX6 : Nat → FieldType := fun k => match k with
  | _ => .int
noncomputable abbrev wsX60 : List Cond := u_ws RX6 TX6 0
theorem nmX6 : ∀ a, a < 0 → ∀ b, b < 0 → a ≠ b → (TX6 a).2.1 ≠ (TX6 b).2.1 := by decide +kernel
theorem tyX6_ok : ∀ k, k < 0 → parseFieldDescriptor (TX6 k).2.2.1 = some (tyX6 k) := by decide +kernel
noncomputable abbrev cX6_doneIn : ByteArray := prog_8_method_2_code
noncomputable def yX6_doneIn : MethodName := ⟨RX6, "doneIn", "(I)I"⟩
noncomputable abbrev cX6_with : ByteArray := prog_8_method_3_code
noncomputable def yX6_with : MethodName := ⟨RX6, "with", "(II)I"⟩
noncomputable abbrev cX6_digitAt : ByteArray := prog_8_method_4_code
noncomputable def yX6_digitAt : MethodName := ⟨RX6, "digitAt", "(III)I"⟩
noncomputable abbrev cX6_changedAt : ByteArray := prog_8_method_5_code
noncomputable def yX6_changedAt : MethodName := ⟨RX6, "changedAt", "(IIII)I"⟩
noncomputable def RX7 : String := "GlassBox$Solver"
noncomputable def TX7 : u_T := fun k => match k with
  | 0 => ("GlassBox$Solver", "tree", "LGlassBox$Tree;", true)
  | 1 => ("GlassBox$Solver", "losses", "[[J", true)
  | 2 => ("GlassBox$Solver", "secondLosses", "[I", true)
  | 3 => ("GlassBox$Solver", "mark", "J", false)
  | _ => ("GlassBox$Solver", "guesses", "Z", false)
noncomputable def tyX7 : Nat → FieldType := fun k => match k with
  | 0 => .object "GlassBox$Tree"
  | 1 => .array (.array .long)
  | 2 => .array .int
  | 3 => .long
  | _ => .boolean
noncomputable abbrev wsX70 : List Cond := u_ws RX7 TX7 5
theorem nmX7 : ∀ a, a < 5 → ∀ b, b < 5 → a ≠ b → (TX7 a).2.1 ≠ (TX7 b).2.1 := by decide +kernel
theorem tyX7_ok : ∀ k, k < 5 → parseFieldDescriptor (TX7 k).2.2.1 = some (tyX7 k) := by decide +kernel
noncomputable abbrev cX7_init : ByteArray := prog_9_method_1_code
noncomputable def yX7_init : MethodName := ⟨RX7, "<init>", "(LGlassBox$Tree;)V"⟩
noncomputable abbrev cX7_solve : ByteArray := prog_9_method_2_code
noncomputable def yX7_solve : MethodName := ⟨RX7, "solve", "(Z)J"⟩
noncomputable abbrev cX7_moveAt : ByteArray := prog_9_method_3_code
noncomputable def yX7_moveAt : MethodName := ⟨RX7, "moveAt", "(II)I"⟩
noncomputable abbrev cX7_seenFrom : ByteArray := prog_9_method_4_code
noncomputable def yX7_seenFrom : MethodName := ⟨RX7, "seenFrom", "(III)I"⟩
noncomputable abbrev cX7_fateOf : ByteArray := prog_9_method_5_code
noncomputable def yX7_fateOf : MethodName := ⟨RX7, "fateOf", "(II)I"⟩
noncomputable abbrev cX7_packed : ByteArray := prog_9_method_6_code
noncomputable def yX7_packed : MethodName := ⟨RX7, "packed", "(JI)J"⟩
noncomputable abbrev cX7_choose : ByteArray := prog_9_method_7_code
noncomputable def yX7_choose : MethodName := ⟨RX7, "choose", "(IIII)J"⟩
noncomputable abbrev cX7_chooseNext : ByteArray := prog_9_method_8_code
noncomputable def yX7_chooseNext : MethodName := ⟨RX7, "chooseNext", "(IIII)J"⟩
noncomputable abbrev cX7_chooseMend : ByteArray := prog_9_method_9_code
noncomputable def yX7_chooseMend : MethodName := ⟨RX7, "chooseMend", "(IIIII)J"⟩
noncomputable abbrev cX7_lossAfter : ByteArray := prog_9_method_10_code
noncomputable def yX7_lossAfter : MethodName := ⟨RX7, "lossAfter", "(IIII)J"⟩
noncomputable abbrev cX7_lossFrom : ByteArray := prog_9_method_11_code
noncomputable def yX7_lossFrom : MethodName := ⟨RX7, "lossFrom", "(IIII)J"⟩
noncomputable def RX8 : String := "GlassBox$State"
noncomputable def TX8 : u_T := fun k => match k with
  | 0 => ("GlassBox$State", "words", "[I", true)
  | 1 => ("GlassBox$State", "terms", "[I", true)
  | 2 => ("GlassBox$State", "order", "I", false)
  | 3 => ("GlassBox$State", "openings", "[I", true)
  | 4 => ("GlassBox$State", "openingCount", "I", false)
  | 5 => ("GlassBox$State", "speaker", "I", false)
  | 6 => ("GlassBox$State", "rows", "[I", true)
  | 7 => ("GlassBox$State", "lengths", "[I", true)
  | 8 => ("GlassBox$State", "values", "[I", true)
  | 9 => ("GlassBox$State", "weights", "[I", true)
  | 10 => ("GlassBox$State", "sentenceCount", "I", false)
  | 11 => ("GlassBox$State", "habits", "[LGlassBox$Habit;", true)
  | 12 => ("GlassBox$State", "habitCount", "I", false)
  | 13 => ("GlassBox$State", "boxes", "[I", true)
  | 14 => ("GlassBox$State", "boxCount", "I", false)
  | _ => ("GlassBox$State", "costs", "[I", true)
noncomputable def tyX8 : Nat → FieldType := fun k => match k with
  | 0 => .array .int
  | 1 => .array .int
  | 2 => .int
  | 3 => .array .int
  | 4 => .int
  | 5 => .int
  | 6 => .array .int
  | 7 => .array .int
  | 8 => .array .int
  | 9 => .array .int
  | 10 => .int
  | 11 => .array (.object "GlassBox$Habit")
  | 12 => .int
  | 13 => .array .int
  | 14 => .int
  | _ => .array .int
noncomputable abbrev wsX80 : List Cond := u_ws RX8 TX8 16
theorem nmX8 : ∀ a, a < 16 → ∀ b, b < 16 → a ≠ b → (TX8 a).2.1 ≠ (TX8 b).2.1 := by decide +kernel
theorem tyX8_ok : ∀ k, k < 16 → parseFieldDescriptor (TX8 k).2.2.1 = some (tyX8 k) := by decide +kernel
noncomputable abbrev cX8_init : ByteArray := prog_10_method_1_code
noncomputable def yX8_init : MethodName := ⟨RX8, "<init>", "()V"⟩
noncomputable abbrev cX8_copy : ByteArray := prog_10_method_2_code
noncomputable def yX8_copy : MethodName := ⟨RX8, "copy", "(LGlassBox$State;)V"⟩
noncomputable abbrev cX8_addOpening : ByteArray := prog_10_method_3_code
noncomputable def yX8_addOpening : MethodName := ⟨RX8, "addOpening", "(III)I"⟩
noncomputable abbrev cX8_addRow : ByteArray := prog_10_method_4_code
noncomputable def yX8_addRow : MethodName := ⟨RX8, "addRow", "([II)I"⟩
noncomputable abbrev cX8_giveValues : ByteArray := prog_10_method_5_code
noncomputable def yX8_giveValues : MethodName := ⟨RX8, "giveValues", "(IIII)V"⟩
noncomputable abbrev cX8_addHabit : ByteArray := prog_10_method_6_code
noncomputable def yX8_addHabit : MethodName := ⟨RX8, "addHabit", "(LGlassBox$Habit;)I"⟩
noncomputable abbrev cX8_addBox : ByteArray := prog_10_method_7_code
noncomputable def yX8_addBox : MethodName := ⟨RX8, "addBox", "(III)I"⟩
noncomputable abbrev cX8_hasRow : ByteArray := prog_10_method_8_code
noncomputable def yX8_hasRow : MethodName := ⟨RX8, "hasRow", "([II)Z"⟩
noncomputable abbrev cX8_isThere : ByteArray := prog_10_method_9_code
noncomputable def yX8_isThere : MethodName := ⟨RX8, "isThere", "(I)Z"⟩
noncomputable abbrev cX8_isHabit : ByteArray := prog_10_method_10_code
noncomputable def yX8_isHabit : MethodName := ⟨RX8, "isHabit", "(I)Z"⟩
noncomputable abbrev cX8_canBeSpoken : ByteArray := prog_10_method_11_code
noncomputable def yX8_canBeSpoken : MethodName := ⟨RX8, "canBeSpoken", "(I)Z"⟩
noncomputable abbrev cX8_canHear : ByteArray := prog_10_method_12_code
noncomputable def yX8_canHear : MethodName := ⟨RX8, "canHear", "(I)Z"⟩
noncomputable abbrev cX8_timesIn : ByteArray := prog_10_method_13_code
noncomputable def yX8_timesIn : MethodName := ⟨RX8, "timesIn", "(II)I"⟩
noncomputable abbrev cX8_comeBehind : ByteArray := prog_10_method_14_code
noncomputable def yX8_comeBehind : MethodName := ⟨RX8, "comeBehind", "(II)I"⟩
noncomputable abbrev cX8_beginsWith : ByteArray := prog_10_method_15_code
noncomputable def yX8_beginsWith : MethodName := ⟨RX8, "beginsWith", "(I[III)Z"⟩
noncomputable abbrev cX8_firstIn : ByteArray := prog_10_method_16_code
noncomputable def yX8_firstIn : MethodName := ⟨RX8, "firstIn", "(I)I"⟩
noncomputable abbrev cX8_valuesOf : ByteArray := prog_10_method_17_code
noncomputable def yX8_valuesOf : MethodName := ⟨RX8, "valuesOf", "(II)I"⟩
noncomputable abbrev cX8_having : ByteArray := prog_10_method_18_code
noncomputable def yX8_having : MethodName := ⟨RX8, "having", "(II)I"⟩
noncomputable abbrev cX8_weighValues : ByteArray := prog_10_method_19_code
noncomputable def yX8_weighValues : MethodName := ⟨RX8, "weighValues", "(II[I)V"⟩
noncomputable abbrev cX8_weightOf : ByteArray := prog_10_method_20_code
noncomputable def yX8_weightOf : MethodName := ⟨RX8, "weightOf", "(I)I"⟩
noncomputable abbrev cX8_openingFor : ByteArray := prog_10_method_21_code
noncomputable def yX8_openingFor : MethodName := ⟨RX8, "openingFor", "(II)I"⟩
noncomputable def RX9 : String := "GlassBox$Tree"
noncomputable def TX9 : u_T := fun k => match k with
  | 0 => ("GlassBox$Tree", "firstChild", "[I", true)
  | 1 => ("GlassBox$Tree", "nextChild", "[I", true)
  | 2 => ("GlassBox$Tree", "weight", "[I", true)
  | 3 => ("GlassBox$Tree", "load", "[I", true)
  | 4 => ("GlassBox$Tree", "over", "[Z", true)
  | 5 => ("GlassBox$Tree", "narrower", "[Z", true)
  | 6 => ("GlassBox$Tree", "masks", "[I", true)
  | 7 => ("GlassBox$Tree", "sole", "[I", true)
  | 8 => ("GlassBox$Tree", "likeliest", "[I", true)
  | 9 => ("GlassBox$Tree", "likeliestWeight", "[I", true)
  | 10 => ("GlassBox$Tree", "openingLength", "[I", true)
  | 11 => ("GlassBox$Tree", "placeAt", "[I", true)
  | 12 => ("GlassBox$Tree", "lengths", "[I", true)
  | 13 => ("GlassBox$Tree", "terms", "[I", true)
  | 14 => ("GlassBox$Tree", "valueWeights", "[I", true)
  | 15 => ("GlassBox$Tree", "placeCount", "I", false)
  | 16 => ("GlassBox$Tree", "order", "I", false)
  | _ => ("GlassBox$Tree", "speaker", "I", false)
noncomputable def tyX9 : Nat → FieldType := fun k => match k with
  | 0 => .array .int
  | 1 => .array .int
  | 2 => .array .int
  | 3 => .array .int
  | 4 => .array .boolean
  | 5 => .array .boolean
  | 6 => .array .int
  | 7 => .array .int
  | 8 => .array .int
  | 9 => .array .int
  | 10 => .array .int
  | 11 => .array .int
  | 12 => .array .int
  | 13 => .array .int
  | 14 => .array .int
  | 15 => .int
  | 16 => .int
  | _ => .int
noncomputable abbrev wsX90 : List Cond := u_ws RX9 TX9 18
theorem nmX9 : ∀ a, a < 18 → ∀ b, b < 18 → a ≠ b → (TX9 a).2.1 ≠ (TX9 b).2.1 := by decide +kernel
theorem tyX9_ok : ∀ k, k < 18 → parseFieldDescriptor (TX9 k).2.2.1 = some (tyX9 k) := by decide +kernel
noncomputable abbrev cX9_init : ByteArray := prog_11_method_1_code
noncomputable def yX9_init : MethodName := ⟨RX9, "<init>", "()V"⟩
noncomputable abbrev cX9_grow : ByteArray := prog_11_method_2_code
noncomputable def yX9_grow : MethodName := ⟨RX9, "grow", "(LGlassBox$State;I)V"⟩
noncomputable abbrev cX9_growSentence : ByteArray := prog_11_method_3_code
noncomputable def yX9_growSentence : MethodName := ⟨RX9, "growSentence", "(LGlassBox$State;II)V"⟩
noncomputable abbrev cX9_addPlace : ByteArray := prog_11_method_4_code
noncomputable def yX9_addPlace : MethodName := ⟨RX9, "addPlace", "(ILGlassBox$State;I)I"⟩
noncomputable abbrev cX9_describe : ByteArray := prog_11_method_5_code
noncomputable def yX9_describe : MethodName := ⟨RX9, "describe", "(LGlassBox$State;II)V"⟩
noncomputable abbrev cX9_lengthOf : ByteArray := prog_11_method_6_code
noncomputable def yX9_lengthOf : MethodName := ⟨RX9, "lengthOf", "(I)I"⟩
noncomputable abbrev cX9_placeIn : ByteArray := prog_11_method_7_code
noncomputable def yX9_placeIn : MethodName := ⟨RX9, "placeIn", "(II)I"⟩
noncomputable abbrev cX9_nextAt : ByteArray := prog_11_method_8_code
noncomputable def yX9_nextAt : MethodName := ⟨RX9, "nextAt", "(II)I"⟩
noncomputable abbrev cX9_digitOf : ByteArray := prog_11_method_9_code
noncomputable def yX9_digitOf : MethodName := ⟨RX9, "digitOf", "(II)I"⟩
noncomputable abbrev cX9_canMend : ByteArray := prog_11_method_10_code
noncomputable def yX9_canMend : MethodName := ⟨RX9, "canMend", "(III)Z"⟩
noncomputable abbrev cX9_mended : ByteArray := prog_11_method_11_code
noncomputable def yX9_mended : MethodName := ⟨RX9, "mended", "(III)I"⟩
noncomputable abbrev cX9_saidBehind : ByteArray := prog_11_method_12_code
noncomputable def yX9_saidBehind : MethodName := ⟨RX9, "saidBehind", "(III)I"⟩
noncomputable abbrev cX9_held : ByteArray := prog_11_method_13_code
noncomputable def yX9_held : MethodName := ⟨RX9, "held", "(II)I"⟩
noncomputable abbrev cX9_canFade : ByteArray := prog_11_method_14_code
noncomputable def yX9_canFade : MethodName := ⟨RX9, "canFade", "()Z"⟩
noncomputable abbrev cX9_secondLoss : ByteArray := prog_11_method_15_code
noncomputable def yX9_secondLoss : MethodName := ⟨RX9, "secondLoss", "(II)I"⟩
noncomputable abbrev cX9_moveLoss : ByteArray := prog_11_method_16_code
noncomputable def yX9_moveLoss : MethodName := ⟨RX9, "moveLoss", "(III)I"⟩
noncomputable abbrev cX9_endLoss : ByteArray := prog_11_method_17_code
noncomputable def yX9_endLoss : MethodName := ⟨RX9, "endLoss", "(II)I"⟩
noncomputable def RX10 : String := "GlassBox"
noncomputable def TX10 : u_T := fun k => match k with
  | 0 => ("GlassBox", "now", "LGlassBox$State;", true)
  | 1 => ("GlassBox", "images", "[LGlassBox$State;", true)
  | 2 => ("GlassBox", "tape", "[I", true)
  | 3 => ("GlassBox", "tapeLength", "I", false)
  | 4 => ("GlassBox", "faultAt", "I", false)
  | 5 => ("GlassBox", "refusedBy", "I", false)
  | 6 => ("GlassBox", "reader", "LGlassBox$Reader;", true)
  | 7 => ("GlassBox", "tree", "LGlassBox$Tree;", true)
  | 8 => ("GlassBox", "solver", "LGlassBox$Solver;", true)
  | 9 => ("GlassBox", "stale", "Z", false)
  | 10 => ("GlassBox", "latestTree", "LGlassBox$Tree;", true)
  | 11 => ("GlassBox", "latestSolver", "LGlassBox$Solver;", true)
  | 12 => ("GlassBox", "booth", "LGlassBox$Booth;", true)
  | 13 => ("GlassBox", "latestBooth", "LGlassBox$Booth;", true)
  | 14 => ("GlassBox", "latestChain", "LGlassBox$Chain;", true)
  | 15 => ("GlassBox", "latestRelief", "LGlassBox$Relief;", true)
  | 16 => ("GlassBox", "lookUp", "LGlassBox$Glossary;", true)
  | _ => ("GlassBox", "traces", "[J", true)
noncomputable def tyX10 : Nat → FieldType := fun k => match k with
  | 0 => .object "GlassBox$State"
  | 1 => .array (.object "GlassBox$State")
  | 2 => .array .int
  | 3 => .int
  | 4 => .int
  | 5 => .int
  | 6 => .object "GlassBox$Reader"
  | 7 => .object "GlassBox$Tree"
  | 8 => .object "GlassBox$Solver"
  | 9 => .boolean
  | 10 => .object "GlassBox$Tree"
  | 11 => .object "GlassBox$Solver"
  | 12 => .object "GlassBox$Booth"
  | 13 => .object "GlassBox$Booth"
  | 14 => .object "GlassBox$Chain"
  | 15 => .object "GlassBox$Relief"
  | 16 => .object "GlassBox$Glossary"
  | _ => .array .long
noncomputable abbrev wsX100 : List Cond := u_ws RX10 TX10 18
theorem nmX10 : ∀ a, a < 18 → ∀ b, b < 18 → a ≠ b → (TX10 a).2.1 ≠ (TX10 b).2.1 := by decide +kernel
theorem tyX10_ok : ∀ k, k < 18 → parseFieldDescriptor (TX10 k).2.2.1 = some (tyX10 k) := by decide +kernel
noncomputable abbrev cX10_init : ByteArray := prog_1_method_1_code
noncomputable def yX10_init : MethodName := ⟨RX10, "<init>", "()V"⟩
noncomputable abbrev cX10_word : ByteArray := prog_1_method_2_code
noncomputable def yX10_word : MethodName := ⟨RX10, "word", "(III)I"⟩
noncomputable abbrev cX10_terms : ByteArray := prog_1_method_3_code
noncomputable def yX10_terms : MethodName := ⟨RX10, "terms", "(II)I"⟩
noncomputable abbrev cX10_order : ByteArray := prog_1_method_4_code
noncomputable def yX10_order : MethodName := ⟨RX10, "order", "(I)I"⟩
noncomputable abbrev cX10_opening : ByteArray := prog_1_method_5_code
noncomputable def yX10_opening : MethodName := ⟨RX10, "opening", "(III)I"⟩
noncomputable abbrev cX10_who : ByteArray := prog_1_method_6_code
noncomputable def yX10_who : MethodName := ⟨RX10, "who", "(I)I"⟩
noncomputable abbrev cX10_sentence : ByteArray := prog_1_method_7_code
noncomputable def yX10_sentence : MethodName := ⟨RX10, "sentence", "(III)I"⟩
noncomputable abbrev cX10_weigh : ByteArray := prog_1_method_8_code
noncomputable def yX10_weigh : MethodName := ⟨RX10, "weigh", "(III)I"⟩
noncomputable abbrev cX10_row : ByteArray := prog_1_method_9_code
noncomputable def yX10_row : MethodName := ⟨RX10, "row", "(II)I"⟩
noncomputable abbrev cX10_fixed : ByteArray := prog_1_method_10_code
noncomputable def yX10_fixed : MethodName := ⟨RX10, "fixed", "(II)I"⟩
noncomputable abbrev cX10_odds : ByteArray := prog_1_method_11_code
noncomputable def yX10_odds : MethodName := ⟨RX10, "odds", "(IIIII)I"⟩
noncomputable abbrev cX10_fits : ByteArray := prog_1_method_12_code
noncomputable def yX10_fits : MethodName := ⟨RX10, "fits", "(III)I"⟩
noncomputable abbrev cX10_best : ByteArray := prog_1_method_13_code
noncomputable def yX10_best : MethodName := ⟨RX10, "best", "()J"⟩
noncomputable abbrev cX10_table : ByteArray := prog_1_method_14_code
noncomputable def yX10_table : MethodName := ⟨RX10, "table", "(III)I"⟩
noncomputable abbrev cX10_plan : ByteArray := prog_1_method_15_code
noncomputable def yX10_plan : MethodName := ⟨RX10, "plan", "(II)I"⟩
noncomputable abbrev cX10_feed : ByteArray := prog_1_method_16_code
noncomputable def yX10_feed : MethodName := ⟨RX10, "feed", "(IIIII)I"⟩
noncomputable abbrev cX10_end : ByteArray := prog_1_method_17_code
noncomputable def yX10_end : MethodName := ⟨RX10, "end", "(I)I"⟩
noncomputable abbrev cX10_habit : ByteArray := prog_1_method_18_code
noncomputable def yX10_habit : MethodName := ⟨RX10, "habit", "()I"⟩
noncomputable abbrev cX10_fault : ByteArray := prog_1_method_19_code
noncomputable def yX10_fault : MethodName := ⟨RX10, "fault", "()I"⟩
noncomputable abbrev cX10_run : ByteArray := prog_1_method_20_code
noncomputable def yX10_run : MethodName := ⟨RX10, "run", "(II)I"⟩
noncomputable abbrev cX10_move : ByteArray := prog_1_method_21_code
noncomputable def yX10_move : MethodName := ⟨RX10, "move", "(I)I"⟩
noncomputable abbrev cX10_worth : ByteArray := prog_1_method_22_code
noncomputable def yX10_worth : MethodName := ⟨RX10, "worth", "(I)J"⟩
noncomputable abbrev cX10_guessing : ByteArray := prog_1_method_23_code
noncomputable def yX10_guessing : MethodName := ⟨RX10, "guessing", "()J"⟩
noncomputable abbrev cX10_write : ByteArray := prog_1_method_24_code
noncomputable def yX10_write : MethodName := ⟨RX10, "write", "(I)J"⟩
noncomputable abbrev cX10_box : ByteArray := prog_1_method_25_code
noncomputable def yX10_box : MethodName := ⟨RX10, "box", "(III)I"⟩
noncomputable abbrev cX10_chain : ByteArray := prog_1_method_26_code
noncomputable def yX10_chain : MethodName := ⟨RX10, "chain", "()I"⟩
noncomputable abbrev cX10_link : ByteArray := prog_1_method_27_code
noncomputable def yX10_link : MethodName := ⟨RX10, "link", "(I)I"⟩
noncomputable abbrev cX10_tired : ByteArray := prog_1_method_28_code
noncomputable def yX10_tired : MethodName := ⟨RX10, "tired", "(II)I"⟩
noncomputable abbrev cX10_relieve : ByteArray := prog_1_method_29_code
noncomputable def yX10_relieve : MethodName := ⟨RX10, "relieve", "(I)I"⟩
noncomputable abbrev cX10_change : ByteArray := prog_1_method_30_code
noncomputable def yX10_change : MethodName := ⟨RX10, "change", "(I)I"⟩
noncomputable abbrev cX10_glossary : ByteArray := prog_1_method_31_code
noncomputable def yX10_glossary : MethodName := ⟨RX10, "glossary", "(II)I"⟩
noncomputable abbrev cX10_whose : ByteArray := prog_1_method_32_code
noncomputable def yX10_whose : MethodName := ⟨RX10, "whose", "(IIIII)I"⟩
noncomputable abbrev cX10_read : ByteArray := prog_1_method_33_code
noncomputable def yX10_read : MethodName := ⟨RX10, "read", "(I)I"⟩
noncomputable abbrev cX10_parting : ByteArray := prog_1_method_34_code
noncomputable def yX10_parting : MethodName := ⟨RX10, "parting", "(I)I"⟩
noncomputable abbrev cX10_image : ByteArray := prog_1_method_35_code
noncomputable def yX10_image : MethodName := ⟨RX10, "image", "(I)I"⟩
noncomputable abbrev cX10_back : ByteArray := prog_1_method_36_code
noncomputable def yX10_back : MethodName := ⟨RX10, "back", "(I)I"⟩
noncomputable abbrev cX10_count : ByteArray := prog_1_method_37_code
noncomputable def yX10_count : MethodName := ⟨RX10, "count", "(I)I"⟩
noncomputable abbrev cX10_status : ByteArray := prog_1_method_38_code
noncomputable def yX10_status : MethodName := ⟨RX10, "status", "()I"⟩
noncomputable abbrev cX10_refuse : ByteArray := prog_1_method_39_code
noncomputable def yX10_refuse : MethodName := ⟨RX10, "refuse", "(I)I"⟩
noncomputable abbrev cX10_accept : ByteArray := prog_1_method_40_code
noncomputable def yX10_accept : MethodName := ⟨RX10, "accept", "(I)I"⟩
noncomputable abbrev cX10_takeTape : ByteArray := prog_1_method_41_code
noncomputable def yX10_takeTape : MethodName := ⟨RX10, "takeTape", "()I"⟩
noncomputable abbrev cX10_putBytes : ByteArray := prog_1_method_42_code
noncomputable def yX10_putBytes : MethodName := ⟨RX10, "putBytes", "(I)V"⟩
noncomputable abbrev cX10_isRow : ByteArray := prog_1_method_43_code
noncomputable def yX10_isRow : MethodName := ⟨RX10, "isRow", "(I)Z"⟩
noncomputable abbrev cX10_freshenTree : ByteArray := prog_1_method_44_code
noncomputable def yX10_freshenTree : MethodName := ⟨RX10, "freshenTree", "()V"⟩
noncomputable abbrev cX10_sparedBy : ByteArray := prog_1_method_45_code
noncomputable def yX10_sparedBy : MethodName := ⟨RX10, "sparedBy", "(IJ)J"⟩
noncomputable abbrev cX10_soundsLike : ByteArray := prog_1_method_46_code
noncomputable def yX10_soundsLike : MethodName := ⟨RX10, "soundsLike", "(I)Z"⟩
noncomputable abbrev cX10_pairsApart : ByteArray := prog_1_method_47_code
noncomputable def yX10_pairsApart : MethodName := ⟨RX10, "pairsApart", "(I)I"⟩
noncomputable abbrev cX10_within : ByteArray := prog_1_method_48_code
noncomputable def yX10_within : MethodName := ⟨RX10, "within", "(III)Z"⟩
noncomputable abbrev cX10_isSlot : ByteArray := prog_1_method_49_code
noncomputable def yX10_isSlot : MethodName := ⟨RX10, "isSlot", "(I)Z"⟩
noncomputable abbrev cX10_isValue : ByteArray := prog_1_method_50_code
noncomputable def yX10_isValue : MethodName := ⟨RX10, "isValue", "(I)Z"⟩
noncomputable abbrev cX10_replace : ByteArray := prog_1_method_51_code
noncomputable def yX10_replace : MethodName := ⟨RX10, "replace", "([III)I"⟩
noncomputable abbrev cX10_commonDivisor : ByteArray := prog_1_method_52_code
noncomputable def yX10_commonDivisor : MethodName := ⟨RX10, "commonDivisor", "(II)I"⟩
noncomputable def RX11 : String := "GlassBoxModel"
noncomputable def TX11 : u_T := fun k => match k with
  | 0 => ("GlassBoxModel", "status", "I", false)
  | 1 => ("GlassBoxModel", "kept", "[I", true)
  | 2 => ("GlassBoxModel", "images", "[I", true)
  | 3 => ("GlassBoxModel", "hasImage", "[Z", true)
  | 4 => ("GlassBoxModel", "doneOf", "[I", true)
  | 5 => ("GlassBoxModel", "digitOf", "[I", true)
  | 6 => ("GlassBoxModel", "set", "I", false)
  | 7 => ("GlassBoxModel", "load", "I", false)
  | 8 => ("GlassBoxModel", "weightHere", "I", false)
  | 9 => ("GlassBoxModel", "over", "Z", false)
  | 10 => ("GlassBoxModel", "can", "[I", true)
  | 11 => ("GlassBoxModel", "sure", "[I", true)
  | 12 => ("GlassBoxModel", "opens", "[I", true)
  | 13 => ("GlassBoxModel", "next", "I", false)
  | 14 => ("GlassBoxModel", "saidThen", "I", false)
  | 15 => ("GlassBoxModel", "costThen", "I", false)
  | 16 => ("GlassBoxModel", "worths", "[J", true)
  | 17 => ("GlassBoxModel", "table", "[I", true)
  | 18 => ("GlassBoxModel", "tabled", "[Z", true)
  | 19 => ("GlassBoxModel", "tableLength", "[I", true)
  | 20 => ("GlassBoxModel", "tablePlace", "[I", true)
  | 21 => ("GlassBoxModel", "plans", "[I", true)
  | 22 => ("GlassBoxModel", "planMany", "[I", true)
  | 23 => ("GlassBoxModel", "hasTable", "Z", false)
  | 24 => ("GlassBoxModel", "keeps", "Z", false)
  | 25 => ("GlassBoxModel", "noGuess", "Z", false)
  | 26 => ("GlassBoxModel", "behind", "[I", true)
  | 27 => ("GlassBoxModel", "behindMany", "I", false)
  | 28 => ("GlassBoxModel", "words", "[B", true)
  | 29 => ("GlassBoxModel", "tape", "[B", true)
  | 30 => ("GlassBoxModel", "five", "[I", true)
  | 31 => ("GlassBoxModel", "taped", "I", false)
  | 32 => ("GlassBoxModel", "fault", "I", false)
  | 33 => ("GlassBoxModel", "code", "[I", true)
  | 34 => ("GlassBoxModel", "value", "[I", true)
  | 35 => ("GlassBoxModel", "placed", "[I", true)
  | 36 => ("GlassBoxModel", "tokens", "I", false)
  | 37 => ("GlassBoxModel", "token", "I", false)
  | 38 => ("GlassBoxModel", "leaves", "I", false)
  | 39 => ("GlassBoxModel", "bad", "I", false)
  | 40 => ("GlassBoxModel", "go", "I", false)
  | 41 => ("GlassBoxModel", "goEnd", "I", false)
  | 42 => ("GlassBoxModel", "broken", "Z", false)
  | 43 => ("GlassBoxModel", "asked", "[I", true)
  | 44 => ("GlassBoxModel", "moves", "[I", true)
  | 45 => ("GlassBoxModel", "movesMany", "I", false)
  | 46 => ("GlassBoxModel", "saidLast", "I", false)
  | 47 => ("GlassBoxModel", "lastMoves", "[I", true)
  | 48 => ("GlassBoxModel", "lastMany", "I", false)
  | 49 => ("GlassBoxModel", "links", "[I", true)
  | 50 => ("GlassBoxModel", "tried", "[I", true)
  | 51 => ("GlassBoxModel", "linked", "I", false)
  | 52 => ("GlassBoxModel", "costFrom", "[I", true)
  | 53 => ("GlassBoxModel", "sits", "[I", true)
  | 54 => ("GlassBoxModel", "changes", "[I", true)
  | 55 => ("GlassBoxModel", "changed", "I", false)
  | 56 => ("GlassBoxModel", "saves", "[I", true)
  | 57 => ("GlassBoxModel", "lines", "[I", true)
  | _ => ("GlassBoxModel", "lineMany", "[I", true)
noncomputable def tyX11 : Nat → FieldType := fun k => match k with
  | 0 => .int
  | 1 => .array .int
  | 2 => .array .int
  | 3 => .array .boolean
  | 4 => .array .int
  | 5 => .array .int
  | 6 => .int
  | 7 => .int
  | 8 => .int
  | 9 => .boolean
  | 10 => .array .int
  | 11 => .array .int
  | 12 => .array .int
  | 13 => .int
  | 14 => .int
  | 15 => .int
  | 16 => .array .long
  | 17 => .array .int
  | 18 => .array .boolean
  | 19 => .array .int
  | 20 => .array .int
  | 21 => .array .int
  | 22 => .array .int
  | 23 => .boolean
  | 24 => .boolean
  | 25 => .boolean
  | 26 => .array .int
  | 27 => .int
  | 28 => .array .byte
  | 29 => .array .byte
  | 30 => .array .int
  | 31 => .int
  | 32 => .int
  | 33 => .array .int
  | 34 => .array .int
  | 35 => .array .int
  | 36 => .int
  | 37 => .int
  | 38 => .int
  | 39 => .int
  | 40 => .int
  | 41 => .int
  | 42 => .boolean
  | 43 => .array .int
  | 44 => .array .int
  | 45 => .int
  | 46 => .int
  | 47 => .array .int
  | 48 => .int
  | 49 => .array .int
  | 50 => .array .int
  | 51 => .int
  | 52 => .array .int
  | 53 => .array .int
  | 54 => .array .int
  | 55 => .int
  | 56 => .array .int
  | 57 => .array .int
  | _ => .array .int
noncomputable abbrev wsX110 : List Cond := u_ws RX11 TX11 59
theorem nmX11 : ∀ a, a < 59 → ∀ b, b < 59 → a ≠ b → (TX11 a).2.1 ≠ (TX11 b).2.1 := by decide +kernel
theorem tyX11_ok : ∀ k, k < 59 → parseFieldDescriptor (TX11 k).2.2.1 = some (tyX11 k) := by decide +kernel
noncomputable abbrev cX11_in : ByteArray := prog_13_method_1_code
noncomputable def yX11_in : MethodName := ⟨RX11, "in", "(III)Z"⟩
noncomputable abbrev cX11_refuses : ByteArray := prog_13_method_2_code
noncomputable def yX11_refuses : MethodName := ⟨RX11, "refuses", "(I)I"⟩
noncomputable abbrev cX11_good : ByteArray := prog_13_method_3_code
noncomputable def yX11_good : MethodName := ⟨RX11, "good", "(I)I"⟩
noncomputable abbrev cX11_init : ByteArray := prog_13_method_4_code
noncomputable def yX11_init : MethodName := ⟨RX11, "<init>", "()V"⟩
noncomputable abbrev cX11_image : ByteArray := prog_13_method_5_code
noncomputable def yX11_image : MethodName := ⟨RX11, "image", "(I)I"⟩
noncomputable abbrev cX11_back : ByteArray := prog_13_method_6_code
noncomputable def yX11_back : MethodName := ⟨RX11, "back", "(I)I"⟩
noncomputable abbrev cX11_term : ByteArray := prog_13_method_7_code
noncomputable def yX11_term : MethodName := ⟨RX11, "term", "(I)I"⟩
noncomputable abbrev cX11_isSentence : ByteArray := prog_13_method_8_code
noncomputable def yX11_isSentence : MethodName := ⟨RX11, "isSentence", "(I)Z"⟩
noncomputable abbrev cX11_isText : ByteArray := prog_13_method_9_code
noncomputable def yX11_isText : MethodName := ⟨RX11, "isText", "(I)Z"⟩
noncomputable abbrev cX11_lengthOf : ByteArray := prog_13_method_10_code
noncomputable def yX11_lengthOf : MethodName := ⟨RX11, "lengthOf", "(I)I"⟩
noncomputable abbrev cX11_wordOfRow : ByteArray := prog_13_method_11_code
noncomputable def yX11_wordOfRow : MethodName := ⟨RX11, "wordOfRow", "(II)I"⟩
noncomputable abbrev cX11_valueOf : ByteArray := prog_13_method_12_code
noncomputable def yX11_valueOf : MethodName := ⟨RX11, "valueOf", "(II)I"⟩
noncomputable abbrev cX11_weightOf : ByteArray := prog_13_method_13_code
noncomputable def yX11_weightOf : MethodName := ⟨RX11, "weightOf", "(I)I"⟩
noncomputable abbrev cX11_isSpoken : ByteArray := prog_13_method_14_code
noncomputable def yX11_isSpoken : MethodName := ⟨RX11, "isSpoken", "(I)Z"⟩
noncomputable abbrev cX11_word : ByteArray := prog_13_method_15_code
noncomputable def yX11_word : MethodName := ⟨RX11, "word", "(III)I"⟩
noncomputable abbrev cX11_terms : ByteArray := prog_13_method_16_code
noncomputable def yX11_terms : MethodName := ⟨RX11, "terms", "(II)I"⟩
noncomputable abbrev cX11_order : ByteArray := prog_13_method_17_code
noncomputable def yX11_order : MethodName := ⟨RX11, "order", "(I)I"⟩
noncomputable abbrev cX11_opening : ByteArray := prog_13_method_18_code
noncomputable def yX11_opening : MethodName := ⟨RX11, "opening", "(III)I"⟩
noncomputable abbrev cX11_who : ByteArray := prog_13_method_19_code
noncomputable def yX11_who : MethodName := ⟨RX11, "who", "(I)I"⟩
noncomputable abbrev cX11_isTapeRow : ByteArray := prog_13_method_20_code
noncomputable def yX11_isTapeRow : MethodName := ⟨RX11, "isTapeRow", "(II)Z"⟩
noncomputable abbrev cX11_sentence : ByteArray := prog_13_method_21_code
noncomputable def yX11_sentence : MethodName := ⟨RX11, "sentence", "(III)I"⟩
noncomputable abbrev cX11_weigh : ByteArray := prog_13_method_22_code
noncomputable def yX11_weigh : MethodName := ⟨RX11, "weigh", "(III)I"⟩
noncomputable abbrev cX11_row : ByteArray := prog_13_method_23_code
noncomputable def yX11_row : MethodName := ⟨RX11, "row", "(II)I"⟩
noncomputable abbrev cX11_begins : ByteArray := prog_13_method_24_code
noncomputable def yX11_begins : MethodName := ⟨RX11, "begins", "(III)Z"⟩
noncomputable abbrev cX11_setOf : ByteArray := prog_13_method_25_code
noncomputable def yX11_setOf : MethodName := ⟨RX11, "setOf", "(IIZ)I"⟩
noncomputable abbrev cX11_valuesOf : ByteArray := prog_13_method_26_code
noncomputable def yX11_valuesOf : MethodName := ⟨RX11, "valuesOf", "(II)I"⟩
noncomputable abbrev cX11_weightOfAll : ByteArray := prog_13_method_27_code
noncomputable def yX11_weightOfAll : MethodName := ⟨RX11, "weightOfAll", "(I)I"⟩
noncomputable abbrev cX11_weightOfValue : ByteArray := prog_13_method_28_code
noncomputable def yX11_weightOfValue : MethodName := ⟨RX11, "weightOfValue", "(III)I"⟩
noncomputable abbrev cX11_ones : ByteArray := prog_13_method_29_code
noncomputable def yX11_ones : MethodName := ⟨RX11, "ones", "(I)I"⟩
noncomputable abbrev cX11_alone : ByteArray := prog_13_method_30_code
noncomputable def yX11_alone : MethodName := ⟨RX11, "alone", "(I)I"⟩
noncomputable abbrev cX11_fixed : ByteArray := prog_13_method_31_code
noncomputable def yX11_fixed : MethodName := ⟨RX11, "fixed", "(II)I"⟩
noncomputable abbrev cX11_common : ByteArray := prog_13_method_32_code
noncomputable def yX11_common : MethodName := ⟨RX11, "common", "(II)I"⟩
noncomputable abbrev cX11_odds : ByteArray := prog_13_method_33_code
noncomputable def yX11_odds : MethodName := ⟨RX11, "odds", "(IIIII)I"⟩
noncomputable abbrev cX11_openingFor : ByteArray := prog_13_method_34_code
noncomputable def yX11_openingFor : MethodName := ⟨RX11, "openingFor", "(II)I"⟩
noncomputable abbrev cX11_fits : ByteArray := prog_13_method_35_code
noncomputable def yX11_fits : MethodName := ⟨RX11, "fits", "(III)I"⟩
noncomputable abbrev cX11_slotAt : ByteArray := prog_13_method_36_code
noncomputable def yX11_slotAt : MethodName := ⟨RX11, "slotAt", "(I)I"⟩
noncomputable abbrev cX11_place : ByteArray := prog_13_method_37_code
noncomputable def yX11_place : MethodName := ⟨RX11, "place", "(IIZ)V"⟩
noncomputable abbrev cX11_withDigit : ByteArray := prog_13_method_38_code
noncomputable def yX11_withDigit : MethodName := ⟨RX11, "withDigit", "(III)I"⟩
noncomputable abbrev cX11_indexOf : ByteArray := prog_13_method_39_code
noncomputable def yX11_indexOf : MethodName := ⟨RX11, "indexOf", "(I)I"⟩
noncomputable abbrev cX11_canMend : ByteArray := prog_13_method_40_code
noncomputable def yX11_canMend : MethodName := ⟨RX11, "canMend", "(II)Z"⟩
noncomputable abbrev cX11_digitChanged : ByteArray := prog_13_method_41_code
noncomputable def yX11_digitChanged : MethodName := ⟨RX11, "digitChanged", "(IIII)I"⟩
noncomputable abbrev cX11_does : ByteArray := prog_13_method_42_code
noncomputable def yX11_does : MethodName := ⟨RX11, "does", "(II)Z"⟩
noncomputable abbrev cX11_heldWith : ByteArray := prog_13_method_43_code
noncomputable def yX11_heldWith : MethodName := ⟨RX11, "heldWith", "(I)I"⟩
noncomputable abbrev cX11_secondOf : ByteArray := prog_13_method_44_code
noncomputable def yX11_secondOf : MethodName := ⟨RX11, "secondOf", "(I)I"⟩
noncomputable abbrev cX11_endOf : ByteArray := prog_13_method_45_code
noncomputable def yX11_endOf : MethodName := ⟨RX11, "endOf", "(II)I"⟩
noncomputable abbrev cX11_moveAt : ByteArray := prog_13_method_46_code
noncomputable def yX11_moveAt : MethodName := ⟨RX11, "moveAt", "(I)I"⟩
noncomputable abbrev cX11_firstOf : ByteArray := prog_13_method_47_code
noncomputable def yX11_firstOf : MethodName := ⟨RX11, "firstOf", "(II)I"⟩
noncomputable abbrev cX11_writes : ByteArray := prog_13_method_48_code
noncomputable def yX11_writes : MethodName := ⟨RX11, "writes", "(IIJI)V"⟩
noncomputable abbrev cX11_wrongs : ByteArray := prog_13_method_49_code
noncomputable def yX11_wrongs : MethodName := ⟨RX11, "wrongs", "(II)I"⟩
noncomputable abbrev cX11_overAt : ByteArray := prog_13_method_50_code
noncomputable def yX11_overAt : MethodName := ⟨RX11, "overAt", "(II)V"⟩
noncomputable abbrev cX11_overs : ByteArray := prog_13_method_51_code
noncomputable def yX11_overs : MethodName := ⟨RX11, "overs", "(I)V"⟩
noncomputable abbrev cX11_follows : ByteArray := prog_13_method_52_code
noncomputable def yX11_follows : MethodName := ⟨RX11, "follows", "(II)V"⟩
noncomputable abbrev cX11_placeAt : ByteArray := prog_13_method_53_code
noncomputable def yX11_placeAt : MethodName := ⟨RX11, "placeAt", "(II)V"⟩
noncomputable abbrev cX11_leastOf : ByteArray := prog_13_method_54_code
noncomputable def yX11_leastOf : MethodName := ⟨RX11, "leastOf", "()J"⟩
noncomputable abbrev cX11_plansOf : ByteArray := prog_13_method_55_code
noncomputable def yX11_plansOf : MethodName := ⟨RX11, "plansOf", "(I)V"⟩
noncomputable abbrev cX11_best : ByteArray := prog_13_method_56_code
noncomputable def yX11_best : MethodName := ⟨RX11, "best", "()J"⟩
noncomputable abbrev cX11_isTabled : ByteArray := prog_13_method_57_code
noncomputable def yX11_isTabled : MethodName := ⟨RX11, "isTabled", "(I)Z"⟩
noncomputable abbrev cX11_table : ByteArray := prog_13_method_58_code
noncomputable def yX11_table : MethodName := ⟨RX11, "table", "(III)I"⟩
noncomputable abbrev cX11_plan : ByteArray := prog_13_method_59_code
noncomputable def yX11_plan : MethodName := ⟨RX11, "plan", "(II)I"⟩
noncomputable abbrev cX11_guessing : ByteArray := prog_13_method_60_code
noncomputable def yX11_guessing : MethodName := ⟨RX11, "guessing", "()J"⟩
noncomputable abbrev cX11_writing : ByteArray := prog_13_method_61_code
noncomputable def yX11_writing : MethodName := ⟨RX11, "writing", "(IJ)J"⟩
noncomputable abbrev cX11_isHeard : ByteArray := prog_13_method_62_code
noncomputable def yX11_isHeard : MethodName := ⟨RX11, "isHeard", "(I)Z"⟩
noncomputable abbrev cX11_write : ByteArray := prog_13_method_63_code
noncomputable def yX11_write : MethodName := ⟨RX11, "write", "(I)J"⟩
noncomputable abbrev cX11_feed : ByteArray := prog_13_method_64_code
noncomputable def yX11_feed : MethodName := ⟨RX11, "feed", "(IIIII)I"⟩
noncomputable abbrev cX11_end : ByteArray := prog_13_method_65_code
noncomputable def yX11_end : MethodName := ⟨RX11, "end", "(I)I"⟩
noncomputable abbrev cX11_isSmall : ByteArray := prog_13_method_66_code
noncomputable def yX11_isSmall : MethodName := ⟨RX11, "isSmall", "(I)Z"⟩
noncomputable abbrev cX11_isDigit : ByteArray := prog_13_method_67_code
noncomputable def yX11_isDigit : MethodName := ⟨RX11, "isDigit", "(I)Z"⟩
noncomputable abbrev cX11_wordOf : ByteArray := prog_13_method_68_code
noncomputable def yX11_wordOf : MethodName := ⟨RX11, "wordOf", "(II)I"⟩
noncomputable abbrev cX11_cuts : ByteArray := prog_13_method_69_code
noncomputable def yX11_cuts : MethodName := ⟨RX11, "cuts", "(I)V"⟩
noncomputable abbrev cX11_fine : ByteArray := prog_13_method_70_code
noncomputable def yX11_fine : MethodName := ⟨RX11, "fine", "()Z"⟩
noncomputable abbrev cX11_faults : ByteArray := prog_13_method_71_code
noncomputable def yX11_faults : MethodName := ⟨RX11, "faults", "()V"⟩
noncomputable abbrev cX11_takes : ByteArray := prog_13_method_72_code
noncomputable def yX11_takes : MethodName := ⟨RX11, "takes", "(I)Z"⟩
noncomputable abbrev cX11_must : ByteArray := prog_13_method_73_code
noncomputable def yX11_must : MethodName := ⟨RX11, "must", "(I)V"⟩
noncomputable abbrev cX11_leaf : ByteArray := prog_13_method_74_code
noncomputable def yX11_leaf : MethodName := ⟨RX11, "leaf", "()V"⟩
noncomputable abbrev cX11_sign : ByteArray := prog_13_method_75_code
noncomputable def yX11_sign : MethodName := ⟨RX11, "sign", "(C)I"⟩
noncomputable abbrev cX11_readClause : ByteArray := prog_13_method_76_code
noncomputable def yX11_readClause : MethodName := ⟨RX11, "readClause", "()V"⟩
noncomputable abbrev cX11_readTest : ByteArray := prog_13_method_77_code
noncomputable def yX11_readTest : MethodName := ⟨RX11, "readTest", "(I)V"⟩
noncomputable abbrev cX11_readBoth : ByteArray := prog_13_method_78_code
noncomputable def yX11_readBoth : MethodName := ⟨RX11, "readBoth", "(I)V"⟩
noncomputable abbrev cX11_readPlain : ByteArray := prog_13_method_79_code
noncomputable def yX11_readPlain : MethodName := ⟨RX11, "readPlain", "(I)V"⟩
noncomputable abbrev cX11_readSum : ByteArray := prog_13_method_80_code
noncomputable def yX11_readSum : MethodName := ⟨RX11, "readSum", "(I)V"⟩
noncomputable abbrev cX11_readTerm : ByteArray := prog_13_method_81_code
noncomputable def yX11_readTerm : MethodName := ⟨RX11, "readTerm", "(I)V"⟩
noncomputable abbrev cX11_readPart : ByteArray := prog_13_method_82_code
noncomputable def yX11_readPart : MethodName := ⟨RX11, "readPart", "(I)V"⟩
noncomputable abbrev cX11_reads : ByteArray := prog_13_method_83_code
noncomputable def yX11_reads : MethodName := ⟨RX11, "reads", "()Z"⟩
noncomputable abbrev cX11_habit : ByteArray := prog_13_method_84_code
noncomputable def yX11_habit : MethodName := ⟨RX11, "habit", "()I"⟩
noncomputable abbrev cX11_fault : ByteArray := prog_13_method_85_code
noncomputable def yX11_fault : MethodName := ⟨RX11, "fault", "()I"⟩
noncomputable abbrev cX11_codeAt : ByteArray := prog_13_method_86_code
noncomputable def yX11_codeAt : MethodName := ⟨RX11, "codeAt", "(I)I"⟩
noncomputable abbrev cX11_passes : ByteArray := prog_13_method_87_code
noncomputable def yX11_passes : MethodName := ⟨RX11, "passes", "(I)Z"⟩
noncomputable abbrev cX11_bounded : ByteArray := prog_13_method_88_code
noncomputable def yX11_bounded : MethodName := ⟨RX11, "bounded", "(JZ)J"⟩
noncomputable abbrev cX11_sumOf : ByteArray := prog_13_method_89_code
noncomputable def yX11_sumOf : MethodName := ⟨RX11, "sumOf", "(Z)J"⟩
noncomputable abbrev cX11_termOf : ByteArray := prog_13_method_90_code
noncomputable def yX11_termOf : MethodName := ⟨RX11, "termOf", "(Z)J"⟩
noncomputable abbrev cX11_partOf : ByteArray := prog_13_method_91_code
noncomputable def yX11_partOf : MethodName := ⟨RX11, "partOf", "(Z)J"⟩
noncomputable abbrev cX11_testOf : ByteArray := prog_13_method_92_code
noncomputable def yX11_testOf : MethodName := ⟨RX11, "testOf", "(Z)Z"⟩
noncomputable abbrev cX11_bothOf : ByteArray := prog_13_method_93_code
noncomputable def yX11_bothOf : MethodName := ⟨RX11, "bothOf", "(Z)Z"⟩
noncomputable abbrev cX11_plainOf : ByteArray := prog_13_method_94_code
noncomputable def yX11_plainOf : MethodName := ⟨RX11, "plainOf", "(Z)Z"⟩
noncomputable abbrev cX11_positiveOf : ByteArray := prog_13_method_95_code
noncomputable def yX11_positiveOf : MethodName := ⟨RX11, "positiveOf", "(Z)Z"⟩
noncomputable abbrev cX11_likeliest : ByteArray := prog_13_method_96_code
noncomputable def yX11_likeliest : MethodName := ⟨RX11, "likeliest", "()I"⟩
noncomputable abbrev cX11_firstMend : ByteArray := prog_13_method_97_code
noncomputable def yX11_firstMend : MethodName := ⟨RX11, "firstMend", "(I)I"⟩
noncomputable abbrev cX11_asksAt : ByteArray := prog_13_method_98_code
noncomputable def yX11_asksAt : MethodName := ⟨RX11, "asksAt", "(II)V"⟩
noncomputable abbrev cX11_moveFor : ByteArray := prog_13_method_99_code
noncomputable def yX11_moveFor : MethodName := ⟨RX11, "moveFor", "(II)I"⟩
noncomputable abbrev cX11_habitOf : ByteArray := prog_13_method_100_code
noncomputable def yX11_habitOf : MethodName := ⟨RX11, "habitOf", "(III)I"⟩
noncomputable abbrev cX11_plays : ByteArray := prog_13_method_101_code
noncomputable def yX11_plays : MethodName := ⟨RX11, "plays", "(II)J"⟩
noncomputable abbrev cX11_run : ByteArray := prog_13_method_102_code
noncomputable def yX11_run : MethodName := ⟨RX11, "run", "(II)I"⟩
noncomputable abbrev cX11_move : ByteArray := prog_13_method_103_code
noncomputable def yX11_move : MethodName := ⟨RX11, "move", "(I)I"⟩
noncomputable abbrev cX11_worth : ByteArray := prog_13_method_104_code
noncomputable def yX11_worth : MethodName := ⟨RX11, "worth", "(I)J"⟩
noncomputable abbrev cX11_box : ByteArray := prog_13_method_105_code
noncomputable def yX11_box : MethodName := ⟨RX11, "box", "(III)I"⟩
noncomputable abbrev cX11_keptBy : ByteArray := prog_13_method_106_code
noncomputable def yX11_keptBy : MethodName := ⟨RX11, "keptBy", "()I"⟩
noncomputable abbrev cX11_isRow : ByteArray := prog_13_method_107_code
noncomputable def yX11_isRow : MethodName := ⟨RX11, "isRow", "(I)Z"⟩
noncomputable abbrev cX11_chain : ByteArray := prog_13_method_108_code
noncomputable def yX11_chain : MethodName := ⟨RX11, "chain", "()I"⟩
noncomputable abbrev cX11_link : ByteArray := prog_13_method_109_code
noncomputable def yX11_link : MethodName := ⟨RX11, "link", "(I)I"⟩
noncomputable abbrev cX11_tired : ByteArray := prog_13_method_110_code
noncomputable def yX11_tired : MethodName := ⟨RX11, "tired", "(II)I"⟩
noncomputable abbrev cX11_relieve : ByteArray := prog_13_method_111_code
noncomputable def yX11_relieve : MethodName := ⟨RX11, "relieve", "(I)I"⟩
noncomputable abbrev cX11_change : ByteArray := prog_13_method_112_code
noncomputable def yX11_change : MethodName := ⟨RX11, "change", "(I)I"⟩
noncomputable abbrev cX11_saved : ByteArray := prog_13_method_113_code
noncomputable def yX11_saved : MethodName := ⟨RX11, "saved", "(I)I"⟩
noncomputable abbrev cX11_glossary : ByteArray := prog_13_method_114_code
noncomputable def yX11_glossary : MethodName := ⟨RX11, "glossary", "(II)I"⟩
noncomputable abbrev cX11_whose : ByteArray := prog_13_method_115_code
noncomputable def yX11_whose : MethodName := ⟨RX11, "whose", "(IIIII)I"⟩
noncomputable abbrev cX11_read : ByteArray := prog_13_method_116_code
noncomputable def yX11_read : MethodName := ⟨RX11, "read", "(I)I"⟩
noncomputable abbrev cX11_areAlike : ByteArray := prog_13_method_117_code
noncomputable def yX11_areAlike : MethodName := ⟨RX11, "areAlike", "(II)Z"⟩
noncomputable abbrev cX11_parting : ByteArray := prog_13_method_118_code
noncomputable def yX11_parting : MethodName := ⟨RX11, "parting", "(I)I"⟩
noncomputable abbrev cX11_count : ByteArray := prog_13_method_119_code
noncomputable def yX11_count : MethodName := ⟨RX11, "count", "(I)I"⟩
noncomputable abbrev cX11_status : ByteArray := prog_13_method_120_code
noncomputable def yX11_status : MethodName := ⟨RX11, "status", "()I"⟩
noncomputable def RJx8e188 : String := "java/lang/Cloneable"
noncomputable def TJx8e188 : u_T := fun k => match k with
  | _ => ("", "", "", false)
noncomputable def tyJx8e188 : Nat → FieldType := fun k => match k with
  | _ => .int
noncomputable abbrev wsJx8e1880 : List Cond := u_ws RJx8e188 TJx8e188 0
theorem nmJx8e188 : ∀ a, a < 0 → ∀ b, b < 0 → a ≠ b → (TJx8e188 a).2.1 ≠ (TJx8e188 b).2.1 := by decide +kernel
theorem tyJx8e188_ok : ∀ k, k < 0 → parseFieldDescriptor (TJx8e188 k).2.2.1 = some (tyJx8e188 k) := by decide +kernel
noncomputable def RJ6 : String := "java/lang/Integer"
noncomputable def TJ6 : u_T := fun k => match k with
  | _ => ("", "", "", false)
noncomputable def tyJ6 : Nat → FieldType := fun k => match k with
  | _ => .int
noncomputable abbrev wsJ60 : List Cond := u_ws RJ6 TJ6 0
theorem nmJ6 : ∀ a, a < 0 → ∀ b, b < 0 → a ≠ b → (TJ6 a).2.1 ≠ (TJ6 b).2.1 := by decide +kernel
theorem tyJ6_ok : ∀ k, k < 0 → parseFieldDescriptor (TJ6 k).2.2.1 = some (tyJ6 k) := by decide +kernel
noncomputable abbrev cJ6_bitCount_0f7a4 : ByteArray := prog_15_method_49_code
noncomputable def yJ6_bitCount_0f7a4 : MethodName := ⟨RJ6, "bitCount", "(I)I"⟩
noncomputable def RJ9 : String := "java/lang/Math"
noncomputable def TJ9 : u_T := fun k => match k with
  | _ => ("", "", "", false)
noncomputable def tyJ9 : Nat → FieldType := fun k => match k with
  | _ => .int
noncomputable abbrev wsJ90 : List Cond := u_ws RJ9 TJ9 0
theorem nmJ9 : ∀ a, a < 0 → ∀ b, b < 0 → a ≠ b → (TJ9 a).2.1 ≠ (TJ9 b).2.1 := by decide +kernel
theorem tyJ9_ok : ∀ k, k < 0 → parseFieldDescriptor (TJ9 k).2.2.1 = some (tyJ9 k) := by decide +kernel
noncomputable abbrev cJ9_max_7cf53 : ByteArray := prog_16_method_65_code
noncomputable def yJ9_max_7cf53 : MethodName := ⟨RJ9, "max", "(II)I"⟩
noncomputable abbrev cJ9_min_7cf53 : ByteArray := prog_16_method_69_code
noncomputable def yJ9_min_7cf53 : MethodName := ⟨RJ9, "min", "(II)I"⟩
noncomputable abbrev cJ9_min_f86c9 : ByteArray := prog_16_method_70_code
noncomputable def yJ9_min_f86c9 : MethodName := ⟨RJ9, "min", "(JJ)J"⟩
noncomputable def RJ0 : String := "java/lang/String"
noncomputable def TJ0 : u_T := fun k => match k with
  | _ => ("", "", "", false)
noncomputable def tyJ0 : Nat → FieldType := fun k => match k with
  | _ => .int
noncomputable abbrev wsJ00 : List Cond := u_ws RJ0 TJ0 0
theorem nmJ0 : ∀ a, a < 0 → ∀ b, b < 0 → a ≠ b → (TJ0 a).2.1 ≠ (TJ0 b).2.1 := by decide +kernel
theorem tyJ0_ok : ∀ k, k < 0 → parseFieldDescriptor (TJ0 k).2.2.1 = some (tyJ0 k) := by decide +kernel
noncomputable abbrev cJ0_length_8abf5 : ByteArray := prog_17_method_54_code
noncomputable def yJ0_length_8abf5 : MethodName := ⟨RJ0, "length", "()I"⟩
noncomputable abbrev cJ0_charAt_5068e : ByteArray := prog_17_method_56_code
noncomputable def yJ0_charAt_5068e : MethodName := ⟨RJ0, "charAt", "(I)C"⟩
noncomputable abbrev cJ0_coder_7d493 : ByteArray := prog_17_method_152_code
noncomputable def yJ0_coder_7d493 : MethodName := ⟨RJ0, "coder", "()B"⟩
noncomputable abbrev cJ0_isLatin1_aae02 : ByteArray := prog_17_method_154_code
noncomputable def yJ0_isLatin1_aae02 : MethodName := ⟨RJ0, "isLatin1", "()Z"⟩
noncomputable abbrev cJ0_checkIndex_df160 : ByteArray := prog_17_method_155_code
noncomputable def yJ0_checkIndex_df160 : MethodName := ⟨RJ0, "checkIndex", "(II)V"⟩
noncomputable def RJ1 : String := "java/lang/StringLatin1"
noncomputable def TJ1 : u_T := fun k => match k with
  | _ => ("", "", "", false)
noncomputable def tyJ1 : Nat → FieldType := fun k => match k with
  | _ => .int
noncomputable abbrev wsJ10 : List Cond := u_ws RJ1 TJ1 0
theorem nmJ1 : ∀ a, a < 0 → ∀ b, b < 0 → a ≠ b → (TJ1 a).2.1 ≠ (TJ1 b).2.1 := by decide +kernel
theorem tyJ1_ok : ∀ k, k < 0 → parseFieldDescriptor (TJ1 k).2.2.1 = some (tyJ1 k) := by decide +kernel
noncomputable abbrev cJ1_charAt_3b067 : ByteArray := prog_18_method_2_code
noncomputable def yJ1_charAt_3b067 : MethodName := ⟨RJ1, "charAt", "([BI)C"⟩
noncomputable def RJ2 : String := "java/lang/StringUTF16"
noncomputable def TJ2 : u_T := fun k => match k with
  | _ => ("", "", "", false)
noncomputable def tyJ2 : Nat → FieldType := fun k => match k with
  | _ => .int
noncomputable abbrev wsJ20 : List Cond := u_ws RJ2 TJ2 0
theorem nmJ2 : ∀ a, a < 0 → ∀ b, b < 0 → a ≠ b → (TJ2 a).2.1 ≠ (TJ2 b).2.1 := by decide +kernel
theorem tyJ2_ok : ∀ k, k < 0 → parseFieldDescriptor (TJ2 k).2.2.1 = some (tyJ2 k) := by decide +kernel
noncomputable abbrev cJ2_getChar_3b067 : ByteArray := prog_19_method_5_code
noncomputable def yJ2_getChar_3b067 : MethodName := ⟨RJ2, "getChar", "([BI)C"⟩
noncomputable abbrev cJ2_length_9d52b : ByteArray := prog_19_method_6_code
noncomputable def yJ2_length_9d52b : MethodName := ⟨RJ2, "length", "([B)I"⟩
noncomputable abbrev cJ2_charAt_3b067 : ByteArray := prog_19_method_83_code
noncomputable def yJ2_charAt_3b067 : MethodName := ⟨RJ2, "charAt", "([BI)C"⟩
noncomputable abbrev cJ2_checkIndex_2214a : ByteArray := prog_19_method_91_code
noncomputable def yJ2_checkIndex_2214a : MethodName := ⟨RJ2, "checkIndex", "(I[B)V"⟩
noncomputable def RJ10 : String := "java/lang/System"
noncomputable def TJ10 : u_T := fun k => match k with
  | _ => ("", "", "", false)
noncomputable def tyJ10 : Nat → FieldType := fun k => match k with
  | _ => .int
noncomputable abbrev wsJ100 : List Cond := u_ws RJ10 TJ10 0
theorem nmJ10 : ∀ a, a < 0 → ∀ b, b < 0 → a ≠ b → (TJ10 a).2.1 ≠ (TJ10 b).2.1 := by decide +kernel
theorem tyJ10_ok : ∀ k, k < 0 → parseFieldDescriptor (TJ10 k).2.2.1 = some (tyJ10 k) := by decide +kernel
noncomputable def RJ7 : String := "java/util/Arrays"
noncomputable def TJ7 : u_T := fun k => match k with
  | _ => ("", "", "", false)
noncomputable def tyJ7 : Nat → FieldType := fun k => match k with
  | _ => .int
noncomputable abbrev wsJ70 : List Cond := u_ws RJ7 TJ7 0
theorem nmJ7 : ∀ a, a < 0 → ∀ b, b < 0 → a ≠ b → (TJ7 a).2.1 ≠ (TJ7 b).2.1 := by decide +kernel
theorem tyJ7_ok : ∀ k, k < 0 → parseFieldDescriptor (TJ7 k).2.2.1 = some (tyJ7 k) := by decide +kernel
noncomputable abbrev cJ7_fill_53178 : ByteArray := prog_21_method_103_code
noncomputable def yJ7_fill_53178 : MethodName := ⟨RJ7, "fill", "([II)V"⟩
noncomputable abbrev cJ7_copyOf_59c91 : ByteArray := prog_21_method_123_code
noncomputable def yJ7_copyOf_59c91 : MethodName := ⟨RJ7, "copyOf", "([II)[I"⟩
noncomputable def RJ3 : String := "jdk/internal/util/Preconditions"
noncomputable def TJ3 : u_T := fun k => match k with
  | _ => ("", "", "", false)
noncomputable def tyJ3 : Nat → FieldType := fun k => match k with
  | _ => .int
noncomputable abbrev wsJ30 : List Cond := u_ws RJ3 TJ3 0
theorem nmJ3 : ∀ a, a < 0 → ∀ b, b < 0 → a ≠ b → (TJ3 a).2.1 ≠ (TJ3 b).2.1 := by decide +kernel
theorem tyJ3_ok : ∀ k, k < 0 → parseFieldDescriptor (TJ3 k).2.2.1 = some (tyJ3 k) := by decide +kernel
noncomputable abbrev cJ3_checkIndex_8e157 : ByteArray := prog_22_method_11_code
noncomputable def yJ3_checkIndex_8e157 : MethodName := ⟨RJ3, "checkIndex", "(IILjava/util/function/BiFunction;)I"⟩
noncomputable def RL : String := "GlassBoxLaw"
noncomputable abbrev cL_law : ByteArray := code
noncomputable def yL_law : MethodName := ⟨RL, "law", "([I)Z"⟩
noncomputable def wsL_law_r1 : List Cond := [Cond.classLink RL 7 RX10, Cond.instantiable RX10 18, Cond.initialized RX10, Cond.classLink RL 10 RX11, Cond.instantiable RX11 59, Cond.initialized RX11, Cond.methodLink RL 9 yX10_init, Cond.instanceMethod yX10_init, Cond.code yX10_init cX10_init 1 none, Cond.methodLink RX10 1 objectInit, Cond.instanceMethod objectInit, Cond.code objectInit ⟨#[0xb1]⟩ 1 none, Cond.classLink RX10 7 RX8, Cond.instantiable RX8 16, Cond.initialized RX8, Cond.fieldLink RX10 10 "GlassBox" "now" "LGlassBox$State;", Cond.fieldLink RX10 16 "GlassBox" "images" "[LGlassBox$State;", Cond.arrayClass .int, Cond.fieldLink RX10 20 "GlassBox" "tape" "[I", Cond.fieldLink RX10 24 "GlassBox" "tapeLength" "I", Cond.fieldLink RX10 28 "GlassBox" "faultAt" "I", Cond.fieldLink RX10 31 "GlassBox" "refusedBy" "I", Cond.classLink RX10 34 RX4, Cond.instantiable RX4 11]
noncomputable def wsL_law_r2 : List Cond := [Cond.initialized RX4, Cond.fieldLink RX10 37 "GlassBox" "reader" "LGlassBox$Reader;", Cond.classLink RX10 41 RX9, Cond.instantiable RX9 18, Cond.initialized RX9, Cond.fieldLink RX10 44 "GlassBox" "tree" "LGlassBox$Tree;", Cond.classLink RX10 48 RX7, Cond.instantiable RX7 5, Cond.initialized RX7, Cond.fieldLink RX10 53 "GlassBox" "solver" "LGlassBox$Solver;", Cond.fieldLink RX10 57 "GlassBox" "stale" "Z", Cond.fieldLink RX10 61 "GlassBox" "latestTree" "LGlassBox$Tree;", Cond.fieldLink RX10 64 "GlassBox" "latestSolver" "LGlassBox$Solver;", Cond.classLink RX10 67 RX0, Cond.instantiable RX0 7, Cond.initialized RX0, Cond.fieldLink RX10 70 "GlassBox" "booth" "LGlassBox$Booth;", Cond.fieldLink RX10 74 "GlassBox" "latestBooth" "LGlassBox$Booth;", Cond.classLink RX10 77 RX1, Cond.instantiable RX1 4, Cond.initialized RX1, Cond.fieldLink RX10 80 "GlassBox" "latestChain" "LGlassBox$Chain;", Cond.classLink RX10 84 RX5, Cond.instantiable RX5 4]
noncomputable def wsL_law_r3 : List Cond := [Cond.initialized RX5, Cond.fieldLink RX10 87 "GlassBox" "latestRelief" "LGlassBox$Relief;", Cond.classLink RX10 91 RX2, Cond.instantiable RX2 2, Cond.initialized RX2, Cond.fieldLink RX10 94 "GlassBox" "lookUp" "LGlassBox$Glossary;", Cond.arrayClass .long, Cond.fieldLink RX10 98 "GlassBox" "traces" "[J", Cond.methodLink RX10 9 yX8_init, Cond.instanceMethod yX8_init, Cond.code yX8_init cX8_init 2 none, Cond.methodLink RX8 3 objectInit, Cond.fieldLink RX8 9 "GlassBox$State" "words" "[I", Cond.fieldLink RX8 15 "GlassBox$State" "terms" "[I", Cond.fieldLink RX8 18 "GlassBox$State" "order" "I", Cond.fieldLink RX8 22 "GlassBox$State" "openings" "[I", Cond.fieldLink RX8 25 "GlassBox$State" "openingCount" "I", Cond.fieldLink RX8 28 "GlassBox$State" "speaker" "I", Cond.fieldLink RX8 31 "GlassBox$State" "rows" "[I", Cond.fieldLink RX8 34 "GlassBox$State" "lengths" "[I", Cond.fieldLink RX8 37 "GlassBox$State" "values" "[I", Cond.fieldLink RX8 40 "GlassBox$State" "weights" "[I", Cond.fieldLink RX8 43 "GlassBox$State" "sentenceCount" "I", Cond.classLink RX8 46 RX3]
noncomputable def wsL_law_r4 : List Cond := [Cond.fieldLink RX8 48 "GlassBox$State" "habits" "[LGlassBox$Habit;", Cond.fieldLink RX8 52 "GlassBox$State" "habitCount" "I", Cond.fieldLink RX8 55 "GlassBox$State" "boxes" "[I", Cond.fieldLink RX8 58 "GlassBox$State" "boxCount" "I", Cond.fieldLink RX8 61 "GlassBox$State" "costs" "[I", Cond.methodLink RX8 70 arraycopyName, Cond.native arraycopyName, Cond.static arraycopyName, Cond.initialized "java/lang/System", Cond.instanceMethod yX4_init, Cond.code yX4_init cX4_init 1 none, Cond.methodLink RX4 3 objectInit, Cond.fieldLink RX4 9 "GlassBox$Reader" "tokens" "[I", Cond.fieldLink RX4 15 "GlassBox$Reader" "starts" "[I", Cond.fieldLink RX4 18 "GlassBox$Reader" "at" "I", Cond.fieldLink RX4 22 "GlassBox$Reader" "kind" "I", Cond.fieldLink RX4 25 "GlassBox$Reader" "parts" "I", Cond.fieldLink RX4 28 "GlassBox$Reader" "heads" "[I", Cond.fieldLink RX4 31 "GlassBox$Reader" "ends" "[I", Cond.fieldLink RX4 34 "GlassBox$Reader" "clauses" "I", Cond.fieldLink RX4 37 "GlassBox$Reader" "code" "[I", Cond.fieldLink RX4 40 "GlassBox$Reader" "used" "I", Cond.fieldLink RX4 43 "GlassBox$Reader" "faultAt" "I", Cond.instanceMethod yX9_init]
noncomputable def wsL_law_r5 : List Cond := [Cond.code yX9_init cX9_init 1 none, Cond.methodLink RX9 3 objectInit, Cond.fieldLink RX9 11 "GlassBox$Tree" "firstChild" "[I", Cond.fieldLink RX9 15 "GlassBox$Tree" "nextChild" "[I", Cond.fieldLink RX9 18 "GlassBox$Tree" "weight" "[I", Cond.fieldLink RX9 21 "GlassBox$Tree" "load" "[I", Cond.arrayClass .boolean, Cond.fieldLink RX9 24 "GlassBox$Tree" "over" "[Z", Cond.fieldLink RX9 28 "GlassBox$Tree" "narrower" "[Z", Cond.fieldLink RX9 31 "GlassBox$Tree" "masks" "[I", Cond.fieldLink RX9 34 "GlassBox$Tree" "sole" "[I", Cond.fieldLink RX9 37 "GlassBox$Tree" "likeliest" "[I", Cond.fieldLink RX9 40 "GlassBox$Tree" "likeliestWeight" "[I", Cond.fieldLink RX9 43 "GlassBox$Tree" "openingLength" "[I", Cond.fieldLink RX9 46 "GlassBox$Tree" "placeAt" "[I", Cond.fieldLink RX9 49 "GlassBox$Tree" "lengths" "[I", Cond.fieldLink RX9 52 "GlassBox$Tree" "terms" "[I", Cond.fieldLink RX9 55 "GlassBox$Tree" "valueWeights" "[I", Cond.fieldLink RX9 58 "GlassBox$Tree" "placeCount" "I", Cond.fieldLink RX9 62 "GlassBox$Tree" "order" "I", Cond.fieldLink RX9 65 "GlassBox$Tree" "speaker" "I", Cond.methodLink RX10 50 yX7_init, Cond.instanceMethod yX7_init, Cond.code yX7_init cX7_init 2 none]
noncomputable def wsL_law_r6 : List Cond := [Cond.methodLink RX7 3 objectInit, Cond.classLink RX7 11 "[J", Cond.fieldLink RX7 13 "GlassBox$Solver" "losses" "[[J", Cond.fieldLink RX7 19 "GlassBox$Solver" "secondLosses" "[I", Cond.fieldLink RX7 23 "GlassBox$Solver" "mark" "J", Cond.fieldLink RX7 27 "GlassBox$Solver" "guesses" "Z", Cond.fieldLink RX7 31 "GlassBox$Solver" "tree" "LGlassBox$Tree;", Cond.instanceMethod yX0_init, Cond.code yX0_init cX0_init 1 none, Cond.methodLink RX0 5 objectInit, Cond.fieldLink RX0 13 "GlassBox$Booth" "moves" "[I", Cond.fieldLink RX0 17 "GlassBox$Booth" "seconds" "I", Cond.fieldLink RX0 21 "GlassBox$Booth" "trace" "J", Cond.fieldLink RX0 25 "GlassBox$Booth" "said" "I", Cond.fieldLink RX0 28 "GlassBox$Booth" "asked" "[J", Cond.fieldLink RX0 32 "GlassBox$Booth" "mendMove" "I", Cond.fieldLink RX0 35 "GlassBox$Booth" "stack" "[J", Cond.instanceMethod yX1_init, Cond.code yX1_init cX1_init 1 none, Cond.methodLink RX1 3 objectInit, Cond.fieldLink RX1 9 "GlassBox$Chain" "links" "[I", Cond.fieldLink RX1 15 "GlassBox$Chain" "length" "I", Cond.fieldLink RX1 19 "GlassBox$Chain" "tried" "[I", Cond.fieldLink RX1 22 "GlassBox$Chain" "most" "I"]
noncomputable def wsL_law_r7 : List Cond := [Cond.instanceMethod yX5_init, Cond.code yX5_init cX5_init 1 none, Cond.methodLink RX5 3 objectInit, Cond.fieldLink RX5 9 "GlassBox$Relief" "changes" "[I", Cond.fieldLink RX5 15 "GlassBox$Relief" "changeCount" "I", Cond.fieldLink RX5 19 "GlassBox$Relief" "least" "[I", Cond.fieldLink RX5 22 "GlassBox$Relief" "sits" "[I", Cond.instanceMethod yX2_init, Cond.code yX2_init cX2_init 1 none, Cond.methodLink RX2 3 objectInit, Cond.fieldLink RX2 9 "GlassBox$Glossary" "most" "[I", Cond.fieldLink RX2 15 "GlassBox$Glossary" "sets" "[I", Cond.methodLink RL 12 yX11_init, Cond.instanceMethod yX11_init, Cond.code yX11_init cX11_init 4 none, Cond.methodLink RX11 7 objectInit, Cond.fieldLink RX11 13 "GlassBoxModel" "kept" "[I", Cond.fieldLink RX11 17 "GlassBoxModel" "images" "[I", Cond.fieldLink RX11 20 "GlassBoxModel" "hasImage" "[Z", Cond.fieldLink RX11 24 "GlassBoxModel" "doneOf" "[I", Cond.fieldLink RX11 27 "GlassBoxModel" "digitOf" "[I", Cond.fieldLink RX11 30 "GlassBoxModel" "can" "[I", Cond.fieldLink RX11 33 "GlassBoxModel" "sure" "[I", Cond.fieldLink RX11 36 "GlassBoxModel" "opens" "[I"]
noncomputable def wsL_law_r8 : List Cond := [Cond.constant RX11 39 (159984), Cond.fieldLink RX11 40 "GlassBoxModel" "worths" "[J", Cond.fieldLink RX11 44 "GlassBoxModel" "table" "[I", Cond.fieldLink RX11 47 "GlassBoxModel" "tabled" "[Z", Cond.fieldLink RX11 50 "GlassBoxModel" "tableLength" "[I", Cond.fieldLink RX11 53 "GlassBoxModel" "tablePlace" "[I", Cond.fieldLink RX11 56 "GlassBoxModel" "plans" "[I", Cond.fieldLink RX11 59 "GlassBoxModel" "planMany" "[I", Cond.fieldLink RX11 62 "GlassBoxModel" "behind" "[I", Cond.arrayClass .byte, Cond.fieldLink RX11 65 "GlassBoxModel" "words" "[B", Cond.fieldLink RX11 69 "GlassBoxModel" "tape" "[B", Cond.fieldLink RX11 72 "GlassBoxModel" "five" "[I", Cond.fieldLink RX11 75 "GlassBoxModel" "fault" "I", Cond.fieldLink RX11 78 "GlassBoxModel" "code" "[I", Cond.fieldLink RX11 81 "GlassBoxModel" "value" "[I", Cond.fieldLink RX11 84 "GlassBoxModel" "placed" "[I", Cond.fieldLink RX11 87 "GlassBoxModel" "asked" "[I", Cond.fieldLink RX11 90 "GlassBoxModel" "moves" "[I", Cond.fieldLink RX11 93 "GlassBoxModel" "lastMoves" "[I", Cond.fieldLink RX11 96 "GlassBoxModel" "links" "[I", Cond.fieldLink RX11 99 "GlassBoxModel" "tried" "[I", Cond.fieldLink RX11 102 "GlassBoxModel" "costFrom" "[I", Cond.fieldLink RX11 105 "GlassBoxModel" "sits" "[I"]
noncomputable def wsL_law_r9 : List Cond := [Cond.fieldLink RX11 108 "GlassBoxModel" "changes" "[I", Cond.fieldLink RX11 111 "GlassBoxModel" "changed" "I", Cond.fieldLink RX11 114 "GlassBoxModel" "saves" "[I", Cond.fieldLink RX11 117 "GlassBoxModel" "lines" "[I", Cond.fieldLink RX11 120 "GlassBoxModel" "lineMany" "[I", Cond.methodLink RL 13 yX10_word, Cond.instanceMethod yX10_word, Cond.selects RX10 yX10_word yX10_word, Cond.code yX10_word cX10_word 4 (some .int), Cond.fieldLink RX10 110 "GlassBox" "WORD_LEAST" "[I", Cond.fieldLink RX10 113 "GlassBox" "WORD_MOST" "[I", Cond.fieldLink RX10 116 "GlassBox$State" "words" "[I", Cond.methodLink RX10 102 yX10_within, Cond.static yX10_within, Cond.code yX10_within cX10_within 3 (some .boolean), Cond.methodLink RX10 106 yX10_refuse, Cond.instanceMethod yX10_refuse, Cond.selects RX10 yX10_refuse yX10_refuse, Cond.code yX10_refuse cX10_refuse 2 (some .int), Cond.methodLink RX10 119 yX10_replace, Cond.static yX10_replace, Cond.code yX10_replace cX10_replace 4 (some .int), Cond.methodLink RX10 123 yX10_accept, Cond.instanceMethod yX10_accept]
noncomputable def wsL_law_r10 : List Cond := [Cond.selects RX10 yX10_accept yX10_accept, Cond.code yX10_accept cX10_accept 2 (some .int), Cond.methodLink RL 17 yX11_word, Cond.instanceMethod yX11_word, Cond.selects RX11 yX11_word yX11_word, Cond.code yX11_word cX11_word 6 (some .int), Cond.methodLink RX11 123 yX11_in, Cond.static yX11_in, Cond.code yX11_in cX11_in 3 (some .boolean), Cond.methodLink RX11 127 yX11_refuses, Cond.instanceMethod yX11_refuses, Cond.selects RX11 yX11_refuses yX11_refuses, Cond.code yX11_refuses cX11_refuses 2 (some .int), Cond.fieldLink RX11 3 "GlassBoxModel" "status" "I", Cond.methodLink RX11 131 yX11_good, Cond.instanceMethod yX11_good, Cond.selects RX11 yX11_good yX11_good, Cond.code yX11_good cX11_good 2 (some .int), Cond.methodLink RL 18 yX10_terms, Cond.instanceMethod yX10_terms, Cond.selects RX10 yX10_terms yX10_terms, Cond.code yX10_terms cX10_terms 3 (some .int), Cond.fieldLink RX10 126 "GlassBox" "TERM_MOST" "[I", Cond.fieldLink RX10 129 "GlassBox$State" "terms" "[I"]
noncomputable def wsL_law_r11 : List Cond := [Cond.methodLink RL 22 yX11_terms, Cond.instanceMethod yX11_terms, Cond.selects RX11 yX11_terms yX11_terms, Cond.code yX11_terms cX11_terms 5 (some .int), Cond.methodLink RX11 141 yX11_term, Cond.instanceMethod yX11_term, Cond.selects RX11 yX11_term yX11_term, Cond.code yX11_term cX11_term 2 (some .int), Cond.methodLink RL 23 yX10_order, Cond.instanceMethod yX10_order, Cond.selects RX10 yX10_order yX10_order, Cond.code yX10_order cX10_order 3 (some .int), Cond.fieldLink RX10 132 "GlassBox$State" "order" "I", Cond.methodLink RL 27 yX11_order, Cond.instanceMethod yX11_order, Cond.selects RX11 yX11_order yX11_order, Cond.code yX11_order cX11_order 3 (some .int), Cond.methodLink RL 28 yX10_opening, Cond.instanceMethod yX10_opening, Cond.selects RX10 yX10_opening yX10_opening, Cond.code yX10_opening cX10_opening 4 (some .int), Cond.fieldLink RX10 139 "GlassBox$State" "openingCount" "I", Cond.methodLink RX10 135 yX10_isSlot, Cond.static yX10_isSlot]
noncomputable def wsL_law_r12 : List Cond := [Cond.code yX10_isSlot cX10_isSlot 1 (some .boolean), Cond.methodLink RX10 142 yX8_addOpening, Cond.instanceMethod yX8_addOpening, Cond.selects RX8 yX8_addOpening yX8_addOpening, Cond.code yX8_addOpening cX8_addOpening 4 (some .int), Cond.methodLink RL 31 yX11_opening, Cond.instanceMethod yX11_opening, Cond.selects RX11 yX11_opening yX11_opening, Cond.code yX11_opening cX11_opening 5 (some .int), Cond.methodLink RL 32 yX10_who, Cond.instanceMethod yX10_who, Cond.selects RX10 yX10_who yX10_who, Cond.code yX10_who cX10_who 3 (some .int), Cond.fieldLink RX10 146 "GlassBox$State" "speaker" "I", Cond.methodLink RL 35 yX11_who, Cond.instanceMethod yX11_who, Cond.selects RX11 yX11_who yX11_who, Cond.code yX11_who cX11_who 3 (some .int), Cond.methodLink RL 36 yX10_sentence, Cond.instanceMethod yX10_sentence, Cond.selects RX10 yX10_sentence yX10_sentence, Cond.code yX10_sentence cX10_sentence 6 (some .int), Cond.fieldLink RX10 163 "GlassBox$State" "sentenceCount" "I", Cond.methodLink RX10 149 yX10_takeTape]
noncomputable def wsL_law_r13 : List Cond := [Cond.instanceMethod yX10_takeTape, Cond.selects RX10 yX10_takeTape yX10_takeTape, Cond.code yX10_takeTape cX10_takeTape 2 (some .int), Cond.methodLink RX10 153 yX10_isValue, Cond.static yX10_isValue, Cond.code yX10_isValue cX10_isValue 1 (some .boolean), Cond.methodLink RX10 156 yX10_isRow, Cond.instanceMethod yX10_isRow, Cond.selects RX10 yX10_isRow yX10_isRow, Cond.code yX10_isRow cX10_isRow 3 (some .boolean), Cond.methodLink RX10 159 yX8_hasRow, Cond.instanceMethod yX8_hasRow, Cond.selects RX8 yX8_hasRow yX8_hasRow, Cond.code yX8_hasRow cX8_hasRow 4 (some .boolean), Cond.methodLink RX8 76 yX8_beginsWith, Cond.instanceMethod yX8_beginsWith, Cond.selects RX8 yX8_beginsWith yX8_beginsWith, Cond.code yX8_beginsWith cX8_beginsWith 6 (some .boolean), Cond.methodLink RX10 166 yX8_addRow, Cond.instanceMethod yX8_addRow, Cond.selects RX8 yX8_addRow yX8_addRow, Cond.code yX8_addRow cX8_addRow 5 (some .int), Cond.methodLink RX10 170 yX8_giveValues, Cond.instanceMethod yX8_giveValues]
noncomputable def wsL_law_r14 : List Cond := [Cond.selects RX8 yX8_giveValues yX8_giveValues, Cond.code yX8_giveValues cX8_giveValues 5 none, Cond.methodLink RL 39 yX11_sentence, Cond.instanceMethod yX11_sentence, Cond.selects RX11 yX11_sentence yX11_sentence, Cond.code yX11_sentence cX11_sentence 9 (some .int), Cond.fieldLink RX11 151 "GlassBoxModel" "taped" "I", Cond.methodLink RX11 154 yX11_isTapeRow, Cond.instanceMethod yX11_isTapeRow, Cond.selects RX11 yX11_isTapeRow yX11_isTapeRow, Cond.code yX11_isTapeRow cX11_isTapeRow 5 (some .boolean), Cond.methodLink RX11 144 yX11_lengthOf, Cond.instanceMethod yX11_lengthOf, Cond.selects RX11 yX11_lengthOf yX11_lengthOf, Cond.code yX11_lengthOf cX11_lengthOf 2 (some .int), Cond.methodLink RX11 147 yX11_wordOfRow, Cond.instanceMethod yX11_wordOfRow, Cond.selects RX11 yX11_wordOfRow yX11_wordOfRow, Cond.code yX11_wordOfRow cX11_wordOfRow 3 (some .int), Cond.methodLink RL 40 yX10_weigh, Cond.instanceMethod yX10_weigh, Cond.selects RX10 yX10_weigh yX10_weigh, Cond.code yX10_weigh cX10_weigh 4 (some .int), Cond.fieldLink RX10 177 "GlassBox$State" "weights" "[I"]
noncomputable def wsL_law_r15 : List Cond := [Cond.methodLink RX10 174 yX8_isThere, Cond.instanceMethod yX8_isThere, Cond.selects RX8 yX8_isThere yX8_isThere, Cond.code yX8_isThere cX8_isThere 2 (some .boolean), Cond.methodLink RL 43 yX11_weigh, Cond.instanceMethod yX11_weigh, Cond.selects RX11 yX11_weigh yX11_weigh, Cond.code yX11_weigh cX11_weigh 6 (some .int), Cond.methodLink RX11 134 yX11_isSentence, Cond.instanceMethod yX11_isSentence, Cond.selects RX11 yX11_isSentence yX11_isSentence, Cond.code yX11_isSentence cX11_isSentence 2 (some .boolean), Cond.methodLink RL 44 yX10_row, Cond.instanceMethod yX10_row, Cond.selects RX10 yX10_row yX10_row, Cond.code yX10_row cX10_row 4 (some .int), Cond.fieldLink RX10 180 "GlassBox$State" "lengths" "[I", Cond.fieldLink RX10 183 "GlassBox$State" "rows" "[I", Cond.methodLink RL 47 yX11_row, Cond.instanceMethod yX11_row, Cond.selects RX11 yX11_row yX11_row, Cond.code yX11_row cX11_row 3 (some .int), Cond.methodLink RL 48 yX10_fixed, Cond.instanceMethod yX10_fixed]
noncomputable def wsL_law_r16 : List Cond := [Cond.selects RX10 yX10_fixed yX10_fixed, Cond.code yX10_fixed cX10_fixed 6 (some .int), Cond.methodLink RX10 186 yX8_canBeSpoken, Cond.instanceMethod yX8_canBeSpoken, Cond.selects RX8 yX8_canBeSpoken yX8_canBeSpoken, Cond.code yX8_canBeSpoken cX8_canBeSpoken 2 (some .boolean), Cond.methodLink RX10 189 yX8_comeBehind, Cond.instanceMethod yX8_comeBehind, Cond.selects RX8 yX8_comeBehind yX8_comeBehind, Cond.code yX8_comeBehind cX8_comeBehind 5 (some .int), Cond.methodLink RX8 84 yX8_canBeSpoken, Cond.methodLink RX10 193 yX8_valuesOf, Cond.instanceMethod yX8_valuesOf, Cond.selects RX8 yX8_valuesOf yX8_valuesOf, Cond.code yX8_valuesOf cX8_valuesOf 5 (some .int), Cond.methodLink RX10 196 yJ6_bitCount_0f7a4, Cond.static yJ6_bitCount_0f7a4, Cond.initialized RJ6, Cond.code yJ6_bitCount_0f7a4 cJ6_bitCount_0f7a4 1 (some .int), Cond.constant RJ6 265 (1431655765), Cond.constant RJ6 266 (858993459), Cond.constant RJ6 267 (252645135), Cond.methodLink RL 51 yX11_fixed, Cond.instanceMethod yX11_fixed]
noncomputable def wsL_law_r17 : List Cond := [Cond.selects RX11 yX11_fixed yX11_fixed, Cond.code yX11_fixed cX11_fixed 4 (some .int), Cond.methodLink RX11 164 yX11_isSpoken, Cond.instanceMethod yX11_isSpoken, Cond.selects RX11 yX11_isSpoken yX11_isSpoken, Cond.code yX11_isSpoken cX11_isSpoken 2 (some .boolean), Cond.methodLink RX11 138 yX11_weightOf, Cond.instanceMethod yX11_weightOf, Cond.selects RX11 yX11_weightOf yX11_weightOf, Cond.code yX11_weightOf cX11_weightOf 2 (some .int), Cond.methodLink RX11 167 yX11_setOf, Cond.instanceMethod yX11_setOf, Cond.selects RX11 yX11_setOf yX11_setOf, Cond.code yX11_setOf cX11_setOf 6 (some .int), Cond.methodLink RX11 158 yX11_begins, Cond.instanceMethod yX11_begins, Cond.selects RX11 yX11_begins yX11_begins, Cond.code yX11_begins cX11_begins 6 (some .boolean), Cond.methodLink RX11 171 yX11_valuesOf, Cond.instanceMethod yX11_valuesOf, Cond.selects RX11 yX11_valuesOf yX11_valuesOf, Cond.code yX11_valuesOf cX11_valuesOf 5 (some .int), Cond.methodLink RX11 161 yX11_valueOf, Cond.instanceMethod yX11_valueOf]
noncomputable def wsL_law_r18 : List Cond := [Cond.selects RX11 yX11_valueOf yX11_valueOf, Cond.code yX11_valueOf cX11_valueOf 3 (some .int), Cond.methodLink RX11 174 yX11_ones, Cond.static yX11_ones, Cond.code yX11_ones cX11_ones 3 (some .int), Cond.methodLink RL 52 yX10_odds, Cond.instanceMethod yX10_odds, Cond.selects RX10 yX10_odds yX10_odds, Cond.code yX10_odds cX10_odds 10 (some .int), Cond.methodLink RX10 201 yX8_weightOf, Cond.instanceMethod yX8_weightOf, Cond.selects RX8 yX8_weightOf yX8_weightOf, Cond.code yX8_weightOf cX8_weightOf 4 (some .int), Cond.methodLink RX10 204 yX8_having, Cond.instanceMethod yX8_having, Cond.selects RX8 yX8_having yX8_having, Cond.code yX8_having cX8_having 5 (some .int), Cond.methodLink RX10 207 yX10_commonDivisor, Cond.static yX10_commonDivisor, Cond.code yX10_commonDivisor cX10_commonDivisor 6 (some .int), Cond.methodLink RX10 342 Lib.Math.max.name, Cond.static Lib.Math.max.name, Cond.initialized "java/lang/Math", Cond.code Lib.Math.max.name Lib.Math.max.code 2 (some .int)]
noncomputable def wsL_law_r19 : List Cond := [Cond.methodLink RL 56 yX11_odds, Cond.instanceMethod yX11_odds, Cond.selects RX11 yX11_odds yX11_odds, Cond.code yX11_odds cX11_odds 10 (some .int), Cond.methodLink RX11 177 yX11_weightOfValue, Cond.instanceMethod yX11_weightOfValue, Cond.selects RX11 yX11_weightOfValue yX11_weightOfValue, Cond.code yX11_weightOfValue cX11_weightOfValue 6 (some .int), Cond.methodLink RX11 181 yX11_weightOfAll, Cond.instanceMethod yX11_weightOfAll, Cond.selects RX11 yX11_weightOfAll yX11_weightOfAll, Cond.code yX11_weightOfAll cX11_weightOfAll 4 (some .int), Cond.methodLink RX11 184 yX11_common, Cond.static yX11_common, Cond.code yX11_common cX11_common 5 (some .int), Cond.methodLink RL 57 yX10_fits, Cond.instanceMethod yX10_fits, Cond.selects RX10 yX10_fits yX10_fits, Cond.code yX10_fits cX10_fits 4 (some .int), Cond.methodLink RX10 210 yX8_openingFor, Cond.instanceMethod yX8_openingFor, Cond.selects RX8 yX8_openingFor yX8_openingFor, Cond.code yX8_openingFor cX8_openingFor 7 (some .int), Cond.methodLink RL 60 yX11_fits]
noncomputable def wsL_law_r20 : List Cond := [Cond.instanceMethod yX11_fits, Cond.selects RX11 yX11_fits yX11_fits, Cond.code yX11_fits cX11_fits 5 (some .int), Cond.methodLink RX11 187 yX11_openingFor, Cond.instanceMethod yX11_openingFor, Cond.selects RX11 yX11_openingFor yX11_openingFor, Cond.code yX11_openingFor cX11_openingFor 6 (some .int), Cond.methodLink RL 61 yX10_best, Cond.instanceMethod yX10_best, Cond.selects RX10 yX10_best yX10_best, Cond.code yX10_best cX10_best 1 (some .long), Cond.methodLink RX10 213 yX9_grow, Cond.instanceMethod yX9_grow, Cond.selects RX9 yX9_grow yX9_grow, Cond.code yX9_grow cX9_grow 4 none, Cond.fieldLink RX9 68 "GlassBox$State" "terms" "[I", Cond.methodLink RX9 71 arraycopyName, Cond.fieldLink RX9 77 "GlassBox$State" "order" "I", Cond.fieldLink RX9 78 "GlassBox$State" "speaker" "I", Cond.fieldLink RX9 85 "GlassBox$State" "sentenceCount" "I", Cond.methodLink RX9 79 yJ7_fill_53178, Cond.static yJ7_fill_53178, Cond.initialized RJ7, Cond.code yJ7_fill_53178 cJ7_fill_53178 4 none]
noncomputable def wsL_law_r21 : List Cond := [Cond.methodLink RX9 88 yX8_canBeSpoken, Cond.methodLink RX9 92 yX9_growSentence, Cond.instanceMethod yX9_growSentence, Cond.selects RX9 yX9_growSentence yX9_growSentence, Cond.code yX9_growSentence cX9_growSentence 10 none, Cond.fieldLink RX9 96 "GlassBox$State" "lengths" "[I", Cond.fieldLink RX9 109 "GlassBox$State" "rows" "[I", Cond.fieldLink RX9 112 "GlassBox$State" "words" "[I", Cond.methodLink RX9 97 yX8_comeBehind, Cond.methodLink RX9 101 yX8_firstIn, Cond.instanceMethod yX8_firstIn, Cond.selects RX8 yX8_firstIn yX8_firstIn, Cond.code yX8_firstIn cX8_firstIn 3 (some .int), Cond.methodLink RX9 105 yX9_addPlace, Cond.instanceMethod yX9_addPlace, Cond.selects RX9 yX9_addPlace yX9_addPlace, Cond.code yX9_addPlace cX9_addPlace 6 (some .int), Cond.methodLink RX9 115 Lib.Math.min.name, Cond.static Lib.Math.min.name, Cond.code Lib.Math.min.name Lib.Math.min.code 2 (some .int), Cond.methodLink RX9 120 yX9_describe, Cond.instanceMethod yX9_describe, Cond.selects RX9 yX9_describe yX9_describe, Cond.code yX9_describe cX9_describe 9 none]
noncomputable def wsL_law_r22 : List Cond := [Cond.fieldLink RX9 133 "GlassBox$State" "openings" "[I", Cond.methodLink RX9 123 yX8_weightOf, Cond.methodLink RX9 126 yX8_weighValues, Cond.instanceMethod yX8_weighValues, Cond.selects RX8 yX8_weighValues yX8_weighValues, Cond.code yX8_weighValues cX8_weighValues 5 none, Cond.methodLink RX8 92 yJ7_fill_53178, Cond.methodLink RX9 130 yX8_openingFor, Cond.methodLink RX10 217 yX7_solve, Cond.instanceMethod yX7_solve, Cond.selects RX7 yX7_solve yX7_solve, Cond.code yX7_solve cX7_solve 4 (some .long), Cond.fieldLink RX7 35 "GlassBox$Tree" "placeCount" "I", Cond.fieldLink RX7 39 "GlassBox$Tree" "weight" "[I", Cond.methodLink RX7 42 yX9_secondLoss, Cond.instanceMethod yX9_secondLoss, Cond.selects RX9 yX9_secondLoss yX9_secondLoss, Cond.code yX9_secondLoss cX9_secondLoss 4 (some .int), Cond.methodLink RX9 174 Lib.Math.max.name, Cond.methodLink RX9 177 yX9_held, Cond.instanceMethod yX9_held, Cond.selects RX9 yX9_held yX9_held, Cond.code yX9_held cX9_held 3 (some .int), Cond.methodLink RX7 46 yX7_lossFrom]
noncomputable def wsL_law_r23 : List Cond := [Cond.instanceMethod yX7_lossFrom, Cond.selects RX7 yX7_lossFrom yX7_lossFrom, Cond.code yX7_lossFrom cX7_lossFrom 10 (some .long), Cond.fieldLink RX7 121 "GlassBox$Tree" "firstChild" "[I", Cond.fieldLink RX7 124 "GlassBox$Tree" "narrower" "[Z", Cond.fieldLink RX7 127 "GlassBox$Tree" "nextChild" "[I", Cond.methodLink RX7 64 yX7_seenFrom, Cond.instanceMethod yX7_seenFrom, Cond.selects RX7 yX7_seenFrom yX7_seenFrom, Cond.code yX7_seenFrom cX7_seenFrom 9 (some .int), Cond.methodLink RX7 72 yX9_nextAt, Cond.instanceMethod yX9_nextAt, Cond.selects RX9 yX9_nextAt yX9_nextAt, Cond.code yX9_nextAt cX9_nextAt 3 (some .int), Cond.methodLink RX7 75 yX7_fateOf, Cond.instanceMethod yX7_fateOf, Cond.selects RX7 yX7_fateOf yX7_fateOf, Cond.code yX7_fateOf cX7_fateOf 3 (some .int), Cond.fieldLink RX7 78 "GlassBox$Tree" "masks" "[I", Cond.fieldLink RX7 81 "GlassBox$Tree" "sole" "[I", Cond.methodLink RX7 67 yX7_choose, Cond.instanceMethod yX7_choose, Cond.selects RX7 yX7_choose yX7_choose, Cond.code yX7_choose cX7_choose 12 (some .long)]
noncomputable def wsL_law_r24 : List Cond := [Cond.fieldLink RX7 84 "GlassBox$Tree" "over" "[Z", Cond.constantLong RX7 88 (4611686018427387904), Cond.methodLink RX7 100 Lib.MathLoose.min_long.x, Cond.static Lib.MathLoose.min_long.x, Cond.code Lib.MathLoose.min_long.x Lib.MathLoose.min_long.code 4 (some .long), Cond.fieldLink RX7 110 "GlassBox$Tree" "terms" "[I", Cond.methodLink RX7 90 yX7_lossAfter, Cond.instanceMethod yX7_lossAfter, Cond.selects RX7 yX7_lossAfter yX7_lossAfter, Cond.methodLink RX7 93 yX7_packed, Cond.static yX7_packed, Cond.code yX7_packed cX7_packed 3 (some .long), Cond.methodLink RX7 97 yX7_chooseNext, Cond.instanceMethod yX7_chooseNext, Cond.selects RX7 yX7_chooseNext yX7_chooseNext, Cond.methodLink RX7 106 yX7_chooseMend, Cond.instanceMethod yX7_chooseMend, Cond.selects RX7 yX7_chooseMend yX7_chooseMend, Cond.code yX7_chooseMend cX7_chooseMend 9 (some .long), Cond.code yX7_chooseNext cX7_chooseNext 16 (some .long), Cond.fieldLink RX7 116 "GlassBox$Tree" "openingLength" "[I", Cond.methodLink RX7 113 yX6_with, Cond.static yX6_with, Cond.initialized RX6]
noncomputable def wsL_law_r25 : List Cond := [Cond.code yX6_with cX6_with 2 (some .int), Cond.code yX7_lossAfter cX7_lossAfter 9 (some .long), Cond.constantLong RX7 119 (4294967295), Cond.methodLink RL 65 yX11_best, Cond.instanceMethod yX11_best, Cond.selects RX11 yX11_best yX11_best, Cond.code yX11_best cX11_best 5 (some .long), Cond.fieldLink RX11 234 "GlassBoxModel" "keeps" "Z", Cond.fieldLink RX11 287 "GlassBoxModel" "hasTable" "Z", Cond.methodLink RX11 283 yX11_leastOf, Cond.instanceMethod yX11_leastOf, Cond.selects RX11 yX11_leastOf yX11_leastOf, Cond.code yX11_leastOf cX11_leastOf 4 (some .long), Cond.methodLink RX11 276 yX11_overs, Cond.instanceMethod yX11_overs, Cond.selects RX11 yX11_overs yX11_overs, Cond.code yX11_overs cX11_overs 4 none, Cond.methodLink RX11 253 yX11_place, Cond.instanceMethod yX11_place, Cond.selects RX11 yX11_place yX11_place, Cond.code yX11_place cX11_place 5 none, Cond.fieldLink RX11 190 "GlassBoxModel" "over" "Z", Cond.fieldLink RX11 194 "GlassBoxModel" "set" "I", Cond.fieldLink RX11 197 "GlassBoxModel" "weightHere" "I"]
noncomputable def wsL_law_r26 : List Cond := [Cond.fieldLink RX11 200 "GlassBoxModel" "load" "I", Cond.methodLink RX11 203 yX11_alone, Cond.static yX11_alone, Cond.code yX11_alone cX11_alone 3 (some .int), Cond.methodLink RX11 257 yX11_wrongs, Cond.instanceMethod yX11_wrongs, Cond.selects RX11 yX11_wrongs yX11_wrongs, Cond.code yX11_wrongs cX11_wrongs 5 (some .int), Cond.methodLink RX11 206 yX11_slotAt, Cond.instanceMethod yX11_slotAt, Cond.selects RX11 yX11_slotAt yX11_slotAt, Cond.code yX11_slotAt cX11_slotAt 6 (some .int), Cond.methodLink RX11 260 yX11_overAt, Cond.instanceMethod yX11_overAt, Cond.selects RX11 yX11_overAt yX11_overAt, Cond.code yX11_overAt cX11_overAt 11 none, Cond.fieldLink RX11 218 "GlassBoxModel" "costThen" "I", Cond.fieldLink RX11 215 "GlassBoxModel" "saidThen" "I", Cond.methodLink RX11 237 yX11_moveAt, Cond.static yX11_moveAt, Cond.code yX11_moveAt cX11_moveAt 1 (some .int), Cond.methodLink RX11 240 yX11_does, Cond.instanceMethod yX11_does, Cond.selects RX11 yX11_does yX11_does]
noncomputable def wsL_law_r27 : List Cond := [Cond.code yX11_does cX11_does 6 (some .boolean), Cond.fieldLink RX11 212 "GlassBoxModel" "next" "I", Cond.methodLink RX11 221 yX11_canMend, Cond.instanceMethod yX11_canMend, Cond.selects RX11 yX11_canMend yX11_canMend, Cond.code yX11_canMend cX11_canMend 4 (some .boolean), Cond.methodLink RX11 209 yX11_indexOf, Cond.instanceMethod yX11_indexOf, Cond.selects RX11 yX11_indexOf yX11_indexOf, Cond.code yX11_indexOf cX11_indexOf 3 (some .int), Cond.methodLink RX11 224 yX11_digitChanged, Cond.static yX11_digitChanged, Cond.code yX11_digitChanged cX11_digitChanged 5 (some .int), Cond.methodLink RX11 228 yX11_withDigit, Cond.static yX11_withDigit, Cond.code yX11_withDigit cX11_withDigit 3 (some .int), Cond.methodLink RX11 243 yX11_endOf, Cond.instanceMethod yX11_endOf, Cond.selects RX11 yX11_endOf yX11_endOf, Cond.code yX11_endOf cX11_endOf 6 (some .int), Cond.methodLink RX11 246 yX11_secondOf, Cond.instanceMethod yX11_secondOf, Cond.selects RX11 yX11_secondOf yX11_secondOf, Cond.code yX11_secondOf cX11_secondOf 3 (some .int)]
noncomputable def wsL_law_r28 : List Cond := [Cond.methodLink RX11 231 yX11_heldWith, Cond.instanceMethod yX11_heldWith, Cond.selects RX11 yX11_heldWith yX11_heldWith, Cond.code yX11_heldWith cX11_heldWith 3 (some .int), Cond.methodLink RX11 249 yX11_writes, Cond.instanceMethod yX11_writes, Cond.selects RX11 yX11_writes yX11_writes, Cond.code yX11_writes cX11_writes 6 none, Cond.methodLink RX11 267 yX11_firstOf, Cond.instanceMethod yX11_firstOf, Cond.selects RX11 yX11_firstOf yX11_firstOf, Cond.code yX11_firstOf cX11_firstOf 4 (some .int), Cond.methodLink RX11 280 yX11_placeAt, Cond.instanceMethod yX11_placeAt, Cond.selects RX11 yX11_placeAt yX11_placeAt, Cond.code yX11_placeAt cX11_placeAt 12 none, Cond.fieldLink RX11 273 "GlassBoxModel" "noGuess" "Z", Cond.fieldLink RX11 264 "GlassBoxModel" "behindMany" "I", Cond.methodLink RX11 270 yX11_follows, Cond.instanceMethod yX11_follows, Cond.selects RX11 yX11_follows yX11_follows, Cond.code yX11_follows cX11_follows 7 none, Cond.methodLink RX11 290 yX11_plansOf, Cond.instanceMethod yX11_plansOf]
noncomputable def wsL_law_r29 : List Cond := [Cond.selects RX11 yX11_plansOf yX11_plansOf, Cond.code yX11_plansOf cX11_plansOf 6 none, Cond.methodLink RL 66 yX10_table, Cond.instanceMethod yX10_table, Cond.selects RX10 yX10_table yX10_table, Cond.code yX10_table cX10_table 4 (some .int), Cond.methodLink RX10 221 yX9_lengthOf, Cond.instanceMethod yX9_lengthOf, Cond.selects RX9 yX9_lengthOf yX9_lengthOf, Cond.code yX9_lengthOf cX9_lengthOf 2 (some .int), Cond.methodLink RX10 224 yX9_placeIn, Cond.instanceMethod yX9_placeIn, Cond.selects RX9 yX9_placeIn yX9_placeIn, Cond.code yX9_placeIn cX9_placeIn 3 (some .int), Cond.methodLink RX10 227 yX7_moveAt, Cond.instanceMethod yX7_moveAt, Cond.selects RX7 yX7_moveAt yX7_moveAt, Cond.code yX7_moveAt cX7_moveAt 6 (some .int), Cond.constantLong RX7 70 (31), Cond.methodLink RX7 50 yX6_doneIn, Cond.static yX6_doneIn, Cond.code yX6_doneIn cX6_doneIn 1 (some .int), Cond.methodLink RX7 56 yX6_digitAt, Cond.static yX6_digitAt]
noncomputable def wsL_law_r30 : List Cond := [Cond.code yX6_digitAt cX6_digitAt 5 (some .int), Cond.methodLink RX7 60 yX6_changedAt, Cond.static yX6_changedAt, Cond.code yX6_changedAt cX6_changedAt 6 (some .int), Cond.methodLink RX6 9 yX6_digitAt, Cond.methodLink RL 69 yX11_table, Cond.instanceMethod yX11_table, Cond.selects RX11 yX11_table yX11_table, Cond.code yX11_table cX11_table 4 (some .int), Cond.methodLink RX11 293 yX11_isTabled, Cond.instanceMethod yX11_isTabled, Cond.selects RX11 yX11_isTabled yX11_isTabled, Cond.code yX11_isTabled cX11_isTabled 2 (some .boolean), Cond.methodLink RL 70 yX10_plan, Cond.instanceMethod yX10_plan, Cond.selects RX10 yX10_plan yX10_plan, Cond.code yX10_plan cX10_plan 7 (some .int), Cond.methodLink RX10 230 yX9_saidBehind, Cond.instanceMethod yX9_saidBehind, Cond.selects RX9 yX9_saidBehind yX9_saidBehind, Cond.code yX9_saidBehind cX9_saidBehind 4 (some .int), Cond.methodLink RX9 165 yX9_mended, Cond.instanceMethod yX9_mended, Cond.selects RX9 yX9_mended yX9_mended]
noncomputable def wsL_law_r31 : List Cond := [Cond.code yX9_mended cX9_mended 4 (some .int), Cond.methodLink RX9 143 yX6_doneIn, Cond.methodLink RX9 161 yX6_changedAt, Cond.methodLink RX9 168 yX6_with, Cond.methodLink RX9 171 yX9_nextAt, Cond.methodLink RL 73 yX11_plan, Cond.instanceMethod yX11_plan, Cond.selects RX11 yX11_plan yX11_plan, Cond.code yX11_plan cX11_plan 3 (some .int), Cond.methodLink RL 74 yX10_feed, Cond.instanceMethod yX10_feed, Cond.selects RX10 yX10_feed yX10_feed, Cond.code yX10_feed cX10_feed 6 (some .int), Cond.methodLink RX10 233 yX10_putBytes, Cond.instanceMethod yX10_putBytes, Cond.selects RX10 yX10_putBytes yX10_putBytes, Cond.code yX10_putBytes cX10_putBytes 3 none, Cond.methodLink RL 77 yX11_feed, Cond.instanceMethod yX11_feed, Cond.selects RX11 yX11_feed yX11_feed, Cond.code yX11_feed cX11_feed 7 (some .int), Cond.methodLink RL 78 yX10_end, Cond.instanceMethod yX10_end, Cond.selects RX10 yX10_end yX10_end]
noncomputable def wsL_law_r32 : List Cond := [Cond.code yX10_end cX10_end 2 (some .int), Cond.methodLink RL 81 yX11_end, Cond.instanceMethod yX11_end, Cond.selects RX11 yX11_end yX11_end, Cond.code yX11_end cX11_end 2 (some .int), Cond.methodLink RL 82 yX10_habit, Cond.instanceMethod yX10_habit, Cond.selects RX10 yX10_habit yX10_habit, Cond.code yX10_habit cX10_habit 3 (some .int), Cond.fieldLink RX10 237 "GlassBox$State" "habitCount" "I", Cond.fieldLink RX10 244 "GlassBox$Reader" "faultAt" "I", Cond.methodLink RX10 240 yX4_readHabit, Cond.instanceMethod yX4_readHabit, Cond.selects RX4 yX4_readHabit yX4_readHabit, Cond.code yX4_readHabit cX4_readHabit 3 (some (.object "GlassBox$Habit")), Cond.methodLink RX4 46 Lib.Math.min.name, Cond.classLink RX4 60 RX3, Cond.instantiable RX3 3, Cond.initialized RX3, Cond.methodLink RX4 52 yX4_splitTokens, Cond.instanceMethod yX4_splitTokens, Cond.selects RX4 yX4_splitTokens yX4_splitTokens, Cond.code yX4_splitTokens cX4_splitTokens 7 none, Cond.methodLink RX4 71 yX4_tokenEnd]
noncomputable def wsL_law_r33 : List Cond := [Cond.static yX4_tokenEnd, Cond.code yX4_tokenEnd cX4_tokenEnd 5 (some .int), Cond.methodLink RX4 78 yX4_isLetter, Cond.static yX4_isLetter, Cond.code yX4_isLetter cX4_isLetter 1 (some .boolean), Cond.methodLink RX4 82 yX4_isDigit, Cond.static yX4_isDigit, Cond.code yX4_isDigit cX4_isDigit 1 (some .boolean), Cond.methodLink RX4 75 yX4_tokenOf, Cond.static yX4_tokenOf, Cond.code yX4_tokenOf cX4_tokenOf 5 (some .int), Cond.constant RX4 88 (100001), Cond.constant RX4 89 (100000), Cond.methodLink RX4 85 yX4_keyword, Cond.static yX4_keyword, Cond.code yX4_keyword cX4_keyword 8 (some .int), Cond.methodLink RX4 92 yJ0_length_8abf5, Cond.instanceMethod yJ0_length_8abf5, Cond.selects RJ0 yJ0_length_8abf5 yJ0_length_8abf5, Cond.initialized RJ0, Cond.code yJ0_length_8abf5 cJ0_length_8abf5 1 (some .int), Cond.fieldLink RJ0 9 "java/lang/String" "value" "[B", Cond.methodLink RJ0 335 yJ0_coder_7d493, Cond.instanceMethod yJ0_coder_7d493]
noncomputable def wsL_law_r34 : List Cond := [Cond.selects RJ0 yJ0_coder_7d493 yJ0_coder_7d493, Cond.code yJ0_coder_7d493 cJ0_coder_7d493 1 (some .byte), Cond.fieldLink RJ0 38 "java/lang/String" "COMPACT_STRINGS" "Z", Cond.fieldLink RJ0 15 "java/lang/String" "coder" "B", Cond.methodLink RX4 98 yJ0_charAt_5068e, Cond.instanceMethod yJ0_charAt_5068e, Cond.selects RJ0 yJ0_charAt_5068e yJ0_charAt_5068e, Cond.code yJ0_charAt_5068e cJ0_charAt_5068e 2 (some .char), Cond.methodLink RJ0 492 yJ0_isLatin1_aae02, Cond.instanceMethod yJ0_isLatin1_aae02, Cond.selects RJ0 yJ0_isLatin1_aae02 yJ0_isLatin1_aae02, Cond.code yJ0_isLatin1_aae02 cJ0_isLatin1_aae02 1 (some .boolean), Cond.methodLink RJ0 495 yJ1_charAt_3b067, Cond.static yJ1_charAt_3b067, Cond.initialized RJ1, Cond.code yJ1_charAt_3b067 cJ1_charAt_3b067 2 (some .char), Cond.methodLink RJ1 9 yJ0_checkIndex_df160, Cond.static yJ0_checkIndex_df160, Cond.code yJ0_checkIndex_df160 cJ0_checkIndex_df160 2 none, Cond.fieldLink RJ0 1053 "jdk/internal/util/Preconditions" "SIOOBE_FORMATTER" "Ljava/util/function/BiFunction;", Cond.methodLink RJ0 1059 yJ3_checkIndex_8e157, Cond.static yJ3_checkIndex_8e157, Cond.initialized RJ3, Cond.code yJ3_checkIndex_8e157 cJ3_checkIndex_8e157 3 (some .int)]
noncomputable def wsL_law_r35 : List Cond := [Cond.methodLink RJ0 498 yJ2_charAt_3b067, Cond.static yJ2_charAt_3b067, Cond.initialized RJ2, Cond.code yJ2_charAt_3b067 cJ2_charAt_3b067 2 (some .char), Cond.methodLink RJ2 67 yJ2_checkIndex_2214a, Cond.static yJ2_checkIndex_2214a, Cond.code yJ2_checkIndex_2214a cJ2_checkIndex_2214a 2 none, Cond.methodLink RJ2 48 yJ2_length_9d52b, Cond.static yJ2_length_9d52b, Cond.code yJ2_length_9d52b cJ2_length_9d52b 1 (some .int), Cond.methodLink RJ2 414 yJ0_checkIndex_df160, Cond.methodLink RJ2 71 yJ2_getChar_3b067, Cond.static yJ2_getChar_3b067, Cond.code yJ2_getChar_3b067 cJ2_getChar_3b067 2 (some .char), Cond.fieldLink RJ2 44 "java/lang/StringUTF16" "$assertionsDisabled" "Z", Cond.fieldLink RJ2 59 "java/lang/StringUTF16" "HI_BYTE_SHIFT" "I", Cond.fieldLink RJ2 63 "java/lang/StringUTF16" "LO_BYTE_SHIFT" "I", Cond.methodLink RX4 56 yX4_takesClauses, Cond.instanceMethod yX4_takesClauses, Cond.selects RX4 yX4_takesClauses yX4_takesClauses, Cond.code yX4_takesClauses cX4_takesClauses 2 (some .boolean), Cond.methodLink RX4 102 yX4_fail, Cond.instanceMethod yX4_fail, Cond.selects RX4 yX4_fail yX4_fail]
noncomputable def wsL_law_r36 : List Cond := [Cond.code yX4_fail cX4_fail 1 (some .boolean), Cond.methodLink RX4 105 yX4_advance, Cond.instanceMethod yX4_advance, Cond.selects RX4 yX4_advance yX4_advance, Cond.code yX4_advance cX4_advance 1 none, Cond.methodLink RX4 108 yX4_takesTest, Cond.instanceMethod yX4_takesTest, Cond.selects RX4 yX4_takesTest yX4_takesTest, Cond.code yX4_takesTest cX4_takesTest 5 (some .boolean), Cond.methodLink RX4 115 yX4_takesBoth, Cond.instanceMethod yX4_takesBoth, Cond.selects RX4 yX4_takesBoth yX4_takesBoth, Cond.methodLink RX4 118 yX4_put, Cond.instanceMethod yX4_put, Cond.selects RX4 yX4_put yX4_put, Cond.code yX4_put cX4_put 4 (some .int), Cond.methodLink RX4 121 yX4_aim, Cond.instanceMethod yX4_aim, Cond.selects RX4 yX4_aim yX4_aim, Cond.code yX4_aim cX4_aim 2 none, Cond.code yX4_takesBoth cX4_takesBoth 5 (some .boolean), Cond.methodLink RX4 125 yX4_takesPlain, Cond.instanceMethod yX4_takesPlain, Cond.selects RX4 yX4_takesPlain yX4_takesPlain]
noncomputable def wsL_law_r37 : List Cond := [Cond.code yX4_takesPlain cX4_takesPlain 4 (some .boolean), Cond.methodLink RX4 128 yX4_takesBracket, Cond.instanceMethod yX4_takesBracket, Cond.selects RX4 yX4_takesBracket yX4_takesBracket, Cond.code yX4_takesBracket cX4_takesBracket 2 (some .boolean), Cond.methodLink RX4 111 yX4_takesSign, Cond.instanceMethod yX4_takesSign, Cond.selects RX4 yX4_takesSign yX4_takesSign, Cond.code yX4_takesSign cX4_takesSign 2 (some .boolean), Cond.methodLink RX4 131 yX4_takesPart, Cond.instanceMethod yX4_takesPart, Cond.selects RX4 yX4_takesPart yX4_takesPart, Cond.code yX4_takesPart cX4_takesPart 3 (some .boolean), Cond.methodLink RX4 135 yX4_takesComparison, Cond.instanceMethod yX4_takesComparison, Cond.selects RX4 yX4_takesComparison yX4_takesComparison, Cond.code yX4_takesComparison cX4_takesComparison 4 (some .boolean), Cond.methodLink RX4 138 yX4_takesSum, Cond.instanceMethod yX4_takesSum, Cond.selects RX4 yX4_takesSum yX4_takesSum, Cond.code yX4_takesSum cX4_takesSum 5 (some .boolean), Cond.methodLink RX4 141 yX4_takesTerm, Cond.instanceMethod yX4_takesTerm, Cond.selects RX4 yX4_takesTerm yX4_takesTerm]
noncomputable def wsL_law_r38 : List Cond := [Cond.code yX4_takesFactor cX4_takesFactor 2 (some .boolean), Cond.code yX4_takesTerm cX4_takesTerm 5 (some .boolean), Cond.methodLink RX4 144 yX4_takesFactor, Cond.instanceMethod yX4_takesFactor, Cond.selects RX4 yX4_takesFactor yX4_takesFactor, Cond.methodLink RX4 62 yJ7_copyOf_59c91, Cond.static yJ7_copyOf_59c91, Cond.code yJ7_copyOf_59c91 cJ7_copyOf_59c91 3 (some (.array .int)), Cond.methodLink RJ7 316 ⟨"[I", "clone", "()Ljava/lang/Object;"⟩, Cond.sameMethod "[I" "java/lang/Object" "clone" "()Ljava/lang/Object;", Cond.native ⟨"java/lang/Object", "clone", "()Ljava/lang/Object;"⟩, Cond.instanceMethod ⟨"java/lang/Object", "clone", "()Ljava/lang/Object;"⟩, Cond.selects "[I" ⟨"[I", "clone", "()Ljava/lang/Object;"⟩ ⟨"java/lang/Object", "clone", "()Ljava/lang/Object;"⟩, Cond.classLink RJ7 317 "[I", Cond.methodLink RJ7 304 Lib.Math.min.name, Cond.methodLink RJ7 150 arraycopyName, Cond.methodLink RX4 68 yX3_init, Cond.instanceMethod yX3_init, Cond.code yX3_init cX3_init 4 none, Cond.methodLink RX3 1 objectInit, Cond.fieldLink RX3 7 "GlassBox$Habit" "heads" "[I", Cond.fieldLink RX3 13 "GlassBox$Habit" "ends" "[I", Cond.fieldLink RX3 16 "GlassBox$Habit" "code" "[I", Cond.methodLink RX10 245 yX8_addHabit]
noncomputable def wsL_law_r39 : List Cond := [Cond.instanceMethod yX8_addHabit, Cond.selects RX8 yX8_addHabit yX8_addHabit, Cond.code yX8_addHabit cX8_addHabit 2 (some .int), Cond.methodLink RL 86 yX11_habit, Cond.instanceMethod yX11_habit, Cond.selects RX11 yX11_habit yX11_habit, Cond.code yX11_habit cX11_habit 3 (some .int), Cond.fieldLink RX11 305 "GlassBoxModel" "tokens" "I", Cond.methodLink RX11 372 yX11_reads, Cond.instanceMethod yX11_reads, Cond.selects RX11 yX11_reads yX11_reads, Cond.code yX11_reads cX11_reads 2 (some .boolean), Cond.fieldLink RX11 325 "GlassBoxModel" "token" "I", Cond.fieldLink RX11 334 "GlassBoxModel" "leaves" "I", Cond.fieldLink RX11 318 "GlassBoxModel" "bad" "I", Cond.methodLink RX11 366 yX11_cuts, Cond.instanceMethod yX11_cuts, Cond.selects RX11 yX11_cuts yX11_cuts, Cond.code yX11_cuts cX11_cuts 6 none, Cond.constant RX11 317 (1000000), Cond.methodLink RX11 308 yX11_isSmall, Cond.static yX11_isSmall, Cond.code yX11_isSmall cX11_isSmall 1 (some .boolean), Cond.methodLink RX11 311 yX11_isDigit]
noncomputable def wsL_law_r40 : List Cond := [Cond.static yX11_isDigit, Cond.code yX11_isDigit cX11_isDigit 1 (some .boolean), Cond.methodLink RX11 314 yX11_wordOf, Cond.instanceMethod yX11_wordOf, Cond.selects RX11 yX11_wordOf yX11_wordOf, Cond.code yX11_wordOf cX11_wordOf 8 (some .int), Cond.methodLink RX11 369 yX11_readClause, Cond.instanceMethod yX11_readClause, Cond.selects RX11 yX11_readClause yX11_readClause, Cond.code yX11_readClause cX11_readClause 1 none, Cond.methodLink RX11 321 yX11_fine, Cond.instanceMethod yX11_fine, Cond.selects RX11 yX11_fine yX11_fine, Cond.code yX11_fine cX11_fine 1 (some .boolean), Cond.methodLink RX11 331 yX11_faults, Cond.instanceMethod yX11_faults, Cond.selects RX11 yX11_faults yX11_faults, Cond.code yX11_faults cX11_faults 1 none, Cond.methodLink RX11 328 yX11_takes, Cond.instanceMethod yX11_takes, Cond.selects RX11 yX11_takes yX11_takes, Cond.code yX11_takes cX11_takes 3 (some .boolean), Cond.methodLink RX11 337 yX11_readTest, Cond.instanceMethod yX11_readTest]
noncomputable def wsL_law_r41 : List Cond := [Cond.selects RX11 yX11_readTest yX11_readTest, Cond.code yX11_readTest cX11_readTest 2 none, Cond.methodLink RX11 340 yX11_readBoth, Cond.instanceMethod yX11_readBoth, Cond.selects RX11 yX11_readBoth yX11_readBoth, Cond.code yX11_readBoth cX11_readBoth 2 none, Cond.methodLink RX11 343 yX11_readPlain, Cond.instanceMethod yX11_readPlain, Cond.selects RX11 yX11_readPlain yX11_readPlain, Cond.code yX11_readPlain cX11_readPlain 4 none, Cond.methodLink RX11 346 yX11_sign, Cond.static yX11_sign, Cond.code yX11_sign cX11_sign 1 (some .int), Cond.methodLink RX11 350 yX11_must, Cond.instanceMethod yX11_must, Cond.selects RX11 yX11_must yX11_must, Cond.code yX11_must cX11_must 2 none, Cond.methodLink RX11 353 yX11_leaf, Cond.instanceMethod yX11_leaf, Cond.selects RX11 yX11_leaf yX11_leaf, Cond.code yX11_leaf cX11_leaf 1 none, Cond.methodLink RX11 356 yX11_readSum, Cond.instanceMethod yX11_readSum, Cond.selects RX11 yX11_readSum yX11_readSum]
noncomputable def wsL_law_r42 : List Cond := [Cond.code yX11_readSum cX11_readSum 2 none, Cond.methodLink RX11 359 yX11_readTerm, Cond.instanceMethod yX11_readTerm, Cond.selects RX11 yX11_readTerm yX11_readTerm, Cond.code yX11_readPart cX11_readPart 3 none, Cond.constant RX11 365 (100000), Cond.code yX11_readTerm cX11_readTerm 2 none, Cond.methodLink RX11 362 yX11_readPart, Cond.instanceMethod yX11_readPart, Cond.selects RX11 yX11_readPart yX11_readPart, Cond.methodLink RL 87 yX10_fault, Cond.instanceMethod yX10_fault, Cond.selects RX10 yX10_fault yX10_fault, Cond.code yX10_fault cX10_fault 1 (some .int), Cond.methodLink RL 90 yX11_fault, Cond.instanceMethod yX11_fault, Cond.selects RX11 yX11_fault yX11_fault, Cond.code yX11_fault cX11_fault 1 (some .int), Cond.methodLink RL 91 yX10_run, Cond.instanceMethod yX10_run, Cond.selects RX10 yX10_run yX10_run, Cond.code yX10_run cX10_run 3 (some .int), Cond.fieldLink RX10 255 "GlassBox$State" "habits" "[LGlassBox$Habit;", Cond.methodLink RX10 249 yX8_isHabit]
noncomputable def wsL_law_r43 : List Cond := [Cond.instanceMethod yX8_isHabit, Cond.selects RX8 yX8_isHabit yX8_isHabit, Cond.code yX8_isHabit cX8_isHabit 2 (some .boolean), Cond.methodLink RX10 252 yX10_freshenTree, Cond.instanceMethod yX10_freshenTree, Cond.selects RX10 yX10_freshenTree yX10_freshenTree, Cond.code yX10_freshenTree cX10_freshenTree 1 none, Cond.methodLink RX10 259 yX0_play, Cond.instanceMethod yX0_play, Cond.selects RX0 yX0_play yX0_play, Cond.code yX0_play cX0_play 8 (some .int), Cond.methodLink RX0 38 yX9_placeIn, Cond.methodLink RX0 44 yX0_askAll, Cond.instanceMethod yX0_askAll, Cond.selects RX0 yX0_askAll yX0_askAll, Cond.code yX0_askAll cX0_askAll 7 none, Cond.fieldLink RX0 76 "GlassBox$Tree" "weight" "[I", Cond.methodLink RX0 79 Lib.Math.max.name, Cond.fieldLink RX0 84 "GlassBox$Tree" "sole" "[I", Cond.fieldLink RX0 87 "GlassBox$Tree" "over" "[Z", Cond.fieldLink RX0 94 "GlassBox$Tree" "terms" "[I", Cond.fieldLink RX0 97 "GlassBox$Tree" "likeliestWeight" "[I", Cond.fieldLink RX0 100 "GlassBox$Tree" "masks" "[I", Cond.fieldLink RX0 108 "GlassBox$Tree" "speaker" "I"]
noncomputable def wsL_law_r44 : List Cond := [Cond.fieldLink RX0 115 "GlassBox$Tree" "load" "[I", Cond.methodLink RX0 64 yX6_doneIn, Cond.methodLink RX0 73 yX9_nextAt, Cond.methodLink RX0 91 yX9_held, Cond.methodLink RX0 103 yJ6_bitCount_0f7a4, Cond.methodLink RX0 111 yX0_askMends, Cond.instanceMethod yX0_askMends, Cond.selects RX0 yX0_askMends yX0_askMends, Cond.code yX0_askMends cX0_askMends 5 (some .int), Cond.methodLink RX0 118 yX9_canMend, Cond.instanceMethod yX9_canMend, Cond.selects RX9 yX9_canMend yX9_canMend, Cond.code yX9_canMend cX9_canMend 6 (some .boolean), Cond.methodLink RX9 155 yX9_digitOf, Cond.instanceMethod yX9_digitOf, Cond.selects RX9 yX9_digitOf yX9_digitOf, Cond.code yX9_digitOf cX9_digitOf 3 (some .int), Cond.methodLink RX9 151 yX6_digitAt, Cond.methodLink RX0 48 yX0_chooseBy, Cond.instanceMethod yX0_chooseBy, Cond.selects RX0 yX0_chooseBy yX0_chooseBy, Cond.code yX0_chooseBy cX0_chooseBy 8 (some .int), Cond.fieldLink RX0 122 "GlassBox$Habit" "heads" "[I", Cond.fieldLink RX0 127 "GlassBox$Habit" "ends" "[I"]
noncomputable def wsL_law_r45 : List Cond := [Cond.fieldLink RX0 134 "GlassBox$Habit" "code" "[I", Cond.methodLink RX0 130 yX0_possible, Cond.instanceMethod yX0_possible, Cond.selects RX0 yX0_possible yX0_possible, Cond.code yX0_possible cX0_possible 7 (some .int), Cond.fieldLink RX0 141 "GlassBox$Tree" "openingLength" "[I", Cond.fieldLink RX0 144 "GlassBox$Tree" "likeliest" "[I", Cond.methodLink RX0 137 yX0_isSo, Cond.instanceMethod yX0_isSo, Cond.selects RX0 yX0_isSo yX0_isSo, Cond.code yX0_isSo cX0_isSo 10 (some .boolean), Cond.methodLink RX0 147 yX0_isBroken, Cond.instanceMethod yX0_isBroken, Cond.selects RX0 yX0_isBroken yX0_isBroken, Cond.code yX0_isBroken cX0_isBroken 9 (some .boolean), Cond.constantLong RX0 155 (1000000000), Cond.constantLong RX0 157 (-1000000000), Cond.methodLink RX0 151 yX0_joined, Cond.static yX0_joined, Cond.code yX0_joined cX0_joined 5 (some .long), Cond.methodLink RX0 54 yX9_endLoss, Cond.instanceMethod yX9_endLoss, Cond.selects RX9 yX9_endLoss yX9_endLoss, Cond.code yX9_endLoss cX9_endLoss 6 (some .int)]
noncomputable def wsL_law_r46 : List Cond := [Cond.methodLink RX0 57 yX9_moveLoss, Cond.instanceMethod yX9_moveLoss, Cond.selects RX9 yX9_moveLoss yX9_moveLoss, Cond.code yX9_moveLoss cX9_moveLoss 4 (some .int), Cond.methodLink RX0 61 yX9_saidBehind, Cond.methodLink RX0 70 yX9_secondLoss, Cond.methodLink RL 94 yX11_run, Cond.instanceMethod yX11_run, Cond.selects RX11 yX11_run yX11_run, Cond.code yX11_run cX11_run 5 (some .int), Cond.fieldLink RX11 437 "GlassBoxModel" "movesMany" "I", Cond.fieldLink RX11 450 "GlassBoxModel" "lastMany" "I", Cond.methodLink RX11 443 yX11_isText, Cond.instanceMethod yX11_isText, Cond.selects RX11 yX11_isText yX11_isText, Cond.code yX11_isText cX11_isText 2 (some .boolean), Cond.methodLink RX11 446 yX11_plays, Cond.instanceMethod yX11_plays, Cond.selects RX11 yX11_plays yX11_plays, Cond.code yX11_plays cX11_plays 9 (some .long), Cond.fieldLink RX11 440 "GlassBoxModel" "saidLast" "I", Cond.methodLink RX11 434 yX11_habitOf, Cond.instanceMethod yX11_habitOf, Cond.selects RX11 yX11_habitOf yX11_habitOf]
noncomputable def wsL_law_r47 : List Cond := [Cond.code yX11_habitOf cX11_habitOf 7 (some .int), Cond.fieldLink RX11 378 "GlassBoxModel" "go" "I", Cond.fieldLink RX11 375 "GlassBoxModel" "goEnd" "I", Cond.fieldLink RX11 388 "GlassBoxModel" "broken" "Z", Cond.methodLink RX11 428 yX11_asksAt, Cond.instanceMethod yX11_asksAt, Cond.selects RX11 yX11_asksAt yX11_asksAt, Cond.code yX11_asksAt cX11_asksAt 4 none, Cond.methodLink RX11 421 yX11_likeliest, Cond.instanceMethod yX11_likeliest, Cond.selects RX11 yX11_likeliest yX11_likeliest, Cond.code yX11_likeliest cX11_likeliest 5 (some .int), Cond.methodLink RX11 381 yX11_codeAt, Cond.instanceMethod yX11_codeAt, Cond.selects RX11 yX11_codeAt yX11_codeAt, Cond.code yX11_codeAt cX11_codeAt 2 (some .int), Cond.methodLink RX11 402 yX11_passes, Cond.instanceMethod yX11_passes, Cond.selects RX11 yX11_passes yX11_passes, Cond.code yX11_passes cX11_passes 3 (some .boolean), Cond.methodLink RX11 418 yX11_testOf, Cond.instanceMethod yX11_testOf, Cond.selects RX11 yX11_testOf yX11_testOf, Cond.code yX11_testOf cX11_testOf 4 (some .boolean)]
noncomputable def wsL_law_r48 : List Cond := [Cond.methodLink RX11 408 yX11_bothOf, Cond.instanceMethod yX11_bothOf, Cond.selects RX11 yX11_bothOf yX11_bothOf, Cond.code yX11_bothOf cX11_bothOf 4 (some .boolean), Cond.methodLink RX11 412 yX11_plainOf, Cond.instanceMethod yX11_plainOf, Cond.selects RX11 yX11_plainOf yX11_plainOf, Cond.code yX11_plainOf cX11_plainOf 3 (some .boolean), Cond.methodLink RX11 415 yX11_positiveOf, Cond.instanceMethod yX11_positiveOf, Cond.selects RX11 yX11_positiveOf yX11_positiveOf, Cond.code yX11_positiveOf cX11_positiveOf 8 (some .boolean), Cond.methodLink RX11 405 yX11_sumOf, Cond.instanceMethod yX11_sumOf, Cond.selects RX11 yX11_sumOf yX11_sumOf, Cond.code yX11_sumOf cX11_sumOf 7 (some .long), Cond.methodLink RX11 391 yX11_termOf, Cond.instanceMethod yX11_termOf, Cond.selects RX11 yX11_termOf yX11_termOf, Cond.methodLink RX11 395 yX11_bounded, Cond.instanceMethod yX11_bounded, Cond.selects RX11 yX11_bounded yX11_bounded, Cond.code yX11_bounded cX11_bounded 4 (some .long), Cond.constantLong RX11 384 (1000000000)]
noncomputable def wsL_law_r49 : List Cond := [Cond.constantLong RX11 386 (-1000000000), Cond.code yX11_partOf cX11_partOf 4 (some .long), Cond.code yX11_termOf cX11_termOf 7 (some .long), Cond.methodLink RX11 399 yX11_partOf, Cond.instanceMethod yX11_partOf, Cond.selects RX11 yX11_partOf yX11_partOf, Cond.methodLink RX11 431 yX11_moveFor, Cond.instanceMethod yX11_moveFor, Cond.selects RX11 yX11_moveFor yX11_moveFor, Cond.code yX11_moveFor cX11_moveFor 4 (some .int), Cond.methodLink RX11 425 yX11_firstMend, Cond.instanceMethod yX11_firstMend, Cond.selects RX11 yX11_firstMend yX11_firstMend, Cond.code yX11_firstMend cX11_firstMend 3 (some .int), Cond.methodLink RL 95 yX10_move, Cond.instanceMethod yX10_move, Cond.selects RX10 yX10_move yX10_move, Cond.code yX10_move cX10_move 2 (some .int), Cond.fieldLink RX10 263 "GlassBox$Booth" "seconds" "I", Cond.fieldLink RX10 266 "GlassBox$Booth" "moves" "[I", Cond.methodLink RL 98 yX11_move, Cond.instanceMethod yX11_move, Cond.selects RX11 yX11_move yX11_move, Cond.code yX11_move cX11_move 2 (some .int)]
noncomputable def wsL_law_r50 : List Cond := [Cond.methodLink RL 99 yX10_worth, Cond.instanceMethod yX10_worth, Cond.selects RX10 yX10_worth yX10_worth, Cond.code yX10_worth cX10_worth 5 (some .long), Cond.constantLong RX10 269 (-1), Cond.methodLink RL 103 yX11_worth, Cond.instanceMethod yX11_worth, Cond.selects RX11 yX11_worth yX11_worth, Cond.code yX11_worth cX11_worth 5 (some .long), Cond.constantLong RX11 296 (-1), Cond.methodLink RL 104 yX10_guessing, Cond.instanceMethod yX10_guessing, Cond.selects RX10 yX10_guessing yX10_guessing, Cond.code yX10_guessing cX10_guessing 3 (some .long), Cond.methodLink RL 107 yX11_guessing, Cond.instanceMethod yX11_guessing, Cond.selects RX11 yX11_guessing yX11_guessing, Cond.code yX11_guessing cX11_guessing 5 (some .long), Cond.methodLink RL 108 yX10_write, Cond.instanceMethod yX10_write, Cond.selects RX10 yX10_write yX10_write, Cond.code yX10_write cX10_write 10 (some .long), Cond.methodLink RX10 271 yX9_canFade, Cond.instanceMethod yX9_canFade]
noncomputable def wsL_law_r51 : List Cond := [Cond.selects RX9 yX9_canFade yX9_canFade, Cond.code yX9_canFade cX9_canFade 2 (some .boolean), Cond.methodLink RX10 275 yX10_sparedBy, Cond.instanceMethod yX10_sparedBy, Cond.selects RX10 yX10_sparedBy yX10_sparedBy, Cond.code yX10_sparedBy cX10_sparedBy 4 (some .long), Cond.methodLink RX10 335 yX8_canHear, Cond.instanceMethod yX8_canHear, Cond.selects RX8 yX8_canHear yX8_canHear, Cond.code yX8_canHear cX8_canHear 3 (some .boolean), Cond.methodLink RX8 88 yX8_timesIn, Cond.instanceMethod yX8_timesIn, Cond.selects RX8 yX8_timesIn yX8_timesIn, Cond.code yX8_timesIn cX8_timesIn 5 (some .int), Cond.methodLink RL 111 yX11_write, Cond.instanceMethod yX11_write, Cond.selects RX11 yX11_write yX11_write, Cond.code yX11_write cX11_write 10 (some .long), Cond.methodLink RX11 298 yX11_writing, Cond.instanceMethod yX11_writing, Cond.selects RX11 yX11_writing yX11_writing, Cond.code yX11_writing cX11_writing 7 (some .long), Cond.methodLink RX11 302 yX11_isHeard, Cond.instanceMethod yX11_isHeard]
noncomputable def wsL_law_r52 : List Cond := [Cond.selects RX11 yX11_isHeard yX11_isHeard, Cond.code yX11_isHeard cX11_isHeard 4 (some .boolean), Cond.methodLink RL 112 yX10_box, Cond.instanceMethod yX10_box, Cond.selects RX10 yX10_box yX10_box, Cond.code yX10_box cX10_box 4 (some .int), Cond.fieldLink RX10 279 "GlassBox$State" "boxCount" "I", Cond.methodLink RX10 282 yX8_addBox, Cond.instanceMethod yX8_addBox, Cond.selects RX8 yX8_addBox yX8_addBox, Cond.code yX8_addBox cX8_addBox 4 (some .int), Cond.methodLink RL 115 yX11_box, Cond.instanceMethod yX11_box, Cond.selects RX11 yX11_box yX11_box, Cond.code yX11_box cX11_box 5 (some .int), Cond.methodLink RL 116 yX10_chain, Cond.instanceMethod yX10_chain, Cond.selects RX10 yX10_chain yX10_chain, Cond.code yX10_chain cX10_chain 1 (some .int), Cond.fieldLink RX10 285 "GlassBox$State" "boxes" "[I", Cond.methodLink RX10 288 yX1_find, Cond.instanceMethod yX1_find, Cond.selects RX1 yX1_find yX1_find, Cond.code yX1_find cX1_find 3 (some .int)]
noncomputable def wsL_law_r53 : List Cond := [Cond.constant RX1 25 (1000000), Cond.methodLink RX1 26 yX1_extend, Cond.instanceMethod yX1_extend, Cond.selects RX1 yX1_extend yX1_extend, Cond.code yX1_extend cX1_extend 8 none, Cond.methodLink RX1 30 arraycopyName, Cond.constantLong RX1 36 (100), Cond.methodLink RL 119 yX11_chain, Cond.instanceMethod yX11_chain, Cond.selects RX11 yX11_chain yX11_chain, Cond.code yX11_chain cX11_chain 8 (some .int), Cond.fieldLink RX11 459 "GlassBoxModel" "linked" "I", Cond.methodLink RX11 453 yX11_isRow, Cond.instanceMethod yX11_isRow, Cond.selects RX11 yX11_isRow yX11_isRow, Cond.code yX11_isRow cX11_isRow 4 (some .boolean), Cond.methodLink RX11 456 yX11_keptBy, Cond.instanceMethod yX11_keptBy, Cond.selects RX11 yX11_keptBy yX11_keptBy, Cond.code yX11_keptBy cX11_keptBy 5 (some .int), Cond.methodLink RL 120 yX10_link, Cond.instanceMethod yX10_link, Cond.selects RX10 yX10_link yX10_link, Cond.code yX10_link cX10_link 2 (some .int)]
noncomputable def wsL_law_r54 : List Cond := [Cond.fieldLink RX10 291 "GlassBox$Chain" "length" "I", Cond.fieldLink RX10 294 "GlassBox$Chain" "links" "[I", Cond.methodLink RL 123 yX11_link, Cond.instanceMethod yX11_link, Cond.selects RX11 yX11_link yX11_link, Cond.code yX11_link cX11_link 2 (some .int), Cond.methodLink RL 124 yX10_tired, Cond.instanceMethod yX10_tired, Cond.selects RX10 yX10_tired yX10_tired, Cond.code yX10_tired cX10_tired 3 (some .int), Cond.fieldLink RX10 297 "GlassBox$State" "costs" "[I", Cond.methodLink RL 127 yX11_tired, Cond.instanceMethod yX11_tired, Cond.selects RX11 yX11_tired yX11_tired, Cond.code yX11_tired cX11_tired 4 (some .int), Cond.methodLink RL 128 yX10_relieve, Cond.instanceMethod yX10_relieve, Cond.selects RX10 yX10_relieve yX10_relieve, Cond.code yX10_relieve cX10_relieve 2 (some .int), Cond.methodLink RX10 300 yX5_find, Cond.instanceMethod yX5_find, Cond.selects RX5 yX5_find yX5_find, Cond.code yX5_find cX5_find 6 (some .int), Cond.methodLink RX5 25 yX5_sitFrom]
noncomputable def wsL_law_r55 : List Cond := [Cond.instanceMethod yX5_sitFrom, Cond.selects RX5 yX5_sitFrom yX5_sitFrom, Cond.code yX5_sitFrom cX5_sitFrom 9 none, Cond.constant RX5 29 (1073741824), Cond.methodLink RL 131 yX11_relieve, Cond.instanceMethod yX11_relieve, Cond.selects RX11 yX11_relieve yX11_relieve, Cond.code yX11_relieve cX11_relieve 6 (some .int), Cond.methodLink RL 132 yX10_change, Cond.instanceMethod yX10_change, Cond.selects RX10 yX10_change yX10_change, Cond.code yX10_change cX10_change 2 (some .int), Cond.fieldLink RX10 302 "GlassBox$Relief" "changeCount" "I", Cond.fieldLink RX10 305 "GlassBox$Relief" "changes" "[I", Cond.methodLink RL 135 yX11_change, Cond.instanceMethod yX11_change, Cond.selects RX11 yX11_change yX11_change, Cond.code yX11_change cX11_change 2 (some .int), Cond.methodLink RL 136 yX10_glossary, Cond.instanceMethod yX10_glossary, Cond.selects RX10 yX10_glossary yX10_glossary, Cond.code yX10_glossary cX10_glossary 3 (some .int), Cond.fieldLink RX10 310 "GlassBox$Glossary" "most" "[I", Cond.fieldLink RX10 313 "GlassBox$Glossary" "sets" "[I"]
noncomputable def wsL_law_r56 : List Cond := [Cond.methodLink RX10 308 yX2_find, Cond.instanceMethod yX2_find, Cond.selects RX2 yX2_find yX2_find, Cond.code yX2_find cX2_find 7 none, Cond.fieldLink RX2 24 "GlassBox$State" "words" "[I", Cond.methodLink RX2 18 yJ7_fill_53178, Cond.methodLink RX2 29 yX2_savedBy, Cond.static yX2_savedBy, Cond.code yX2_savedBy cX2_savedBy 4 (some .int), Cond.fieldLink RX2 33 "GlassBox$State" "sentenceCount" "I", Cond.methodLink RX2 37 yX8_weightOf, Cond.methodLink RX2 41 yX8_timesIn, Cond.methodLink RL 139 yX11_glossary, Cond.instanceMethod yX11_glossary, Cond.selects RX11 yX11_glossary yX11_glossary, Cond.code yX11_glossary cX11_glossary 8 (some .int), Cond.methodLink RX11 462 yX11_saved, Cond.instanceMethod yX11_saved, Cond.selects RX11 yX11_saved yX11_saved, Cond.code yX11_saved cX11_saved 5 (some .int), Cond.methodLink RL 140 yX10_whose, Cond.instanceMethod yX10_whose, Cond.selects RX10 yX10_whose yX10_whose, Cond.code yX10_whose cX10_whose 8 (some .int)]
noncomputable def wsL_law_r57 : List Cond := [Cond.fieldLink RX10 316 "GlassBox$State" "values" "[I", Cond.fieldLink RX10 319 "GlassBox$Booth" "said" "I", Cond.methodLink RX10 322 yX9_digitOf, Cond.methodLink RL 143 yX11_whose, Cond.instanceMethod yX11_whose, Cond.selects RX11 yX11_whose yX11_whose, Cond.code yX11_whose cX11_whose 7 (some .int), Cond.methodLink RL 144 yX10_read, Cond.instanceMethod yX10_read, Cond.selects RX10 yX10_read yX10_read, Cond.code yX10_read cX10_read 5 (some .int), Cond.methodLink RX10 325 yX10_soundsLike, Cond.instanceMethod yX10_soundsLike, Cond.selects RX10 yX10_soundsLike yX10_soundsLike, Cond.code yX10_soundsLike cX10_soundsLike 3 (some .boolean), Cond.methodLink RL 147 yX11_read, Cond.instanceMethod yX11_read, Cond.selects RX11 yX11_read yX11_read, Cond.code yX11_read cX11_read 7 (some .int), Cond.methodLink RL 148 yX10_parting, Cond.instanceMethod yX10_parting, Cond.selects RX10 yX10_parting yX10_parting, Cond.code yX10_parting cX10_parting 6 (some .int), Cond.methodLink RX10 328 yX10_pairsApart]
noncomputable def wsL_law_r58 : List Cond := [Cond.instanceMethod yX10_pairsApart, Cond.selects RX10 yX10_pairsApart yX10_pairsApart, Cond.code yX10_pairsApart cX10_pairsApart 5 (some .int), Cond.fieldLink RX10 338 "GlassBox$Booth" "trace" "J", Cond.methodLink RL 151 yX11_parting, Cond.instanceMethod yX11_parting, Cond.selects RX11 yX11_parting yX11_parting, Cond.code yX11_parting cX11_parting 8 (some .int), Cond.methodLink RX11 465 yX11_areAlike, Cond.instanceMethod yX11_areAlike, Cond.selects RX11 yX11_areAlike yX11_areAlike, Cond.code yX11_areAlike cX11_areAlike 5 (some .boolean), Cond.methodLink RL 152 yX10_image, Cond.instanceMethod yX10_image, Cond.selects RX10 yX10_image yX10_image, Cond.code yX10_image cX10_image 2 (some .int), Cond.methodLink RX10 331 yX8_copy, Cond.instanceMethod yX8_copy, Cond.selects RX8 yX8_copy yX8_copy, Cond.code yX8_copy cX8_copy 3 none, Cond.methodLink RL 155 yX11_image, Cond.instanceMethod yX11_image, Cond.selects RX11 yX11_image yX11_image, Cond.code yX11_image cX11_image 3 (some .int)]
noncomputable def wsL_law_r59 : List Cond := [Cond.methodLink RL 156 yX10_back, Cond.instanceMethod yX10_back, Cond.selects RX10 yX10_back yX10_back, Cond.code yX10_back cX10_back 2 (some .int), Cond.methodLink RL 159 yX11_back, Cond.instanceMethod yX11_back, Cond.selects RX11 yX11_back yX11_back, Cond.code yX11_back cX11_back 3 (some .int), Cond.methodLink RL 160 yX10_count, Cond.instanceMethod yX10_count, Cond.selects RX10 yX10_count yX10_count, Cond.code yX10_count cX10_count 2 (some .int), Cond.methodLink RL 163 yX11_count, Cond.instanceMethod yX11_count, Cond.selects RX11 yX11_count yX11_count, Cond.code yX11_count cX11_count 2 (some .int), Cond.methodLink RL 164 yX10_status, Cond.instanceMethod yX10_status, Cond.selects RX10 yX10_status yX10_status, Cond.code yX10_status cX10_status 1 (some .int), Cond.methodLink RL 167 yX11_status, Cond.instanceMethod yX11_status, Cond.selects RX11 yX11_status yX11_status, Cond.code yX11_status cX11_status 1 (some .int)]
noncomputable def wsL_law : List Cond := (wsL_law_r1 ++ (wsL_law_r2 ++ (wsL_law_r3 ++ (wsL_law_r4 ++ (wsL_law_r5 ++ (wsL_law_r6 ++ (wsL_law_r7 ++ (wsL_law_r8 ++ (wsL_law_r9 ++ (wsL_law_r10 ++ (wsL_law_r11 ++ (wsL_law_r12 ++ (wsL_law_r13 ++ (wsL_law_r14 ++ (wsL_law_r15 ++ (wsL_law_r16 ++ (wsL_law_r17 ++ (wsL_law_r18 ++ (wsL_law_r19 ++ (wsL_law_r20 ++ (wsL_law_r21 ++ (wsL_law_r22 ++ (wsL_law_r23 ++ (wsL_law_r24 ++ (wsL_law_r25 ++ (wsL_law_r26 ++ (wsL_law_r27 ++ (wsL_law_r28 ++ (wsL_law_r29 ++ (wsL_law_r30 ++ (wsL_law_r31 ++ (wsL_law_r32 ++ (wsL_law_r33 ++ (wsL_law_r34 ++ (wsL_law_r35 ++ (wsL_law_r36 ++ (wsL_law_r37 ++ (wsL_law_r38 ++ (wsL_law_r39 ++ (wsL_law_r40 ++ (wsL_law_r41 ++ (wsL_law_r42 ++ (wsL_law_r43 ++ (wsL_law_r44 ++ (wsL_law_r45 ++ (wsL_law_r46 ++ (wsL_law_r47 ++ (wsL_law_r48 ++ (wsL_law_r49 ++ (wsL_law_r50 ++ (wsL_law_r51 ++ (wsL_law_r52 ++ (wsL_law_r53 ++ (wsL_law_r54 ++ (wsL_law_r55 ++ (wsL_law_r56 ++ (wsL_law_r57 ++ (wsL_law_r58 ++ wsL_law_r59)))))))))))))))))))))))))))))))))))))))))))))))))))))))))) ++ wsX100 ++ wsX110 ++ wsX80 ++ wsX40 ++ wsX90 ++ wsX70 ++ wsX00 ++ wsX10 ++ wsX50 ++ wsX20 ++ wsX30 ++ ([] : List Cond)
theorem inlX0 : ∀ w ∈ wsX00, w ∈ wsL_law := fun _ h => List.mem_append_left _ (List.mem_append_left _ (List.mem_append_left _ (List.mem_append_left _ (List.mem_append_left _ (List.mem_append_right _ h)))))
theorem inlX1 : ∀ w ∈ wsX10, w ∈ wsL_law := fun _ h => List.mem_append_left _ (List.mem_append_left _ (List.mem_append_left _ (List.mem_append_left _ (List.mem_append_right _ h))))
theorem inlX2 : ∀ w ∈ wsX20, w ∈ wsL_law := fun _ h => List.mem_append_left _ (List.mem_append_left _ (List.mem_append_right _ h))
theorem inlX3 : ∀ w ∈ wsX30, w ∈ wsL_law := fun _ h => List.mem_append_left _ (List.mem_append_right _ h)
theorem inlX4 : ∀ w ∈ wsX40, w ∈ wsL_law := fun _ h => List.mem_append_left _ (List.mem_append_left _ (List.mem_append_left _ (List.mem_append_left _ (List.mem_append_left _ (List.mem_append_left _ (List.mem_append_left _ (List.mem_append_left _ (List.mem_append_right _ h))))))))
theorem inlX5 : ∀ w ∈ wsX50, w ∈ wsL_law := fun _ h => List.mem_append_left _ (List.mem_append_left _ (List.mem_append_left _ (List.mem_append_right _ h)))
theorem inlX7 : ∀ w ∈ wsX70, w ∈ wsL_law := fun _ h => List.mem_append_left _ (List.mem_append_left _ (List.mem_append_left _ (List.mem_append_left _ (List.mem_append_left _ (List.mem_append_left _ (List.mem_append_right _ h))))))
theorem inlX8 : ∀ w ∈ wsX80, w ∈ wsL_law := fun _ h => List.mem_append_left _ (List.mem_append_left _ (List.mem_append_left _ (List.mem_append_left _ (List.mem_append_left _ (List.mem_append_left _ (List.mem_append_left _ (List.mem_append_left _ (List.mem_append_left _ (List.mem_append_right _ h)))))))))
theorem inlX9 : ∀ w ∈ wsX90, w ∈ wsL_law := fun _ h => List.mem_append_left _ (List.mem_append_left _ (List.mem_append_left _ (List.mem_append_left _ (List.mem_append_left _ (List.mem_append_left _ (List.mem_append_left _ (List.mem_append_right _ h)))))))
theorem inlX10 : ∀ w ∈ wsX100, w ∈ wsL_law := fun _ h => List.mem_append_left _ (List.mem_append_left _ (List.mem_append_left _ (List.mem_append_left _ (List.mem_append_left _ (List.mem_append_left _ (List.mem_append_left _ (List.mem_append_left _ (List.mem_append_left _ (List.mem_append_left _ (List.mem_append_left _ (List.mem_append_right _ h)))))))))))
theorem inlX11 : ∀ w ∈ wsX110, w ∈ wsL_law := fun _ h => List.mem_append_left _ (List.mem_append_left _ (List.mem_append_left _ (List.mem_append_left _ (List.mem_append_left _ (List.mem_append_left _ (List.mem_append_left _ (List.mem_append_left _ (List.mem_append_left _ (List.mem_append_left _ (List.mem_append_right _ h))))))))))
noncomputable abbrev vwCl : List vw_C := [(RX0, TX0, 7), (RX1, TX1, 4), (RX2, TX2, 2), (RX3, TX3, 3), (RX4, TX4, 11), (RX5, TX5, 4), (RX7, TX7, 5), (RX8, TX8, 16), (RX9, TX9, 18), (RX10, TX10, 18), (RX11, TX11, 59)]
