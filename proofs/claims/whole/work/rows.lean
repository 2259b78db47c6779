section
-- ===== PART A: goes FIRST, ahead of the names: the tables' words, and 'selects' of the private methods out of them =====
/-- a private method of a class that the tables say can be made, by its rows of tables_1 -/
def lw_okq (q : MethodName × Nat) : Prop := (q.1.cls ≠ "java/lang/invoke/MethodHandle" ∧ q.1.cls ≠ "java/lang/invoke/VarHandle") ∧ Cond.instantiable q.1.cls q.2 ∈ tables_1 ∧ Cond.privateMethod q.1 ∈ tables_1 ∧ Cond.instanceMethod q.1 ∈ tables_1
theorem lw_p0 : lw_okq (⟨"BrideDoors", "textOf", "(I)LBrideDoors$Text;"⟩, 13) := ⟨⟨by decide +kernel, by decide +kernel⟩, List.mem_of_getElem? (i := 19) (by decide +kernel), List.mem_of_getElem? (i := 201) (by decide +kernel), List.mem_of_getElem? (i := 202) (by decide +kernel)⟩
theorem lw_p1 : lw_okq (⟨"BrideDoors", "sheetOf", "(I)LBrideDoors$Sheet;"⟩, 13) := ⟨⟨by decide +kernel, by decide +kernel⟩, List.mem_of_getElem? (i := 19) (by decide +kernel), List.mem_of_getElem? (i := 386) (by decide +kernel), List.mem_of_getElem? (i := 387) (by decide +kernel)⟩
theorem lw_p2 : lw_okq (⟨"BrideDoors", "finding", "(I)I"⟩, 13) := ⟨⟨by decide +kernel, by decide +kernel⟩, List.mem_of_getElem? (i := 19) (by decide +kernel), List.mem_of_getElem? (i := 390) (by decide +kernel), List.mem_of_getElem? (i := 391) (by decide +kernel)⟩
theorem lw_p3 : lw_okq (⟨"BrideDoors", "passTold", "(I)V"⟩, 13) := ⟨⟨by decide +kernel, by decide +kernel⟩, List.mem_of_getElem? (i := 19) (by decide +kernel), List.mem_of_getElem? (i := 402) (by decide +kernel), List.mem_of_getElem? (i := 403) (by decide +kernel)⟩
theorem lw_p4 : lw_okq (⟨"BrideDoors$World", "befall", "(II)V"⟩, 10) := ⟨⟨by decide +kernel, by decide +kernel⟩, List.mem_of_getElem? (i := 92) (by decide +kernel), List.mem_of_getElem? (i := 417) (by decide +kernel), List.mem_of_getElem? (i := 418) (by decide +kernel)⟩
theorem lw_p5 : lw_okq (⟨"BrideDoors$World", "sawAll", "(I)V"⟩, 10) := ⟨⟨by decide +kernel, by decide +kernel⟩, List.mem_of_getElem? (i := 92) (by decide +kernel), List.mem_of_getElem? (i := 421) (by decide +kernel), List.mem_of_getElem? (i := 422) (by decide +kernel)⟩
theorem lw_p6 : lw_okq (⟨"BrideDoors$World", "takeDown", "(II)V"⟩, 10) := ⟨⟨by decide +kernel, by decide +kernel⟩, List.mem_of_getElem? (i := 92) (by decide +kernel), List.mem_of_getElem? (i := 429) (by decide +kernel), List.mem_of_getElem? (i := 430) (by decide +kernel)⟩
theorem lw_p7 : lw_okq (⟨"BrideDoors$World", "arrive", "(II)V"⟩, 10) := ⟨⟨by decide +kernel, by decide +kernel⟩, List.mem_of_getElem? (i := 92) (by decide +kernel), List.mem_of_getElem? (i := 438) (by decide +kernel), List.mem_of_getElem? (i := 439) (by decide +kernel)⟩
theorem lw_p8 : lw_okq (⟨"BrideDoors$World", "broughtBy", "(I)I"⟩, 10) := ⟨⟨by decide +kernel, by decide +kernel⟩, List.mem_of_getElem? (i := 92) (by decide +kernel), List.mem_of_getElem? (i := 442) (by decide +kernel), List.mem_of_getElem? (i := 443) (by decide +kernel)⟩
theorem lw_p9 : lw_okq (⟨"BrideDoors$World", "widened", "(II)I"⟩, 10) := ⟨⟨by decide +kernel, by decide +kernel⟩, List.mem_of_getElem? (i := 92) (by decide +kernel), List.mem_of_getElem? (i := 446) (by decide +kernel), List.mem_of_getElem? (i := 447) (by decide +kernel)⟩
theorem lw_p10 : lw_okq (⟨"BrideDoors", "bestPlan", "(III)I"⟩, 13) := ⟨⟨by decide +kernel, by decide +kernel⟩, List.mem_of_getElem? (i := 19) (by decide +kernel), List.mem_of_getElem? (i := 507) (by decide +kernel), List.mem_of_getElem? (i := 508) (by decide +kernel)⟩
theorem lw_p11 : lw_okq (⟨"BrideDoors", "fewestSpared", "()I"⟩, 13) := ⟨⟨by decide +kernel, by decide +kernel⟩, List.mem_of_getElem? (i := 19) (by decide +kernel), List.mem_of_getElem? (i := 526) (by decide +kernel), List.mem_of_getElem? (i := 527) (by decide +kernel)⟩
theorem lw_p12 : lw_okq (⟨"BrideDoors", "openWithout", "(I)I"⟩, 13) := ⟨⟨by decide +kernel, by decide +kernel⟩, List.mem_of_getElem? (i := 19) (by decide +kernel), List.mem_of_getElem? (i := 530) (by decide +kernel), List.mem_of_getElem? (i := 531) (by decide +kernel)⟩
theorem lw_p13 : lw_okq (⟨"BrideDoors", "comesOut", "(I)Z"⟩, 13) := ⟨⟨by decide +kernel, by decide +kernel⟩, List.mem_of_getElem? (i := 19) (by decide +kernel), List.mem_of_getElem? (i := 559) (by decide +kernel), List.mem_of_getElem? (i := 560) (by decide +kernel)⟩
theorem lw_p14 : lw_okq (⟨"BrideDoors", "agreesWithSeen", "(I)Z"⟩, 13) := ⟨⟨by decide +kernel, by decide +kernel⟩, List.mem_of_getElem? (i := 19) (by decide +kernel), List.mem_of_getElem? (i := 563) (by decide +kernel), List.mem_of_getElem? (i := 564) (by decide +kernel)⟩
theorem lw_p15 : lw_okq (⟨"BrideDoors", "fitting", "(IIII)I"⟩, 13) := ⟨⟨by decide +kernel, by decide +kernel⟩, List.mem_of_getElem? (i := 19) (by decide +kernel), List.mem_of_getElem? (i := 571) (by decide +kernel), List.mem_of_getElem? (i := 572) (by decide +kernel)⟩
def lw_privs_1 : List (MethodName × Nat) := [(⟨"BrideDoors", "textOf", "(I)LBrideDoors$Text;"⟩, 13), (⟨"BrideDoors", "sheetOf", "(I)LBrideDoors$Sheet;"⟩, 13), (⟨"BrideDoors", "finding", "(I)I"⟩, 13), (⟨"BrideDoors", "passTold", "(I)V"⟩, 13), (⟨"BrideDoors$World", "befall", "(II)V"⟩, 10), (⟨"BrideDoors$World", "sawAll", "(I)V"⟩, 10), (⟨"BrideDoors$World", "takeDown", "(II)V"⟩, 10), (⟨"BrideDoors$World", "arrive", "(II)V"⟩, 10), (⟨"BrideDoors$World", "broughtBy", "(I)I"⟩, 10), (⟨"BrideDoors$World", "widened", "(II)I"⟩, 10), (⟨"BrideDoors", "bestPlan", "(III)I"⟩, 13), (⟨"BrideDoors", "fewestSpared", "()I"⟩, 13), (⟨"BrideDoors", "openWithout", "(I)I"⟩, 13), (⟨"BrideDoors", "comesOut", "(I)Z"⟩, 13), (⟨"BrideDoors", "agreesWithSeen", "(I)Z"⟩, 13), (⟨"BrideDoors", "fitting", "(IIII)I"⟩, 13)]
theorem lw_r1 : ∀ q ∈ lw_privs_1, lw_okq q := List.forall_mem_cons.mpr ⟨lw_p0, List.forall_mem_cons.mpr ⟨lw_p1, List.forall_mem_cons.mpr ⟨lw_p2, List.forall_mem_cons.mpr ⟨lw_p3, List.forall_mem_cons.mpr ⟨lw_p4, List.forall_mem_cons.mpr ⟨lw_p5, List.forall_mem_cons.mpr ⟨lw_p6, List.forall_mem_cons.mpr ⟨lw_p7, List.forall_mem_cons.mpr ⟨lw_p8, List.forall_mem_cons.mpr ⟨lw_p9, List.forall_mem_cons.mpr ⟨lw_p10, List.forall_mem_cons.mpr ⟨lw_p11, List.forall_mem_cons.mpr ⟨lw_p12, List.forall_mem_cons.mpr ⟨lw_p13, List.forall_mem_cons.mpr ⟨lw_p14, List.forall_mem_cons.mpr ⟨lw_p15, fun _ h => absurd h List.not_mem_nil⟩⟩⟩⟩⟩⟩⟩⟩⟩⟩⟩⟩⟩⟩⟩⟩
theorem lw_p16 : lw_okq (⟨"BrideDoors", "tallyGaps", "(II)V"⟩, 13) := ⟨⟨by decide +kernel, by decide +kernel⟩, List.mem_of_getElem? (i := 19) (by decide +kernel), List.mem_of_getElem? (i := 579) (by decide +kernel), List.mem_of_getElem? (i := 580) (by decide +kernel)⟩
theorem lw_p17 : lw_okq (⟨"BrideDoors", "greatestTally", "(I)I"⟩, 13) := ⟨⟨by decide +kernel, by decide +kernel⟩, List.mem_of_getElem? (i := 19) (by decide +kernel), List.mem_of_getElem? (i := 583) (by decide +kernel), List.mem_of_getElem? (i := 584) (by decide +kernel)⟩
theorem lw_p18 : lw_okq (⟨"BrideDoors", "weightOf", "(II)J"⟩, 13) := ⟨⟨by decide +kernel, by decide +kernel⟩, List.mem_of_getElem? (i := 19) (by decide +kernel), List.mem_of_getElem? (i := 593) (by decide +kernel), List.mem_of_getElem? (i := 594) (by decide +kernel)⟩
theorem lw_p19 : lw_okq (⟨"BrideDoors", "drawEvents", "(II)V"⟩, 13) := ⟨⟨by decide +kernel, by decide +kernel⟩, List.mem_of_getElem? (i := 19) (by decide +kernel), List.mem_of_getElem? (i := 602) (by decide +kernel), List.mem_of_getElem? (i := 603) (by decide +kernel)⟩
theorem lw_p20 : lw_okq (⟨"BrideDoors$Sheet", "narrowed", "(I)I"⟩, 4) := ⟨⟨by decide +kernel, by decide +kernel⟩, List.mem_of_getElem? (i := 134) (by decide +kernel), List.mem_of_getElem? (i := 636) (by decide +kernel), List.mem_of_getElem? (i := 637) (by decide +kernel)⟩
theorem lw_p21 : lw_okq (⟨"BrideDoors", "mixHouse", "(JI)J"⟩, 13) := ⟨⟨by decide +kernel, by decide +kernel⟩, List.mem_of_getElem? (i := 19) (by decide +kernel), List.mem_of_getElem? (i := 677) (by decide +kernel), List.mem_of_getElem? (i := 678) (by decide +kernel)⟩
theorem lw_p22 : lw_okq (⟨"BrideDoors", "mixBride", "(JI)J"⟩, 13) := ⟨⟨by decide +kernel, by decide +kernel⟩, List.mem_of_getElem? (i := 19) (by decide +kernel), List.mem_of_getElem? (i := 688) (by decide +kernel), List.mem_of_getElem? (i := 689) (by decide +kernel)⟩
theorem lw_p23 : lw_okq (⟨"BrideDoorsModel", "finds", "(I)I"⟩, 30) := ⟨⟨by decide +kernel, by decide +kernel⟩, List.mem_of_getElem? (i := 706) (by decide +kernel), List.mem_of_getElem? (i := 815) (by decide +kernel), List.mem_of_getElem? (i := 816) (by decide +kernel)⟩
theorem lw_p24 : lw_okq (⟨"BrideDoorsModel", "lacks", "(III)I"⟩, 30) := ⟨⟨by decide +kernel, by decide +kernel⟩, List.mem_of_getElem? (i := 706) (by decide +kernel), List.mem_of_getElem? (i := 827) (by decide +kernel), List.mem_of_getElem? (i := 828) (by decide +kernel)⟩
theorem lw_p25 : lw_okq (⟨"BrideDoorsModel", "readsText", "(I)I"⟩, 30) := ⟨⟨by decide +kernel, by decide +kernel⟩, List.mem_of_getElem? (i := 706) (by decide +kernel), List.mem_of_getElem? (i := 863) (by decide +kernel), List.mem_of_getElem? (i := 864) (by decide +kernel)⟩
theorem lw_p26 : lw_okq (⟨"BrideDoorsModel", "readsHouses", "()I"⟩, 30) := ⟨⟨by decide +kernel, by decide +kernel⟩, List.mem_of_getElem? (i := 706) (by decide +kernel), List.mem_of_getElem? (i := 867) (by decide +kernel), List.mem_of_getElem? (i := 868) (by decide +kernel)⟩
theorem lw_p27 : lw_okq (⟨"BrideDoorsModel", "readsBrides", "()I"⟩, 30) := ⟨⟨by decide +kernel, by decide +kernel⟩, List.mem_of_getElem? (i := 706) (by decide +kernel), List.mem_of_getElem? (i := 879) (by decide +kernel), List.mem_of_getElem? (i := 880) (by decide +kernel)⟩
theorem lw_p28 : lw_okq (⟨"BrideDoorsModel", "isHouse", "(I)Z"⟩, 30) := ⟨⟨by decide +kernel, by decide +kernel⟩, List.mem_of_getElem? (i := 706) (by decide +kernel), List.mem_of_getElem? (i := 897) (by decide +kernel), List.mem_of_getElem? (i := 898) (by decide +kernel)⟩
theorem lw_p29 : lw_okq (⟨"BrideDoorsModel", "isBride", "(I)Z"⟩, 30) := ⟨⟨by decide +kernel, by decide +kernel⟩, List.mem_of_getElem? (i := 706) (by decide +kernel), List.mem_of_getElem? (i := 905) (by decide +kernel), List.mem_of_getElem? (i := 906) (by decide +kernel)⟩
theorem lw_p30 : lw_okq (⟨"BrideDoorsModel", "keeps", "(III)V"⟩, 30) := ⟨⟨by decide +kernel, by decide +kernel⟩, List.mem_of_getElem? (i := 706) (by decide +kernel), List.mem_of_getElem? (i := 918) (by decide +kernel), List.mem_of_getElem? (i := 919) (by decide +kernel)⟩
theorem lw_p31 : lw_okq (⟨"BrideDoorsModel", "find", "()V"⟩, 30) := ⟨⟨by decide +kernel, by decide +kernel⟩, List.mem_of_getElem? (i := 706) (by decide +kernel), List.mem_of_getElem? (i := 935) (by decide +kernel), List.mem_of_getElem? (i := 936) (by decide +kernel)⟩
def lw_privs_2 : List (MethodName × Nat) := [(⟨"BrideDoors", "tallyGaps", "(II)V"⟩, 13), (⟨"BrideDoors", "greatestTally", "(I)I"⟩, 13), (⟨"BrideDoors", "weightOf", "(II)J"⟩, 13), (⟨"BrideDoors", "drawEvents", "(II)V"⟩, 13), (⟨"BrideDoors$Sheet", "narrowed", "(I)I"⟩, 4), (⟨"BrideDoors", "mixHouse", "(JI)J"⟩, 13), (⟨"BrideDoors", "mixBride", "(JI)J"⟩, 13), (⟨"BrideDoorsModel", "finds", "(I)I"⟩, 30), (⟨"BrideDoorsModel", "lacks", "(III)I"⟩, 30), (⟨"BrideDoorsModel", "readsText", "(I)I"⟩, 30), (⟨"BrideDoorsModel", "readsHouses", "()I"⟩, 30), (⟨"BrideDoorsModel", "readsBrides", "()I"⟩, 30), (⟨"BrideDoorsModel", "isHouse", "(I)Z"⟩, 30), (⟨"BrideDoorsModel", "isBride", "(I)Z"⟩, 30), (⟨"BrideDoorsModel", "keeps", "(III)V"⟩, 30), (⟨"BrideDoorsModel", "find", "()V"⟩, 30)]
theorem lw_r2 : ∀ q ∈ lw_privs_2, lw_okq q := List.forall_mem_cons.mpr ⟨lw_p16, List.forall_mem_cons.mpr ⟨lw_p17, List.forall_mem_cons.mpr ⟨lw_p18, List.forall_mem_cons.mpr ⟨lw_p19, List.forall_mem_cons.mpr ⟨lw_p20, List.forall_mem_cons.mpr ⟨lw_p21, List.forall_mem_cons.mpr ⟨lw_p22, List.forall_mem_cons.mpr ⟨lw_p23, List.forall_mem_cons.mpr ⟨lw_p24, List.forall_mem_cons.mpr ⟨lw_p25, List.forall_mem_cons.mpr ⟨lw_p26, List.forall_mem_cons.mpr ⟨lw_p27, List.forall_mem_cons.mpr ⟨lw_p28, List.forall_mem_cons.mpr ⟨lw_p29, List.forall_mem_cons.mpr ⟨lw_p30, List.forall_mem_cons.mpr ⟨lw_p31, fun _ h => absurd h List.not_mem_nil⟩⟩⟩⟩⟩⟩⟩⟩⟩⟩⟩⟩⟩⟩⟩⟩
theorem lw_p32 : lw_okq (⟨"BrideDoorsModel", "lives", "()V"⟩, 30) := ⟨⟨by decide +kernel, by decide +kernel⟩, List.mem_of_getElem? (i := 706) (by decide +kernel), List.mem_of_getElem? (i := 939) (by decide +kernel), List.mem_of_getElem? (i := 940) (by decide +kernel)⟩
theorem lw_p33 : lw_okq (⟨"BrideDoorsModel", "passes", "(I)V"⟩, 30) := ⟨⟨by decide +kernel, by decide +kernel⟩, List.mem_of_getElem? (i := 706) (by decide +kernel), List.mem_of_getElem? (i := 943) (by decide +kernel), List.mem_of_getElem? (i := 944) (by decide +kernel)⟩
theorem lw_p34 : lw_okq (⟨"BrideDoorsModel", "happens", "(II)V"⟩, 30) := ⟨⟨by decide +kernel, by decide +kernel⟩, List.mem_of_getElem? (i := 706) (by decide +kernel), List.mem_of_getElem? (i := 950) (by decide +kernel), List.mem_of_getElem? (i := 951) (by decide +kernel)⟩
theorem lw_p35 : lw_okq (⟨"BrideDoorsModel", "hangsIn", "(II)Z"⟩, 30) := ⟨⟨by decide +kernel, by decide +kernel⟩, List.mem_of_getElem? (i := 706) (by decide +kernel), List.mem_of_getElem? (i := 954) (by decide +kernel), List.mem_of_getElem? (i := 955) (by decide +kernel)⟩
theorem lw_p36 : lw_okq (⟨"BrideDoorsModel", "saws", "(II)V"⟩, 30) := ⟨⟨by decide +kernel, by decide +kernel⟩, List.mem_of_getElem? (i := 706) (by decide +kernel), List.mem_of_getElem? (i := 961) (by decide +kernel), List.mem_of_getElem? (i := 962) (by decide +kernel)⟩
theorem lw_p37 : lw_okq (⟨"BrideDoorsModel", "highestIn", "(I)I"⟩, 30) := ⟨⟨by decide +kernel, by decide +kernel⟩, List.mem_of_getElem? (i := 706) (by decide +kernel), List.mem_of_getElem? (i := 965) (by decide +kernel), List.mem_of_getElem? (i := 966) (by decide +kernel)⟩
theorem lw_p38 : lw_okq (⟨"BrideDoorsModel", "lowestIn", "(I)I"⟩, 30) := ⟨⟨by decide +kernel, by decide +kernel⟩, List.mem_of_getElem? (i := 706) (by decide +kernel), List.mem_of_getElem? (i := 969) (by decide +kernel), List.mem_of_getElem? (i := 970) (by decide +kernel)⟩
theorem lw_p39 : lw_okq (⟨"BrideDoorsModel", "comes", "(I)V"⟩, 30) := ⟨⟨by decide +kernel, by decide +kernel⟩, List.mem_of_getElem? (i := 706) (by decide +kernel), List.mem_of_getElem? (i := 973) (by decide +kernel), List.mem_of_getElem? (i := 974) (by decide +kernel)⟩
theorem lw_p40 : lw_okq (⟨"BrideDoorsModel", "notes", "(I)V"⟩, 30) := ⟨⟨by decide +kernel, by decide +kernel⟩, List.mem_of_getElem? (i := 706) (by decide +kernel), List.mem_of_getElem? (i := 980) (by decide +kernel), List.mem_of_getElem? (i := 981) (by decide +kernel)⟩
theorem lw_p41 : lw_okq (⟨"BrideDoorsModel", "atBy", "(III)I"⟩, 30) := ⟨⟨by decide +kernel, by decide +kernel⟩, List.mem_of_getElem? (i := 706) (by decide +kernel), List.mem_of_getElem? (i := 985) (by decide +kernel), List.mem_of_getElem? (i := 986) (by decide +kernel)⟩
theorem lw_p42 : lw_okq (⟨"BrideDoorsModel", "gapOf", "(II)I"⟩, 30) := ⟨⟨by decide +kernel, by decide +kernel⟩, List.mem_of_getElem? (i := 706) (by decide +kernel), List.mem_of_getElem? (i := 989) (by decide +kernel), List.mem_of_getElem? (i := 990) (by decide +kernel)⟩
theorem lw_p43 : lw_okq (⟨"BrideDoorsModel", "doorBy", "(III)I"⟩, 30) := ⟨⟨by decide +kernel, by decide +kernel⟩, List.mem_of_getElem? (i := 706) (by decide +kernel), List.mem_of_getElem? (i := 997) (by decide +kernel), List.mem_of_getElem? (i := 998) (by decide +kernel)⟩
theorem lw_p44 : lw_okq (⟨"BrideDoorsModel", "draughtOf", "(I)I"⟩, 30) := ⟨⟨by decide +kernel, by decide +kernel⟩, List.mem_of_getElem? (i := 706) (by decide +kernel), List.mem_of_getElem? (i := 1005) (by decide +kernel), List.mem_of_getElem? (i := 1006) (by decide +kernel)⟩
theorem lw_p45 : lw_okq (⟨"BrideDoorsModel", "dogBy", "(I)I"⟩, 30) := ⟨⟨by decide +kernel, by decide +kernel⟩, List.mem_of_getElem? (i := 706) (by decide +kernel), List.mem_of_getElem? (i := 1013) (by decide +kernel), List.mem_of_getElem? (i := 1014) (by decide +kernel)⟩
theorem lw_p46 : lw_okq (⟨"BrideDoorsModel", "kinOf", "(I)I"⟩, 30) := ⟨⟨by decide +kernel, by decide +kernel⟩, List.mem_of_getElem? (i := 706) (by decide +kernel), List.mem_of_getElem? (i := 1021) (by decide +kernel), List.mem_of_getElem? (i := 1022) (by decide +kernel)⟩
theorem lw_p47 : lw_okq (⟨"BrideDoorsModel", "lowestNow", "()I"⟩, 30) := ⟨⟨by decide +kernel, by decide +kernel⟩, List.mem_of_getElem? (i := 706) (by decide +kernel), List.mem_of_getElem? (i := 1029) (by decide +kernel), List.mem_of_getElem? (i := 1030) (by decide +kernel)⟩
def lw_privs_3 : List (MethodName × Nat) := [(⟨"BrideDoorsModel", "lives", "()V"⟩, 30), (⟨"BrideDoorsModel", "passes", "(I)V"⟩, 30), (⟨"BrideDoorsModel", "happens", "(II)V"⟩, 30), (⟨"BrideDoorsModel", "hangsIn", "(II)Z"⟩, 30), (⟨"BrideDoorsModel", "saws", "(II)V"⟩, 30), (⟨"BrideDoorsModel", "highestIn", "(I)I"⟩, 30), (⟨"BrideDoorsModel", "lowestIn", "(I)I"⟩, 30), (⟨"BrideDoorsModel", "comes", "(I)V"⟩, 30), (⟨"BrideDoorsModel", "notes", "(I)V"⟩, 30), (⟨"BrideDoorsModel", "atBy", "(III)I"⟩, 30), (⟨"BrideDoorsModel", "gapOf", "(II)I"⟩, 30), (⟨"BrideDoorsModel", "doorBy", "(III)I"⟩, 30), (⟨"BrideDoorsModel", "draughtOf", "(I)I"⟩, 30), (⟨"BrideDoorsModel", "dogBy", "(I)I"⟩, 30), (⟨"BrideDoorsModel", "kinOf", "(I)I"⟩, 30), (⟨"BrideDoorsModel", "lowestNow", "()I"⟩, 30)]
theorem lw_r3 : ∀ q ∈ lw_privs_3, lw_okq q := List.forall_mem_cons.mpr ⟨lw_p32, List.forall_mem_cons.mpr ⟨lw_p33, List.forall_mem_cons.mpr ⟨lw_p34, List.forall_mem_cons.mpr ⟨lw_p35, List.forall_mem_cons.mpr ⟨lw_p36, List.forall_mem_cons.mpr ⟨lw_p37, List.forall_mem_cons.mpr ⟨lw_p38, List.forall_mem_cons.mpr ⟨lw_p39, List.forall_mem_cons.mpr ⟨lw_p40, List.forall_mem_cons.mpr ⟨lw_p41, List.forall_mem_cons.mpr ⟨lw_p42, List.forall_mem_cons.mpr ⟨lw_p43, List.forall_mem_cons.mpr ⟨lw_p44, List.forall_mem_cons.mpr ⟨lw_p45, List.forall_mem_cons.mpr ⟨lw_p46, List.forall_mem_cons.mpr ⟨lw_p47, fun _ h => absurd h List.not_mem_nil⟩⟩⟩⟩⟩⟩⟩⟩⟩⟩⟩⟩⟩⟩⟩⟩
theorem lw_p48 : lw_okq (⟨"BrideDoorsModel", "leftBy", "(I)I"⟩, 30) := ⟨⟨by decide +kernel, by decide +kernel⟩, List.mem_of_getElem? (i := 706) (by decide +kernel), List.mem_of_getElem? (i := 1037) (by decide +kernel), List.mem_of_getElem? (i := 1038) (by decide +kernel)⟩
theorem lw_p49 : lw_okq (⟨"BrideDoorsModel", "bestOf", "(IIIII)I"⟩, 30) := ⟨⟨by decide +kernel, by decide +kernel⟩, List.mem_of_getElem? (i := 706) (by decide +kernel), List.mem_of_getElem? (i := 1045) (by decide +kernel), List.mem_of_getElem? (i := 1046) (by decide +kernel)⟩
theorem lw_p50 : lw_okq (⟨"BrideDoorsModel", "spareBy", "(I)I"⟩, 30) := ⟨⟨by decide +kernel, by decide +kernel⟩, List.mem_of_getElem? (i := 706) (by decide +kernel), List.mem_of_getElem? (i := 1062) (by decide +kernel), List.mem_of_getElem? (i := 1063) (by decide +kernel)⟩
theorem lw_p51 : lw_okq (⟨"BrideDoorsModel", "isSpared", "(I)Z"⟩, 30) := ⟨⟨by decide +kernel, by decide +kernel⟩, List.mem_of_getElem? (i := 706) (by decide +kernel), List.mem_of_getElem? (i := 1066) (by decide +kernel), List.mem_of_getElem? (i := 1067) (by decide +kernel)⟩
theorem lw_p52 : lw_okq (⟨"BrideDoorsModel", "neverNow", "()I"⟩, 30) := ⟨⟨by decide +kernel, by decide +kernel⟩, List.mem_of_getElem? (i := 706) (by decide +kernel), List.mem_of_getElem? (i := 1083) (by decide +kernel), List.mem_of_getElem? (i := 1084) (by decide +kernel)⟩
theorem lw_p53 : lw_okq (⟨"BrideDoorsModel", "isSeen", "()Z"⟩, 30) := ⟨⟨by decide +kernel, by decide +kernel⟩, List.mem_of_getElem? (i := 706) (by decide +kernel), List.mem_of_getElem? (i := 1087) (by decide +kernel), List.mem_of_getElem? (i := 1088) (by decide +kernel)⟩
theorem lw_p54 : lw_okq (⟨"BrideDoorsModel", "wasOf", "(II)I"⟩, 30) := ⟨⟨by decide +kernel, by decide +kernel⟩, List.mem_of_getElem? (i := 706) (by decide +kernel), List.mem_of_getElem? (i := 1095) (by decide +kernel), List.mem_of_getElem? (i := 1096) (by decide +kernel)⟩
theorem lw_p55 : lw_okq (⟨"BrideDoorsModel", "openedOf", "(I)I"⟩, 30) := ⟨⟨by decide +kernel, by decide +kernel⟩, List.mem_of_getElem? (i := 706) (by decide +kernel), List.mem_of_getElem? (i := 1099) (by decide +kernel), List.mem_of_getElem? (i := 1100) (by decide +kernel)⟩
theorem lw_p56 : lw_okq (⟨"BrideDoorsModel", "sortOf", "(I)I"⟩, 30) := ⟨⟨by decide +kernel, by decide +kernel⟩, List.mem_of_getElem? (i := 706) (by decide +kernel), List.mem_of_getElem? (i := 1103) (by decide +kernel), List.mem_of_getElem? (i := 1104) (by decide +kernel)⟩
theorem lw_p57 : lw_okq (⟨"BrideDoorsModel", "askOf", "(I)I"⟩, 30) := ⟨⟨by decide +kernel, by decide +kernel⟩, List.mem_of_getElem? (i := 706) (by decide +kernel), List.mem_of_getElem? (i := 1111) (by decide +kernel), List.mem_of_getElem? (i := 1112) (by decide +kernel)⟩
theorem lw_p58 : lw_okq (⟨"BrideDoorsModel", "alike", "(II)I"⟩, 30) := ⟨⟨by decide +kernel, by decide +kernel⟩, List.mem_of_getElem? (i := 706) (by decide +kernel), List.mem_of_getElem? (i := 1115) (by decide +kernel), List.mem_of_getElem? (i := 1116) (by decide +kernel)⟩
theorem lw_p59 : lw_okq (⟨"BrideDoorsModel", "chanceOf", "(III)J"⟩, 30) := ⟨⟨by decide +kernel, by decide +kernel⟩, List.mem_of_getElem? (i := 706) (by decide +kernel), List.mem_of_getElem? (i := 1124) (by decide +kernel), List.mem_of_getElem? (i := 1125) (by decide +kernel)⟩
theorem lw_p60 : lw_okq (⟨"BrideDoorsModel", "agesOf", "(III)I"⟩, 30) := ⟨⟨by decide +kernel, by decide +kernel⟩, List.mem_of_getElem? (i := 706) (by decide +kernel), List.mem_of_getElem? (i := 1140) (by decide +kernel), List.mem_of_getElem? (i := 1141) (by decide +kernel)⟩
theorem lw_p61 : lw_okq (⟨"BrideDoorsModel", "lot", "(I)I"⟩, 30) := ⟨⟨by decide +kernel, by decide +kernel⟩, List.mem_of_getElem? (i := 706) (by decide +kernel), List.mem_of_getElem? (i := 1144) (by decide +kernel), List.mem_of_getElem? (i := 1145) (by decide +kernel)⟩
theorem lw_p62 : lw_okq (⟨"BrideDoorsModel", "burntNow", "()I"⟩, 30) := ⟨⟨by decide +kernel, by decide +kernel⟩, List.mem_of_getElem? (i := 706) (by decide +kernel), List.mem_of_getElem? (i := 1160) (by decide +kernel), List.mem_of_getElem? (i := 1161) (by decide +kernel)⟩
theorem lw_p63 : lw_okq (⟨"BrideDoorsModel", "tellsHouse", "(JI)J"⟩, 30) := ⟨⟨by decide +kernel, by decide +kernel⟩, List.mem_of_getElem? (i := 706) (by decide +kernel), List.mem_of_getElem? (i := 1171) (by decide +kernel), List.mem_of_getElem? (i := 1172) (by decide +kernel)⟩
def lw_privs_4 : List (MethodName × Nat) := [(⟨"BrideDoorsModel", "leftBy", "(I)I"⟩, 30), (⟨"BrideDoorsModel", "bestOf", "(IIIII)I"⟩, 30), (⟨"BrideDoorsModel", "spareBy", "(I)I"⟩, 30), (⟨"BrideDoorsModel", "isSpared", "(I)Z"⟩, 30), (⟨"BrideDoorsModel", "neverNow", "()I"⟩, 30), (⟨"BrideDoorsModel", "isSeen", "()Z"⟩, 30), (⟨"BrideDoorsModel", "wasOf", "(II)I"⟩, 30), (⟨"BrideDoorsModel", "openedOf", "(I)I"⟩, 30), (⟨"BrideDoorsModel", "sortOf", "(I)I"⟩, 30), (⟨"BrideDoorsModel", "askOf", "(I)I"⟩, 30), (⟨"BrideDoorsModel", "alike", "(II)I"⟩, 30), (⟨"BrideDoorsModel", "chanceOf", "(III)J"⟩, 30), (⟨"BrideDoorsModel", "agesOf", "(III)I"⟩, 30), (⟨"BrideDoorsModel", "lot", "(I)I"⟩, 30), (⟨"BrideDoorsModel", "burntNow", "()I"⟩, 30), (⟨"BrideDoorsModel", "tellsHouse", "(JI)J"⟩, 30)]
theorem lw_r4 : ∀ q ∈ lw_privs_4, lw_okq q := List.forall_mem_cons.mpr ⟨lw_p48, List.forall_mem_cons.mpr ⟨lw_p49, List.forall_mem_cons.mpr ⟨lw_p50, List.forall_mem_cons.mpr ⟨lw_p51, List.forall_mem_cons.mpr ⟨lw_p52, List.forall_mem_cons.mpr ⟨lw_p53, List.forall_mem_cons.mpr ⟨lw_p54, List.forall_mem_cons.mpr ⟨lw_p55, List.forall_mem_cons.mpr ⟨lw_p56, List.forall_mem_cons.mpr ⟨lw_p57, List.forall_mem_cons.mpr ⟨lw_p58, List.forall_mem_cons.mpr ⟨lw_p59, List.forall_mem_cons.mpr ⟨lw_p60, List.forall_mem_cons.mpr ⟨lw_p61, List.forall_mem_cons.mpr ⟨lw_p62, List.forall_mem_cons.mpr ⟨lw_p63, fun _ h => absurd h List.not_mem_nil⟩⟩⟩⟩⟩⟩⟩⟩⟩⟩⟩⟩⟩⟩⟩⟩
theorem lw_p64 : lw_okq (⟨"BrideDoorsModel", "tellsYear", "(JII)J"⟩, 30) := ⟨⟨by decide +kernel, by decide +kernel⟩, List.mem_of_getElem? (i := 706) (by decide +kernel), List.mem_of_getElem? (i := 1175) (by decide +kernel), List.mem_of_getElem? (i := 1176) (by decide +kernel)⟩
theorem lw_p65 : lw_okq (⟨"BrideDoorsModel", "tellsBride", "(JI)J"⟩, 30) := ⟨⟨by decide +kernel, by decide +kernel⟩, List.mem_of_getElem? (i := 706) (by decide +kernel), List.mem_of_getElem? (i := 1179) (by decide +kernel), List.mem_of_getElem? (i := 1180) (by decide +kernel)⟩
theorem lw_p66 : lw_okq (⟨"BrideDoorsModel", "tellsDoor", "(JII)J"⟩, 30) := ⟨⟨by decide +kernel, by decide +kernel⟩, List.mem_of_getElem? (i := 706) (by decide +kernel), List.mem_of_getElem? (i := 1183) (by decide +kernel), List.mem_of_getElem? (i := 1184) (by decide +kernel)⟩
def lw_privs_5 : List (MethodName × Nat) := [(⟨"BrideDoorsModel", "tellsYear", "(JII)J"⟩, 30), (⟨"BrideDoorsModel", "tellsBride", "(JI)J"⟩, 30), (⟨"BrideDoorsModel", "tellsDoor", "(JII)J"⟩, 30)]
theorem lw_r5 : ∀ q ∈ lw_privs_5, lw_okq q := List.forall_mem_cons.mpr ⟨lw_p64, List.forall_mem_cons.mpr ⟨lw_p65, List.forall_mem_cons.mpr ⟨lw_p66, fun _ h => absurd h List.not_mem_nil⟩⟩⟩
def lw_privs : List (MethodName × Nat) := lw_privs_1 ++ (lw_privs_2 ++ (lw_privs_3 ++ (lw_privs_4 ++ (lw_privs_5))))
def lw_tbl : List Cond := k2_sels lw_privs ++ tables_1
theorem lw_privs_ok : ∀ q ∈ lw_privs, lw_okq q := by
  show ∀ q ∈ lw_privs_1 ++ (lw_privs_2 ++ (lw_privs_3 ++ (lw_privs_4 ++ (lw_privs_5)))), lw_okq q
  exact List.forall_mem_append.mpr ⟨lw_r1, List.forall_mem_append.mpr ⟨lw_r2, List.forall_mem_append.mpr ⟨lw_r3, List.forall_mem_append.mpr ⟨lw_r4, lw_r5⟩⟩⟩⟩
end
section
abbrev MIns : Type := Nat × Nat × Int × List Nat
def B0_0 : List MIns := [(2, 0, 0, []), (2, 0, 0, []), (0, 0, 1, []), (9, 7, 0, []), (0, 4, 1431655765, [265, 608]), (9, 3, 0, []), (9, 1, 0, []), (5, 0, 0, []), (2, 0, 0, []), (0, 4, 858993459, [266, 609]), (9, 3, 0, []), (2, 0, 0, []), (0, 0, 2, []), (9, 7, 0, []), (0, 4, 858993459, [266, 609]), (9, 3, 0, []), (9, 0, 0, []), (5, 0, 0, []), (2, 0, 0, []), (2, 0, 0, []), (0, 0, 4, []), (9, 7, 0, []), (9, 0, 0, []), (0, 4, 252645135, [267, 610]), (9, 3, 0, []), (5, 0, 0, []), (2, 0, 0, []), (2, 0, 0, []), (0, 1, 8, []), (9, 7, 0, []), (9, 0, 0, []), (5, 0, 0, []), (2, 0, 0, []), (2, 0, 0, []), (0, 1, 16, []), (9, 7, 0, []), (9, 0, 0, []), (5, 0, 0, []), (2, 0, 0, []), (0, 1, 63, []), (9, 3, 0, []), (41, 0, 0, [])]
def P0 : List (List MIns) := [B0_0]
def B1_0 : List MIns := [(4, 0, 0, []), (47, 0, 0, [9, 1257]), (33, 0, 0, []), (4, 0, 0, []), (48, 4, 0, [335, 328]), (9, 6, 0, []), (41, 0, 0, [])]
def P1 : List (List MIns) := [B1_0]
def B2_0 : List MIns := [(4, 0, 0, []), (2, 1, 0, []), (0, 0, 0, []), (48, 3, 2, [633, 314]), (41, 0, 0, [])]
def P2 : List (List MIns) := [B2_0]
def B3_0 : List MIns := [(4, 0, 0, []), (48, 5, 0, [492, 318]), (20, 1, 0, []), (4, 0, 0, []), (47, 0, 0, [9, 1257]), (2, 1, 0, []), (2, 2, 0, []), (4, 0, 0, []), (48, 1, 0, [505, 324]), (36, 7, 4, [637, 332, 0]), (23, 2, 0, [])]
def B3_1 : List MIns := [(4, 0, 0, []), (47, 0, 0, [9, 1257]), (2, 1, 0, []), (2, 2, 0, []), (4, 0, 0, []), (48, 1, 0, [505, 324]), (49, 0, 0, []), (24, 2, 0, [])]
def B3_2 : List MIns := [(41, 0, 0, [])]
def P3 : List (List MIns) := [B3_0, B3_1, B3_2]
def B4_0 : List MIns := [(30, 2, 0, [38, 322]), (20, 1, 0, []), (4, 0, 0, []), (47, 1, 0, [15, 1256]), (23, 2, 0, [])]
def B4_1 : List MIns := [(0, 0, 1, []), (24, 2, 0, [])]
def B4_2 : List MIns := [(41, 1, 0, [])]
def P4 : List (List MIns) := [B4_0, B4_1, B4_2]
def B5_0 : List MIns := [(30, 2, 0, [38, 322]), (20, 1, 0, []), (4, 0, 0, []), (47, 1, 0, [15, 1256]), (20, 1, 1, []), (0, 0, 1, []), (23, 2, 0, [])]
def B5_1 : List MIns := [(0, 0, 0, []), (24, 2, 0, [])]
def B5_2 : List MIns := [(41, 1, 0, [])]
def P5 : List (List MIns) := [B5_0, B5_1, B5_2]
def B6_0 : List MIns := [(2, 0, 0, []), (20, 1, 2, []), (2, 0, 0, []), (0, 2, 255, []), (21, 1, 4, []), (0, 0, 1, []), (23, 2, 0, [])]
def B6_1 : List MIns := [(0, 0, 0, []), (24, 2, 0, [])]
def B6_2 : List MIns := [(41, 1, 0, [])]
def P6 : List (List MIns) := [B6_0, B6_1, B6_2]
def B7_0 : List MIns := [(2, 1, 0, []), (36, 6, 1, [88, 335, 0]), (20, 1, 1, []), (0, 0, (-1), []), (41, 0, 0, [])]
def B7_1 : List MIns := [(2, 2, 0, []), (0, 0, 0, []), (50, 0, 0, [92, 338]), (5, 2, 0, []), (2, 3, 0, []), (4, 0, 0, []), (33, 0, 0, []), (51, 0, 0, [38, 341]), (5, 3, 0, []), (2, 2, 0, []), (2, 3, 0, []), (21, 2, 2, []), (0, 0, (-1), []), (41, 0, 0, [])]
def B7_2 : List MIns := [(4, 0, 0, []), (2, 1, 0, []), (2, 2, 0, []), (2, 3, 0, []), (36, 8, 4, [95, 344, 0]), (41, 0, 0, [])]
def P7 : List (List MIns) := [B7_0, B7_1, B7_2]
def B8_0 : List MIns := [(2, 1, 0, []), (14, 0, 0, []), (5, 4, 0, []), (2, 2, 0, []), (5, 5, 0, []), (24, 1, 0, [])]
def B8_1 : List MIns := [(2, 5, 0, []), (2, 3, 0, []), (21, 3, 3, []), (4, 0, 0, []), (2, 5, 0, []), (35, 0, 0, []), (2, 4, 0, []), (21, 2, 1, []), (2, 5, 0, []), (41, 0, 0, [])]
def B8_2 : List MIns := [(8, 5, 1, []), (23, 1, 0, [])]
def B8_3 : List MIns := [(0, 0, (-1), []), (41, 0, 0, [])]
def P8 : List (List MIns) := [B8_0, B8_1, B8_2, B8_3]
def B9_0 : List MIns := [(0, 0, 0, []), (5, 2, 0, []), (4, 0, 0, []), (33, 0, 0, []), (5, 3, 0, []), (24, 1, 0, [])]
def B9_1 : List MIns := [(2, 2, 0, []), (2, 3, 0, []), (21, 2, 3, []), (4, 0, 0, []), (2, 2, 0, []), (2, 1, 0, []), (32, 0, 0, []), (8, 2, 1, []), (23, 1, 0, [])]
def B9_2 : List MIns := [(44, 0, 0, [])]
def P9 : List (List MIns) := [B9_0, B9_1, B9_2]
def B10_0 : List MIns := [(2, 1, 0, []), (25, 4, 0, [1, 2, 3])]
def B10_1 : List MIns := [(2, 2, 0, []), (0, 1, 48, []), (0, 1, 6, []), (36, 94, 3, [9, 301, 1]), (41, 0, 0, [])]
def B10_2 : List MIns := [(2, 2, 0, []), (0, 1, 97, []), (0, 1, 24, []), (36, 94, 3, [9, 301, 1]), (41, 0, 0, [])]
def B10_3 : List MIns := [(2, 2, 0, []), (0, 1, 48, []), (0, 1, 9, []), (36, 94, 3, [9, 301, 1]), (41, 0, 0, [])]
def B10_4 : List MIns := [(2, 2, 0, []), (36, 95, 1, [13, 302, 1]), (41, 0, 0, [])]
def P10 : List (List MIns) := [B10_0, B10_1, B10_2, B10_3, B10_4]
def B11_0 : List MIns := [(2, 1, 0, []), (20, 1, 1, []), (46, 0, 0, [9]), (2, 2, 0, []), (14, 2, 0, []), (48, 2, 1, [11, 310]), (23, 2, 0, [])]
def B11_1 : List MIns := [(2, 2, 0, []), (36, 95, 1, [17, 396, 1]), (24, 2, 0, [])]
def B11_2 : List MIns := [(41, 0, 0, [])]
def P11 : List (List MIns) := [B11_0, B11_1, B11_2]
def B12_0 : List MIns := [(4, 0, 0, []), (28, 0, 0, [9, 6, 2, 208]), (0, 0, 0, []), (36, 9, 2, [26, 686, 0]), (4, 0, 0, []), (2, 1, 0, []), (29, 0, 2, [19, 6, 0, 212]), (4, 0, 0, []), (2, 2, 0, []), (29, 0, 3, [23, 6, 0, 214]), (4, 0, 0, []), (0, 0, 0, []), (29, 0, 1, [15, 6, 1, 210]), (44, 0, 0, [])]
def P12 : List (List MIns) := [B12_0]
def B13_0 : List MIns := [(4, 0, 0, []), (27, 0, 1, [15, 6, 0, 210]), (20, 1, 0, []), (0, 0, 1, []), (41, 0, 0, [])]
def B13_1 : List MIns := [(2, 1, 0, []), (4, 0, 0, []), (27, 0, 2, [19, 6, 0, 212]), (21, 2, 0, []), (0, 0, 3, []), (41, 0, 0, [])]
def B13_2 : List MIns := [(2, 2, 0, []), (4, 0, 0, []), (27, 0, 3, [23, 6, 0, 214]), (36, 92, 2, [32, 699, 1]), (20, 3, 0, []), (0, 0, 0, []), (23, 4, 0, [])]
def B13_3 : List MIns := [(0, 0, 2, []), (24, 4, 0, [])]
def B13_4 : List MIns := [(41, 0, 0, [])]
def P13 : List (List MIns) := [B13_0, B13_1, B13_2, B13_3, B13_4]
def B14_0 : List MIns := [(2, 1, 0, []), (20, 1, 2, []), (2, 2, 0, []), (20, 1, 2, []), (2, 1, 0, []), (4, 0, 0, []), (27, 0, 3, [23, 6, 0, 214]), (21, 1, 4, []), (2, 2, 0, []), (4, 0, 0, []), (27, 0, 3, [23, 6, 0, 214]), (2, 1, 0, []), (9, 1, 0, []), (21, 1, 4, []), (0, 0, 1, []), (23, 2, 0, [])]
def B14_1 : List MIns := [(0, 0, 0, []), (24, 2, 0, [])]
def B14_2 : List MIns := [(41, 1, 0, [])]
def P14 : List (List MIns) := [B14_0, B14_1, B14_2]
def B15_0 : List MIns := [(2, 1, 0, []), (4, 0, 0, []), (27, 0, 3, [23, 6, 0, 214]), (36, 92, 2, [32, 699, 1]), (20, 1, 0, []), (4, 0, 0, []), (28, 0, 0, [9, 6, 2, 208]), (2, 1, 0, []), (4, 0, 0, []), (2, 2, 0, []), (37, 16, 1, [36, 704, 6]), (32, 0, 0, []), (24, 1, 0, [])]
def B15_1 : List MIns := [(44, 0, 0, [])]
def P15 : List (List MIns) := [B15_0, B15_1]
def B16_0 : List MIns := [(4, 0, 0, []), (27, 0, 2, [19, 6, 0, 212]), (26, 3, 0, [0, 1, 1, 2])]
def B16_1 : List MIns := [(2, 1, 0, []), (14, 0, 0, []), (41, 0, 0, [])]
def B16_2 : List MIns := [(2, 1, 0, []), (14, 1, 0, []), (41, 0, 0, [])]
def B16_3 : List MIns := [(2, 1, 0, []), (41, 0, 0, [])]
def P16 : List (List MIns) := [B16_0, B16_1, B16_2, B16_3]
def B17_0 : List MIns := [(4, 0, 0, []), (27, 0, 3, [7, 7, 0, 111]), (4, 0, 0, []), (28, 0, 2, [21, 7, 0, 109]), (21, 1, 2, []), (0, 0, 1, []), (23, 2, 0, [])]
def B17_1 : List MIns := [(0, 0, 0, []), (24, 2, 0, [])]
def B17_2 : List MIns := [(41, 1, 0, [])]
def P17 : List (List MIns) := [B17_0, B17_1, B17_2]
def B18_0 : List MIns := [(2, 1, 0, []), (20, 1, 2, []), (2, 1, 0, []), (4, 0, 0, []), (27, 0, 3, [7, 7, 0, 111]), (21, 1, 3, []), (0, 0, 1, []), (23, 2, 0, [])]
def B18_1 : List MIns := [(0, 0, 0, []), (24, 2, 0, [])]
def B18_2 : List MIns := [(41, 1, 0, [])]
def P18 : List (List MIns) := [B18_0, B18_1, B18_2]
def B19_0 : List MIns := [(2, 1, 0, []), (4, 0, 0, []), (28, 0, 1, [18, 7, 0, 107]), (36, 92, 2, [24, 426, 1]), (20, 1, 0, []), (2, 2, 0, []), (4, 0, 0, []), (27, 0, 3, [7, 7, 0, 111]), (36, 92, 2, [24, 426, 1]), (20, 1, 0, []), (0, 0, 1, []), (23, 2, 0, [])]
def B19_1 : List MIns := [(0, 0, 0, []), (24, 2, 0, [])]
def B19_2 : List MIns := [(41, 1, 0, [])]
def P19 : List (List MIns) := [B19_0, B19_1, B19_2]
def B20_0 : List MIns := [(4, 0, 0, []), (28, 0, 1, [18, 7, 0, 107]), (0, 0, 3, []), (21, 1, 1, []), (4, 0, 0, []), (27, 0, 3, [7, 7, 0, 111]), (4, 0, 0, []), (28, 0, 2, [21, 7, 0, 109]), (21, 1, 3, []), (4, 0, 0, []), (28, 0, 0, [15, 7, 3, 103]), (0, 0, 0, []), (34, 0, 0, []), (4, 0, 0, []), (27, 0, 3, [7, 7, 0, 111]), (2, 1, 0, []), (32, 0, 0, []), (4, 0, 0, []), (28, 0, 0, [15, 7, 3, 103]), (0, 0, 1, []), (34, 0, 0, []), (4, 0, 0, []), (27, 0, 3, [7, 7, 0, 111]), (2, 2, 0, []), (32, 0, 0, []), (4, 0, 0, []), (28, 0, 0, [15, 7, 3, 103]), (0, 0, 2, []), (34, 0, 0, []), (4, 0, 0, []), (27, 0, 3, [7, 7, 0, 111]), (2, 3, 0, []), (32, 0, 0, []), (4, 0, 0, []), (17, 0, 0, []), (27, 0, 3, [7, 7, 0, 111]), (0, 0, 1, []), (9, 0, 0, []), (29, 0, 3, [7, 7, 0, 111]), (24, 1, 0, [])]
def B20_1 : List MIns := [(44, 0, 0, [])]
def P20 : List (List MIns) := [B20_0, B20_1]
def B21_0 : List MIns := [(4, 0, 0, []), (27, 0, 2, [9, 5, 0, 136]), (4, 0, 0, []), (28, 0, 0, [18, 5, 2, 134]), (33, 0, 0, []), (21, 1, 2, []), (0, 0, 1, []), (23, 2, 0, [])]
def B21_1 : List MIns := [(0, 0, 0, []), (24, 2, 0, [])]
def B21_2 : List MIns := [(41, 1, 0, [])]
def P21 : List (List MIns) := [B21_0, B21_1, B21_2]
def B22_0 : List MIns := [(4, 0, 0, []), (27, 0, 2, [9, 5, 0, 136]), (4, 0, 0, []), (28, 0, 0, [18, 5, 2, 134]), (33, 0, 0, []), (21, 1, 3, []), (4, 0, 0, []), (28, 0, 0, [18, 5, 2, 134]), (4, 0, 0, []), (27, 0, 2, [9, 5, 0, 136]), (2, 1, 0, []), (32, 0, 0, []), (4, 0, 0, []), (17, 0, 0, []), (27, 0, 2, [9, 5, 0, 136]), (0, 0, 1, []), (9, 0, 0, []), (29, 0, 2, [9, 5, 0, 136]), (4, 0, 0, []), (38, 24, 0, [26, 288]), (24, 1, 0, [])]
def B22_1 : List MIns := [(44, 0, 0, [])]
def P22 : List (List MIns) := [B22_0, B22_1]
def B23_0 : List MIns := [(4, 0, 0, []), (0, 0, 0, []), (2, 1, 0, []), (4, 0, 0, []), (27, 0, 2, [9, 5, 0, 136]), (51, 0, 0, [29, 408]), (50, 0, 0, [35, 409]), (29, 0, 2, [9, 5, 0, 136]), (4, 0, 0, []), (38, 24, 0, [26, 288]), (44, 0, 0, [])]
def P23 : List (List MIns) := [B23_0]
def B24_0 : List MIns := [(4, 0, 0, []), (28, 0, 1, [22, 5, 7, 135]), (0, 0, 0, []), (29, 0, 3, [38, 7, 0, 113]), (0, 0, 0, []), (5, 1, 0, []), (0, 0, 0, []), (5, 2, 0, []), (0, 0, 0, []), (5, 3, 0, []), (24, 1, 0, [])]
def B24_1 : List MIns := [(2, 3, 0, []), (4, 0, 0, []), (27, 0, 2, [9, 5, 0, 136]), (21, 10, 3, []), (2, 2, 0, []), (4, 0, 0, []), (28, 0, 1, [22, 5, 7, 135]), (28, 0, 1, [43, 7, 0, 108]), (21, 2, 1, []), (0, 0, 1, []), (23, 3, 0, [])]
def B24_2 : List MIns := [(0, 0, 0, []), (24, 3, 0, [])]
def B24_3 : List MIns := [(5, 4, 0, []), (2, 4, 0, []), (20, 4, 0, []), (4, 0, 0, []), (28, 0, 0, [18, 5, 2, 134]), (2, 3, 0, []), (31, 0, 0, []), (0, 1, 59, []), (0, 0, 1, []), (36, 94, 3, [46, 292, 1]), (23, 5, 0, [])]
def B24_4 : List MIns := [(4, 0, 0, []), (2, 2, 0, []), (4, 0, 0, []), (28, 0, 0, [18, 5, 2, 134]), (2, 3, 0, []), (31, 0, 0, []), (39, 0, 2, [50, 295, 11, 10]), (24, 5, 0, [])]
def B24_5 : List MIns := [(5, 5, 0, []), (2, 5, 0, []), (0, 0, (-1), []), (21, 6, 0, []), (2, 1, 0, []), (4, 0, 0, []), (28, 0, 1, [22, 5, 7, 135]), (28, 0, 2, [53, 7, 0, 110]), (21, 7, 2, []), (24, 6, 0, [])]
def B24_6 : List MIns := [(4, 0, 0, []), (2, 3, 0, []), (29, 0, 3, [15, 5, 0, 138]), (44, 0, 0, [])]
def B24_7 : List MIns := [(2, 4, 0, []), (20, 8, 0, []), (8, 1, 1, []), (0, 0, 0, []), (5, 2, 0, []), (23, 9, 0, [])]
def B24_8 : List MIns := [(4, 0, 0, []), (28, 0, 1, [22, 5, 7, 135]), (28, 0, 0, [56, 7, 3, 106]), (2, 2, 0, []), (34, 0, 0, []), (2, 1, 0, []), (2, 5, 0, []), (32, 0, 0, []), (8, 2, 1, []), (24, 9, 0, [])]
def B24_9 : List MIns := [(8, 3, 1, []), (23, 1, 0, [])]
def B24_10 : List MIns := [(4, 0, 0, []), (27, 0, 2, [9, 5, 0, 136]), (20, 11, 0, []), (2, 2, 0, []), (4, 0, 0, []), (28, 0, 1, [22, 5, 7, 135]), (28, 0, 1, [43, 7, 0, 108]), (21, 12, 1, []), (24, 11, 0, [])]
def B24_11 : List MIns := [(0, 0, 1, []), (23, 13, 0, [])]
def B24_12 : List MIns := [(0, 0, 0, []), (24, 13, 0, [])]
def B24_13 : List MIns := [(5, 3, 0, []), (4, 0, 0, []), (2, 3, 0, []), (20, 14, 0, []), (0, 0, (-1), []), (23, 15, 0, [])]
def B24_14 : List MIns := [(4, 0, 0, []), (27, 0, 2, [9, 5, 0, 136]), (24, 15, 0, [])]
def B24_15 : List MIns := [(29, 0, 3, [15, 5, 0, 138]), (4, 0, 0, []), (28, 0, 1, [22, 5, 7, 135]), (2, 3, 0, []), (20, 16, 0, []), (4, 0, 0, []), (27, 0, 2, [9, 5, 0, 136]), (20, 16, 5, []), (2, 1, 0, []), (0, 0, 1, []), (9, 0, 0, []), (23, 17, 0, [])]
def B24_16 : List MIns := [(0, 0, 0, []), (24, 17, 0, [])]
def B24_17 : List MIns := [(29, 0, 3, [38, 7, 0, 113]), (44, 0, 0, [])]
def P24 : List (List MIns) := [B24_0, B24_1, B24_2, B24_3, B24_4, B24_5, B24_6, B24_7, B24_8, B24_9, B24_10, B24_11, B24_12, B24_13, B24_14, B24_15, B24_16, B24_17]
def B25_0 : List MIns := [(4, 0, 0, []), (4, 1, 0, []), (29, 0, 2, [41, 8, 7, 168]), (4, 0, 0, []), (2, 2, 0, []), (29, 0, 3, [9, 8, 0, 169]), (4, 0, 0, []), (0, 0, 0, []), (29, 0, 4, [15, 8, 0, 170]), (0, 0, 0, []), (5, 3, 0, []), (24, 1, 0, [])]
def B25_1 : List MIns := [(2, 3, 0, []), (4, 0, 0, []), (28, 0, 0, [34, 8, 7, 166]), (27, 0, 3, [44, 7, 0, 112]), (21, 2, 3, []), (4, 0, 0, []), (28, 0, 5, [18, 8, 2, 171]), (2, 3, 0, []), (4, 0, 0, []), (28, 0, 0, [34, 8, 7, 166]), (28, 0, 0, [49, 7, 3, 104]), (0, 0, 1, []), (34, 0, 0, []), (2, 3, 0, []), (31, 0, 0, []), (32, 0, 0, []), (8, 3, 1, []), (23, 1, 0, [])]
def B25_2 : List MIns := [(0, 0, 0, []), (5, 3, 0, []), (24, 3, 0, [])]
def B25_3 : List MIns := [(2, 3, 0, []), (4, 0, 0, []), (28, 0, 1, [38, 8, 7, 167]), (27, 0, 3, [44, 7, 0, 112]), (21, 4, 3, []), (4, 0, 0, []), (17, 0, 0, []), (27, 0, 4, [15, 8, 0, 170]), (0, 0, 1, []), (4, 0, 0, []), (28, 0, 1, [38, 8, 7, 167]), (28, 0, 0, [49, 7, 3, 104]), (0, 0, 1, []), (34, 0, 0, []), (2, 3, 0, []), (31, 0, 0, []), (9, 5, 0, []), (9, 4, 0, []), (29, 0, 4, [15, 8, 0, 170]), (4, 0, 0, []), (28, 0, 6, [22, 8, 2, 173]), (2, 3, 0, []), (0, 0, 0, []), (32, 0, 0, []), (4, 0, 0, []), (28, 0, 7, [25, 8, 2, 175]), (2, 3, 0, []), (0, 0, 0, []), (32, 0, 0, []), (4, 0, 0, []), (28, 0, 8, [28, 8, 2, 177]), (2, 3, 0, []), (0, 0, 0, []), (32, 0, 0, []), (4, 0, 0, []), (28, 0, 9, [31, 8, 2, 179]), (2, 3, 0, []), (0, 0, (-1), []), (32, 0, 0, []), (8, 3, 1, []), (23, 3, 0, [])]
def B25_4 : List MIns := [(0, 0, 0, []), (5, 3, 0, []), (24, 5, 0, [])]
def B25_5 : List MIns := [(2, 3, 0, []), (4, 1, 0, []), (27, 0, 3, [44, 7, 0, 112]), (21, 6, 3, []), (4, 0, 0, []), (17, 0, 0, []), (27, 0, 4, [15, 8, 0, 170]), (0, 0, 1, []), (4, 1, 0, []), (28, 0, 0, [49, 7, 3, 104]), (0, 0, 1, []), (34, 0, 0, []), (2, 3, 0, []), (31, 0, 0, []), (9, 5, 0, []), (9, 4, 0, []), (29, 0, 4, [15, 8, 0, 170]), (8, 3, 1, []), (23, 5, 0, [])]
def B25_6 : List MIns := [(44, 0, 0, [])]
def P25 : List (List MIns) := [B25_0, B25_1, B25_2, B25_3, B25_4, B25_5, B25_6]
def B26_0 : List MIns := [(2, 1, 0, []), (5, 3, 0, []), (24, 1, 0, [])]
def B26_1 : List MIns := [(2, 3, 0, []), (2, 2, 0, []), (21, 9, 4, []), (4, 0, 0, []), (27, 0, 4, [15, 8, 0, 170]), (2, 3, 0, []), (36, 93, 2, [53, 482, 1]), (20, 2, 1, []), (23, 8, 0, [])]
def B26_2 : List MIns := [(0, 0, 0, []), (5, 4, 0, []), (24, 3, 0, [])]
def B26_3 : List MIns := [(2, 4, 0, []), (4, 0, 0, []), (27, 0, 2, [41, 8, 7, 168]), (27, 0, 3, [44, 7, 0, 112]), (21, 5, 3, []), (4, 0, 0, []), (27, 0, 2, [41, 8, 7, 168]), (28, 0, 0, [49, 7, 3, 104]), (0, 0, 1, []), (34, 0, 0, []), (2, 4, 0, []), (31, 0, 0, []), (2, 3, 0, []), (21, 4, 1, []), (4, 0, 0, []), (27, 0, 3, [9, 8, 0, 169]), (2, 4, 0, []), (36, 93, 2, [53, 482, 1]), (20, 4, 1, []), (4, 0, 0, []), (4, 0, 0, []), (27, 0, 2, [41, 8, 7, 168]), (28, 0, 0, [49, 7, 3, 104]), (0, 0, 0, []), (34, 0, 0, []), (2, 4, 0, []), (31, 0, 0, []), (4, 0, 0, []), (27, 0, 2, [41, 8, 7, 168]), (28, 0, 0, [49, 7, 3, 104]), (0, 0, 2, []), (34, 0, 0, []), (2, 4, 0, []), (31, 0, 0, []), (37, 27, 2, [57, 485, 8]), (24, 4, 0, [])]
def B26_4 : List MIns := [(8, 4, 1, []), (23, 3, 0, [])]
def B26_5 : List MIns := [(0, 0, 0, []), (5, 4, 0, []), (24, 6, 0, [])]
def B26_6 : List MIns := [(2, 4, 0, []), (4, 0, 0, []), (28, 0, 1, [38, 8, 7, 167]), (27, 0, 3, [44, 7, 0, 112]), (21, 8, 3, []), (4, 0, 0, []), (28, 0, 1, [38, 8, 7, 167]), (28, 0, 0, [49, 7, 3, 104]), (0, 0, 1, []), (34, 0, 0, []), (2, 4, 0, []), (31, 0, 0, []), (2, 3, 0, []), (21, 7, 1, []), (4, 0, 0, []), (28, 0, 0, [34, 8, 7, 166]), (4, 0, 0, []), (28, 0, 1, [38, 8, 7, 167]), (28, 0, 0, [49, 7, 3, 104]), (0, 0, 0, []), (34, 0, 0, []), (2, 4, 0, []), (31, 0, 0, []), (37, 18, 1, [61, 505, 7]), (20, 7, 0, []), (4, 0, 0, []), (2, 4, 0, []), (4, 0, 0, []), (28, 0, 1, [38, 8, 7, 167]), (28, 0, 0, [49, 7, 3, 104]), (0, 0, 0, []), (34, 0, 0, []), (2, 4, 0, []), (31, 0, 0, []), (37, 30, 2, [65, 506, 8]), (24, 7, 0, [])]
def B26_7 : List MIns := [(8, 4, 1, []), (23, 6, 0, [])]
def B26_8 : List MIns := [(8, 3, 1, []), (23, 1, 0, [])]
def B26_9 : List MIns := [(44, 0, 0, [])]
def P26 : List (List MIns) := [B26_0, B26_1, B26_2, B26_3, B26_4, B26_5, B26_6, B26_7, B26_8, B26_9]
def B27_0 : List MIns := [(2, 1, 0, []), (0, 0, 1, []), (21, 1, 1, []), (4, 0, 0, []), (2, 2, 0, []), (37, 28, 1, [68, 489, 8]), (23, 3, 0, [])]
def B27_1 : List MIns := [(2, 1, 0, []), (20, 2, 1, []), (4, 0, 0, []), (4, 0, 0, []), (2, 2, 0, []), (37, 33, 1, [72, 493, 8]), (0, 0, 2, []), (37, 29, 2, [76, 497, 8]), (23, 3, 0, [])]
def B27_2 : List MIns := [(4, 0, 0, []), (4, 0, 0, []), (2, 2, 0, []), (37, 34, 1, [79, 501, 8]), (0, 0, 3, []), (37, 29, 2, [76, 497, 8]), (24, 3, 0, [])]
def B27_3 : List MIns := [(44, 0, 0, [])]
def P27 : List (List MIns) := [B27_0, B27_1, B27_2, B27_3]
def B28_0 : List MIns := [(0, 0, 0, []), (5, 2, 0, []), (24, 1, 0, [])]
def B28_1 : List MIns := [(2, 2, 0, []), (4, 0, 0, []), (28, 0, 1, [38, 8, 7, 167]), (27, 0, 3, [44, 7, 0, 112]), (21, 3, 3, []), (4, 0, 0, []), (28, 0, 9, [31, 8, 2, 179]), (2, 2, 0, []), (31, 0, 0, []), (2, 1, 0, []), (21, 2, 1, []), (4, 0, 0, []), (28, 0, 7, [25, 8, 2, 175]), (2, 2, 0, []), (31, 0, 0, []), (0, 0, 1, []), (21, 2, 5, []), (4, 0, 0, []), (28, 0, 7, [25, 8, 2, 175]), (2, 2, 0, []), (19, 0, 0, []), (31, 0, 0, []), (0, 0, 1, []), (9, 1, 0, []), (32, 0, 0, []), (4, 0, 0, []), (28, 0, 8, [28, 8, 2, 177]), (2, 2, 0, []), (19, 0, 0, []), (31, 0, 0, []), (0, 0, 1, []), (9, 0, 0, []), (32, 0, 0, []), (24, 2, 0, [])]
def B28_2 : List MIns := [(8, 2, 1, []), (23, 1, 0, [])]
def B28_3 : List MIns := [(44, 0, 0, [])]
def P28 : List (List MIns) := [B28_0, B28_1, B28_2, B28_3]
def B29_0 : List MIns := [(2, 1, 0, []), (20, 1, 2, []), (2, 1, 0, []), (4, 0, 0, []), (28, 0, 1, [38, 8, 7, 167]), (27, 0, 3, [44, 7, 0, 112]), (21, 1, 3, []), (4, 0, 0, []), (28, 0, 6, [22, 8, 2, 173]), (2, 1, 0, []), (2, 2, 0, []), (32, 0, 0, []), (4, 0, 0, []), (28, 0, 9, [31, 8, 2, 179]), (2, 1, 0, []), (0, 0, (-1), []), (32, 0, 0, []), (24, 1, 0, [])]
def B29_1 : List MIns := [(44, 0, 0, [])]
def P29 : List (List MIns) := [B29_0, B29_1]
def B30_0 : List MIns := [(4, 0, 0, []), (2, 1, 0, []), (37, 31, 1, [82, 510, 8]), (5, 3, 0, []), (2, 3, 0, []), (0, 0, (-1), []), (21, 1, 1, []), (4, 0, 0, []), (28, 0, 6, [22, 8, 2, 173]), (2, 1, 0, []), (0, 0, 4, []), (32, 0, 0, []), (44, 0, 0, [])]
def B30_1 : List MIns := [(2, 3, 0, []), (4, 0, 0, []), (28, 0, 5, [18, 8, 2, 171]), (2, 2, 0, []), (31, 0, 0, []), (21, 2, 5, []), (4, 0, 0, []), (28, 0, 5, [18, 8, 2, 171]), (2, 2, 0, []), (4, 0, 0, []), (2, 2, 0, []), (2, 3, 0, []), (37, 32, 2, [85, 514, 8]), (32, 0, 0, []), (24, 2, 0, [])]
def B30_2 : List MIns := [(4, 0, 0, []), (28, 0, 7, [25, 8, 2, 175]), (2, 1, 0, []), (2, 3, 0, []), (4, 0, 0, []), (28, 0, 5, [18, 8, 2, 171]), (2, 2, 0, []), (31, 0, 0, []), (51, 0, 0, [89, 518]), (32, 0, 0, []), (4, 0, 0, []), (28, 0, 8, [28, 8, 2, 177]), (2, 1, 0, []), (2, 3, 0, []), (4, 0, 0, []), (28, 0, 7, [25, 8, 2, 175]), (2, 1, 0, []), (31, 0, 0, []), (9, 1, 0, []), (32, 0, 0, []), (4, 0, 0, []), (28, 0, 6, [22, 8, 2, 173]), (2, 1, 0, []), (0, 0, 1, []), (32, 0, 0, []), (4, 0, 0, []), (28, 0, 9, [31, 8, 2, 179]), (2, 1, 0, []), (2, 2, 0, []), (32, 0, 0, []), (44, 0, 0, [])]
def P30 : List (List MIns) := [B30_0, B30_1, B30_2]
def B31_0 : List MIns := [(4, 0, 0, []), (28, 0, 1, [38, 8, 7, 167]), (28, 0, 0, [49, 7, 3, 104]), (0, 0, 2, []), (34, 0, 0, []), (2, 1, 0, []), (31, 0, 0, []), (5, 2, 0, []), (2, 2, 0, []), (0, 1, 8, []), (21, 1, 1, []), (4, 0, 0, []), (28, 0, 1, [38, 8, 7, 167]), (28, 0, 0, [49, 7, 3, 104]), (0, 0, 3, []), (34, 0, 0, []), (2, 1, 0, []), (31, 0, 0, []), (41, 0, 0, [])]
def B31_1 : List MIns := [(2, 2, 0, []), (20, 2, 2, []), (2, 2, 0, []), (4, 0, 0, []), (28, 0, 1, [38, 8, 7, 167]), (27, 0, 3, [44, 7, 0, 112]), (21, 2, 3, []), (4, 0, 0, []), (28, 0, 6, [22, 8, 2, 173]), (2, 2, 0, []), (31, 0, 0, []), (0, 0, 1, []), (21, 3, 0, []), (24, 2, 0, [])]
def B31_2 : List MIns := [(0, 0, (-1), []), (41, 0, 0, [])]
def B31_3 : List MIns := [(4, 0, 0, []), (28, 0, 7, [25, 8, 2, 175]), (2, 2, 0, []), (31, 0, 0, []), (0, 0, 2, []), (9, 1, 0, []), (5, 3, 0, []), (2, 3, 0, []), (0, 0, 1, []), (21, 4, 3, []), (0, 0, 1, []), (23, 5, 0, [])]
def B31_4 : List MIns := [(2, 3, 0, []), (24, 5, 0, [])]
def B31_5 : List MIns := [(41, 0, 0, [])]
def P31 : List (List MIns) := [B31_0, B31_1, B31_2, B31_3, B31_4, B31_5]
def B32_0 : List MIns := [(4, 0, 0, []), (28, 0, 0, [34, 8, 7, 166]), (28, 0, 0, [49, 7, 3, 104]), (0, 0, 1, []), (34, 0, 0, []), (2, 1, 0, []), (31, 0, 0, []), (0, 0, 2, []), (9, 0, 0, []), (5, 3, 0, []), (4, 0, 0, []), (28, 0, 0, [34, 8, 7, 166]), (28, 0, 0, [49, 7, 3, 104]), (0, 0, 0, []), (34, 0, 0, []), (2, 1, 0, []), (31, 0, 0, []), (26, 5, 0, [1, 2, 2, 1])]
def B32_1 : List MIns := [(2, 2, 0, []), (41, 0, 0, [])]
def B32_2 : List MIns := [(2, 2, 0, []), (2, 3, 0, []), (21, 3, 3, []), (2, 2, 0, []), (23, 4, 0, [])]
def B32_3 : List MIns := [(2, 3, 0, []), (24, 4, 0, [])]
def B32_4 : List MIns := [(41, 0, 0, [])]
def B32_5 : List MIns := [(4, 0, 0, []), (28, 0, 5, [18, 8, 2, 171]), (2, 1, 0, []), (31, 0, 0, []), (41, 0, 0, [])]
def P32 : List (List MIns) := [B32_0, B32_1, B32_2, B32_3, B32_4, B32_5]
def B33_0 : List MIns := [(0, 0, (-1), []), (5, 2, 0, []), (0, 0, 0, []), (5, 3, 0, []), (24, 1, 0, [])]
def B33_1 : List MIns := [(2, 3, 0, []), (4, 0, 0, []), (28, 0, 1, [38, 8, 7, 167]), (27, 0, 3, [44, 7, 0, 112]), (21, 4, 3, []), (4, 0, 0, []), (28, 0, 9, [31, 8, 2, 179]), (2, 3, 0, []), (31, 0, 0, []), (2, 1, 0, []), (21, 3, 1, []), (2, 2, 0, []), (0, 0, (-1), []), (21, 2, 0, []), (4, 0, 0, []), (28, 0, 7, [25, 8, 2, 175]), (2, 3, 0, []), (31, 0, 0, []), (4, 0, 0, []), (28, 0, 7, [25, 8, 2, 175]), (2, 2, 0, []), (31, 0, 0, []), (21, 3, 5, []), (24, 2, 0, [])]
def B33_2 : List MIns := [(2, 3, 0, []), (5, 2, 0, []), (24, 3, 0, [])]
def B33_3 : List MIns := [(8, 3, 1, []), (23, 1, 0, [])]
def B33_4 : List MIns := [(2, 2, 0, []), (41, 0, 0, [])]
def P33 : List (List MIns) := [B33_0, B33_1, B33_2, B33_3, B33_4]
def B34_0 : List MIns := [(0, 0, (-1), []), (5, 2, 0, []), (0, 0, 0, []), (5, 3, 0, []), (24, 1, 0, [])]
def B34_1 : List MIns := [(2, 3, 0, []), (4, 0, 0, []), (28, 0, 1, [38, 8, 7, 167]), (27, 0, 3, [44, 7, 0, 112]), (21, 4, 3, []), (4, 0, 0, []), (28, 0, 9, [31, 8, 2, 179]), (2, 3, 0, []), (31, 0, 0, []), (2, 1, 0, []), (21, 3, 1, []), (2, 2, 0, []), (0, 0, (-1), []), (21, 2, 0, []), (4, 0, 0, []), (28, 0, 7, [25, 8, 2, 175]), (2, 3, 0, []), (31, 0, 0, []), (4, 0, 0, []), (28, 0, 7, [25, 8, 2, 175]), (2, 2, 0, []), (31, 0, 0, []), (21, 3, 3, []), (24, 2, 0, [])]
def B34_2 : List MIns := [(2, 3, 0, []), (5, 2, 0, []), (24, 3, 0, [])]
def B34_3 : List MIns := [(8, 3, 1, []), (23, 1, 0, [])]
def B34_4 : List MIns := [(2, 2, 0, []), (41, 0, 0, [])]
def P34 : List (List MIns) := [B34_0, B34_1, B34_2, B34_3, B34_4]
def B35_0 : List MIns := [(2, 1, 0, []), (20, 1, 2, []), (2, 1, 0, []), (4, 0, 0, []), (28, 0, 1, [38, 8, 7, 167]), (27, 0, 3, [44, 7, 0, 112]), (21, 1, 3, []), (4, 0, 0, []), (28, 0, 7, [25, 8, 2, 175]), (2, 1, 0, []), (31, 0, 0, []), (23, 2, 0, [])]
def B35_1 : List MIns := [(0, 0, 0, []), (24, 2, 0, [])]
def B35_2 : List MIns := [(41, 0, 0, [])]
def P35 : List (List MIns) := [B35_0, B35_1, B35_2]
def B36_0 : List MIns := [(0, 0, 0, []), (5, 2, 0, []), (0, 0, 0, []), (5, 3, 0, []), (24, 1, 0, [])]
def B36_1 : List MIns := [(2, 3, 0, []), (4, 0, 0, []), (28, 0, 1, [38, 8, 7, 167]), (27, 0, 3, [44, 7, 0, 112]), (21, 3, 3, []), (4, 0, 0, []), (28, 0, 9, [31, 8, 2, 179]), (2, 3, 0, []), (31, 0, 0, []), (2, 1, 0, []), (21, 2, 1, []), (8, 2, 1, []), (24, 2, 0, [])]
def B36_2 : List MIns := [(8, 3, 1, []), (23, 1, 0, [])]
def B36_3 : List MIns := [(2, 2, 0, []), (41, 0, 0, [])]
def P36 : List (List MIns) := [B36_0, B36_1, B36_2, B36_3]
def B37_0 : List MIns := [(4, 0, 0, []), (28, 0, 0, [34, 8, 7, 166]), (2, 1, 0, []), (37, 18, 1, [61, 505, 7]), (20, 1, 0, []), (4, 0, 0, []), (28, 0, 5, [18, 8, 2, 171]), (2, 1, 0, []), (31, 0, 0, []), (4, 0, 0, []), (4, 0, 0, []), (2, 1, 0, []), (37, 33, 1, [72, 493, 8]), (37, 35, 1, [94, 533, 8]), (9, 1, 0, []), (23, 2, 0, [])]
def B37_1 : List MIns := [(0, 0, 0, []), (24, 2, 0, [])]
def B37_2 : List MIns := [(41, 0, 0, [])]
def P37 : List (List MIns) := [B37_0, B37_1, B37_2]
def B38_0 : List MIns := [(0, 0, 0, []), (5, 1, 0, []), (0, 0, 0, []), (5, 2, 0, []), (24, 1, 0, [])]
def B38_1 : List MIns := [(2, 2, 0, []), (4, 0, 0, []), (28, 0, 0, [34, 8, 7, 166]), (27, 0, 3, [44, 7, 0, 112]), (21, 2, 3, []), (2, 1, 0, []), (4, 0, 0, []), (2, 2, 0, []), (37, 37, 1, [97, 546, 8]), (9, 0, 0, []), (5, 1, 0, []), (8, 2, 1, []), (23, 1, 0, [])]
def B38_2 : List MIns := [(2, 1, 0, []), (41, 0, 0, [])]
def P38 : List (List MIns) := [B38_0, B38_1, B38_2]
def B39_0 : List MIns := [(0, 0, 0, []), (5, 1, 0, []), (0, 0, 0, []), (5, 2, 0, []), (24, 1, 0, [])]
def B39_1 : List MIns := [(2, 2, 0, []), (4, 0, 0, []), (28, 0, 0, [34, 8, 7, 166]), (27, 0, 3, [44, 7, 0, 112]), (21, 3, 3, []), (4, 0, 0, []), (2, 2, 0, []), (37, 33, 1, [72, 493, 8]), (0, 0, (-1), []), (21, 2, 1, []), (2, 1, 0, []), (0, 0, 1, []), (2, 2, 0, []), (9, 5, 0, []), (9, 4, 0, []), (5, 1, 0, []), (24, 2, 0, [])]
def B39_2 : List MIns := [(8, 2, 1, []), (23, 1, 0, [])]
def B39_3 : List MIns := [(2, 1, 0, []), (41, 0, 0, [])]
def P39 : List (List MIns) := [B39_0, B39_1, B39_2, B39_3]
def B40_0 : List MIns := [(0, 0, 0, []), (5, 2, 0, []), (0, 0, 0, []), (5, 3, 0, []), (24, 1, 0, [])]
def B40_1 : List MIns := [(2, 3, 0, []), (4, 0, 0, []), (28, 0, 1, [38, 8, 7, 167]), (27, 0, 3, [44, 7, 0, 112]), (21, 3, 3, []), (4, 0, 0, []), (28, 0, 6, [22, 8, 2, 173]), (2, 3, 0, []), (31, 0, 0, []), (2, 1, 0, []), (21, 2, 1, []), (2, 2, 0, []), (0, 0, 1, []), (2, 3, 0, []), (9, 5, 0, []), (9, 4, 0, []), (5, 2, 0, []), (24, 2, 0, [])]
def B40_2 : List MIns := [(8, 3, 1, []), (23, 1, 0, [])]
def B40_3 : List MIns := [(2, 2, 0, []), (41, 0, 0, [])]
def P40 : List (List MIns) := [B40_0, B40_1, B40_2, B40_3]
def B41_0 : List MIns := [(4, 0, 0, []), (2, 1, 0, []), (37, 97, 1, [76, 269, 9]), (7, 3, 0, []), (4, 3, 0, []), (22, 1, 0, []), (2, 2, 0, []), (0, 2, 256, []), (36, 92, 2, [80, 273, 0]), (20, 2, 1, []), (24, 1, 0, [])]
def B41_1 : List MIns := [(0, 1, (-2), []), (41, 0, 0, [])]
def B41_2 : List MIns := [(4, 3, 0, []), (38, 21, 0, [84, 276]), (20, 3, 0, []), (0, 1, (-4), []), (41, 0, 0, [])]
def B41_3 : List MIns := [(4, 3, 0, []), (2, 2, 0, []), (38, 22, 1, [90, 282]), (4, 0, 0, []), (0, 0, 1, []), (29, 0, 9, [58, 9, 1, 234]), (4, 3, 0, []), (27, 0, 2, [94, 5, 0, 137]), (41, 0, 0, [])]
def P41 : List (List MIns) := [B41_0, B41_1, B41_2, B41_3]
def B42_0 : List MIns := [(4, 0, 0, []), (2, 1, 0, []), (37, 97, 1, [76, 269, 9]), (7, 2, 0, []), (4, 2, 0, []), (22, 1, 1, []), (0, 1, (-2), []), (41, 0, 0, [])]
def B42_1 : List MIns := [(4, 2, 0, []), (27, 0, 2, [94, 5, 0, 137]), (5, 3, 0, []), (4, 2, 0, []), (0, 0, 0, []), (38, 23, 1, [97, 402]), (4, 0, 0, []), (0, 0, 1, []), (29, 0, 9, [58, 9, 1, 234]), (2, 3, 0, []), (41, 0, 0, [])]
def P42 : List (List MIns) := [B42_0, B42_1]
def B43_0 : List MIns := [(4, 0, 0, []), (2, 1, 0, []), (37, 97, 1, [76, 269, 9]), (7, 2, 0, []), (4, 2, 0, []), (22, 1, 1, []), (0, 1, (-2), []), (41, 0, 0, [])]
def B43_1 : List MIns := [(4, 2, 0, []), (27, 0, 2, [94, 5, 0, 137]), (20, 2, 1, []), (0, 1, (-3), []), (41, 0, 0, [])]
def B43_2 : List MIns := [(4, 2, 0, []), (4, 2, 0, []), (27, 0, 2, [94, 5, 0, 137]), (0, 0, 1, []), (9, 1, 0, []), (38, 23, 1, [97, 402]), (4, 0, 0, []), (0, 0, 1, []), (29, 0, 9, [58, 9, 1, 234]), (4, 2, 0, []), (27, 0, 2, [94, 5, 0, 137]), (41, 0, 0, [])]
def P43 : List (List MIns) := [B43_0, B43_1, B43_2]
def B44_0 : List MIns := [(4, 0, 0, []), (2, 1, 0, []), (37, 97, 1, [76, 269, 9]), (7, 2, 0, []), (4, 2, 0, []), (22, 1, 1, []), (0, 1, (-2), []), (23, 2, 0, [])]
def B44_1 : List MIns := [(4, 2, 0, []), (27, 0, 3, [100, 5, 0, 139]), (24, 2, 0, [])]
def B44_2 : List MIns := [(41, 0, 0, [])]
def P44 : List (List MIns) := [B44_0, B44_1, B44_2]
def B45_0 : List MIns := [(4, 0, 0, []), (28, 0, 0, [14, 9, 7, 225]), (2, 2, 0, []), (2, 1, 0, []), (37, 19, 2, [103, 422, 7]), (20, 1, 0, []), (4, 0, 0, []), (28, 0, 0, [14, 9, 7, 225]), (28, 0, 0, [106, 7, 3, 105]), (2, 2, 0, []), (34, 0, 0, []), (2, 1, 0, []), (31, 0, 0, []), (23, 2, 0, [])]
def B45_1 : List MIns := [(0, 1, (-2), []), (24, 2, 0, [])]
def B45_2 : List MIns := [(41, 0, 0, [])]
def P45 : List (List MIns) := [B45_0, B45_1, B45_2]
def B46_0 : List MIns := [(4, 0, 0, []), (28, 0, 1, [18, 9, 7, 226]), (2, 2, 0, []), (2, 1, 0, []), (37, 19, 2, [103, 422, 7]), (20, 1, 0, []), (4, 0, 0, []), (28, 0, 1, [18, 9, 7, 226]), (28, 0, 0, [106, 7, 3, 105]), (2, 2, 0, []), (34, 0, 0, []), (2, 1, 0, []), (31, 0, 0, []), (23, 2, 0, [])]
def B46_1 : List MIns := [(0, 1, (-2), []), (24, 2, 0, [])]
def B46_2 : List MIns := [(41, 0, 0, [])]
def P46 : List (List MIns) := [B46_0, B46_1, B46_2]
def B47_0 : List MIns := [(2, 1, 0, []), (2, 2, 0, []), (2, 3, 0, []), (36, 96, 3, [110, 435, 0]), (20, 1, 1, []), (0, 1, (-2), []), (41, 0, 0, [])]
def B47_1 : List MIns := [(4, 0, 0, []), (28, 0, 2, [21, 9, 7, 227]), (37, 17, 0, [114, 438, 7]), (20, 2, 0, []), (0, 1, (-4), []), (41, 0, 0, [])]
def B47_2 : List MIns := [(4, 0, 0, []), (28, 0, 2, [21, 9, 7, 227]), (2, 1, 0, []), (2, 2, 0, []), (2, 3, 0, []), (37, 20, 3, [115, 442, 7]), (4, 0, 0, []), (0, 0, 1, []), (29, 0, 9, [58, 9, 1, 234]), (4, 0, 0, []), (28, 0, 2, [21, 9, 7, 227]), (27, 0, 3, [119, 7, 0, 114]), (41, 0, 0, [])]
def P47 : List (List MIns) := [B47_0, B47_1, B47_2]
def B48_0 : List MIns := [(4, 0, 0, []), (28, 0, 2, [21, 9, 7, 227]), (27, 0, 3, [119, 7, 0, 114]), (20, 1, 1, []), (0, 1, (-3), []), (41, 0, 0, [])]
def B48_1 : List MIns := [(4, 0, 0, []), (28, 0, 2, [21, 9, 7, 227]), (17, 0, 0, []), (27, 0, 3, [119, 7, 0, 114]), (0, 0, 1, []), (9, 1, 0, []), (29, 0, 3, [119, 7, 0, 114]), (4, 0, 0, []), (0, 0, 1, []), (29, 0, 9, [58, 9, 1, 234]), (4, 0, 0, []), (28, 0, 2, [21, 9, 7, 227]), (27, 0, 3, [119, 7, 0, 114]), (41, 0, 0, [])]
def P48 : List (List MIns) := [B48_0, B48_1]
def B49_0 : List MIns := [(4, 0, 0, []), (2, 1, 0, []), (37, 98, 1, [122, 454, 9]), (7, 2, 0, []), (4, 2, 0, []), (22, 1, 1, []), (0, 1, (-2), []), (41, 0, 0, [])]
def B49_1 : List MIns := [(4, 2, 0, []), (27, 0, 1, [126, 6, 0, 211]), (20, 2, 0, []), (4, 0, 0, []), (0, 0, 1, []), (37, 99, 1, [129, 458, 9]), (41, 0, 0, [])]
def B49_2 : List MIns := [(0, 0, 0, []), (5, 3, 0, []), (0, 0, 0, []), (5, 4, 0, []), (24, 3, 0, [])]
def B49_3 : List MIns := [(2, 4, 0, []), (0, 0, 2, []), (9, 0, 0, []), (4, 2, 0, []), (27, 0, 3, [133, 6, 0, 215]), (21, 5, 3, []), (4, 2, 0, []), (28, 0, 0, [134, 6, 2, 209]), (2, 4, 0, []), (31, 0, 0, []), (5, 5, 0, []), (4, 2, 0, []), (28, 0, 0, [134, 6, 2, 209]), (2, 4, 0, []), (0, 0, 1, []), (9, 0, 0, []), (31, 0, 0, []), (5, 6, 0, []), (4, 2, 0, []), (28, 0, 0, [134, 6, 2, 209]), (2, 4, 0, []), (0, 0, 2, []), (9, 0, 0, []), (31, 0, 0, []), (5, 7, 0, []), (4, 0, 0, []), (28, 0, 2, [21, 9, 7, 227]), (37, 17, 0, [114, 438, 7]), (20, 5, 1, []), (2, 5, 0, []), (2, 6, 0, []), (2, 7, 0, []), (36, 96, 3, [110, 435, 0]), (20, 4, 1, []), (23, 5, 0, [])]
def B49_4 : List MIns := [(4, 0, 0, []), (28, 0, 2, [21, 9, 7, 227]), (2, 5, 0, []), (2, 6, 0, []), (2, 7, 0, []), (37, 20, 3, [115, 442, 7]), (8, 3, 1, []), (8, 4, 3, []), (23, 3, 0, [])]
def B49_5 : List MIns := [(4, 0, 0, []), (0, 0, 1, []), (29, 0, 9, [58, 9, 1, 234]), (2, 3, 0, []), (41, 0, 0, [])]
def P49 : List (List MIns) := [B49_0, B49_1, B49_2, B49_3, B49_4, B49_5]
def B50_0 : List MIns := [(2, 1, 0, []), (0, 1, 24, []), (36, 92, 2, [80, 273, 0]), (20, 1, 0, []), (4, 0, 0, []), (28, 0, 0, [14, 9, 7, 225]), (2, 2, 0, []), (37, 18, 1, [137, 466, 7]), (20, 1, 0, []), (2, 3, 0, []), (0, 0, 5, []), (36, 92, 2, [80, 273, 0]), (20, 2, 1, []), (24, 1, 0, [])]
def B50_1 : List MIns := [(0, 1, (-2), []), (41, 0, 0, [])]
def B50_2 : List MIns := [(4, 0, 0, []), (2, 1, 0, []), (37, 100, 1, [141, 470, 9]), (2, 3, 0, []), (25, 7, 0, [3, 4, 5, 6])]
def B50_3 : List MIns := [(4, 0, 0, []), (28, 0, 7, [50, 9, 8, 232]), (28, 0, 5, [144, 8, 2, 172]), (2, 2, 0, []), (31, 0, 0, []), (41, 0, 0, [])]
def B50_4 : List MIns := [(4, 0, 0, []), (28, 0, 7, [50, 9, 8, 232]), (2, 2, 0, []), (37, 36, 1, [147, 519, 8]), (41, 0, 0, [])]
def B50_5 : List MIns := [(4, 0, 0, []), (28, 0, 7, [50, 9, 8, 232]), (4, 0, 0, []), (28, 0, 7, [50, 9, 8, 232]), (2, 2, 0, []), (37, 33, 1, [150, 523, 8]), (37, 35, 1, [153, 524, 8]), (41, 0, 0, [])]
def B50_6 : List MIns := [(4, 0, 0, []), (28, 0, 7, [50, 9, 8, 232]), (4, 0, 0, []), (28, 0, 7, [50, 9, 8, 232]), (2, 2, 0, []), (37, 34, 1, [156, 528, 8]), (37, 35, 1, [153, 524, 8]), (41, 0, 0, [])]
def B50_7 : List MIns := [(4, 0, 0, []), (28, 0, 7, [50, 9, 8, 232]), (2, 2, 0, []), (37, 37, 1, [159, 529, 8]), (41, 0, 0, [])]
def P50 : List (List MIns) := [B50_0, B50_1, B50_2, B50_3, B50_4, B50_5, B50_6, B50_7]
def B51_0 : List MIns := [(2, 1, 0, []), (0, 1, 24, []), (36, 92, 2, [80, 273, 0]), (20, 1, 0, []), (4, 0, 0, []), (28, 0, 1, [18, 9, 7, 226]), (2, 2, 0, []), (37, 18, 1, [137, 466, 7]), (20, 1, 0, []), (2, 3, 0, []), (0, 0, 3, []), (36, 92, 2, [80, 273, 0]), (20, 2, 1, []), (24, 1, 0, [])]
def B51_1 : List MIns := [(0, 1, (-2), []), (41, 0, 0, [])]
def B51_2 : List MIns := [(4, 0, 0, []), (2, 1, 0, []), (37, 100, 1, [141, 470, 9]), (2, 3, 0, []), (26, 5, 0, [0, 3, 1, 4])]
def B51_3 : List MIns := [(4, 0, 0, []), (28, 0, 7, [50, 9, 8, 232]), (28, 0, 6, [162, 8, 2, 174]), (2, 2, 0, []), (31, 0, 0, []), (41, 0, 0, [])]
def B51_4 : List MIns := [(4, 0, 0, []), (28, 0, 7, [50, 9, 8, 232]), (28, 0, 7, [165, 8, 2, 176]), (2, 2, 0, []), (31, 0, 0, []), (41, 0, 0, [])]
def B51_5 : List MIns := [(4, 0, 0, []), (28, 0, 7, [50, 9, 8, 232]), (28, 0, 8, [168, 8, 2, 178]), (2, 2, 0, []), (31, 0, 0, []), (41, 0, 0, [])]
def P51 : List (List MIns) := [B51_0, B51_1, B51_2, B51_3, B51_4, B51_5]
def B52_0 : List MIns := [(2, 1, 0, []), (0, 1, 24, []), (36, 92, 2, [80, 273, 0]), (20, 1, 1, []), (0, 1, (-2), []), (41, 0, 0, [])]
def B52_1 : List MIns := [(4, 0, 0, []), (2, 1, 0, []), (37, 100, 1, [141, 470, 9]), (4, 0, 0, []), (28, 0, 7, [50, 9, 8, 232]), (37, 38, 0, [171, 542, 8]), (41, 0, 0, [])]
def P52 : List (List MIns) := [B52_0, B52_1]
def B53_0 : List MIns := [(2, 1, 0, []), (0, 0, 2, []), (36, 92, 2, [80, 273, 0]), (20, 1, 1, []), (0, 1, (-2), []), (41, 0, 0, [])]
def B53_1 : List MIns := [(4, 0, 0, []), (28, 0, 7, [50, 9, 8, 232]), (4, 0, 0, []), (28, 0, 2, [21, 9, 7, 227]), (0, 0, 0, []), (37, 25, 2, [175, 474, 8]), (0, 0, 0, []), (5, 2, 0, []), (24, 2, 0, [])]
def B53_2 : List MIns := [(2, 2, 0, []), (0, 1, 24, []), (21, 8, 3, []), (4, 0, 0, []), (28, 0, 7, [50, 9, 8, 232]), (2, 2, 0, []), (2, 2, 0, []), (37, 26, 2, [179, 478, 8]), (0, 0, 0, []), (5, 3, 0, []), (24, 3, 0, [])]
def B53_3 : List MIns := [(2, 3, 0, []), (4, 0, 0, []), (28, 0, 0, [14, 9, 7, 225]), (27, 0, 3, [119, 7, 0, 114]), (21, 7, 3, []), (4, 0, 0, []), (28, 0, 7, [50, 9, 8, 232]), (2, 3, 0, []), (37, 36, 1, [147, 519, 8]), (20, 6, 5, []), (4, 0, 0, []), (28, 0, 7, [50, 9, 8, 232]), (2, 3, 0, []), (37, 37, 1, [159, 529, 8]), (0, 0, 5, []), (21, 6, 2, []), (2, 1, 0, []), (20, 4, 1, []), (2, 2, 0, []), (23, 5, 0, [])]
def B53_4 : List MIns := [(2, 3, 0, []), (24, 5, 0, [])]
def B53_5 : List MIns := [(41, 0, 0, [])]
def B53_6 : List MIns := [(8, 3, 1, []), (23, 3, 0, [])]
def B53_7 : List MIns := [(8, 2, 1, []), (23, 2, 0, [])]
def B53_8 : List MIns := [(0, 0, (-1), []), (41, 0, 0, [])]
def P53 : List (List MIns) := [B53_0, B53_1, B53_2, B53_3, B53_4, B53_5, B53_6, B53_7, B53_8]
def B54_0 : List MIns := [(4, 0, 0, []), (28, 0, 1, [18, 9, 7, 226]), (2, 1, 0, []), (37, 18, 1, [137, 466, 7]), (20, 1, 1, []), (0, 1, (-2), []), (41, 0, 0, [])]
def B54_1 : List MIns := [(4, 0, 0, []), (28, 0, 1, [18, 9, 7, 226]), (28, 0, 0, [106, 7, 3, 105]), (0, 0, 2, []), (34, 0, 0, []), (2, 1, 0, []), (31, 0, 0, []), (5, 2, 0, []), (0, 0, 0, []), (5, 3, 0, []), (24, 2, 0, [])]
def B54_2 : List MIns := [(2, 3, 0, []), (0, 1, 8, []), (21, 3, 3, []), (4, 0, 0, []), (28, 0, 1, [18, 9, 7, 226]), (2, 2, 0, []), (37, 18, 1, [137, 466, 7]), (20, 3, 0, []), (8, 3, 1, []), (4, 0, 0, []), (28, 0, 1, [18, 9, 7, 226]), (28, 0, 0, [106, 7, 3, 105]), (0, 0, 2, []), (34, 0, 0, []), (2, 2, 0, []), (31, 0, 0, []), (5, 2, 0, []), (23, 2, 0, [])]
def B54_3 : List MIns := [(2, 3, 0, []), (41, 0, 0, [])]
def P54 : List (List MIns) := [B54_0, B54_1, B54_2, B54_3]
def B55_0 : List MIns := [(4, 0, 0, []), (0, 1, 23, []), (37, 100, 1, [141, 470, 9]), (0, 0, (-1), []), (5, 1, 0, []), (0, 0, 0, []), (5, 2, 0, []), (24, 1, 0, [])]
def B55_1 : List MIns := [(2, 2, 0, []), (4, 0, 0, []), (28, 0, 1, [18, 9, 7, 226]), (27, 0, 3, [119, 7, 0, 114]), (21, 4, 3, []), (4, 0, 0, []), (28, 0, 7, [50, 9, 8, 232]), (28, 0, 6, [162, 8, 2, 174]), (2, 2, 0, []), (31, 0, 0, []), (0, 0, 1, []), (21, 3, 1, []), (2, 1, 0, []), (0, 0, (-1), []), (21, 2, 0, []), (4, 0, 0, []), (28, 0, 7, [50, 9, 8, 232]), (28, 0, 7, [165, 8, 2, 176]), (2, 2, 0, []), (31, 0, 0, []), (4, 0, 0, []), (28, 0, 7, [50, 9, 8, 232]), (28, 0, 7, [165, 8, 2, 176]), (2, 1, 0, []), (31, 0, 0, []), (21, 3, 3, []), (24, 2, 0, [])]
def B55_2 : List MIns := [(2, 2, 0, []), (5, 1, 0, []), (24, 3, 0, [])]
def B55_3 : List MIns := [(8, 2, 1, []), (23, 1, 0, [])]
def B55_4 : List MIns := [(2, 1, 0, []), (41, 0, 0, [])]
def P55 : List (List MIns) := [B55_0, B55_1, B55_2, B55_3, B55_4]
def B56_0 : List MIns := [(2, 1, 0, []), (0, 0, 2, []), (36, 92, 2, [80, 273, 0]), (20, 1, 1, []), (0, 1, (-2), []), (41, 0, 0, [])]
def B56_1 : List MIns := [(4, 0, 0, []), (0, 1, 23, []), (37, 100, 1, [141, 470, 9]), (2, 1, 0, []), (20, 2, 1, []), (4, 0, 0, []), (28, 0, 7, [50, 9, 8, 232]), (37, 39, 0, [182, 563, 8]), (23, 3, 0, [])]
def B56_2 : List MIns := [(4, 0, 0, []), (28, 0, 7, [50, 9, 8, 232]), (0, 0, 3, []), (37, 40, 1, [185, 567, 8]), (24, 3, 0, [])]
def B56_3 : List MIns := [(41, 0, 0, [])]
def P56 : List (List MIns) := [B56_0, B56_1, B56_2, B56_3]
def B57_0 : List MIns := [(4, 0, 0, []), (28, 0, 1, [18, 9, 7, 226]), (2, 1, 0, []), (37, 18, 1, [137, 466, 7]), (20, 1, 0, []), (2, 2, 0, []), (0, 0, 2, []), (36, 92, 2, [80, 273, 0]), (20, 2, 1, []), (24, 1, 0, [])]
def B57_1 : List MIns := [(0, 1, (-2), []), (41, 0, 0, [])]
def B57_2 : List MIns := [(4, 0, 0, []), (2, 1, 0, []), (0, 0, 0, []), (4, 0, 0, []), (28, 0, 0, [14, 9, 7, 225]), (27, 0, 3, [119, 7, 0, 114]), (37, 61, 3, [188, 575, 9]), (2, 2, 0, []), (36, 62, 2, [192, 579, 0]), (41, 0, 0, [])]
def P57 : List (List MIns) := [B57_0, B57_1, B57_2]
def B58_0 : List MIns := [(4, 0, 0, []), (28, 0, 1, [18, 9, 7, 226]), (2, 1, 0, []), (37, 18, 1, [137, 466, 7]), (20, 1, 0, []), (2, 2, 0, []), (0, 0, 2, []), (36, 92, 2, [80, 273, 0]), (20, 2, 1, []), (24, 1, 0, [])]
def B58_1 : List MIns := [(0, 1, (-2), []), (41, 0, 0, [])]
def B58_2 : List MIns := [(4, 0, 0, []), (2, 1, 0, []), (0, 0, 1, []), (0, 1, 24, []), (37, 61, 3, [188, 575, 9]), (2, 2, 0, []), (36, 62, 2, [192, 579, 0]), (41, 0, 0, [])]
def P58 : List (List MIns) := [B58_0, B58_1, B58_2]
def B59_0 : List MIns := [(4, 0, 0, []), (28, 0, 1, [18, 9, 7, 226]), (2, 1, 0, []), (37, 18, 1, [137, 466, 7]), (20, 1, 0, []), (2, 2, 0, []), (0, 0, 2, []), (36, 92, 2, [80, 273, 0]), (20, 2, 1, []), (24, 1, 0, [])]
def B59_1 : List MIns := [(0, 1, (-2), []), (41, 0, 0, [])]
def B59_2 : List MIns := [(4, 0, 0, []), (2, 1, 0, []), (0, 0, 2, []), (0, 1, 9, []), (37, 61, 3, [188, 575, 9]), (2, 2, 0, []), (36, 62, 2, [192, 579, 0]), (41, 0, 0, [])]
def P59 : List (List MIns) := [B59_0, B59_1, B59_2]
def B60_0 : List MIns := [(2, 1, 0, []), (0, 0, (-1), []), (21, 1, 2, []), (2, 1, 0, []), (0, 0, 1, []), (21, 2, 5, []), (24, 1, 0, [])]
def B60_1 : List MIns := [(0, 1, (-2), []), (41, 0, 0, [])]
def B60_2 : List MIns := [(4, 0, 0, []), (37, 63, 0, [196, 594, 9]), (5, 2, 0, []), (2, 2, 0, []), (0, 0, (-1), []), (21, 3, 1, []), (0, 0, (-1), []), (41, 0, 0, [])]
def B60_3 : List MIns := [(2, 1, 0, []), (0, 0, (-1), []), (21, 4, 1, []), (2, 2, 0, []), (36, 0, 1, [199, 605, 0]), (23, 5, 0, [])]
def B60_4 : List MIns := [(2, 2, 0, []), (2, 1, 0, []), (36, 64, 2, [204, 611, 0]), (24, 5, 0, [])]
def B60_5 : List MIns := [(41, 0, 0, [])]
def P60 : List (List MIns) := [B60_0, B60_1, B60_2, B60_3, B60_4, B60_5]
def B61_0 : List MIns := [(4, 0, 0, []), (28, 0, 1, [18, 9, 7, 226]), (28, 0, 0, [106, 7, 3, 105]), (2, 2, 0, []), (34, 0, 0, []), (2, 1, 0, []), (31, 0, 0, []), (5, 4, 0, []), (0, 0, (-1), []), (5, 5, 0, []), (0, 0, 0, []), (5, 6, 0, []), (24, 1, 0, [])]
def B61_1 : List MIns := [(2, 6, 0, []), (2, 3, 0, []), (21, 5, 3, []), (2, 2, 0, []), (0, 0, 2, []), (21, 2, 1, []), (2, 6, 0, []), (2, 1, 0, []), (21, 2, 1, []), (23, 4, 0, [])]
def B61_2 : List MIns := [(4, 0, 0, []), (28, 0, 1, [18, 9, 7, 226]), (28, 0, 0, [106, 7, 3, 105]), (2, 2, 0, []), (34, 0, 0, []), (2, 1, 0, []), (2, 6, 0, []), (32, 0, 0, []), (4, 0, 0, []), (0, 1, 23, []), (37, 100, 1, [141, 470, 9]), (4, 0, 0, []), (28, 0, 7, [50, 9, 8, 232]), (37, 38, 0, [171, 542, 8]), (0, 1, 32, []), (9, 2, 0, []), (2, 6, 0, []), (9, 0, 0, []), (5, 7, 0, []), (2, 5, 0, []), (0, 0, (-1), []), (21, 3, 0, []), (2, 7, 0, []), (2, 5, 0, []), (21, 4, 3, []), (24, 3, 0, [])]
def B61_3 : List MIns := [(2, 7, 0, []), (5, 5, 0, []), (24, 4, 0, [])]
def B61_4 : List MIns := [(8, 6, 1, []), (23, 1, 0, [])]
def B61_5 : List MIns := [(4, 0, 0, []), (28, 0, 1, [18, 9, 7, 226]), (28, 0, 0, [106, 7, 3, 105]), (2, 2, 0, []), (34, 0, 0, []), (2, 1, 0, []), (2, 4, 0, []), (32, 0, 0, []), (2, 5, 0, []), (41, 0, 0, [])]
def P61 : List (List MIns) := [B61_0, B61_1, B61_2, B61_3, B61_4, B61_5]
def B62_0 : List MIns := [(2, 0, 0, []), (0, 0, (-1), []), (21, 1, 1, []), (0, 0, (-1), []), (41, 0, 0, [])]
def B62_1 : List MIns := [(2, 1, 0, []), (20, 2, 1, []), (2, 0, 0, []), (0, 1, 32, []), (10, 1, 0, []), (23, 3, 0, [])]
def B62_2 : List MIns := [(2, 0, 0, []), (0, 1, 32, []), (10, 0, 0, []), (24, 3, 0, [])]
def B62_3 : List MIns := [(41, 0, 0, [])]
def P62 : List (List MIns) := [B62_0, B62_1, B62_2, B62_3]
def B63_0 : List MIns := [(4, 0, 0, []), (0, 0, 0, []), (37, 101, 1, [207, 598, 9]), (20, 1, 1, []), (0, 0, 0, []), (41, 0, 0, [])]
def B63_1 : List MIns := [(0, 0, 0, []), (5, 1, 0, []), (24, 2, 0, [])]
def B63_2 : List MIns := [(2, 1, 0, []), (4, 0, 0, []), (28, 0, 2, [21, 9, 7, 227]), (27, 0, 3, [119, 7, 0, 114]), (21, 4, 3, []), (4, 0, 0, []), (0, 0, 1, []), (2, 1, 0, []), (9, 5, 0, []), (37, 101, 1, [207, 598, 9]), (20, 3, 1, []), (0, 0, 1, []), (2, 1, 0, []), (9, 5, 0, []), (41, 0, 0, [])]
def B63_3 : List MIns := [(8, 1, 1, []), (23, 2, 0, [])]
def B63_4 : List MIns := [(0, 0, 0, []), (5, 1, 0, []), (24, 5, 0, [])]
def B63_5 : List MIns := [(2, 1, 0, []), (4, 0, 0, []), (28, 0, 2, [21, 9, 7, 227]), (27, 0, 3, [119, 7, 0, 114]), (21, 9, 3, []), (2, 1, 0, []), (0, 0, 1, []), (9, 0, 0, []), (5, 2, 0, []), (24, 6, 0, [])]
def B63_6 : List MIns := [(2, 2, 0, []), (4, 0, 0, []), (28, 0, 2, [21, 9, 7, 227]), (27, 0, 3, [119, 7, 0, 114]), (21, 8, 3, []), (0, 0, 1, []), (2, 1, 0, []), (9, 5, 0, []), (0, 0, 1, []), (2, 2, 0, []), (9, 5, 0, []), (9, 4, 0, []), (5, 3, 0, []), (4, 0, 0, []), (2, 3, 0, []), (37, 101, 1, [207, 598, 9]), (20, 7, 1, []), (2, 3, 0, []), (41, 0, 0, [])]
def B63_7 : List MIns := [(8, 2, 1, []), (23, 6, 0, [])]
def B63_8 : List MIns := [(8, 1, 1, []), (23, 5, 0, [])]
def B63_9 : List MIns := [(0, 0, (-1), []), (41, 0, 0, [])]
def P63 : List (List MIns) := [B63_0, B63_1, B63_2, B63_3, B63_4, B63_5, B63_6, B63_7, B63_8, B63_9]
def B64_0 : List MIns := [(0, 0, 0, []), (5, 2, 0, []), (0, 0, 0, []), (5, 3, 0, []), (24, 1, 0, [])]
def B64_1 : List MIns := [(2, 3, 0, []), (0, 1, 8, []), (21, 4, 3, []), (2, 0, 0, []), (2, 3, 0, []), (36, 93, 2, [210, 614, 0]), (20, 3, 0, []), (2, 2, 0, []), (2, 1, 0, []), (21, 2, 1, []), (2, 3, 0, []), (41, 0, 0, [])]
def B64_2 : List MIns := [(8, 2, 1, []), (24, 3, 0, [])]
def B64_3 : List MIns := [(8, 3, 1, []), (23, 1, 0, [])]
def B64_4 : List MIns := [(0, 0, (-1), []), (41, 0, 0, [])]
def P64 : List (List MIns) := [B64_0, B64_1, B64_2, B64_3, B64_4]
def B65_0 : List MIns := [(2, 1, 0, []), (0, 1, 24, []), (36, 92, 2, [80, 273, 0]), (20, 1, 0, []), (2, 2, 0, []), (0, 1, 6, []), (36, 92, 2, [80, 273, 0]), (20, 1, 0, []), (2, 3, 0, []), (0, 1, 21, []), (36, 92, 2, [80, 273, 0]), (20, 2, 1, []), (24, 1, 0, [])]
def B65_1 : List MIns := [(0, 1, (-2), []), (41, 0, 0, [])]
def B65_2 : List MIns := [(4, 0, 0, []), (28, 0, 4, [27, 9, 7, 229]), (37, 17, 0, [114, 438, 7]), (20, 3, 0, []), (0, 1, (-4), []), (41, 0, 0, [])]
def B65_3 : List MIns := [(4, 0, 0, []), (28, 0, 4, [27, 9, 7, 229]), (2, 1, 0, []), (2, 2, 0, []), (2, 3, 0, []), (37, 20, 3, [115, 442, 7]), (4, 0, 0, []), (28, 0, 4, [27, 9, 7, 229]), (27, 0, 3, [119, 7, 0, 114]), (41, 0, 0, [])]
def P65 : List (List MIns) := [B65_0, B65_1, B65_2, B65_3]
def B66_0 : List MIns := [(4, 0, 0, []), (28, 0, 4, [27, 9, 7, 229]), (27, 0, 3, [119, 7, 0, 114]), (5, 1, 0, []), (4, 0, 0, []), (28, 0, 4, [27, 9, 7, 229]), (0, 0, 0, []), (29, 0, 3, [119, 7, 0, 114]), (2, 1, 0, []), (41, 0, 0, [])]
def P66 : List (List MIns) := [B66_0]
def B67_0 : List MIns := [(0, 0, 0, []), (5, 1, 0, []), (0, 0, 0, []), (5, 2, 0, []), (24, 1, 0, [])]
def B67_1 : List MIns := [(2, 2, 0, []), (4, 0, 0, []), (28, 0, 2, [21, 9, 7, 227]), (27, 0, 3, [119, 7, 0, 114]), (21, 3, 3, []), (4, 0, 0, []), (0, 0, 1, []), (2, 2, 0, []), (9, 5, 0, []), (37, 72, 1, [213, 627, 9]), (20, 2, 0, []), (2, 1, 0, []), (0, 0, 1, []), (2, 2, 0, []), (9, 5, 0, []), (9, 4, 0, []), (5, 1, 0, []), (24, 2, 0, [])]
def B67_2 : List MIns := [(8, 2, 1, []), (23, 1, 0, [])]
def B67_3 : List MIns := [(2, 1, 0, []), (41, 0, 0, [])]
def P67 : List (List MIns) := [B67_0, B67_1, B67_2, B67_3]
def B68_0 : List MIns := [(4, 0, 0, []), (28, 0, 0, [14, 9, 7, 225]), (2, 1, 0, []), (37, 18, 1, [137, 466, 7]), (20, 1, 0, []), (2, 2, 0, []), (0, 0, 2, []), (36, 92, 2, [80, 273, 0]), (20, 2, 1, []), (24, 1, 0, [])]
def B68_1 : List MIns := [(0, 1, (-2), []), (41, 0, 0, [])]
def B68_2 : List MIns := [(2, 2, 0, []), (20, 3, 1, []), (4, 0, 0, []), (2, 1, 0, []), (0, 0, 1, []), (0, 0, 1, []), (0, 1, 20, []), (37, 74, 4, [216, 639, 9]), (23, 4, 0, [])]
def B68_3 : List MIns := [(4, 0, 0, []), (2, 1, 0, []), (0, 0, 0, []), (0, 0, 0, []), (0, 0, 2, []), (37, 74, 4, [216, 639, 9]), (24, 4, 0, [])]
def B68_4 : List MIns := [(41, 0, 0, [])]
def P68 : List (List MIns) := [B68_0, B68_1, B68_2, B68_3, B68_4]
def B69_0 : List MIns := [(4, 0, 0, []), (28, 0, 0, [14, 9, 7, 225]), (2, 1, 0, []), (37, 18, 1, [137, 466, 7]), (20, 1, 1, []), (0, 1, (-2), []), (41, 0, 0, [])]
def B69_1 : List MIns := [(4, 0, 0, []), (2, 1, 0, []), (4, 0, 0, []), (2, 1, 0, []), (0, 0, 1, []), (0, 0, 1, []), (0, 1, 20, []), (37, 74, 4, [216, 639, 9]), (37, 75, 2, [220, 647, 9]), (0, 0, 0, []), (5, 2, 0, []), (0, 0, 1, []), (5, 3, 0, []), (24, 2, 0, [])]
def B69_2 : List MIns := [(2, 3, 0, []), (0, 1, 24, []), (21, 4, 3, []), (4, 0, 0, []), (2, 3, 0, []), (37, 76, 1, [223, 651, 9]), (4, 0, 0, []), (2, 2, 0, []), (37, 76, 1, [223, 651, 9]), (21, 3, 3, []), (2, 3, 0, []), (5, 2, 0, []), (24, 3, 0, [])]
def B69_3 : List MIns := [(8, 3, 1, []), (23, 2, 0, [])]
def B69_4 : List MIns := [(2, 2, 0, []), (41, 0, 0, [])]
def P69 : List (List MIns) := [B69_0, B69_1, B69_2, B69_3, B69_4]
def B70_0 : List MIns := [(2, 1, 0, []), (0, 1, 17, []), (36, 92, 2, [80, 273, 0]), (20, 1, 0, []), (4, 0, 0, []), (28, 0, 0, [14, 9, 7, 225]), (2, 2, 0, []), (37, 18, 1, [137, 466, 7]), (20, 1, 0, []), (2, 3, 0, []), (0, 0, 2, []), (36, 92, 2, [80, 273, 0]), (20, 2, 1, []), (24, 1, 0, [])]
def B70_1 : List MIns := [(1, 1, (-9223372036854775806), [226, 660]), (42, 0, 0, [])]
def B70_2 : List MIns := [(1, 0, 0, []), (6, 4, 0, []), (0, 0, 0, []), (5, 6, 0, []), (24, 3, 0, [])]
def B70_3 : List MIns := [(2, 6, 0, []), (0, 0, 1, []), (4, 0, 0, []), (28, 0, 2, [21, 9, 7, 227]), (27, 0, 3, [119, 7, 0, 114]), (9, 5, 0, []), (21, 5, 3, []), (4, 0, 0, []), (2, 6, 0, []), (37, 101, 1, [207, 598, 9]), (2, 2, 0, []), (36, 93, 2, [210, 614, 0]), (20, 4, 0, []), (3, 4, 0, []), (4, 0, 0, []), (2, 6, 0, []), (2, 1, 0, []), (37, 77, 2, [228, 661, 9]), (11, 0, 0, []), (6, 4, 0, []), (24, 4, 0, [])]
def B70_4 : List MIns := [(8, 6, 1, []), (23, 3, 0, [])]
def B70_5 : List MIns := [(0, 0, 4, []), (4, 0, 0, []), (28, 0, 2, [21, 9, 7, 227]), (27, 0, 3, [119, 7, 0, 114]), (9, 2, 0, []), (5, 6, 0, []), (24, 6, 0, [])]
def B70_6 : List MIns := [(2, 6, 0, []), (20, 7, 5, []), (3, 4, 0, []), (1, 1, 2, [232, 665]), (12, 1, 0, []), (1, 0, 0, []), (16, 0, 0, []), (20, 7, 1, []), (3, 4, 0, []), (1, 1, 2, [232, 665]), (12, 0, 0, []), (6, 4, 0, []), (8, 6, (-1), []), (23, 6, 0, [])]
def B70_7 : List MIns := [(1, 0, 1, []), (2, 6, 0, []), (13, 0, 0, []), (6, 7, 0, []), (2, 3, 0, []), (20, 8, 1, []), (3, 4, 0, []), (23, 9, 0, [])]
def B70_8 : List MIns := [(3, 7, 0, []), (24, 9, 0, [])]
def B70_9 : List MIns := [(42, 0, 0, [])]
def P70 : List (List MIns) := [B70_0, B70_1, B70_2, B70_3, B70_4, B70_5, B70_6, B70_7, B70_8, B70_9]
def B71_0 : List MIns := [(2, 2, 0, []), (0, 1, 9, []), (36, 92, 2, [80, 273, 0]), (20, 1, 0, []), (2, 3, 0, []), (0, 0, 2, []), (36, 92, 2, [80, 273, 0]), (20, 2, 1, []), (24, 1, 0, [])]
def B71_1 : List MIns := [(0, 1, (-2), []), (41, 0, 0, [])]
def B71_2 : List MIns := [(4, 0, 0, []), (2, 1, 0, []), (2, 2, 0, []), (37, 78, 2, [234, 670, 9]), (4, 0, 0, []), (28, 0, 7, [50, 9, 8, 232]), (4, 0, 0, []), (28, 0, 3, [24, 9, 7, 228]), (0, 0, 0, []), (37, 25, 2, [175, 474, 8]), (4, 0, 0, []), (28, 0, 7, [50, 9, 8, 232]), (0, 0, 0, []), (0, 1, 23, []), (37, 26, 2, [179, 478, 8]), (2, 3, 0, []), (20, 3, 1, []), (4, 0, 0, []), (28, 0, 7, [50, 9, 8, 232]), (37, 38, 0, [171, 542, 8]), (23, 4, 0, [])]
def B71_3 : List MIns := [(4, 0, 0, []), (28, 0, 7, [50, 9, 8, 232]), (0, 0, 3, []), (37, 40, 1, [185, 567, 8]), (36, 0, 1, [199, 605, 0]), (24, 4, 0, [])]
def B71_4 : List MIns := [(41, 0, 0, [])]
def P71 : List (List MIns) := [B71_0, B71_1, B71_2, B71_3, B71_4]
def B72_0 : List MIns := [(4, 0, 0, []), (28, 0, 7, [50, 9, 8, 232]), (4, 0, 0, []), (28, 0, 2, [21, 9, 7, 227]), (2, 1, 0, []), (37, 25, 2, [175, 474, 8]), (0, 0, 0, []), (5, 2, 0, []), (24, 1, 0, [])]
def B72_1 : List MIns := [(2, 2, 0, []), (0, 1, 24, []), (21, 3, 3, []), (4, 0, 0, []), (28, 0, 7, [50, 9, 8, 232]), (2, 2, 0, []), (2, 2, 0, []), (37, 26, 2, [179, 478, 8]), (4, 0, 0, []), (2, 2, 0, []), (37, 73, 1, [237, 631, 9]), (20, 2, 1, []), (0, 0, 0, []), (41, 1, 0, [])]
def B72_2 : List MIns := [(8, 2, 1, []), (23, 1, 0, [])]
def B72_3 : List MIns := [(0, 0, 1, []), (41, 1, 0, [])]
def P72 : List (List MIns) := [B72_0, B72_1, B72_2, B72_3]
def B73_0 : List MIns := [(0, 0, 0, []), (5, 2, 0, []), (24, 1, 0, [])]
def B73_1 : List MIns := [(2, 2, 0, []), (4, 0, 0, []), (28, 0, 4, [27, 9, 7, 229]), (27, 0, 3, [119, 7, 0, 114]), (21, 4, 3, []), (4, 0, 0, []), (28, 0, 4, [27, 9, 7, 229]), (28, 0, 0, [106, 7, 3, 105]), (0, 0, 0, []), (34, 0, 0, []), (2, 2, 0, []), (31, 0, 0, []), (2, 1, 0, []), (21, 3, 1, []), (4, 0, 0, []), (28, 0, 4, [27, 9, 7, 229]), (28, 0, 0, [106, 7, 3, 105]), (0, 0, 1, []), (34, 0, 0, []), (2, 2, 0, []), (31, 0, 0, []), (5, 3, 0, []), (4, 0, 0, []), (28, 0, 0, [14, 9, 7, 225]), (2, 3, 0, []), (37, 18, 1, [137, 466, 7]), (20, 2, 0, []), (4, 0, 0, []), (28, 0, 7, [50, 9, 8, 232]), (2, 3, 0, []), (37, 37, 1, [159, 529, 8]), (4, 0, 0, []), (28, 0, 4, [27, 9, 7, 229]), (28, 0, 0, [106, 7, 3, 105]), (0, 0, 2, []), (34, 0, 0, []), (2, 2, 0, []), (31, 0, 0, []), (21, 3, 0, []), (24, 2, 0, [])]
def B73_2 : List MIns := [(0, 0, 0, []), (41, 1, 0, [])]
def B73_3 : List MIns := [(8, 2, 1, []), (23, 1, 0, [])]
def B73_4 : List MIns := [(0, 0, 1, []), (41, 1, 0, [])]
def P73 : List (List MIns) := [B73_0, B73_1, B73_2, B73_3, B73_4]
def B74_0 : List MIns := [(4, 0, 0, []), (28, 0, 0, [14, 9, 7, 225]), (28, 0, 0, [106, 7, 3, 105]), (2, 2, 0, []), (34, 0, 0, []), (2, 1, 0, []), (31, 0, 0, []), (5, 5, 0, []), (0, 0, 0, []), (5, 6, 0, []), (2, 3, 0, []), (5, 7, 0, []), (24, 1, 0, [])]
def B74_1 : List MIns := [(2, 7, 0, []), (2, 4, 0, []), (21, 3, 4, []), (4, 0, 0, []), (28, 0, 0, [14, 9, 7, 225]), (28, 0, 0, [106, 7, 3, 105]), (2, 2, 0, []), (34, 0, 0, []), (2, 1, 0, []), (2, 7, 0, []), (32, 0, 0, []), (4, 0, 0, []), (0, 0, 0, []), (37, 72, 1, [213, 627, 9]), (20, 2, 0, []), (2, 6, 0, []), (0, 0, 1, []), (2, 7, 0, []), (9, 5, 0, []), (9, 4, 0, []), (5, 6, 0, []), (24, 2, 0, [])]
def B74_2 : List MIns := [(8, 7, 1, []), (23, 1, 0, [])]
def B74_3 : List MIns := [(4, 0, 0, []), (28, 0, 0, [14, 9, 7, 225]), (28, 0, 0, [106, 7, 3, 105]), (2, 2, 0, []), (34, 0, 0, []), (2, 1, 0, []), (2, 5, 0, []), (32, 0, 0, []), (2, 6, 0, []), (41, 0, 0, [])]
def P74 : List (List MIns) := [B74_0, B74_1, B74_2, B74_3]
def B75_0 : List MIns := [(4, 0, 0, []), (28, 0, 10, [62, 9, 2, 235]), (0, 0, 0, []), (36, 9, 2, [240, 602, 0]), (4, 0, 0, []), (28, 0, 0, [14, 9, 7, 225]), (28, 0, 0, [106, 7, 3, 105]), (0, 0, 1, []), (34, 0, 0, []), (2, 1, 0, []), (31, 0, 0, []), (5, 3, 0, []), (0, 0, 1, []), (5, 4, 0, []), (24, 1, 0, [])]
def B75_1 : List MIns := [(2, 4, 0, []), (0, 1, 20, []), (21, 6, 4, []), (2, 2, 0, []), (2, 4, 0, []), (36, 93, 2, [210, 614, 0]), (20, 2, 1, []), (23, 5, 0, [])]
def B75_2 : List MIns := [(4, 0, 0, []), (28, 0, 0, [14, 9, 7, 225]), (28, 0, 0, [106, 7, 3, 105]), (0, 0, 1, []), (34, 0, 0, []), (2, 1, 0, []), (2, 4, 0, []), (32, 0, 0, []), (4, 0, 0, []), (28, 0, 7, [50, 9, 8, 232]), (4, 0, 0, []), (28, 0, 2, [21, 9, 7, 227]), (0, 0, 0, []), (37, 25, 2, [175, 474, 8]), (0, 0, 0, []), (5, 5, 0, []), (24, 3, 0, [])]
def B75_3 : List MIns := [(2, 5, 0, []), (0, 1, 24, []), (21, 5, 3, []), (4, 0, 0, []), (28, 0, 7, [50, 9, 8, 232]), (2, 5, 0, []), (2, 5, 0, []), (37, 26, 2, [179, 478, 8]), (4, 0, 0, []), (28, 0, 7, [50, 9, 8, 232]), (2, 1, 0, []), (37, 37, 1, [159, 529, 8]), (5, 6, 0, []), (2, 6, 0, []), (0, 1, 21, []), (36, 92, 2, [80, 273, 0]), (20, 4, 0, []), (4, 0, 0, []), (28, 0, 10, [62, 9, 2, 235]), (2, 5, 0, []), (0, 1, 21, []), (9, 2, 0, []), (2, 6, 0, []), (9, 0, 0, []), (19, 0, 0, []), (31, 0, 0, []), (0, 0, 1, []), (9, 0, 0, []), (32, 0, 0, []), (24, 4, 0, [])]
def B75_4 : List MIns := [(8, 5, 1, []), (23, 3, 0, [])]
def B75_5 : List MIns := [(8, 4, 1, []), (23, 1, 0, [])]
def B75_6 : List MIns := [(4, 0, 0, []), (28, 0, 0, [14, 9, 7, 225]), (28, 0, 0, [106, 7, 3, 105]), (0, 0, 1, []), (34, 0, 0, []), (2, 1, 0, []), (2, 3, 0, []), (32, 0, 0, []), (44, 0, 0, [])]
def P75 : List (List MIns) := [B75_0, B75_1, B75_2, B75_3, B75_4, B75_5, B75_6]
def B76_0 : List MIns := [(0, 0, 0, []), (5, 2, 0, []), (0, 0, 0, []), (5, 3, 0, []), (24, 1, 0, [])]
def B76_1 : List MIns := [(2, 3, 0, []), (0, 1, 21, []), (21, 2, 3, []), (2, 2, 0, []), (4, 0, 0, []), (28, 0, 10, [62, 9, 2, 235]), (2, 1, 0, []), (0, 1, 21, []), (9, 2, 0, []), (2, 3, 0, []), (9, 0, 0, []), (31, 0, 0, []), (50, 0, 0, [246, 655]), (5, 2, 0, []), (8, 3, 1, []), (23, 1, 0, [])]
def B76_2 : List MIns := [(2, 2, 0, []), (41, 0, 0, [])]
def P76 : List (List MIns) := [B76_0, B76_1, B76_2]
def B77_0 : List MIns := [(1, 0, 1, []), (6, 3, 0, []), (0, 0, 0, []), (5, 5, 0, []), (24, 1, 0, [])]
def B77_1 : List MIns := [(2, 5, 0, []), (4, 0, 0, []), (28, 0, 2, [21, 9, 7, 227]), (27, 0, 3, [119, 7, 0, 114]), (21, 4, 3, []), (3, 3, 0, []), (2, 1, 0, []), (2, 5, 0, []), (36, 93, 2, [210, 614, 0]), (20, 2, 0, []), (0, 1, 16, []), (2, 2, 0, []), (9, 1, 0, []), (15, 0, 0, []), (23, 3, 0, [])]
def B77_2 : List MIns := [(2, 2, 0, []), (15, 0, 0, []), (24, 3, 0, [])]
def B77_3 : List MIns := [(11, 2, 0, []), (6, 3, 0, []), (8, 5, 1, []), (23, 1, 0, [])]
def B77_4 : List MIns := [(3, 3, 0, []), (42, 0, 0, [])]
def P77 : List (List MIns) := [B77_0, B77_1, B77_2, B77_3, B77_4]
def B78_0 : List MIns := [(4, 0, 0, []), (28, 0, 3, [24, 9, 7, 228]), (0, 0, 0, []), (29, 0, 3, [119, 7, 0, 114]), (2, 1, 0, []), (5, 3, 0, []), (0, 0, 0, []), (5, 4, 0, []), (24, 1, 0, [])]
def B78_1 : List MIns := [(2, 4, 0, []), (2, 2, 0, []), (21, 2, 3, []), (2, 3, 0, []), (36, 79, 1, [251, 674, 0]), (5, 3, 0, []), (2, 3, 0, []), (0, 1, 16, []), (9, 7, 0, []), (0, 0, 3, []), (10, 1, 0, []), (5, 5, 0, []), (2, 3, 0, []), (36, 79, 1, [251, 674, 0]), (5, 3, 0, []), (2, 3, 0, []), (0, 1, 16, []), (9, 7, 0, []), (0, 1, 24, []), (10, 1, 0, []), (5, 6, 0, []), (2, 3, 0, []), (36, 79, 1, [251, 674, 0]), (5, 3, 0, []), (4, 0, 0, []), (28, 0, 3, [24, 9, 7, 228]), (2, 5, 0, []), (2, 6, 0, []), (2, 3, 0, []), (0, 1, 16, []), (9, 7, 0, []), (0, 1, 6, []), (10, 1, 0, []), (37, 20, 3, [115, 442, 7]), (8, 4, 1, []), (23, 1, 0, [])]
def B78_2 : List MIns := [(44, 0, 0, [])]
def P78 : List (List MIns) := [B78_0, B78_1, B78_2]
def B79_0 : List MIns := [(0, 3, 1103515245, [254, 677]), (2, 0, 0, []), (9, 2, 0, []), (0, 2, 12345, []), (9, 0, 0, []), (41, 0, 0, [])]
def P79 : List (List MIns) := [B79_0]
def B80_0 : List MIns := [(4, 0, 0, []), (2, 1, 0, []), (37, 98, 1, [122, 454, 9]), (7, 4, 0, []), (4, 4, 0, []), (22, 1, 0, []), (2, 2, 0, []), (0, 0, 3, []), (36, 92, 2, [80, 273, 0]), (20, 1, 0, []), (2, 3, 0, []), (0, 1, 60, []), (21, 2, 5, []), (24, 1, 0, [])]
def B80_1 : List MIns := [(0, 1, (-2), []), (41, 0, 0, [])]
def B80_2 : List MIns := [(2, 3, 0, []), (20, 3, 3, []), (4, 0, 0, []), (0, 0, 5, []), (37, 99, 1, [129, 458, 9]), (41, 0, 0, [])]
def B80_3 : List MIns := [(4, 4, 0, []), (2, 2, 0, []), (2, 3, 0, []), (37, 12, 2, [255, 682, 6]), (2, 3, 0, []), (41, 0, 0, [])]
def P80 : List (List MIns) := [B80_0, B80_1, B80_2, B80_3]
def B81_0 : List MIns := [(4, 0, 0, []), (2, 1, 0, []), (37, 98, 1, [122, 454, 9]), (7, 2, 0, []), (4, 2, 0, []), (22, 1, 1, []), (0, 1, (-2), []), (41, 0, 0, [])]
def B81_1 : List MIns := [(4, 2, 0, []), (27, 0, 1, [126, 6, 0, 211]), (20, 2, 0, []), (4, 0, 0, []), (0, 0, 1, []), (37, 99, 1, [129, 458, 9]), (41, 0, 0, [])]
def B81_2 : List MIns := [(4, 2, 0, []), (0, 0, 1, []), (29, 0, 1, [126, 6, 1, 211]), (4, 2, 0, []), (27, 0, 3, [133, 6, 0, 215]), (41, 0, 0, [])]
def P81 : List (List MIns) := [B81_0, B81_1, B81_2]
def B82_0 : List MIns := [(4, 0, 0, []), (2, 1, 0, []), (37, 98, 1, [122, 454, 9]), (7, 5, 0, []), (4, 5, 0, []), (22, 1, 0, []), (2, 2, 0, []), (0, 0, 3, []), (36, 92, 2, [80, 273, 0]), (20, 2, 1, []), (24, 1, 0, [])]
def B82_1 : List MIns := [(0, 1, (-2), []), (41, 0, 0, [])]
def B82_2 : List MIns := [(4, 5, 0, []), (2, 2, 0, []), (2, 3, 0, []), (37, 13, 2, [258, 695, 6]), (5, 6, 0, []), (2, 6, 0, []), (20, 3, 0, []), (4, 0, 0, []), (2, 6, 0, []), (37, 99, 1, [129, 458, 9]), (41, 0, 0, [])]
def B82_3 : List MIns := [(4, 5, 0, []), (2, 3, 0, []), (2, 4, 0, []), (37, 15, 2, [261, 700, 6]), (0, 0, 1, []), (41, 0, 0, [])]
def P82 : List (List MIns) := [B82_0, B82_1, B82_2, B82_3]
def B83_0 : List MIns := [(4, 0, 0, []), (2, 1, 0, []), (37, 98, 1, [122, 454, 9]), (7, 4, 0, []), (4, 4, 0, []), (22, 1, 0, []), (2, 2, 0, []), (0, 0, 3, []), (36, 92, 2, [80, 273, 0]), (20, 2, 1, []), (24, 1, 0, [])]
def B83_1 : List MIns := [(0, 4, (-2147483648), [264, 712]), (41, 0, 0, [])]
def B83_2 : List MIns := [(4, 4, 0, []), (2, 2, 0, []), (2, 3, 0, []), (37, 13, 2, [258, 695, 6]), (5, 5, 0, []), (2, 5, 0, []), (20, 3, 0, []), (4, 0, 0, []), (2, 5, 0, []), (37, 99, 1, [129, 458, 9]), (18, 0, 0, []), (0, 4, (-2147483648), [264, 712]), (41, 0, 0, [])]
def B83_3 : List MIns := [(4, 4, 0, []), (28, 0, 0, [134, 6, 2, 209]), (2, 3, 0, []), (31, 0, 0, []), (41, 0, 0, [])]
def P83 : List (List MIns) := [B83_0, B83_1, B83_2, B83_3]
def B84_0 : List MIns := [(4, 0, 0, []), (2, 1, 0, []), (37, 98, 1, [122, 454, 9]), (7, 6, 0, []), (4, 0, 0, []), (2, 3, 0, []), (37, 98, 1, [122, 454, 9]), (7, 7, 0, []), (4, 6, 0, []), (22, 1, 0, []), (4, 7, 0, []), (22, 2, 1, []), (24, 1, 0, [])]
def B84_1 : List MIns := [(0, 1, (-2), []), (41, 0, 0, [])]
def B84_2 : List MIns := [(4, 6, 0, []), (27, 0, 1, [126, 6, 0, 211]), (20, 3, 1, []), (4, 7, 0, []), (27, 0, 1, [126, 6, 0, 211]), (20, 4, 0, []), (24, 3, 0, [])]
def B84_3 : List MIns := [(4, 0, 0, []), (0, 0, 1, []), (37, 99, 1, [129, 458, 9]), (41, 0, 0, [])]
def B84_4 : List MIns := [(4, 6, 0, []), (27, 0, 2, [265, 6, 0, 213]), (4, 7, 0, []), (27, 0, 2, [265, 6, 0, 213]), (21, 5, 0, []), (4, 0, 0, []), (0, 0, 4, []), (37, 99, 1, [129, 458, 9]), (41, 0, 0, [])]
def B84_5 : List MIns := [(4, 6, 0, []), (2, 2, 0, []), (2, 5, 0, []), (37, 14, 2, [268, 717, 6]), (20, 6, 0, []), (4, 7, 0, []), (2, 4, 0, []), (2, 5, 0, []), (37, 14, 2, [268, 717, 6]), (20, 7, 1, []), (24, 6, 0, [])]
def B84_6 : List MIns := [(4, 0, 0, []), (0, 0, 2, []), (37, 99, 1, [129, 458, 9]), (41, 0, 0, [])]
def B84_7 : List MIns := [(4, 6, 0, []), (28, 0, 0, [134, 6, 2, 209]), (2, 2, 0, []), (4, 7, 0, []), (28, 0, 0, [134, 6, 2, 209]), (2, 4, 0, []), (2, 5, 0, []), (40, 0, 0, [271, 721]), (0, 0, 1, []), (41, 0, 0, [])]
def P84 : List (List MIns) := [B84_0, B84_1, B84_2, B84_3, B84_4, B84_5, B84_6, B84_7]
def B85_0 : List MIns := [(4, 0, 0, []), (2, 2, 0, []), (37, 98, 1, [122, 454, 9]), (7, 3, 0, []), (4, 0, 0, []), (28, 0, 0, [14, 9, 7, 225]), (2, 1, 0, []), (37, 18, 1, [137, 466, 7]), (20, 1, 0, []), (4, 3, 0, []), (22, 2, 1, []), (24, 1, 0, [])]
def B85_1 : List MIns := [(0, 1, (-2), []), (41, 0, 0, [])]
def B85_2 : List MIns := [(4, 3, 0, []), (27, 0, 1, [126, 6, 0, 211]), (20, 3, 0, []), (4, 0, 0, []), (0, 0, 1, []), (37, 99, 1, [129, 458, 9]), (41, 0, 0, [])]
def B85_3 : List MIns := [(4, 3, 0, []), (27, 0, 3, [133, 6, 0, 215]), (0, 1, 24, []), (51, 0, 0, [277, 728]), (5, 4, 0, []), (4, 0, 0, []), (28, 0, 7, [50, 9, 8, 232]), (4, 0, 0, []), (28, 0, 2, [21, 9, 7, 227]), (0, 0, 0, []), (37, 25, 2, [175, 474, 8]), (0, 0, 0, []), (5, 5, 0, []), (24, 4, 0, [])]
def B85_4 : List MIns := [(2, 5, 0, []), (2, 4, 0, []), (21, 5, 3, []), (4, 0, 0, []), (28, 0, 7, [50, 9, 8, 232]), (2, 5, 0, []), (2, 5, 0, []), (37, 26, 2, [179, 478, 8]), (4, 3, 0, []), (2, 5, 0, []), (4, 0, 0, []), (28, 0, 7, [50, 9, 8, 232]), (2, 1, 0, []), (37, 37, 1, [159, 529, 8]), (37, 15, 2, [261, 700, 6]), (8, 5, 1, []), (23, 4, 0, [])]
def B85_5 : List MIns := [(2, 4, 0, []), (41, 0, 0, [])]
def P85 : List (List MIns) := [B85_0, B85_1, B85_2, B85_3, B85_4, B85_5]
def B86_0 : List MIns := [(2, 1, 0, []), (25, 10, 0, [1, 2, 3, 4, 5, 6, 7, 8, 9])]
def B86_1 : List MIns := [(4, 0, 0, []), (28, 0, 0, [14, 9, 7, 225]), (27, 0, 3, [119, 7, 0, 114]), (41, 0, 0, [])]
def B86_2 : List MIns := [(4, 0, 0, []), (28, 0, 1, [18, 9, 7, 226]), (27, 0, 3, [119, 7, 0, 114]), (41, 0, 0, [])]
def B86_3 : List MIns := [(4, 0, 0, []), (28, 0, 5, [35, 9, 5, 230]), (27, 0, 2, [94, 5, 0, 137]), (41, 0, 0, [])]
def B86_4 : List MIns := [(4, 0, 0, []), (28, 0, 6, [42, 9, 5, 231]), (27, 0, 2, [94, 5, 0, 137]), (41, 0, 0, [])]
def B86_5 : List MIns := [(4, 0, 0, []), (28, 0, 2, [21, 9, 7, 227]), (27, 0, 3, [119, 7, 0, 114]), (41, 0, 0, [])]
def B86_6 : List MIns := [(4, 0, 0, []), (0, 1, 23, []), (37, 52, 1, [280, 733, 9]), (41, 0, 0, [])]
def B86_7 : List MIns := [(4, 0, 0, []), (0, 1, 23, []), (37, 100, 1, [141, 470, 9]), (4, 0, 0, []), (28, 0, 7, [50, 9, 8, 232]), (0, 0, 2, []), (37, 40, 1, [185, 567, 8]), (36, 0, 1, [199, 605, 0]), (41, 0, 0, [])]
def B86_8 : List MIns := [(4, 0, 0, []), (28, 0, 4, [27, 9, 7, 229]), (27, 0, 3, [119, 7, 0, 114]), (41, 0, 0, [])]
def B86_9 : List MIns := [(4, 0, 0, []), (27, 0, 12, [71, 9, 0, 237]), (41, 0, 0, [])]
def B86_10 : List MIns := [(0, 1, (-2), []), (41, 0, 0, [])]
def P86 : List (List MIns) := [B86_0, B86_1, B86_2, B86_3, B86_4, B86_5, B86_6, B86_7, B86_8, B86_9, B86_10]
def B87_0 : List MIns := [(1, 1, 17, [283, 738]), (6, 1, 0, []), (0, 0, 0, []), (5, 3, 0, []), (24, 1, 0, [])]
def B87_1 : List MIns := [(2, 3, 0, []), (0, 1, 7, []), (21, 2, 4, []), (3, 1, 0, []), (4, 0, 0, []), (2, 3, 0, []), (37, 86, 1, [285, 739, 9]), (15, 0, 0, []), (36, 91, 2, [288, 740, 0]), (6, 1, 0, []), (8, 3, 1, []), (23, 1, 0, [])]
def B87_2 : List MIns := [(3, 1, 0, []), (4, 0, 0, []), (0, 0, 0, []), (37, 44, 1, [292, 744, 9]), (15, 0, 0, []), (36, 91, 2, [288, 740, 0]), (4, 0, 0, []), (0, 0, 1, []), (37, 44, 1, [292, 744, 9]), (15, 0, 0, []), (36, 91, 2, [288, 740, 0]), (6, 1, 0, []), (0, 0, 0, []), (5, 3, 0, []), (24, 3, 0, [])]
def B87_3 : List MIns := [(2, 3, 0, []), (4, 0, 0, []), (28, 0, 0, [14, 9, 7, 225]), (27, 0, 3, [119, 7, 0, 114]), (21, 4, 3, []), (4, 0, 0, []), (3, 1, 0, []), (2, 3, 0, []), (37, 88, 2, [294, 745, 9]), (6, 1, 0, []), (8, 3, 1, []), (23, 3, 0, [])]
def B87_4 : List MIns := [(0, 0, 0, []), (5, 3, 0, []), (24, 5, 0, [])]
def B87_5 : List MIns := [(2, 3, 0, []), (4, 0, 0, []), (28, 0, 1, [18, 9, 7, 226]), (27, 0, 3, [119, 7, 0, 114]), (21, 6, 3, []), (4, 0, 0, []), (3, 1, 0, []), (2, 3, 0, []), (37, 89, 2, [298, 756, 9]), (6, 1, 0, []), (8, 3, 1, []), (23, 5, 0, [])]
def B87_6 : List MIns := [(0, 0, 0, []), (5, 3, 0, []), (24, 7, 0, [])]
def B87_7 : List MIns := [(2, 3, 0, []), (0, 1, 24, []), (21, 8, 3, []), (3, 1, 0, []), (4, 0, 0, []), (2, 3, 0, []), (37, 52, 1, [280, 733, 9]), (15, 0, 0, []), (36, 91, 2, [288, 740, 0]), (6, 1, 0, []), (8, 3, 1, []), (23, 7, 0, [])]
def B87_8 : List MIns := [(3, 1, 0, []), (4, 0, 0, []), (0, 0, 0, []), (37, 53, 1, [301, 768, 9]), (15, 0, 0, []), (36, 91, 2, [288, 740, 0]), (4, 0, 0, []), (0, 0, 1, []), (37, 53, 1, [301, 768, 9]), (15, 0, 0, []), (36, 91, 2, [288, 740, 0]), (6, 1, 0, []), (3, 1, 0, []), (4, 0, 0, []), (37, 55, 0, [304, 769, 9]), (15, 0, 0, []), (36, 91, 2, [288, 740, 0]), (6, 1, 0, []), (3, 1, 0, []), (4, 0, 0, []), (0, 0, 0, []), (37, 56, 1, [307, 770, 9]), (15, 0, 0, []), (36, 91, 2, [288, 740, 0]), (4, 0, 0, []), (0, 0, 1, []), (37, 56, 1, [307, 770, 9]), (15, 0, 0, []), (36, 91, 2, [288, 740, 0]), (6, 1, 0, []), (3, 1, 0, []), (4, 0, 0, []), (0, 0, (-1), []), (37, 60, 1, [310, 771, 9]), (15, 0, 0, []), (36, 91, 2, [288, 740, 0]), (4, 0, 0, []), (0, 0, 0, []), (37, 60, 1, [310, 771, 9]), (15, 0, 0, []), (36, 91, 2, [288, 740, 0]), (6, 1, 0, []), (3, 1, 0, []), (4, 0, 0, []), (37, 67, 0, [313, 772, 9]), (15, 0, 0, []), (36, 91, 2, [288, 740, 0]), (6, 1, 0, []), (3, 1, 0, []), (4, 0, 0, []), (0, 1, 7, []), (0, 1, 6, []), (0, 0, 0, []), (37, 71, 3, [316, 773, 9]), (15, 0, 0, []), (36, 91, 2, [288, 740, 0]), (4, 0, 0, []), (0, 1, 7, []), (0, 1, 6, []), (0, 0, 1, []), (37, 71, 3, [316, 773, 9]), (15, 0, 0, []), (36, 91, 2, [288, 740, 0]), (42, 0, 0, [])]
def P87 : List (List MIns) := [B87_0, B87_1, B87_2, B87_3, B87_4, B87_5, B87_6, B87_7, B87_8]
def B88_0 : List MIns := [(3, 1, 0, []), (4, 0, 0, []), (2, 3, 0, []), (0, 0, 0, []), (37, 45, 2, [319, 749, 9]), (15, 0, 0, []), (36, 91, 2, [288, 740, 0]), (4, 0, 0, []), (2, 3, 0, []), (0, 0, 1, []), (37, 45, 2, [319, 749, 9]), (15, 0, 0, []), (36, 91, 2, [288, 740, 0]), (6, 4, 0, []), (0, 0, 0, []), (5, 6, 0, []), (24, 1, 0, [])]
def B88_1 : List MIns := [(2, 6, 0, []), (30, 0, 0, [322, 750]), (33, 0, 0, []), (21, 4, 3, []), (0, 0, 0, []), (5, 7, 0, []), (24, 2, 0, [])]
def B88_2 : List MIns := [(2, 7, 0, []), (0, 0, 5, []), (21, 3, 3, []), (3, 4, 0, []), (4, 0, 0, []), (30, 0, 0, [322, 750]), (2, 6, 0, []), (31, 0, 0, []), (2, 3, 0, []), (2, 7, 0, []), (37, 50, 3, [325, 752, 9]), (15, 0, 0, []), (36, 91, 2, [288, 740, 0]), (6, 4, 0, []), (8, 7, 1, []), (23, 2, 0, [])]
def B88_3 : List MIns := [(8, 6, 1, []), (23, 1, 0, [])]
def B88_4 : List MIns := [(3, 4, 0, []), (4, 0, 0, []), (2, 3, 0, []), (0, 0, 0, []), (37, 68, 2, [328, 753, 9]), (15, 0, 0, []), (36, 91, 2, [288, 740, 0]), (4, 0, 0, []), (2, 3, 0, []), (0, 0, 1, []), (37, 68, 2, [328, 753, 9]), (15, 0, 0, []), (36, 91, 2, [288, 740, 0]), (6, 4, 0, []), (3, 4, 0, []), (4, 0, 0, []), (2, 3, 0, []), (37, 69, 1, [331, 754, 9]), (15, 0, 0, []), (36, 91, 2, [288, 740, 0]), (6, 4, 0, []), (3, 4, 0, []), (4, 0, 0, []), (0, 0, 5, []), (2, 3, 0, []), (0, 0, 0, []), (37, 70, 3, [334, 755, 9]), (36, 91, 2, [288, 740, 0]), (4, 0, 0, []), (0, 0, 5, []), (2, 3, 0, []), (0, 0, 1, []), (37, 70, 3, [334, 755, 9]), (36, 91, 2, [288, 740, 0]), (42, 0, 0, [])]
def P88 : List (List MIns) := [B88_0, B88_1, B88_2, B88_3, B88_4]
def B89_0 : List MIns := [(3, 1, 0, []), (6, 4, 0, []), (0, 0, 0, []), (5, 6, 0, []), (24, 1, 0, [])]
def B89_1 : List MIns := [(2, 6, 0, []), (0, 0, 4, []), (21, 2, 3, []), (3, 4, 0, []), (4, 0, 0, []), (2, 3, 0, []), (2, 6, 0, []), (37, 46, 2, [338, 760, 9]), (15, 0, 0, []), (36, 91, 2, [288, 740, 0]), (6, 4, 0, []), (8, 6, 1, []), (23, 1, 0, [])]
def B89_2 : List MIns := [(0, 0, 0, []), (5, 6, 0, []), (24, 3, 0, [])]
def B89_3 : List MIns := [(2, 6, 0, []), (30, 1, 0, [341, 761]), (33, 0, 0, []), (21, 6, 3, []), (0, 0, 0, []), (5, 7, 0, []), (24, 4, 0, [])]
def B89_4 : List MIns := [(2, 7, 0, []), (0, 0, 3, []), (21, 5, 3, []), (3, 4, 0, []), (4, 0, 0, []), (30, 1, 0, [341, 761]), (2, 6, 0, []), (31, 0, 0, []), (2, 3, 0, []), (2, 7, 0, []), (37, 51, 3, [344, 763, 9]), (15, 0, 0, []), (36, 91, 2, [288, 740, 0]), (6, 4, 0, []), (8, 7, 1, []), (23, 4, 0, [])]
def B89_5 : List MIns := [(8, 6, 1, []), (23, 3, 0, [])]
def B89_6 : List MIns := [(3, 4, 0, []), (4, 0, 0, []), (2, 3, 0, []), (37, 54, 1, [347, 764, 9]), (15, 0, 0, []), (36, 91, 2, [288, 740, 0]), (6, 4, 0, []), (3, 4, 0, []), (4, 0, 0, []), (2, 3, 0, []), (0, 0, 0, []), (4, 0, 0, []), (28, 0, 0, [14, 9, 7, 225]), (27, 0, 3, [119, 7, 0, 114]), (37, 61, 3, [188, 575, 9]), (36, 90, 2, [350, 765, 0]), (6, 4, 0, []), (3, 4, 0, []), (4, 0, 0, []), (2, 3, 0, []), (0, 0, 1, []), (0, 1, 24, []), (37, 61, 3, [188, 575, 9]), (36, 90, 2, [350, 765, 0]), (6, 4, 0, []), (3, 4, 0, []), (4, 0, 0, []), (2, 3, 0, []), (0, 0, 2, []), (0, 1, 9, []), (37, 61, 3, [188, 575, 9]), (36, 90, 2, [350, 765, 0]), (42, 0, 0, [])]
def P89 : List (List MIns) := [B89_0, B89_1, B89_2, B89_3, B89_4, B89_5, B89_6]
def B90_0 : List MIns := [(3, 0, 0, []), (2, 2, 0, []), (0, 0, 0, []), (36, 62, 2, [192, 579, 0]), (15, 0, 0, []), (36, 91, 2, [288, 740, 0]), (2, 2, 0, []), (0, 0, 1, []), (36, 62, 2, [192, 579, 0]), (15, 0, 0, []), (36, 91, 2, [288, 740, 0]), (42, 0, 0, [])]
def P90 : List (List MIns) := [B90_0]
def B91_0 : List MIns := [(1, 1, 31, [353, 743]), (3, 0, 0, []), (11, 2, 0, []), (3, 2, 0, []), (11, 0, 0, []), (42, 0, 0, [])]
def P91 : List (List MIns) := [B91_0]
def B92_0 : List MIns := [(2, 0, 0, []), (20, 1, 2, []), (2, 0, 0, []), (2, 1, 0, []), (21, 1, 3, []), (0, 0, 1, []), (23, 2, 0, [])]
def B92_1 : List MIns := [(0, 0, 0, []), (24, 2, 0, [])]
def B92_2 : List MIns := [(41, 1, 0, [])]
def P92 : List (List MIns) := [B92_0, B92_1, B92_2]
def B93_0 : List MIns := [(2, 0, 0, []), (2, 1, 0, []), (9, 6, 0, []), (0, 0, 1, []), (9, 3, 0, []), (20, 1, 0, []), (0, 0, 1, []), (23, 2, 0, [])]
def B93_1 : List MIns := [(0, 0, 0, []), (24, 2, 0, [])]
def B93_2 : List MIns := [(41, 1, 0, [])]
def P93 : List (List MIns) := [B93_0, B93_1, B93_2]
def B94_0 : List MIns := [(2, 0, 0, []), (2, 1, 0, []), (9, 1, 0, []), (2, 2, 0, []), (36, 92, 2, [80, 273, 0]), (20, 1, 0, []), (2, 0, 0, []), (2, 1, 0, []), (9, 1, 0, []), (23, 2, 0, [])]
def B94_1 : List MIns := [(0, 0, (-1), []), (24, 2, 0, [])]
def B94_2 : List MIns := [(41, 0, 0, [])]
def P94 : List (List MIns) := [B94_0, B94_1, B94_2]
def B95_0 : List MIns := [(2, 0, 0, []), (0, 1, 97, []), (0, 1, 20, []), (36, 94, 3, [355, 305, 0]), (5, 1, 0, []), (2, 1, 0, []), (0, 0, (-1), []), (21, 1, 1, []), (0, 0, (-1), []), (23, 2, 0, [])]
def B95_1 : List MIns := [(2, 1, 0, []), (0, 0, 1, []), (9, 0, 0, []), (24, 2, 0, [])]
def B95_2 : List MIns := [(41, 0, 0, [])]
def P95 : List (List MIns) := [B95_0, B95_1, B95_2]
def B96_0 : List MIns := [(2, 0, 0, []), (0, 0, 3, []), (36, 92, 2, [80, 273, 0]), (20, 1, 0, []), (2, 1, 0, []), (0, 1, 24, []), (36, 92, 2, [80, 273, 0]), (20, 1, 0, []), (2, 2, 0, []), (0, 1, 6, []), (36, 92, 2, [80, 273, 0]), (20, 1, 0, []), (0, 0, 1, []), (23, 2, 0, [])]
def B96_1 : List MIns := [(0, 0, 0, []), (24, 2, 0, [])]
def B96_2 : List MIns := [(41, 1, 0, [])]
def P96 : List (List MIns) := [B96_0, B96_1, B96_2]
def B97_0 : List MIns := [(2, 1, 0, []), (20, 1, 1, []), (4, 0, 0, []), (28, 0, 5, [35, 9, 5, 230]), (43, 0, 0, [])]
def B97_1 : List MIns := [(2, 1, 0, []), (0, 0, 1, []), (21, 2, 1, []), (4, 0, 0, []), (28, 0, 6, [42, 9, 5, 231]), (23, 3, 0, [])]
def B97_2 : List MIns := [(45, 0, 0, []), (24, 3, 0, [])]
def B97_3 : List MIns := [(43, 0, 0, [])]
def P97 : List (List MIns) := [B97_0, B97_1, B97_2, B97_3]
def B98_0 : List MIns := [(2, 1, 0, []), (0, 0, 4, []), (36, 92, 2, [80, 273, 0]), (20, 1, 0, []), (4, 0, 0, []), (28, 0, 11, [67, 9, 4, 236]), (2, 1, 0, []), (34, 0, 0, []), (23, 2, 0, [])]
def B98_1 : List MIns := [(45, 0, 0, []), (24, 2, 0, [])]
def B98_2 : List MIns := [(43, 0, 0, [])]
def P98 : List (List MIns) := [B98_0, B98_1, B98_2]
def B99_0 : List MIns := [(4, 0, 0, []), (2, 1, 0, []), (29, 0, 12, [71, 9, 0, 237]), (0, 1, (-10), []), (2, 1, 0, []), (9, 1, 0, []), (41, 0, 0, [])]
def P99 : List (List MIns) := [B99_0]
def B100_0 : List MIns := [(4, 0, 0, []), (28, 0, 7, [50, 9, 8, 232]), (4, 0, 0, []), (28, 0, 2, [21, 9, 7, 227]), (0, 0, 0, []), (37, 25, 2, [175, 474, 8]), (4, 0, 0, []), (28, 0, 7, [50, 9, 8, 232]), (0, 0, 0, []), (2, 1, 0, []), (37, 26, 2, [179, 478, 8]), (44, 0, 0, [])]
def P100 : List (List MIns) := [B100_0]
def B101_0 : List MIns := [(4, 0, 0, []), (27, 0, 9, [58, 9, 0, 234]), (20, 1, 0, []), (4, 0, 0, []), (28, 0, 8, [54, 9, 2, 233]), (0, 0, (-1), []), (36, 9, 2, [240, 602, 0]), (4, 0, 0, []), (0, 0, 0, []), (29, 0, 9, [58, 9, 1, 234]), (24, 1, 0, [])]
def B101_1 : List MIns := [(2, 1, 0, []), (4, 0, 0, []), (28, 0, 8, [54, 9, 2, 233]), (33, 0, 0, []), (36, 92, 2, [80, 273, 0]), (20, 2, 1, []), (0, 0, 0, []), (41, 0, 0, [])]
def B101_2 : List MIns := [(4, 0, 0, []), (28, 0, 8, [54, 9, 2, 233]), (2, 1, 0, []), (31, 0, 0, []), (0, 0, (-1), []), (21, 3, 1, []), (4, 0, 0, []), (28, 0, 7, [50, 9, 8, 232]), (4, 0, 0, []), (28, 0, 2, [21, 9, 7, 227]), (2, 1, 0, []), (37, 25, 2, [175, 474, 8]), (4, 0, 0, []), (28, 0, 7, [50, 9, 8, 232]), (0, 0, 0, []), (0, 1, 23, []), (37, 26, 2, [179, 478, 8]), (4, 0, 0, []), (28, 0, 8, [54, 9, 2, 233]), (2, 1, 0, []), (4, 0, 0, []), (28, 0, 7, [50, 9, 8, 232]), (37, 39, 0, [182, 563, 8]), (32, 0, 0, []), (24, 3, 0, [])]
def B101_3 : List MIns := [(4, 0, 0, []), (28, 0, 8, [54, 9, 2, 233]), (2, 1, 0, []), (31, 0, 0, []), (41, 0, 0, [])]
def P101 : List (List MIns) := [B101_0, B101_1, B101_2, B101_3]
def B102_0 : List MIns := [(3, 0, 0, []), (3, 2, 0, []), (16, 0, 0, []), (20, 1, 2, []), (3, 0, 0, []), (3, 4, 0, []), (16, 0, 0, []), (20, 1, 4, []), (0, 0, 1, []), (23, 2, 0, [])]
def B102_1 : List MIns := [(0, 0, 0, []), (24, 2, 0, [])]
def B102_2 : List MIns := [(41, 1, 0, [])]
def P102 : List (List MIns) := [B102_0, B102_1, B102_2]
def B103_0 : List MIns := [(1, 1, (-9223372036854775808), [79, 1202]), (2, 0, 0, []), (15, 0, 0, []), (11, 1, 0, []), (42, 0, 0, [])]
def P103 : List (List MIns) := [B103_0]
def B104_0 : List MIns := [(2, 0, 0, []), (15, 0, 0, []), (1, 0, 0, []), (1, 0, 1, []), (36, 102, 3, [81, 879, 0]), (41, 1, 0, [])]
def P104 : List (List MIns) := [B104_0]
def B105_0 : List MIns := [(2, 0, 0, []), (2, 1, 0, []), (9, 6, 0, []), (0, 0, 1, []), (9, 3, 0, []), (0, 0, 1, []), (21, 1, 1, []), (0, 0, 1, []), (23, 2, 0, [])]
def B105_1 : List MIns := [(0, 0, 0, []), (24, 2, 0, [])]
def B105_2 : List MIns := [(41, 1, 0, [])]
def P105 : List (List MIns) := [B105_0, B105_1, B105_2]
def B106_0 : List MIns := [(0, 0, 0, []), (5, 1, 0, []), (2, 0, 0, []), (5, 2, 0, []), (24, 1, 0, [])]
def B106_1 : List MIns := [(2, 2, 0, []), (20, 2, 0, []), (8, 1, 1, []), (2, 2, 0, []), (2, 2, 0, []), (0, 0, 1, []), (9, 1, 0, []), (9, 3, 0, []), (5, 2, 0, []), (23, 1, 0, [])]
def B106_2 : List MIns := [(2, 1, 0, []), (41, 0, 0, [])]
def P106 : List (List MIns) := [B106_0, B106_1, B106_2]
def B107_0 : List MIns := [(2, 0, 0, []), (2, 1, 0, []), (21, 1, 3, []), (2, 0, 0, []), (23, 2, 0, [])]
def B107_1 : List MIns := [(2, 1, 0, []), (24, 2, 0, [])]
def B107_2 : List MIns := [(41, 0, 0, [])]
def P107 : List (List MIns) := [B107_0, B107_1, B107_2]
def B108_0 : List MIns := [(2, 0, 0, []), (2, 1, 0, []), (21, 1, 5, []), (2, 0, 0, []), (23, 2, 0, [])]
def B108_1 : List MIns := [(2, 1, 0, []), (24, 2, 0, [])]
def B108_2 : List MIns := [(41, 0, 0, [])]
def P108 : List (List MIns) := [B108_0, B108_1, B108_2]
def B109_0 : List MIns := [(3, 0, 0, []), (6, 5, 0, []), (3, 2, 0, []), (6, 7, 0, []), (24, 1, 0, [])]
def B109_1 : List MIns := [(3, 7, 0, []), (1, 0, 0, []), (16, 0, 0, []), (20, 2, 0, []), (3, 5, 0, []), (3, 7, 0, []), (12, 1, 0, []), (6, 9, 0, []), (3, 7, 0, []), (6, 5, 0, []), (3, 9, 0, []), (6, 7, 0, []), (23, 1, 0, [])]
def B109_2 : List MIns := [(2, 4, 0, []), (20, 3, 1, []), (3, 0, 0, []), (23, 4, 0, [])]
def B109_3 : List MIns := [(3, 2, 0, []), (24, 4, 0, [])]
def B109_4 : List MIns := [(3, 5, 0, []), (12, 0, 0, []), (42, 0, 0, [])]
def P109 : List (List MIns) := [B109_0, B109_1, B109_2, B109_3, B109_4]
def B110_0 : List MIns := [(4, 0, 0, []), (2, 1, 0, []), (29, 0, 4, [85, 10, 0, 784]), (0, 1, (-10), []), (2, 1, 0, []), (9, 1, 0, []), (41, 0, 0, [])]
def P110 : List (List MIns) := [B110_0]
def B111_0 : List MIns := [(2, 0, 0, []), (15, 0, 0, []), (1, 0, 0, []), (1, 1, 3, [89, 878]), (36, 102, 3, [81, 879, 0]), (41, 1, 0, [])]
def P111 : List (List MIns) := [B111_0]
def B112_0 : List MIns := [(2, 1, 0, []), (36, 111, 1, [91, 875, 0]), (20, 1, 0, []), (2, 2, 0, []), (15, 0, 0, []), (1, 0, 0, []), (1, 1, 2, [95, 882]), (36, 102, 3, [81, 879, 0]), (20, 1, 0, []), (2, 3, 0, []), (0, 1, 60, []), (21, 2, 5, []), (24, 1, 0, [])]
def B112_1 : List MIns := [(0, 1, (-2), []), (41, 0, 0, [])]
def B112_2 : List MIns := [(2, 3, 0, []), (20, 3, 3, []), (4, 0, 0, []), (0, 0, 5, []), (37, 110, 1, [97, 883, 10]), (41, 0, 0, [])]
def B112_3 : List MIns := [(4, 0, 0, []), (28, 0, 0, [7, 10, 2, 780]), (2, 1, 0, []), (2, 2, 0, []), (32, 0, 0, []), (4, 0, 0, []), (28, 0, 1, [13, 10, 2, 781]), (2, 1, 0, []), (2, 3, 0, []), (32, 0, 0, []), (0, 0, 0, []), (5, 4, 0, []), (24, 4, 0, [])]
def B112_4 : List MIns := [(2, 4, 0, []), (2, 3, 0, []), (21, 5, 3, []), (4, 0, 0, []), (28, 0, 2, [16, 10, 2, 782]), (0, 1, 60, []), (2, 1, 0, []), (9, 2, 0, []), (2, 4, 0, []), (9, 0, 0, []), (0, 0, 0, []), (32, 0, 0, []), (8, 4, 1, []), (23, 4, 0, [])]
def B112_5 : List MIns := [(2, 3, 0, []), (41, 0, 0, [])]
def P112 : List (List MIns) := [B112_0, B112_1, B112_2, B112_3, B112_4, B112_5]
def B113_0 : List MIns := [(2, 1, 0, []), (36, 111, 1, [91, 875, 0]), (20, 1, 1, []), (0, 1, (-2), []), (41, 0, 0, [])]
def B113_1 : List MIns := [(4, 0, 0, []), (28, 0, 0, [7, 10, 2, 780]), (2, 1, 0, []), (31, 0, 0, []), (20, 2, 3, []), (4, 0, 0, []), (0, 0, 1, []), (37, 110, 1, [97, 883, 10]), (41, 0, 0, [])]
def B113_2 : List MIns := [(4, 0, 0, []), (28, 0, 0, [7, 10, 2, 780]), (2, 1, 0, []), (0, 0, (-1), []), (32, 0, 0, []), (4, 0, 0, []), (28, 0, 1, [13, 10, 2, 781]), (2, 1, 0, []), (31, 0, 0, []), (41, 0, 0, [])]
def P113 : List (List MIns) := [B113_0, B113_1, B113_2]
def B114_0 : List MIns := [(4, 0, 0, []), (28, 0, 0, [7, 10, 2, 780]), (2, 1, 0, []), (31, 0, 0, []), (20, 1, 3, []), (4, 0, 0, []), (0, 0, 1, []), (37, 110, 1, [97, 883, 10]), (41, 0, 0, [])]
def B114_1 : List MIns := [(4, 0, 0, []), (28, 0, 0, [7, 10, 2, 780]), (2, 1, 0, []), (31, 0, 0, []), (2, 2, 0, []), (21, 2, 0, []), (4, 0, 0, []), (0, 0, 3, []), (37, 110, 1, [97, 883, 10]), (41, 0, 0, [])]
def B114_2 : List MIns := [(2, 3, 0, []), (15, 0, 0, []), (1, 0, 0, []), (4, 0, 0, []), (28, 0, 1, [13, 10, 2, 781]), (2, 1, 0, []), (31, 0, 0, []), (0, 0, 1, []), (9, 1, 0, []), (15, 0, 0, []), (36, 102, 3, [81, 879, 0]), (20, 3, 0, []), (0, 0, 0, []), (23, 4, 0, [])]
def B114_3 : List MIns := [(4, 0, 0, []), (0, 0, 2, []), (37, 110, 1, [97, 883, 10]), (24, 4, 0, [])]
def B114_4 : List MIns := [(41, 0, 0, [])]
def P114 : List (List MIns) := [B114_0, B114_1, B114_2, B114_3, B114_4]
def B115_0 : List MIns := [(2, 0, 0, []), (20, 1, 1, []), (2, 1, 0, []), (14, 0, 0, []), (23, 3, 0, [])]
def B115_1 : List MIns := [(2, 0, 0, []), (0, 0, 1, []), (21, 2, 1, []), (2, 1, 0, []), (14, 1, 0, []), (23, 3, 0, [])]
def B115_2 : List MIns := [(2, 1, 0, []), (24, 3, 0, [])]
def B115_3 : List MIns := [(41, 0, 0, [])]
def P115 : List (List MIns) := [B115_0, B115_1, B115_2, B115_3]
def B116_0 : List MIns := [(2, 1, 0, []), (36, 111, 1, [91, 875, 0]), (20, 1, 0, []), (2, 2, 0, []), (15, 0, 0, []), (1, 0, 0, []), (1, 1, 2, [95, 882]), (36, 102, 3, [81, 879, 0]), (20, 2, 1, []), (24, 1, 0, [])]
def B116_1 : List MIns := [(0, 1, (-2), []), (41, 0, 0, [])]
def B116_2 : List MIns := [(4, 0, 0, []), (2, 1, 0, []), (2, 2, 0, []), (2, 3, 0, []), (37, 114, 3, [101, 895, 10]), (5, 5, 0, []), (2, 5, 0, []), (20, 3, 0, []), (2, 5, 0, []), (41, 0, 0, [])]
def B116_3 : List MIns := [(4, 0, 0, []), (28, 0, 2, [16, 10, 2, 782]), (0, 1, 60, []), (2, 1, 0, []), (9, 2, 0, []), (2, 3, 0, []), (9, 0, 0, []), (2, 2, 0, []), (2, 4, 0, []), (36, 115, 2, [105, 899, 0]), (32, 0, 0, []), (0, 0, 1, []), (41, 0, 0, [])]
def P116 : List (List MIns) := [B116_0, B116_1, B116_2, B116_3]
def B117_0 : List MIns := [(2, 1, 0, []), (36, 111, 1, [91, 875, 0]), (20, 1, 0, []), (2, 2, 0, []), (15, 0, 0, []), (1, 0, 0, []), (1, 1, 2, [95, 882]), (36, 102, 3, [81, 879, 0]), (20, 1, 0, []), (4, 0, 0, []), (2, 1, 0, []), (2, 2, 0, []), (2, 3, 0, []), (37, 114, 3, [101, 895, 10]), (20, 2, 0, []), (24, 1, 0, [])]
def B117_1 : List MIns := [(0, 3, (-2147483648), [109, 906]), (41, 0, 0, [])]
def B117_2 : List MIns := [(4, 0, 0, []), (28, 0, 2, [16, 10, 2, 782]), (0, 1, 60, []), (2, 1, 0, []), (9, 2, 0, []), (2, 3, 0, []), (9, 0, 0, []), (31, 0, 0, []), (41, 0, 0, [])]
def P117 : List (List MIns) := [B117_0, B117_1, B117_2]
def B118_0 : List MIns := [(2, 1, 0, []), (36, 111, 1, [91, 875, 0]), (20, 1, 0, []), (2, 3, 0, []), (36, 111, 1, [91, 875, 0]), (20, 2, 1, []), (24, 1, 0, [])]
def B118_1 : List MIns := [(0, 1, (-2), []), (41, 0, 0, [])]
def B118_2 : List MIns := [(4, 0, 0, []), (28, 0, 0, [7, 10, 2, 780]), (2, 1, 0, []), (31, 0, 0, []), (20, 3, 2, []), (4, 0, 0, []), (28, 0, 0, [7, 10, 2, 780]), (2, 3, 0, []), (31, 0, 0, []), (20, 4, 3, []), (24, 3, 0, [])]
def B118_3 : List MIns := [(4, 0, 0, []), (0, 0, 1, []), (37, 110, 1, [97, 883, 10]), (41, 0, 0, [])]
def B118_4 : List MIns := [(4, 0, 0, []), (28, 0, 0, [7, 10, 2, 780]), (2, 1, 0, []), (31, 0, 0, []), (4, 0, 0, []), (28, 0, 0, [7, 10, 2, 780]), (2, 3, 0, []), (31, 0, 0, []), (21, 5, 0, []), (4, 0, 0, []), (0, 0, 4, []), (37, 110, 1, [97, 883, 10]), (41, 0, 0, [])]
def B118_5 : List MIns := [(2, 2, 0, []), (20, 6, 2, []), (2, 4, 0, []), (20, 6, 2, []), (2, 5, 0, []), (20, 6, 2, []), (2, 2, 0, []), (15, 0, 0, []), (2, 5, 0, []), (15, 0, 0, []), (11, 0, 0, []), (4, 0, 0, []), (28, 0, 1, [13, 10, 2, 781]), (2, 1, 0, []), (31, 0, 0, []), (15, 0, 0, []), (16, 0, 0, []), (20, 6, 4, []), (2, 4, 0, []), (15, 0, 0, []), (2, 5, 0, []), (15, 0, 0, []), (11, 0, 0, []), (4, 0, 0, []), (28, 0, 1, [13, 10, 2, 781]), (2, 3, 0, []), (31, 0, 0, []), (15, 0, 0, []), (16, 0, 0, []), (20, 7, 5, []), (24, 6, 0, [])]
def B118_6 : List MIns := [(4, 0, 0, []), (0, 0, 2, []), (37, 110, 1, [97, 883, 10]), (41, 0, 0, [])]
def B118_7 : List MIns := [(0, 0, 0, []), (5, 6, 0, []), (24, 8, 0, [])]
def B118_8 : List MIns := [(2, 6, 0, []), (2, 5, 0, []), (21, 9, 3, []), (4, 0, 0, []), (28, 0, 3, [19, 10, 2, 783]), (2, 6, 0, []), (4, 0, 0, []), (28, 0, 2, [16, 10, 2, 782]), (0, 1, 60, []), (2, 1, 0, []), (9, 2, 0, []), (2, 2, 0, []), (9, 0, 0, []), (2, 6, 0, []), (9, 0, 0, []), (31, 0, 0, []), (32, 0, 0, []), (8, 6, 1, []), (23, 8, 0, [])]
def B118_9 : List MIns := [(0, 0, 0, []), (5, 6, 0, []), (24, 10, 0, [])]
def B118_10 : List MIns := [(2, 6, 0, []), (2, 5, 0, []), (21, 11, 3, []), (4, 0, 0, []), (28, 0, 2, [16, 10, 2, 782]), (0, 1, 60, []), (2, 3, 0, []), (9, 2, 0, []), (2, 4, 0, []), (9, 0, 0, []), (2, 6, 0, []), (9, 0, 0, []), (4, 0, 0, []), (28, 0, 3, [19, 10, 2, 783]), (2, 6, 0, []), (31, 0, 0, []), (32, 0, 0, []), (8, 6, 1, []), (23, 10, 0, [])]
def B118_11 : List MIns := [(0, 0, 1, []), (41, 0, 0, [])]
def P118 : List (List MIns) := [B118_0, B118_1, B118_2, B118_3, B118_4, B118_5, B118_6, B118_7, B118_8, B118_9, B118_10, B118_11]
def B119_0 : List MIns := [(2, 1, 0, []), (36, 104, 1, [110, 915, 0]), (20, 1, 0, []), (2, 2, 0, []), (15, 0, 0, []), (1, 0, 0, []), (1, 1, 255, [113, 918]), (36, 102, 3, [81, 879, 0]), (20, 2, 1, []), (24, 1, 0, [])]
def B119_1 : List MIns := [(0, 1, (-2), []), (41, 0, 0, [])]
def B119_2 : List MIns := [(4, 0, 0, []), (28, 0, 6, [25, 10, 2, 786]), (2, 1, 0, []), (31, 0, 0, []), (2, 1, 0, []), (20, 3, 1, []), (0, 1, 17, []), (23, 4, 0, [])]
def B119_3 : List MIns := [(0, 1, 39, []), (24, 4, 0, [])]
def B119_4 : List MIns := [(21, 5, 1, []), (0, 1, (-4), []), (41, 0, 0, [])]
def B119_5 : List MIns := [(4, 0, 0, []), (28, 0, 5, [22, 10, 2, 785]), (0, 1, 40, []), (2, 1, 0, []), (9, 2, 0, []), (4, 0, 0, []), (28, 0, 6, [25, 10, 2, 786]), (2, 1, 0, []), (31, 0, 0, []), (9, 0, 0, []), (2, 2, 0, []), (32, 0, 0, []), (4, 0, 0, []), (28, 0, 6, [25, 10, 2, 786]), (2, 1, 0, []), (19, 0, 0, []), (31, 0, 0, []), (0, 0, 1, []), (9, 0, 0, []), (32, 0, 0, []), (4, 0, 0, []), (28, 0, 6, [25, 10, 2, 786]), (2, 1, 0, []), (31, 0, 0, []), (41, 0, 0, [])]
def P119 : List (List MIns) := [B119_0, B119_1, B119_2, B119_3, B119_4, B119_5]
def B120_0 : List MIns := [(2, 1, 0, []), (36, 104, 1, [110, 915, 0]), (20, 1, 1, []), (0, 1, (-2), []), (41, 0, 0, [])]
def B120_1 : List MIns := [(4, 0, 0, []), (28, 0, 6, [25, 10, 2, 786]), (2, 1, 0, []), (31, 0, 0, []), (5, 2, 0, []), (4, 0, 0, []), (28, 0, 6, [25, 10, 2, 786]), (2, 1, 0, []), (0, 0, 0, []), (32, 0, 0, []), (2, 2, 0, []), (41, 0, 0, [])]
def P120 : List (List MIns) := [B120_0, B120_1]
def B121_0 : List MIns := [(2, 1, 0, []), (36, 104, 1, [110, 915, 0]), (20, 1, 1, []), (0, 1, (-2), []), (41, 0, 0, [])]
def B121_1 : List MIns := [(4, 0, 0, []), (28, 0, 6, [25, 10, 2, 786]), (2, 1, 0, []), (31, 0, 0, []), (20, 2, 1, []), (0, 1, (-3), []), (41, 0, 0, [])]
def B121_2 : List MIns := [(4, 0, 0, []), (28, 0, 6, [25, 10, 2, 786]), (2, 1, 0, []), (19, 0, 0, []), (31, 0, 0, []), (0, 0, 1, []), (9, 1, 0, []), (32, 0, 0, []), (4, 0, 0, []), (28, 0, 6, [25, 10, 2, 786]), (2, 1, 0, []), (31, 0, 0, []), (41, 0, 0, [])]
def P121 : List (List MIns) := [B121_0, B121_1, B121_2]
def B122_0 : List MIns := [(2, 0, 0, []), (15, 0, 0, []), (1, 1, 97, [115, 945]), (2, 1, 0, []), (15, 0, 0, []), (36, 102, 3, [81, 879, 0]), (20, 1, 0, []), (2, 0, 0, []), (0, 1, 97, []), (9, 1, 0, []), (23, 2, 0, [])]
def B122_1 : List MIns := [(0, 1, (-9), []), (24, 2, 0, [])]
def B122_2 : List MIns := [(41, 0, 0, [])]
def P122 : List (List MIns) := [B122_0, B122_1, B122_2]
def B123_0 : List MIns := [(2, 0, 0, []), (15, 0, 0, []), (1, 1, 97, [115, 945]), (1, 1, 116, [117, 946]), (36, 102, 3, [81, 879, 0]), (20, 1, 0, []), (2, 0, 0, []), (0, 1, 97, []), (9, 1, 0, []), (0, 0, 1, []), (9, 0, 0, []), (23, 2, 0, [])]
def B123_1 : List MIns := [(0, 1, (-9), []), (24, 2, 0, [])]
def B123_2 : List MIns := [(41, 0, 0, [])]
def P123 : List (List MIns) := [B123_0, B123_1, B123_2]
def B124_0 : List MIns := [(2, 0, 0, []), (20, 5, 1, []), (2, 1, 0, []), (0, 1, 115, []), (21, 1, 1, []), (0, 0, 0, []), (23, 4, 0, [])]
def B124_1 : List MIns := [(2, 1, 0, []), (0, 1, 119, []), (21, 2, 1, []), (0, 0, 1, []), (23, 4, 0, [])]
def B124_2 : List MIns := [(2, 1, 0, []), (0, 1, 116, []), (21, 3, 1, []), (0, 0, 2, []), (23, 4, 0, [])]
def B124_3 : List MIns := [(0, 1, (-9), []), (24, 4, 0, [])]
def B124_4 : List MIns := [(41, 0, 0, [])]
def B124_5 : List MIns := [(2, 0, 0, []), (0, 0, 1, []), (21, 6, 1, []), (2, 1, 0, []), (36, 123, 1, [119, 942, 0]), (23, 8, 0, [])]
def B124_6 : List MIns := [(2, 1, 0, []), (0, 1, 59, []), (21, 7, 1, []), (0, 0, 0, []), (23, 8, 0, [])]
def B124_7 : List MIns := [(0, 1, (-9), []), (24, 8, 0, [])]
def B124_8 : List MIns := [(41, 0, 0, [])]
def P124 : List (List MIns) := [B124_0, B124_1, B124_2, B124_3, B124_4, B124_5, B124_6, B124_7, B124_8]
def B125_0 : List MIns := [(4, 0, 0, []), (0, 0, 0, []), (29, 0, 7, [122, 10, 0, 787]), (4, 0, 0, []), (28, 0, 6, [25, 10, 2, 786]), (0, 0, 0, []), (31, 0, 0, []), (5, 1, 0, []), (0, 0, 0, []), (5, 2, 0, []), (24, 1, 0, [])]
def B125_1 : List MIns := [(2, 2, 0, []), (2, 1, 0, []), (21, 6, 3, []), (2, 2, 0, []), (0, 0, 3, []), (10, 1, 0, []), (5, 3, 0, []), (2, 3, 0, []), (4, 0, 0, []), (28, 0, 5, [22, 10, 2, 785]), (2, 2, 0, []), (31, 0, 0, []), (36, 124, 2, [125, 939, 0]), (5, 4, 0, []), (2, 4, 0, []), (0, 1, (-9), []), (21, 2, 1, []), (4, 0, 0, []), (0, 0, 0, []), (29, 0, 7, [122, 10, 0, 787]), (2, 2, 0, []), (41, 0, 0, [])]
def B125_2 : List MIns := [(2, 3, 0, []), (0, 0, 2, []), (21, 3, 3, []), (4, 0, 0, []), (28, 0, 8, [28, 10, 2, 788]), (0, 0, 2, []), (2, 2, 0, []), (0, 0, 3, []), (10, 0, 0, []), (9, 2, 0, []), (2, 3, 0, []), (9, 0, 0, []), (2, 4, 0, []), (32, 0, 0, []), (24, 3, 0, [])]
def B125_3 : List MIns := [(4, 0, 0, []), (17, 0, 0, []), (27, 0, 7, [122, 10, 0, 787]), (2, 3, 0, []), (0, 0, 1, []), (21, 4, 1, []), (0, 0, 1, []), (23, 5, 0, [])]
def B125_4 : List MIns := [(0, 0, 0, []), (24, 5, 0, [])]
def B125_5 : List MIns := [(9, 0, 0, []), (29, 0, 7, [122, 10, 0, 787]), (8, 2, 1, []), (23, 1, 0, [])]
def B125_6 : List MIns := [(2, 1, 0, []), (20, 7, 5, []), (2, 1, 0, []), (0, 0, 3, []), (10, 1, 0, []), (0, 0, 2, []), (21, 7, 0, []), (4, 0, 0, []), (0, 0, 0, []), (29, 0, 7, [122, 10, 0, 787]), (2, 1, 0, []), (41, 0, 0, [])]
def B125_7 : List MIns := [(0, 0, (-1), []), (41, 0, 0, [])]
def P125 : List (List MIns) := [B125_0, B125_1, B125_2, B125_3, B125_4, B125_5, B125_6, B125_7]
def B126_0 : List MIns := [(2, 0, 0, []), (15, 0, 0, []), (1, 1, 48, [128, 957]), (0, 1, 48, []), (2, 1, 0, []), (9, 0, 0, []), (15, 0, 0, []), (36, 102, 3, [81, 879, 0]), (20, 1, 0, []), (2, 0, 0, []), (0, 1, 48, []), (9, 1, 0, []), (23, 2, 0, [])]
def B126_1 : List MIns := [(0, 1, (-9), []), (24, 2, 0, [])]
def B126_2 : List MIns := [(41, 0, 0, [])]
def P126 : List (List MIns) := [B126_0, B126_1, B126_2]
def B127_0 : List MIns := [(2, 0, 0, []), (25, 5, 0, [1, 2, 3, 4])]
def B127_1 : List MIns := [(2, 1, 0, []), (0, 0, 5, []), (36, 126, 2, [130, 954, 0]), (41, 0, 0, [])]
def B127_2 : List MIns := [(2, 1, 0, []), (0, 1, 120, []), (36, 122, 2, [133, 958, 0]), (41, 0, 0, [])]
def B127_3 : List MIns := [(2, 1, 0, []), (0, 1, 8, []), (36, 126, 2, [130, 954, 0]), (41, 0, 0, [])]
def B127_4 : List MIns := [(2, 1, 0, []), (36, 123, 1, [119, 942, 0]), (41, 0, 0, [])]
def B127_5 : List MIns := [(2, 1, 0, []), (0, 1, 59, []), (21, 6, 1, []), (0, 0, 0, []), (23, 7, 0, [])]
def B127_6 : List MIns := [(0, 1, (-9), []), (24, 7, 0, [])]
def B127_7 : List MIns := [(41, 0, 0, [])]
def P127 : List (List MIns) := [B127_0, B127_1, B127_2, B127_3, B127_4, B127_5, B127_6, B127_7]
def B128_0 : List MIns := [(4, 0, 0, []), (0, 0, 0, []), (29, 0, 9, [136, 10, 0, 789]), (4, 0, 0, []), (28, 0, 6, [25, 10, 2, 786]), (0, 0, 1, []), (31, 0, 0, []), (5, 1, 0, []), (0, 0, 0, []), (5, 2, 0, []), (24, 1, 0, [])]
def B128_1 : List MIns := [(2, 2, 0, []), (2, 1, 0, []), (21, 6, 3, []), (2, 2, 0, []), (0, 0, 5, []), (10, 1, 0, []), (5, 3, 0, []), (2, 3, 0, []), (4, 0, 0, []), (28, 0, 5, [22, 10, 2, 785]), (0, 1, 40, []), (2, 2, 0, []), (9, 0, 0, []), (31, 0, 0, []), (36, 127, 2, [139, 951, 0]), (5, 4, 0, []), (2, 4, 0, []), (0, 1, (-9), []), (21, 2, 1, []), (4, 0, 0, []), (0, 0, 0, []), (29, 0, 9, [136, 10, 0, 789]), (2, 2, 0, []), (41, 0, 0, [])]
def B128_2 : List MIns := [(2, 3, 0, []), (0, 0, 4, []), (21, 3, 3, []), (4, 0, 0, []), (28, 0, 10, [31, 10, 2, 790]), (0, 0, 4, []), (2, 2, 0, []), (0, 0, 5, []), (10, 0, 0, []), (9, 2, 0, []), (2, 3, 0, []), (9, 0, 0, []), (2, 4, 0, []), (32, 0, 0, []), (24, 3, 0, [])]
def B128_3 : List MIns := [(4, 0, 0, []), (17, 0, 0, []), (27, 0, 9, [136, 10, 0, 789]), (2, 3, 0, []), (0, 0, 3, []), (21, 4, 1, []), (0, 0, 1, []), (23, 5, 0, [])]
def B128_4 : List MIns := [(0, 0, 0, []), (24, 5, 0, [])]
def B128_5 : List MIns := [(9, 0, 0, []), (29, 0, 9, [136, 10, 0, 789]), (8, 2, 1, []), (23, 1, 0, [])]
def B128_6 : List MIns := [(2, 1, 0, []), (20, 7, 5, []), (2, 1, 0, []), (0, 0, 5, []), (10, 1, 0, []), (0, 0, 4, []), (21, 7, 0, []), (4, 0, 0, []), (0, 0, 0, []), (29, 0, 9, [136, 10, 0, 789]), (2, 1, 0, []), (41, 0, 0, [])]
def B128_7 : List MIns := [(0, 0, (-1), []), (41, 0, 0, [])]
def P128 : List (List MIns) := [B128_0, B128_1, B128_2, B128_3, B128_4, B128_5, B128_6, B128_7]
def B129_0 : List MIns := [(2, 1, 0, []), (20, 1, 1, []), (4, 0, 0, []), (37, 125, 0, [142, 935, 10]), (23, 2, 0, [])]
def B129_1 : List MIns := [(4, 0, 0, []), (37, 128, 0, [146, 947, 10]), (24, 2, 0, [])]
def B129_2 : List MIns := [(41, 0, 0, [])]
def P129 : List (List MIns) := [B129_0, B129_1, B129_2]
def B130_0 : List MIns := [(2, 1, 0, []), (36, 104, 1, [110, 915, 0]), (20, 1, 0, []), (4, 0, 0, []), (2, 1, 0, []), (37, 129, 1, [149, 931, 10]), (23, 2, 0, [])]
def B130_1 : List MIns := [(0, 1, (-2), []), (24, 2, 0, [])]
def B130_2 : List MIns := [(41, 0, 0, [])]
def P130 : List (List MIns) := [B130_0, B130_1, B130_2]
def B131_0 : List MIns := [(2, 1, 0, []), (15, 0, 0, []), (1, 0, 0, []), (4, 0, 0, []), (27, 0, 7, [122, 10, 0, 787]), (0, 0, 1, []), (9, 1, 0, []), (15, 0, 0, []), (36, 102, 3, [81, 879, 0]), (41, 1, 0, [])]
def P131 : List (List MIns) := [B131_0]
def B132_0 : List MIns := [(2, 1, 0, []), (15, 0, 0, []), (1, 0, 0, []), (4, 0, 0, []), (27, 0, 9, [136, 10, 0, 789]), (0, 0, 1, []), (9, 1, 0, []), (15, 0, 0, []), (36, 102, 3, [81, 879, 0]), (41, 1, 0, [])]
def P132 : List (List MIns) := [B132_0]
def B133_0 : List MIns := [(2, 0, 0, []), (15, 0, 0, []), (1, 0, 0, []), (1, 1, 23, [152, 984]), (36, 102, 3, [81, 879, 0]), (41, 1, 0, [])]
def P133 : List (List MIns) := [B133_0]
def B134_0 : List MIns := [(4, 0, 0, []), (37, 125, 0, [142, 935, 10]), (18, 0, 0, []), (4, 0, 0, []), (2, 1, 0, []), (37, 131, 1, [154, 965, 10]), (20, 1, 0, []), (2, 2, 0, []), (36, 104, 1, [110, 915, 0]), (20, 1, 0, []), (4, 0, 0, []), (28, 0, 8, [28, 10, 2, 788]), (0, 0, 2, []), (2, 1, 0, []), (9, 2, 0, []), (2, 2, 0, []), (9, 0, 0, []), (31, 0, 0, []), (23, 2, 0, [])]
def B134_1 : List MIns := [(0, 1, (-2), []), (24, 2, 0, [])]
def B134_2 : List MIns := [(41, 0, 0, [])]
def P134 : List (List MIns) := [B134_0, B134_1, B134_2]
def B135_0 : List MIns := [(4, 0, 0, []), (37, 128, 0, [146, 947, 10]), (18, 0, 0, []), (4, 0, 0, []), (2, 1, 0, []), (37, 132, 1, [157, 973, 10]), (20, 1, 0, []), (2, 2, 0, []), (15, 0, 0, []), (1, 0, 0, []), (1, 1, 3, [89, 878]), (36, 102, 3, [81, 879, 0]), (20, 1, 0, []), (4, 0, 0, []), (28, 0, 10, [31, 10, 2, 790]), (0, 0, 4, []), (2, 1, 0, []), (9, 2, 0, []), (2, 2, 0, []), (9, 0, 0, []), (31, 0, 0, []), (23, 2, 0, [])]
def B135_1 : List MIns := [(0, 1, (-2), []), (24, 2, 0, [])]
def B135_2 : List MIns := [(41, 0, 0, [])]
def P135 : List (List MIns) := [B135_0, B135_1, B135_2]
def B136_0 : List MIns := [(4, 0, 0, []), (28, 0, 12, [34, 10, 2, 792]), (0, 0, 3, []), (4, 0, 0, []), (27, 0, 11, [160, 10, 0, 791]), (9, 2, 0, []), (2, 1, 0, []), (32, 0, 0, []), (4, 0, 0, []), (28, 0, 12, [34, 10, 2, 792]), (0, 0, 3, []), (4, 0, 0, []), (27, 0, 11, [160, 10, 0, 791]), (9, 2, 0, []), (0, 0, 1, []), (9, 0, 0, []), (2, 2, 0, []), (32, 0, 0, []), (4, 0, 0, []), (28, 0, 12, [34, 10, 2, 792]), (0, 0, 3, []), (4, 0, 0, []), (27, 0, 11, [160, 10, 0, 791]), (9, 2, 0, []), (0, 0, 2, []), (9, 0, 0, []), (2, 3, 0, []), (32, 0, 0, []), (4, 0, 0, []), (17, 0, 0, []), (27, 0, 11, [160, 10, 0, 791]), (0, 0, 1, []), (9, 0, 0, []), (29, 0, 11, [160, 10, 0, 791]), (44, 0, 0, [])]
def P136 : List (List MIns) := [B136_0]
def B137_0 : List MIns := [(2, 1, 0, []), (15, 0, 0, []), (1, 0, 0, []), (1, 1, 2, [95, 882]), (36, 102, 3, [81, 879, 0]), (20, 1, 0, []), (2, 2, 0, []), (36, 133, 1, [163, 981, 0]), (20, 1, 0, []), (2, 3, 0, []), (15, 0, 0, []), (1, 0, 0, []), (1, 1, 5, [166, 985]), (36, 102, 3, [81, 879, 0]), (20, 2, 1, []), (24, 1, 0, [])]
def B137_1 : List MIns := [(0, 1, (-2), []), (41, 0, 0, [])]
def B137_2 : List MIns := [(4, 0, 0, []), (27, 0, 11, [160, 10, 0, 791]), (0, 1, 8, []), (21, 3, 1, []), (0, 1, (-4), []), (41, 0, 0, [])]
def B137_3 : List MIns := [(4, 0, 0, []), (2, 1, 0, []), (2, 2, 0, []), (2, 3, 0, []), (37, 136, 3, [168, 986, 10]), (4, 0, 0, []), (27, 0, 11, [160, 10, 0, 791]), (41, 0, 0, [])]
def P137 : List (List MIns) := [B137_0, B137_1, B137_2, B137_3]
def B138_0 : List MIns := [(4, 0, 0, []), (27, 0, 11, [160, 10, 0, 791]), (20, 1, 1, []), (0, 1, (-3), []), (41, 0, 0, [])]
def B138_1 : List MIns := [(4, 0, 0, []), (17, 0, 0, []), (27, 0, 11, [160, 10, 0, 791]), (0, 0, 1, []), (9, 1, 0, []), (29, 0, 11, [160, 10, 0, 791]), (4, 0, 0, []), (27, 0, 11, [160, 10, 0, 791]), (41, 0, 0, [])]
def P138 : List (List MIns) := [B138_0, B138_1]
def B139_0 : List MIns := [(2, 1, 0, []), (36, 111, 1, [91, 875, 0]), (20, 1, 1, []), (0, 1, (-2), []), (41, 0, 0, [])]
def B139_1 : List MIns := [(4, 0, 0, []), (28, 0, 0, [7, 10, 2, 780]), (2, 1, 0, []), (31, 0, 0, []), (20, 2, 3, []), (4, 0, 0, []), (0, 0, 1, []), (37, 110, 1, [97, 883, 10]), (41, 0, 0, [])]
def B139_2 : List MIns := [(0, 0, 0, []), (5, 2, 0, []), (0, 0, 1, []), (5, 3, 0, []), (24, 3, 0, [])]
def B139_3 : List MIns := [(2, 3, 0, []), (20, 8, 0, []), (0, 0, 3, []), (2, 2, 0, []), (9, 2, 0, []), (0, 0, 3, []), (9, 0, 0, []), (4, 0, 0, []), (28, 0, 1, [13, 10, 2, 781]), (2, 1, 0, []), (31, 0, 0, []), (21, 8, 4, []), (0, 1, 60, []), (2, 1, 0, []), (9, 2, 0, []), (0, 0, 3, []), (2, 2, 0, []), (9, 2, 0, []), (9, 0, 0, []), (5, 4, 0, []), (4, 0, 0, []), (4, 0, 0, []), (28, 0, 2, [16, 10, 2, 782]), (2, 4, 0, []), (31, 0, 0, []), (4, 0, 0, []), (28, 0, 2, [16, 10, 2, 782]), (2, 4, 0, []), (0, 0, 1, []), (9, 0, 0, []), (31, 0, 0, []), (4, 0, 0, []), (28, 0, 2, [16, 10, 2, 782]), (2, 4, 0, []), (0, 0, 2, []), (9, 0, 0, []), (31, 0, 0, []), (37, 137, 3, [172, 998, 10]), (20, 4, 2, []), (0, 0, 1, []), (23, 5, 0, [])]
def B139_4 : List MIns := [(0, 0, 0, []), (24, 5, 0, [])]
def B139_5 : List MIns := [(5, 3, 0, []), (2, 2, 0, []), (2, 3, 0, []), (20, 6, 0, []), (0, 0, 1, []), (23, 7, 0, [])]
def B139_6 : List MIns := [(0, 0, 0, []), (24, 7, 0, [])]
def B139_7 : List MIns := [(9, 0, 0, []), (5, 2, 0, []), (23, 3, 0, [])]
def B139_8 : List MIns := [(2, 2, 0, []), (41, 0, 0, [])]
def P139 : List (List MIns) := [B139_0, B139_1, B139_2, B139_3, B139_4, B139_5, B139_6, B139_7, B139_8]
def B140_0 : List MIns := [(4, 0, 0, []), (28, 0, 15, [40, 10, 2, 795]), (2, 1, 0, []), (31, 0, 0, []), (0, 0, 1, []), (21, 1, 1, []), (4, 0, 0, []), (28, 0, 10, [31, 10, 2, 790]), (0, 0, 4, []), (2, 1, 0, []), (9, 2, 0, []), (31, 0, 0, []), (2, 2, 0, []), (21, 1, 1, []), (0, 0, 1, []), (23, 2, 0, [])]
def B140_1 : List MIns := [(0, 0, 0, []), (24, 2, 0, [])]
def B140_2 : List MIns := [(41, 1, 0, [])]
def P140 : List (List MIns) := [B140_0, B140_1, B140_2]
def B141_0 : List MIns := [(0, 0, (-1), []), (5, 2, 0, []), (0, 0, 0, []), (5, 3, 0, []), (24, 1, 0, [])]
def B141_1 : List MIns := [(2, 3, 0, []), (4, 0, 0, []), (27, 0, 9, [136, 10, 0, 789]), (21, 5, 3, []), (4, 0, 0, []), (2, 3, 0, []), (2, 1, 0, []), (37, 140, 2, [174, 1022, 10]), (20, 3, 0, []), (2, 2, 0, []), (0, 0, (-1), []), (21, 2, 0, []), (4, 0, 0, []), (28, 0, 16, [43, 10, 2, 796]), (2, 3, 0, []), (31, 0, 0, []), (4, 0, 0, []), (28, 0, 16, [43, 10, 2, 796]), (2, 2, 0, []), (31, 0, 0, []), (21, 3, 5, []), (24, 2, 0, [])]
def B141_2 : List MIns := [(2, 3, 0, []), (23, 4, 0, [])]
def B141_3 : List MIns := [(2, 2, 0, []), (24, 4, 0, [])]
def B141_4 : List MIns := [(5, 2, 0, []), (8, 3, 1, []), (23, 1, 0, [])]
def B141_5 : List MIns := [(2, 2, 0, []), (41, 0, 0, [])]
def P141 : List (List MIns) := [B141_0, B141_1, B141_2, B141_3, B141_4, B141_5]
def B142_0 : List MIns := [(0, 0, (-1), []), (5, 2, 0, []), (0, 0, 0, []), (5, 3, 0, []), (24, 1, 0, [])]
def B142_1 : List MIns := [(2, 3, 0, []), (4, 0, 0, []), (27, 0, 9, [136, 10, 0, 789]), (21, 5, 3, []), (4, 0, 0, []), (2, 3, 0, []), (2, 1, 0, []), (37, 140, 2, [174, 1022, 10]), (20, 3, 0, []), (2, 2, 0, []), (0, 0, (-1), []), (21, 2, 0, []), (4, 0, 0, []), (28, 0, 16, [43, 10, 2, 796]), (2, 3, 0, []), (31, 0, 0, []), (4, 0, 0, []), (28, 0, 16, [43, 10, 2, 796]), (2, 2, 0, []), (31, 0, 0, []), (21, 3, 3, []), (24, 2, 0, [])]
def B142_2 : List MIns := [(2, 3, 0, []), (23, 4, 0, [])]
def B142_3 : List MIns := [(2, 2, 0, []), (24, 4, 0, [])]
def B142_4 : List MIns := [(5, 2, 0, []), (8, 3, 1, []), (23, 1, 0, [])]
def B142_5 : List MIns := [(2, 2, 0, []), (41, 0, 0, [])]
def P142 : List (List MIns) := [B142_0, B142_1, B142_2, B142_3, B142_4, B142_5]
def B143_0 : List MIns := [(4, 0, 0, []), (28, 0, 17, [46, 10, 2, 797]), (2, 1, 0, []), (19, 0, 0, []), (31, 0, 0, []), (4, 0, 0, []), (28, 0, 16, [43, 10, 2, 796]), (2, 1, 0, []), (31, 0, 0, []), (2, 2, 0, []), (9, 1, 0, []), (9, 0, 0, []), (32, 0, 0, []), (4, 0, 0, []), (28, 0, 16, [43, 10, 2, 796]), (2, 1, 0, []), (2, 2, 0, []), (32, 0, 0, []), (44, 0, 0, [])]
def P143 : List (List MIns) := [B143_0]
def B144_0 : List MIns := [(2, 1, 0, []), (0, 0, 1, []), (21, 4, 1, []), (0, 0, 0, []), (5, 3, 0, []), (24, 1, 0, [])]
def B144_1 : List MIns := [(2, 3, 0, []), (4, 0, 0, []), (27, 0, 9, [136, 10, 0, 789]), (21, 3, 3, []), (4, 0, 0, []), (2, 3, 0, []), (2, 2, 0, []), (37, 140, 2, [174, 1022, 10]), (20, 2, 0, []), (4, 0, 0, []), (2, 3, 0, []), (4, 0, 0, []), (28, 0, 16, [43, 10, 2, 796]), (2, 3, 0, []), (31, 0, 0, []), (0, 0, 1, []), (9, 1, 0, []), (0, 0, 1, []), (36, 108, 2, [178, 1026, 0]), (37, 143, 2, [181, 1029, 10]), (24, 2, 0, [])]
def B144_2 : List MIns := [(8, 3, 1, []), (23, 1, 0, [])]
def B144_3 : List MIns := [(44, 0, 0, [])]
def B144_4 : List MIns := [(2, 1, 0, []), (20, 5, 1, []), (4, 0, 0, []), (2, 2, 0, []), (37, 141, 1, [185, 1033, 10]), (23, 6, 0, [])]
def B144_5 : List MIns := [(4, 0, 0, []), (2, 2, 0, []), (37, 142, 1, [188, 1037, 10]), (24, 6, 0, [])]
def B144_6 : List MIns := [(5, 3, 0, []), (2, 3, 0, []), (0, 0, (-1), []), (21, 9, 0, []), (4, 0, 0, []), (28, 0, 15, [40, 10, 2, 795]), (2, 3, 0, []), (2, 1, 0, []), (20, 7, 1, []), (0, 0, 2, []), (23, 8, 0, [])]
def B144_7 : List MIns := [(0, 0, 3, []), (24, 8, 0, [])]
def B144_8 : List MIns := [(32, 0, 0, []), (24, 9, 0, [])]
def B144_9 : List MIns := [(44, 0, 0, [])]
def P144 : List (List MIns) := [B144_0, B144_1, B144_2, B144_3, B144_4, B144_5, B144_6, B144_7, B144_8, B144_9]
def B145_0 : List MIns := [(4, 0, 0, []), (28, 0, 10, [31, 10, 2, 790]), (0, 0, 4, []), (2, 1, 0, []), (9, 2, 0, []), (31, 0, 0, []), (5, 2, 0, []), (4, 0, 0, []), (28, 0, 10, [31, 10, 2, 790]), (0, 0, 4, []), (2, 1, 0, []), (9, 2, 0, []), (0, 0, 2, []), (9, 0, 0, []), (31, 0, 0, []), (5, 3, 0, []), (4, 0, 0, []), (2, 2, 0, []), (37, 131, 1, [154, 965, 10]), (20, 1, 1, []), (44, 0, 0, [])]
def B145_1 : List MIns := [(2, 3, 0, []), (0, 1, 8, []), (21, 2, 1, []), (0, 0, 1, []), (23, 3, 0, [])]
def B145_2 : List MIns := [(0, 0, 0, []), (24, 3, 0, [])]
def B145_3 : List MIns := [(5, 4, 0, []), (2, 4, 0, []), (20, 5, 1, []), (4, 0, 0, []), (2, 3, 0, []), (37, 132, 1, [157, 973, 10]), (20, 4, 0, []), (4, 0, 0, []), (28, 0, 15, [40, 10, 2, 795]), (2, 3, 0, []), (31, 0, 0, []), (0, 0, 1, []), (21, 5, 0, []), (24, 4, 0, [])]
def B145_4 : List MIns := [(4, 0, 0, []), (28, 0, 15, [40, 10, 2, 795]), (2, 1, 0, []), (0, 0, 4, []), (32, 0, 0, []), (44, 0, 0, [])]
def B145_5 : List MIns := [(4, 0, 0, []), (28, 0, 16, [43, 10, 2, 796]), (2, 1, 0, []), (2, 4, 0, []), (20, 6, 0, []), (4, 0, 0, []), (28, 0, 10, [31, 10, 2, 790]), (0, 0, 4, []), (2, 1, 0, []), (9, 2, 0, []), (0, 0, 3, []), (9, 0, 0, []), (31, 0, 0, []), (23, 7, 0, [])]
def B145_6 : List MIns := [(4, 0, 0, []), (28, 0, 16, [43, 10, 2, 796]), (2, 3, 0, []), (31, 0, 0, []), (0, 0, 2, []), (9, 1, 0, []), (0, 0, 1, []), (36, 108, 2, [178, 1026, 0]), (24, 7, 0, [])]
def B145_7 : List MIns := [(32, 0, 0, []), (4, 0, 0, []), (28, 0, 8, [28, 10, 2, 788]), (0, 0, 2, []), (2, 2, 0, []), (9, 2, 0, []), (31, 0, 0, []), (5, 5, 0, []), (2, 5, 0, []), (20, 8, 1, []), (4, 0, 0, []), (28, 0, 14, [37, 10, 2, 794]), (2, 2, 0, []), (31, 0, 0, []), (23, 10, 0, [])]
def B145_8 : List MIns := [(2, 5, 0, []), (0, 0, 1, []), (21, 9, 1, []), (4, 0, 0, []), (28, 0, 14, [37, 10, 2, 794]), (2, 2, 0, []), (31, 0, 0, []), (4, 0, 0, []), (28, 0, 8, [28, 10, 2, 788]), (0, 0, 2, []), (2, 2, 0, []), (9, 2, 0, []), (0, 0, 1, []), (9, 0, 0, []), (31, 0, 0, []), (0, 0, 2, []), (9, 0, 0, []), (36, 108, 2, [178, 1026, 0]), (23, 10, 0, [])]
def B145_9 : List MIns := [(0, 1, 99, []), (24, 10, 0, [])]
def B145_10 : List MIns := [(5, 6, 0, []), (4, 0, 0, []), (28, 0, 14, [37, 10, 2, 794]), (2, 2, 0, []), (4, 0, 0, []), (28, 0, 14, [37, 10, 2, 794]), (2, 2, 0, []), (31, 0, 0, []), (4, 0, 0, []), (28, 0, 16, [43, 10, 2, 796]), (2, 1, 0, []), (31, 0, 0, []), (2, 6, 0, []), (36, 107, 2, [191, 1045, 0]), (36, 108, 2, [178, 1026, 0]), (32, 0, 0, []), (4, 0, 0, []), (2, 1, 0, []), (4, 0, 0, []), (28, 0, 16, [43, 10, 2, 796]), (2, 1, 0, []), (31, 0, 0, []), (4, 0, 0, []), (28, 0, 14, [37, 10, 2, 794]), (2, 2, 0, []), (31, 0, 0, []), (36, 107, 2, [191, 1045, 0]), (37, 143, 2, [181, 1029, 10]), (4, 0, 0, []), (28, 0, 15, [40, 10, 2, 795]), (2, 1, 0, []), (0, 0, 1, []), (32, 0, 0, []), (44, 0, 0, [])]
def P145 : List (List MIns) := [B145_0, B145_1, B145_2, B145_3, B145_4, B145_5, B145_6, B145_7, B145_8, B145_9, B145_10]
def B146_0 : List MIns := [(0, 0, 0, []), (5, 2, 0, []), (24, 1, 0, [])]
def B146_1 : List MIns := [(2, 2, 0, []), (4, 0, 0, []), (27, 0, 7, [122, 10, 0, 787]), (21, 10, 3, []), (0, 0, 0, []), (5, 3, 0, []), (0, 0, 0, []), (5, 4, 0, []), (24, 2, 0, [])]
def B146_2 : List MIns := [(2, 4, 0, []), (4, 0, 0, []), (27, 0, 9, [136, 10, 0, 789]), (21, 5, 3, []), (2, 3, 0, []), (4, 0, 0, []), (2, 4, 0, []), (2, 2, 0, []), (37, 140, 2, [174, 1022, 10]), (20, 3, 0, []), (0, 0, 1, []), (23, 4, 0, [])]
def B146_3 : List MIns := [(0, 0, 0, []), (24, 4, 0, [])]
def B146_4 : List MIns := [(9, 0, 0, []), (5, 3, 0, []), (8, 4, 1, []), (23, 2, 0, [])]
def B146_5 : List MIns := [(4, 0, 0, []), (28, 0, 18, [49, 10, 2, 798]), (0, 1, 8, []), (2, 1, 0, []), (9, 2, 0, []), (2, 2, 0, []), (9, 0, 0, []), (4, 0, 0, []), (28, 0, 14, [37, 10, 2, 794]), (2, 2, 0, []), (31, 0, 0, []), (32, 0, 0, []), (4, 0, 0, []), (28, 0, 19, [52, 10, 2, 799]), (0, 1, 8, []), (2, 1, 0, []), (9, 2, 0, []), (2, 2, 0, []), (9, 0, 0, []), (2, 3, 0, []), (32, 0, 0, []), (4, 0, 0, []), (28, 0, 20, [55, 10, 2, 800]), (0, 1, 8, []), (2, 1, 0, []), (9, 2, 0, []), (2, 2, 0, []), (9, 0, 0, []), (2, 3, 0, []), (20, 6, 1, []), (0, 0, 0, []), (23, 7, 0, [])]
def B146_6 : List MIns := [(4, 0, 0, []), (28, 0, 16, [43, 10, 2, 796]), (4, 0, 0, []), (2, 2, 0, []), (37, 141, 1, [185, 1033, 10]), (31, 0, 0, []), (24, 7, 0, [])]
def B146_7 : List MIns := [(32, 0, 0, []), (4, 0, 0, []), (28, 0, 21, [58, 10, 2, 801]), (0, 1, 8, []), (2, 1, 0, []), (9, 2, 0, []), (2, 2, 0, []), (9, 0, 0, []), (2, 3, 0, []), (20, 8, 1, []), (0, 0, 0, []), (23, 9, 0, [])]
def B146_8 : List MIns := [(4, 0, 0, []), (28, 0, 16, [43, 10, 2, 796]), (4, 0, 0, []), (2, 2, 0, []), (37, 142, 1, [188, 1037, 10]), (31, 0, 0, []), (24, 9, 0, [])]
def B146_9 : List MIns := [(32, 0, 0, []), (8, 2, 1, []), (23, 1, 0, [])]
def B146_10 : List MIns := [(0, 0, 0, []), (5, 2, 0, []), (24, 11, 0, [])]
def B146_11 : List MIns := [(2, 2, 0, []), (4, 0, 0, []), (27, 0, 9, [136, 10, 0, 789]), (21, 12, 3, []), (4, 0, 0, []), (28, 0, 22, [61, 10, 2, 802]), (0, 1, 8, []), (2, 1, 0, []), (9, 2, 0, []), (2, 2, 0, []), (9, 0, 0, []), (4, 0, 0, []), (28, 0, 15, [40, 10, 2, 795]), (2, 2, 0, []), (31, 0, 0, []), (32, 0, 0, []), (4, 0, 0, []), (28, 0, 23, [64, 10, 2, 803]), (0, 1, 8, []), (2, 1, 0, []), (9, 2, 0, []), (2, 2, 0, []), (9, 0, 0, []), (4, 0, 0, []), (28, 0, 16, [43, 10, 2, 796]), (2, 2, 0, []), (31, 0, 0, []), (32, 0, 0, []), (4, 0, 0, []), (28, 0, 24, [67, 10, 2, 804]), (0, 1, 8, []), (2, 1, 0, []), (9, 2, 0, []), (2, 2, 0, []), (9, 0, 0, []), (4, 0, 0, []), (28, 0, 17, [46, 10, 2, 797]), (2, 2, 0, []), (31, 0, 0, []), (32, 0, 0, []), (8, 2, 1, []), (23, 11, 0, [])]
def B146_12 : List MIns := [(44, 0, 0, [])]
def P146 : List (List MIns) := [B146_0, B146_1, B146_2, B146_3, B146_4, B146_5, B146_6, B146_7, B146_8, B146_9, B146_10, B146_11, B146_12]
def B147_0 : List MIns := [(0, 0, 0, []), (5, 2, 0, []), (24, 1, 0, [])]
def B147_1 : List MIns := [(2, 2, 0, []), (4, 0, 0, []), (27, 0, 11, [160, 10, 0, 791]), (21, 3, 3, []), (4, 0, 0, []), (28, 0, 12, [34, 10, 2, 792]), (0, 0, 3, []), (2, 2, 0, []), (9, 2, 0, []), (0, 0, 1, []), (9, 0, 0, []), (31, 0, 0, []), (2, 1, 0, []), (21, 2, 1, []), (4, 0, 0, []), (27, 0, 13, [194, 10, 0, 793]), (2, 2, 0, []), (36, 105, 2, [197, 1015, 0]), (20, 2, 1, []), (4, 0, 0, []), (4, 0, 0, []), (28, 0, 12, [34, 10, 2, 792]), (0, 0, 3, []), (2, 2, 0, []), (9, 2, 0, []), (31, 0, 0, []), (4, 0, 0, []), (28, 0, 12, [34, 10, 2, 792]), (0, 0, 3, []), (2, 2, 0, []), (9, 2, 0, []), (0, 0, 2, []), (9, 0, 0, []), (31, 0, 0, []), (37, 144, 2, [200, 1018, 10]), (24, 2, 0, [])]
def B147_2 : List MIns := [(8, 2, 1, []), (23, 1, 0, [])]
def B147_3 : List MIns := [(0, 0, 0, []), (5, 2, 0, []), (24, 4, 0, [])]
def B147_4 : List MIns := [(2, 2, 0, []), (4, 0, 0, []), (27, 0, 9, [136, 10, 0, 789]), (21, 6, 3, []), (4, 0, 0, []), (28, 0, 10, [31, 10, 2, 790]), (0, 0, 4, []), (2, 2, 0, []), (9, 2, 0, []), (0, 0, 1, []), (9, 0, 0, []), (31, 0, 0, []), (2, 1, 0, []), (21, 5, 1, []), (4, 0, 0, []), (2, 2, 0, []), (37, 145, 1, [203, 1041, 10]), (24, 5, 0, [])]
def B147_5 : List MIns := [(8, 2, 1, []), (23, 4, 0, [])]
def B147_6 : List MIns := [(4, 0, 0, []), (2, 1, 0, []), (37, 146, 1, [207, 1048, 10]), (44, 0, 0, [])]
def P147 : List (List MIns) := [B147_0, B147_1, B147_2, B147_3, B147_4, B147_5, B147_6]
def B148_0 : List MIns := [(0, 0, 0, []), (5, 1, 0, []), (24, 1, 0, [])]
def B148_1 : List MIns := [(2, 1, 0, []), (4, 0, 0, []), (27, 0, 7, [122, 10, 0, 787]), (21, 2, 3, []), (4, 0, 0, []), (28, 0, 14, [37, 10, 2, 794]), (2, 1, 0, []), (4, 0, 0, []), (28, 0, 8, [28, 10, 2, 788]), (0, 0, 2, []), (2, 1, 0, []), (9, 2, 0, []), (0, 0, 1, []), (9, 0, 0, []), (31, 0, 0, []), (32, 0, 0, []), (8, 1, 1, []), (23, 1, 0, [])]
def B148_2 : List MIns := [(0, 0, 0, []), (5, 1, 0, []), (24, 3, 0, [])]
def B148_3 : List MIns := [(2, 1, 0, []), (0, 1, 8, []), (21, 4, 3, []), (4, 0, 0, []), (28, 0, 15, [40, 10, 2, 795]), (2, 1, 0, []), (0, 0, 0, []), (32, 0, 0, []), (4, 0, 0, []), (28, 0, 16, [43, 10, 2, 796]), (2, 1, 0, []), (0, 0, 0, []), (32, 0, 0, []), (4, 0, 0, []), (28, 0, 17, [46, 10, 2, 797]), (2, 1, 0, []), (0, 0, 0, []), (32, 0, 0, []), (8, 1, 1, []), (23, 3, 0, [])]
def B148_4 : List MIns := [(0, 0, 0, []), (5, 1, 0, []), (24, 5, 0, [])]
def B148_5 : List MIns := [(2, 1, 0, []), (0, 1, 24, []), (21, 6, 3, []), (4, 0, 0, []), (2, 1, 0, []), (37, 147, 1, [210, 1011, 10]), (8, 1, 1, []), (23, 5, 0, [])]
def B148_6 : List MIns := [(44, 0, 0, [])]
def P148 : List (List MIns) := [B148_0, B148_1, B148_2, B148_3, B148_4, B148_5, B148_6]
def B149_0 : List MIns := [(4, 0, 0, []), (37, 125, 0, [142, 935, 10]), (18, 0, 0, []), (4, 0, 0, []), (37, 128, 0, [146, 947, 10]), (18, 0, 0, []), (4, 0, 0, []), (37, 148, 0, [213, 1007, 10]), (44, 0, 0, [])]
def P149 : List (List MIns) := [B149_0]
def B150_0 : List MIns := [(4, 0, 0, []), (28, 0, 18, [49, 10, 2, 798]), (0, 1, 8, []), (2, 1, 0, []), (9, 2, 0, []), (2, 2, 0, []), (9, 0, 0, []), (31, 0, 0, []), (4, 0, 0, []), (28, 0, 20, [55, 10, 2, 800]), (0, 1, 8, []), (2, 1, 0, []), (9, 2, 0, []), (2, 2, 0, []), (9, 0, 0, []), (31, 0, 0, []), (9, 1, 0, []), (41, 0, 0, [])]
def P150 : List (List MIns) := [B150_0]
def B151_0 : List MIns := [(0, 1, 8, []), (2, 1, 0, []), (9, 2, 0, []), (2, 2, 0, []), (9, 0, 0, []), (5, 4, 0, []), (2, 3, 0, []), (25, 5, 0, [1, 2, 3, 4])]
def B151_1 : List MIns := [(4, 0, 0, []), (28, 0, 18, [49, 10, 2, 798]), (2, 4, 0, []), (31, 0, 0, []), (41, 0, 0, [])]
def B151_2 : List MIns := [(4, 0, 0, []), (28, 0, 19, [52, 10, 2, 799]), (2, 4, 0, []), (31, 0, 0, []), (41, 0, 0, [])]
def B151_3 : List MIns := [(4, 0, 0, []), (28, 0, 20, [55, 10, 2, 800]), (2, 4, 0, []), (31, 0, 0, []), (41, 0, 0, [])]
def B151_4 : List MIns := [(4, 0, 0, []), (28, 0, 21, [58, 10, 2, 801]), (2, 4, 0, []), (31, 0, 0, []), (41, 0, 0, [])]
def B151_5 : List MIns := [(4, 0, 0, []), (2, 1, 0, []), (2, 2, 0, []), (37, 150, 2, [216, 1057, 10]), (41, 0, 0, [])]
def P151 : List (List MIns) := [B151_0, B151_1, B151_2, B151_3, B151_4, B151_5]
def B152_0 : List MIns := [(4, 0, 0, []), (37, 149, 0, [219, 1003, 10]), (2, 1, 0, []), (36, 133, 1, [163, 981, 0]), (20, 1, 0, []), (4, 0, 0, []), (2, 2, 0, []), (37, 131, 1, [154, 965, 10]), (20, 1, 0, []), (2, 3, 0, []), (15, 0, 0, []), (1, 0, 0, []), (1, 1, 4, [222, 1052]), (36, 102, 3, [81, 879, 0]), (20, 1, 0, []), (4, 0, 0, []), (2, 1, 0, []), (2, 2, 0, []), (2, 3, 0, []), (37, 151, 3, [224, 1053, 10]), (23, 2, 0, [])]
def B152_1 : List MIns := [(0, 1, (-2), []), (24, 2, 0, [])]
def B152_2 : List MIns := [(41, 0, 0, [])]
def P152 : List (List MIns) := [B152_0, B152_1, B152_2]
def B153_0 : List MIns := [(0, 1, 8, []), (2, 1, 0, []), (9, 2, 0, []), (2, 2, 0, []), (9, 0, 0, []), (5, 4, 0, []), (2, 3, 0, []), (20, 1, 1, []), (4, 0, 0, []), (28, 0, 22, [61, 10, 2, 802]), (2, 4, 0, []), (31, 0, 0, []), (23, 3, 0, [])]
def B153_1 : List MIns := [(2, 3, 0, []), (0, 0, 1, []), (21, 2, 1, []), (4, 0, 0, []), (28, 0, 23, [64, 10, 2, 803]), (2, 4, 0, []), (31, 0, 0, []), (23, 3, 0, [])]
def B153_2 : List MIns := [(4, 0, 0, []), (28, 0, 24, [67, 10, 2, 804]), (2, 4, 0, []), (31, 0, 0, []), (24, 3, 0, [])]
def B153_3 : List MIns := [(41, 0, 0, [])]
def P153 : List (List MIns) := [B153_0, B153_1, B153_2, B153_3]
def B154_0 : List MIns := [(4, 0, 0, []), (37, 149, 0, [219, 1003, 10]), (2, 1, 0, []), (36, 133, 1, [163, 981, 0]), (20, 1, 0, []), (4, 0, 0, []), (2, 2, 0, []), (37, 132, 1, [157, 973, 10]), (20, 1, 0, []), (2, 3, 0, []), (15, 0, 0, []), (1, 0, 0, []), (1, 1, 2, [95, 882]), (36, 102, 3, [81, 879, 0]), (20, 1, 0, []), (4, 0, 0, []), (2, 1, 0, []), (2, 2, 0, []), (2, 3, 0, []), (37, 153, 3, [227, 1065, 10]), (23, 2, 0, [])]
def B154_1 : List MIns := [(0, 1, (-2), []), (24, 2, 0, [])]
def B154_2 : List MIns := [(41, 0, 0, [])]
def P154 : List (List MIns) := [B154_0, B154_1, B154_2]
def B155_0 : List MIns := [(0, 0, 0, []), (5, 2, 0, []), (0, 0, 0, []), (5, 3, 0, []), (24, 1, 0, [])]
def B155_1 : List MIns := [(2, 3, 0, []), (4, 0, 0, []), (27, 0, 7, [122, 10, 0, 787]), (21, 2, 3, []), (2, 2, 0, []), (4, 0, 0, []), (2, 1, 0, []), (2, 3, 0, []), (37, 150, 2, [216, 1057, 10]), (9, 0, 0, []), (5, 2, 0, []), (8, 3, 1, []), (23, 1, 0, [])]
def B155_2 : List MIns := [(2, 2, 0, []), (41, 0, 0, [])]
def P155 : List (List MIns) := [B155_0, B155_1, B155_2]
def B156_0 : List MIns := [(4, 0, 0, []), (37, 149, 0, [219, 1003, 10]), (2, 1, 0, []), (36, 133, 1, [163, 981, 0]), (20, 1, 0, []), (4, 0, 0, []), (2, 1, 0, []), (37, 155, 1, [230, 1073, 10]), (23, 2, 0, [])]
def B156_1 : List MIns := [(0, 1, (-2), []), (24, 2, 0, [])]
def B156_2 : List MIns := [(41, 0, 0, [])]
def P156 : List (List MIns) := [B156_0, B156_1, B156_2]
def B157_0 : List MIns := [(0, 0, 0, []), (5, 2, 0, []), (24, 1, 0, [])]
def B157_1 : List MIns := [(2, 2, 0, []), (0, 1, 24, []), (21, 7, 3, []), (0, 0, 0, []), (5, 3, 0, []), (24, 2, 0, [])]
def B157_2 : List MIns := [(2, 3, 0, []), (4, 0, 0, []), (27, 0, 7, [122, 10, 0, 787]), (21, 6, 3, []), (4, 0, 0, []), (28, 0, 19, [52, 10, 2, 799]), (0, 1, 8, []), (2, 2, 0, []), (9, 2, 0, []), (2, 3, 0, []), (9, 0, 0, []), (31, 0, 0, []), (20, 5, 5, []), (4, 0, 0, []), (2, 2, 0, []), (2, 3, 0, []), (37, 150, 2, [216, 1057, 10]), (0, 0, 5, []), (21, 5, 2, []), (2, 1, 0, []), (20, 3, 1, []), (2, 2, 0, []), (23, 4, 0, [])]
def B157_3 : List MIns := [(2, 3, 0, []), (24, 4, 0, [])]
def B157_4 : List MIns := [(41, 0, 0, [])]
def B157_5 : List MIns := [(8, 3, 1, []), (23, 2, 0, [])]
def B157_6 : List MIns := [(8, 2, 1, []), (23, 1, 0, [])]
def B157_7 : List MIns := [(0, 0, (-1), []), (41, 0, 0, [])]
def P157 : List (List MIns) := [B157_0, B157_1, B157_2, B157_3, B157_4, B157_5, B157_6, B157_7]
def B158_0 : List MIns := [(4, 0, 0, []), (37, 149, 0, [219, 1003, 10]), (2, 1, 0, []), (36, 104, 1, [110, 915, 0]), (20, 1, 0, []), (4, 0, 0, []), (2, 1, 0, []), (37, 157, 1, [233, 1081, 10]), (23, 2, 0, [])]
def B158_1 : List MIns := [(0, 1, (-2), []), (24, 2, 0, [])]
def B158_2 : List MIns := [(41, 0, 0, [])]
def P158 : List (List MIns) := [B158_0, B158_1, B158_2]
def B159_0 : List MIns := [(0, 0, 0, []), (5, 2, 0, []), (4, 0, 0, []), (28, 0, 10, [31, 10, 2, 790]), (0, 0, 4, []), (2, 1, 0, []), (9, 2, 0, []), (0, 0, 2, []), (9, 0, 0, []), (31, 0, 0, []), (5, 3, 0, []), (24, 1, 0, [])]
def B159_1 : List MIns := [(2, 2, 0, []), (0, 1, 8, []), (21, 2, 3, []), (4, 0, 0, []), (2, 3, 0, []), (37, 132, 1, [157, 973, 10]), (20, 2, 0, []), (8, 2, 1, []), (4, 0, 0, []), (28, 0, 10, [31, 10, 2, 790]), (0, 0, 4, []), (2, 3, 0, []), (9, 2, 0, []), (0, 0, 2, []), (9, 0, 0, []), (31, 0, 0, []), (5, 3, 0, []), (23, 1, 0, [])]
def B159_2 : List MIns := [(2, 2, 0, []), (41, 0, 0, [])]
def P159 : List (List MIns) := [B159_0, B159_1, B159_2]
def B160_0 : List MIns := [(4, 0, 0, []), (37, 128, 0, [146, 947, 10]), (18, 0, 0, []), (4, 0, 0, []), (2, 1, 0, []), (37, 132, 1, [157, 973, 10]), (20, 1, 0, []), (4, 0, 0, []), (2, 1, 0, []), (37, 159, 1, [236, 1089, 10]), (23, 2, 0, [])]
def B160_1 : List MIns := [(0, 1, (-2), []), (24, 2, 0, [])]
def B160_2 : List MIns := [(41, 0, 0, [])]
def P160 : List (List MIns) := [B160_0, B160_1, B160_2]
def B161_0 : List MIns := [(0, 0, (-1), []), (5, 1, 0, []), (0, 0, 0, []), (5, 2, 0, []), (24, 1, 0, [])]
def B161_1 : List MIns := [(2, 2, 0, []), (4, 0, 0, []), (27, 0, 9, [136, 10, 0, 789]), (21, 5, 3, []), (4, 0, 0, []), (28, 0, 15, [40, 10, 2, 795]), (2, 2, 0, []), (31, 0, 0, []), (0, 0, 1, []), (21, 3, 1, []), (2, 1, 0, []), (0, 0, (-1), []), (21, 2, 0, []), (4, 0, 0, []), (28, 0, 16, [43, 10, 2, 796]), (2, 2, 0, []), (31, 0, 0, []), (4, 0, 0, []), (28, 0, 16, [43, 10, 2, 796]), (2, 1, 0, []), (31, 0, 0, []), (21, 3, 3, []), (24, 2, 0, [])]
def B161_2 : List MIns := [(2, 2, 0, []), (23, 4, 0, [])]
def B161_3 : List MIns := [(2, 1, 0, []), (24, 4, 0, [])]
def B161_4 : List MIns := [(5, 1, 0, []), (8, 2, 1, []), (23, 1, 0, [])]
def B161_5 : List MIns := [(2, 1, 0, []), (41, 0, 0, [])]
def P161 : List (List MIns) := [B161_0, B161_1, B161_2, B161_3, B161_4, B161_5]
def B162_0 : List MIns := [(4, 0, 0, []), (37, 149, 0, [219, 1003, 10]), (4, 0, 0, []), (37, 161, 0, [239, 1097, 10]), (41, 0, 0, [])]
def P162 : List (List MIns) := [B162_0]
def B163_0 : List MIns := [(0, 0, 0, []), (5, 2, 0, []), (0, 0, 0, []), (5, 3, 0, []), (24, 1, 0, [])]
def B163_1 : List MIns := [(2, 3, 0, []), (4, 0, 0, []), (27, 0, 7, [122, 10, 0, 787]), (21, 4, 3, []), (2, 1, 0, []), (20, 4, 1, []), (2, 2, 0, []), (4, 0, 0, []), (28, 0, 19, [52, 10, 2, 799]), (0, 2, 184, []), (2, 3, 0, []), (9, 0, 0, []), (31, 0, 0, []), (20, 2, 1, []), (0, 0, 1, []), (2, 3, 0, []), (9, 5, 0, []), (23, 3, 0, [])]
def B163_2 : List MIns := [(0, 0, 0, []), (24, 3, 0, [])]
def B163_3 : List MIns := [(9, 4, 0, []), (5, 2, 0, []), (8, 3, 1, []), (23, 1, 0, [])]
def B163_4 : List MIns := [(0, 0, 0, []), (5, 3, 0, []), (24, 5, 0, [])]
def B163_5 : List MIns := [(2, 3, 0, []), (4, 0, 0, []), (27, 0, 9, [136, 10, 0, 789]), (21, 8, 3, []), (2, 1, 0, []), (0, 0, 1, []), (21, 8, 1, []), (2, 2, 0, []), (4, 0, 0, []), (28, 0, 15, [40, 10, 2, 795]), (2, 3, 0, []), (31, 0, 0, []), (0, 0, 3, []), (21, 6, 1, []), (0, 0, 1, []), (2, 3, 0, []), (9, 5, 0, []), (23, 7, 0, [])]
def B163_6 : List MIns := [(0, 0, 0, []), (24, 7, 0, [])]
def B163_7 : List MIns := [(9, 4, 0, []), (5, 2, 0, []), (8, 3, 1, []), (23, 5, 0, [])]
def B163_8 : List MIns := [(2, 2, 0, []), (41, 0, 0, [])]
def P163 : List (List MIns) := [B163_0, B163_1, B163_2, B163_3, B163_4, B163_5, B163_6, B163_7, B163_8]
def B164_0 : List MIns := [(4, 0, 0, []), (37, 149, 0, [219, 1003, 10]), (2, 1, 0, []), (36, 104, 1, [110, 915, 0]), (20, 1, 0, []), (4, 0, 0, []), (2, 1, 0, []), (37, 163, 1, [242, 1105, 10]), (23, 2, 0, [])]
def B164_1 : List MIns := [(0, 1, (-2), []), (24, 2, 0, [])]
def B164_2 : List MIns := [(41, 0, 0, [])]
def P164 : List (List MIns) := [B164_0, B164_1, B164_2]
def B165_0 : List MIns := [(0, 0, 0, []), (5, 1, 0, []), (0, 0, 0, []), (5, 2, 0, []), (24, 1, 0, [])]
def B165_1 : List MIns := [(2, 2, 0, []), (4, 0, 0, []), (27, 0, 9, [136, 10, 0, 789]), (21, 4, 3, []), (2, 1, 0, []), (4, 0, 0, []), (28, 0, 15, [40, 10, 2, 795]), (2, 2, 0, []), (31, 0, 0, []), (0, 0, 2, []), (21, 2, 1, []), (0, 0, 1, []), (23, 3, 0, [])]
def B165_2 : List MIns := [(0, 0, 0, []), (24, 3, 0, [])]
def B165_3 : List MIns := [(9, 0, 0, []), (5, 1, 0, []), (8, 2, 1, []), (23, 1, 0, [])]
def B165_4 : List MIns := [(2, 1, 0, []), (41, 0, 0, [])]
def P165 : List (List MIns) := [B165_0, B165_1, B165_2, B165_3, B165_4]
def B166_0 : List MIns := [(0, 0, 4, []), (2, 1, 0, []), (9, 2, 0, []), (2, 2, 0, []), (9, 0, 0, []), (5, 6, 0, []), (4, 0, 0, []), (28, 0, 10, [31, 10, 2, 790]), (2, 6, 0, []), (31, 0, 0, []), (5, 7, 0, []), (0, 0, (-1), []), (5, 8, 0, []), (0, 2, 999, []), (5, 9, 0, []), (0, 0, 0, []), (5, 10, 0, []), (24, 1, 0, [])]
def B166_1 : List MIns := [(2, 10, 0, []), (2, 3, 0, []), (21, 5, 3, []), (2, 10, 0, []), (2, 4, 0, []), (21, 4, 0, []), (4, 0, 0, []), (28, 0, 10, [31, 10, 2, 790]), (2, 6, 0, []), (2, 10, 0, []), (32, 0, 0, []), (4, 0, 0, []), (37, 148, 0, [213, 1007, 10]), (4, 0, 0, []), (0, 1, 23, []), (37, 155, 1, [230, 1073, 10]), (5, 11, 0, []), (2, 11, 0, []), (2, 9, 0, []), (21, 2, 3, []), (2, 10, 0, []), (23, 3, 0, [])]
def B166_2 : List MIns := [(2, 8, 0, []), (24, 3, 0, [])]
def B166_3 : List MIns := [(5, 8, 0, []), (2, 11, 0, []), (2, 9, 0, []), (36, 107, 2, [191, 1045, 0]), (5, 9, 0, []), (24, 4, 0, [])]
def B166_4 : List MIns := [(8, 10, 1, []), (23, 1, 0, [])]
def B166_5 : List MIns := [(4, 0, 0, []), (28, 0, 10, [31, 10, 2, 790]), (2, 6, 0, []), (2, 7, 0, []), (32, 0, 0, []), (2, 8, 0, []), (0, 0, (-1), []), (21, 6, 0, []), (2, 5, 0, []), (20, 7, 1, []), (24, 6, 0, [])]
def B166_6 : List MIns := [(2, 8, 0, []), (23, 8, 0, [])]
def B166_7 : List MIns := [(2, 9, 0, []), (24, 8, 0, [])]
def B166_8 : List MIns := [(41, 0, 0, [])]
def P166 : List (List MIns) := [B166_0, B166_1, B166_2, B166_3, B166_4, B166_5, B166_6, B166_7, B166_8]
def B167_0 : List MIns := [(4, 0, 0, []), (37, 149, 0, [219, 1003, 10]), (4, 0, 0, []), (2, 1, 0, []), (37, 132, 1, [157, 973, 10]), (20, 1, 0, []), (2, 2, 0, []), (36, 104, 1, [110, 915, 0]), (20, 1, 0, []), (4, 0, 0, []), (2, 1, 0, []), (0, 0, 0, []), (4, 0, 0, []), (27, 0, 7, [122, 10, 0, 787]), (0, 0, (-1), []), (2, 2, 0, []), (37, 166, 5, [245, 1113, 10]), (23, 2, 0, [])]
def B167_1 : List MIns := [(0, 1, (-2), []), (24, 2, 0, [])]
def B167_2 : List MIns := [(41, 0, 0, [])]
def P167 : List (List MIns) := [B167_0, B167_1, B167_2]
def B168_0 : List MIns := [(4, 0, 0, []), (37, 149, 0, [219, 1003, 10]), (4, 0, 0, []), (2, 1, 0, []), (37, 132, 1, [157, 973, 10]), (20, 1, 0, []), (2, 2, 0, []), (36, 104, 1, [110, 915, 0]), (20, 1, 0, []), (4, 0, 0, []), (2, 1, 0, []), (0, 0, 1, []), (0, 1, 24, []), (0, 0, (-1), []), (2, 2, 0, []), (37, 166, 5, [245, 1113, 10]), (23, 2, 0, [])]
def B168_1 : List MIns := [(0, 1, (-2), []), (24, 2, 0, [])]
def B168_2 : List MIns := [(41, 0, 0, [])]
def P168 : List (List MIns) := [B168_0, B168_1, B168_2]
def B169_0 : List MIns := [(4, 0, 0, []), (37, 149, 0, [219, 1003, 10]), (4, 0, 0, []), (2, 1, 0, []), (37, 132, 1, [157, 973, 10]), (20, 1, 0, []), (2, 2, 0, []), (36, 104, 1, [110, 915, 0]), (20, 1, 0, []), (4, 0, 0, []), (2, 1, 0, []), (0, 0, 2, []), (0, 1, 9, []), (2, 1, 0, []), (2, 2, 0, []), (37, 166, 5, [245, 1113, 10]), (23, 2, 0, [])]
def B169_1 : List MIns := [(0, 1, (-2), []), (24, 2, 0, [])]
def B169_2 : List MIns := [(41, 0, 0, [])]
def P169 : List (List MIns) := [B169_0, B169_1, B169_2]
def B170_0 : List MIns := [(4, 0, 0, []), (2, 1, 0, []), (29, 0, 13, [194, 10, 0, 793]), (4, 0, 0, []), (37, 148, 0, [213, 1007, 10]), (4, 0, 0, []), (0, 0, 0, []), (29, 0, 13, [194, 10, 0, 793]), (4, 0, 0, []), (0, 0, 0, []), (37, 163, 1, [242, 1105, 10]), (20, 1, 1, []), (0, 0, 1, []), (23, 2, 0, [])]
def B170_1 : List MIns := [(0, 0, 0, []), (24, 2, 0, [])]
def B170_2 : List MIns := [(41, 1, 0, [])]
def P170 : List (List MIns) := [B170_0, B170_1, B170_2]
def B171_0 : List MIns := [(4, 0, 0, []), (0, 0, 0, []), (37, 170, 1, [249, 1134, 10]), (20, 3, 0, []), (2, 1, 0, []), (0, 0, (-1), []), (21, 1, 1, []), (0, 0, 0, []), (23, 2, 0, [])]
def B171_1 : List MIns := [(0, 0, (-1), []), (24, 2, 0, [])]
def B171_2 : List MIns := [(41, 0, 0, [])]
def B171_3 : List MIns := [(0, 0, 0, []), (5, 2, 0, []), (24, 4, 0, [])]
def B171_4 : List MIns := [(2, 2, 0, []), (4, 0, 0, []), (27, 0, 11, [160, 10, 0, 791]), (21, 9, 3, []), (4, 0, 0, []), (0, 0, 1, []), (2, 2, 0, []), (9, 5, 0, []), (37, 170, 1, [249, 1134, 10]), (20, 8, 0, []), (2, 1, 0, []), (0, 0, (-1), []), (21, 5, 1, []), (0, 0, 1, []), (23, 7, 0, [])]
def B171_5 : List MIns := [(2, 1, 0, []), (20, 6, 1, []), (2, 2, 0, []), (23, 7, 0, [])]
def B171_6 : List MIns := [(0, 0, (-1), []), (24, 7, 0, [])]
def B171_7 : List MIns := [(41, 0, 0, [])]
def B171_8 : List MIns := [(8, 2, 1, []), (23, 4, 0, [])]
def B171_9 : List MIns := [(0, 0, 0, []), (5, 2, 0, []), (24, 10, 0, [])]
def B171_10 : List MIns := [(2, 2, 0, []), (4, 0, 0, []), (27, 0, 11, [160, 10, 0, 791]), (21, 17, 3, []), (2, 2, 0, []), (0, 0, 1, []), (9, 0, 0, []), (5, 3, 0, []), (24, 11, 0, [])]
def B171_11 : List MIns := [(2, 3, 0, []), (4, 0, 0, []), (27, 0, 11, [160, 10, 0, 791]), (21, 16, 3, []), (4, 0, 0, []), (0, 0, 1, []), (2, 2, 0, []), (9, 5, 0, []), (0, 0, 1, []), (2, 3, 0, []), (9, 5, 0, []), (9, 4, 0, []), (37, 170, 1, [249, 1134, 10]), (20, 15, 0, []), (2, 1, 0, []), (0, 0, (-1), []), (21, 12, 1, []), (0, 0, 2, []), (23, 14, 0, [])]
def B171_12 : List MIns := [(2, 1, 0, []), (20, 13, 1, []), (2, 2, 0, []), (23, 14, 0, [])]
def B171_13 : List MIns := [(2, 3, 0, []), (24, 14, 0, [])]
def B171_14 : List MIns := [(41, 0, 0, [])]
def B171_15 : List MIns := [(8, 3, 1, []), (23, 11, 0, [])]
def B171_16 : List MIns := [(8, 2, 1, []), (23, 10, 0, [])]
def B171_17 : List MIns := [(0, 0, (-1), []), (41, 0, 0, [])]
def P171 : List (List MIns) := [B171_0, B171_1, B171_2, B171_3, B171_4, B171_5, B171_6, B171_7, B171_8, B171_9, B171_10, B171_11, B171_12, B171_13, B171_14, B171_15, B171_16, B171_17]
def B172_0 : List MIns := [(4, 0, 0, []), (37, 149, 0, [219, 1003, 10]), (2, 1, 0, []), (15, 0, 0, []), (1, 1, (-1), [252, 1129]), (1, 0, 1, []), (36, 102, 3, [81, 879, 0]), (20, 1, 0, []), (4, 0, 0, []), (2, 1, 0, []), (37, 171, 1, [254, 1130, 10]), (23, 2, 0, [])]
def B172_1 : List MIns := [(0, 1, (-2), []), (24, 2, 0, [])]
def B172_2 : List MIns := [(41, 0, 0, [])]
def P172 : List (List MIns) := [B172_0, B172_1, B172_2]
def B173_0 : List MIns := [(2, 1, 0, []), (36, 133, 1, [163, 981, 0]), (20, 1, 0, []), (2, 2, 0, []), (15, 0, 0, []), (1, 0, 0, []), (1, 1, 5, [166, 985]), (36, 102, 3, [81, 879, 0]), (20, 1, 0, []), (2, 3, 0, []), (15, 0, 0, []), (1, 0, 0, []), (1, 1, 20, [257, 1142]), (36, 102, 3, [81, 879, 0]), (20, 2, 1, []), (24, 1, 0, [])]
def B173_1 : List MIns := [(0, 1, (-2), []), (41, 0, 0, [])]
def B173_2 : List MIns := [(4, 0, 0, []), (27, 0, 25, [259, 10, 0, 805]), (0, 1, 8, []), (21, 3, 1, []), (0, 1, (-4), []), (41, 0, 0, [])]
def B173_3 : List MIns := [(4, 0, 0, []), (28, 0, 26, [70, 10, 2, 806]), (0, 0, 3, []), (4, 0, 0, []), (27, 0, 25, [259, 10, 0, 805]), (9, 2, 0, []), (2, 1, 0, []), (32, 0, 0, []), (4, 0, 0, []), (28, 0, 26, [70, 10, 2, 806]), (0, 0, 3, []), (4, 0, 0, []), (27, 0, 25, [259, 10, 0, 805]), (9, 2, 0, []), (0, 0, 1, []), (9, 0, 0, []), (2, 2, 0, []), (32, 0, 0, []), (4, 0, 0, []), (28, 0, 26, [70, 10, 2, 806]), (0, 0, 3, []), (4, 0, 0, []), (27, 0, 25, [259, 10, 0, 805]), (9, 2, 0, []), (0, 0, 2, []), (9, 0, 0, []), (2, 3, 0, []), (32, 0, 0, []), (4, 0, 0, []), (17, 0, 0, []), (27, 0, 25, [259, 10, 0, 805]), (0, 0, 1, []), (9, 0, 0, []), (29, 0, 25, [259, 10, 0, 805]), (4, 0, 0, []), (27, 0, 25, [259, 10, 0, 805]), (41, 0, 0, [])]
def P173 : List (List MIns) := [B173_0, B173_1, B173_2, B173_3]
def B174_0 : List MIns := [(4, 0, 0, []), (27, 0, 25, [259, 10, 0, 805]), (5, 1, 0, []), (4, 0, 0, []), (0, 0, 0, []), (29, 0, 25, [259, 10, 0, 805]), (2, 1, 0, []), (41, 0, 0, [])]
def P174 : List (List MIns) := [B174_0]
def B175_0 : List MIns := [(4, 0, 0, []), (37, 148, 0, [213, 1007, 10]), (0, 0, 1, []), (5, 1, 0, []), (0, 0, 0, []), (5, 2, 0, []), (24, 1, 0, [])]
def B175_1 : List MIns := [(2, 2, 0, []), (4, 0, 0, []), (27, 0, 25, [259, 10, 0, 805]), (21, 4, 3, []), (4, 0, 0, []), (28, 0, 26, [70, 10, 2, 806]), (0, 0, 3, []), (2, 2, 0, []), (9, 2, 0, []), (0, 0, 1, []), (9, 0, 0, []), (31, 0, 0, []), (5, 3, 0, []), (2, 1, 0, []), (20, 2, 0, []), (4, 0, 0, []), (2, 3, 0, []), (37, 131, 1, [154, 965, 10]), (20, 2, 0, []), (4, 0, 0, []), (4, 0, 0, []), (28, 0, 26, [70, 10, 2, 806]), (0, 0, 3, []), (2, 2, 0, []), (9, 2, 0, []), (31, 0, 0, []), (2, 3, 0, []), (37, 150, 2, [216, 1057, 10]), (4, 0, 0, []), (28, 0, 26, [70, 10, 2, 806]), (0, 0, 3, []), (2, 2, 0, []), (9, 2, 0, []), (0, 0, 2, []), (9, 0, 0, []), (31, 0, 0, []), (21, 2, 1, []), (0, 0, 1, []), (23, 3, 0, [])]
def B175_2 : List MIns := [(0, 0, 0, []), (24, 3, 0, [])]
def B175_3 : List MIns := [(5, 1, 0, []), (8, 2, 1, []), (23, 1, 0, [])]
def B175_4 : List MIns := [(2, 1, 0, []), (41, 1, 0, [])]
def P175 : List (List MIns) := [B175_0, B175_1, B175_2, B175_3, B175_4]
def B176_0 : List MIns := [(0, 0, 0, []), (5, 1, 0, []), (0, 0, 0, []), (5, 2, 0, []), (24, 1, 0, [])]
def B176_1 : List MIns := [(2, 2, 0, []), (4, 0, 0, []), (27, 0, 11, [160, 10, 0, 791]), (21, 4, 3, []), (4, 0, 0, []), (0, 0, 1, []), (2, 2, 0, []), (9, 5, 0, []), (29, 0, 13, [194, 10, 0, 793]), (2, 1, 0, []), (4, 0, 0, []), (37, 175, 0, [262, 1155, 10]), (20, 2, 0, []), (0, 0, 1, []), (2, 2, 0, []), (9, 5, 0, []), (23, 3, 0, [])]
def B176_2 : List MIns := [(0, 0, 0, []), (24, 3, 0, [])]
def B176_3 : List MIns := [(9, 4, 0, []), (5, 1, 0, []), (8, 2, 1, []), (23, 1, 0, [])]
def B176_4 : List MIns := [(4, 0, 0, []), (0, 0, 0, []), (29, 0, 13, [194, 10, 0, 793]), (2, 1, 0, []), (41, 0, 0, [])]
def P176 : List (List MIns) := [B176_0, B176_1, B176_2, B176_3, B176_4]
def B177_0 : List MIns := [(4, 0, 0, []), (37, 149, 0, [219, 1003, 10]), (4, 0, 0, []), (37, 176, 0, [266, 1151, 10]), (41, 0, 0, [])]
def P177 : List (List MIns) := [B177_0]
def B178_0 : List MIns := [(4, 0, 0, []), (28, 0, 8, [28, 10, 2, 788]), (0, 0, 2, []), (2, 1, 0, []), (9, 2, 0, []), (0, 0, 1, []), (9, 0, 0, []), (31, 0, 0, []), (5, 2, 0, []), (0, 0, 0, []), (5, 3, 0, []), (0, 0, 1, []), (5, 4, 0, []), (24, 1, 0, [])]
def B178_1 : List MIns := [(2, 4, 0, []), (0, 1, 21, []), (21, 6, 3, []), (4, 0, 0, []), (28, 0, 8, [28, 10, 2, 788]), (0, 0, 2, []), (2, 1, 0, []), (9, 2, 0, []), (0, 0, 1, []), (9, 0, 0, []), (2, 4, 0, []), (32, 0, 0, []), (2, 3, 0, []), (4, 0, 0, []), (37, 175, 0, [262, 1155, 10]), (20, 2, 0, []), (0, 0, 1, []), (2, 4, 0, []), (9, 5, 0, []), (23, 3, 0, [])]
def B178_2 : List MIns := [(0, 0, 0, []), (24, 3, 0, [])]
def B178_3 : List MIns := [(9, 4, 0, []), (5, 3, 0, []), (0, 0, 0, []), (5, 5, 0, []), (24, 4, 0, [])]
def B178_4 : List MIns := [(2, 5, 0, []), (0, 1, 24, []), (21, 5, 3, []), (4, 0, 0, []), (28, 0, 27, [73, 10, 2, 807]), (0, 1, 24, []), (2, 4, 0, []), (9, 2, 0, []), (2, 5, 0, []), (9, 0, 0, []), (4, 0, 0, []), (2, 5, 0, []), (2, 1, 0, []), (37, 150, 2, [216, 1057, 10]), (32, 0, 0, []), (8, 5, 1, []), (23, 4, 0, [])]
def B178_5 : List MIns := [(8, 4, 1, []), (23, 1, 0, [])]
def B178_6 : List MIns := [(4, 0, 0, []), (28, 0, 8, [28, 10, 2, 788]), (0, 0, 2, []), (2, 1, 0, []), (9, 2, 0, []), (0, 0, 1, []), (9, 0, 0, []), (2, 2, 0, []), (32, 0, 0, []), (2, 3, 0, []), (41, 0, 0, [])]
def P178 : List (List MIns) := [B178_0, B178_1, B178_2, B178_3, B178_4, B178_5, B178_6]
def B179_0 : List MIns := [(4, 0, 0, []), (28, 0, 8, [28, 10, 2, 788]), (0, 0, 2, []), (2, 1, 0, []), (9, 2, 0, []), (31, 0, 0, []), (5, 2, 0, []), (0, 0, 0, []), (5, 3, 0, []), (0, 0, 0, []), (5, 4, 0, []), (24, 1, 0, [])]
def B179_1 : List MIns := [(2, 4, 0, []), (0, 0, 3, []), (21, 4, 3, []), (4, 0, 0, []), (28, 0, 8, [28, 10, 2, 788]), (0, 0, 2, []), (2, 1, 0, []), (9, 2, 0, []), (2, 4, 0, []), (32, 0, 0, []), (2, 3, 0, []), (4, 0, 0, []), (37, 175, 0, [262, 1155, 10]), (20, 2, 0, []), (0, 0, 1, []), (2, 4, 0, []), (9, 5, 0, []), (23, 3, 0, [])]
def B179_2 : List MIns := [(0, 0, 0, []), (24, 3, 0, [])]
def B179_3 : List MIns := [(9, 4, 0, []), (5, 3, 0, []), (8, 4, 1, []), (23, 1, 0, [])]
def B179_4 : List MIns := [(4, 0, 0, []), (28, 0, 8, [28, 10, 2, 788]), (0, 0, 2, []), (2, 1, 0, []), (9, 2, 0, []), (2, 2, 0, []), (32, 0, 0, []), (2, 3, 0, []), (41, 0, 0, [])]
def P179 : List (List MIns) := [B179_0, B179_1, B179_2, B179_3, B179_4]
def B180_0 : List MIns := [(2, 2, 0, []), (20, 1, 1, []), (4, 0, 0, []), (2, 1, 0, []), (37, 178, 1, [269, 1167, 10]), (23, 2, 0, [])]
def B180_1 : List MIns := [(4, 0, 0, []), (2, 1, 0, []), (37, 179, 1, [272, 1171, 10]), (24, 2, 0, [])]
def B180_2 : List MIns := [(41, 0, 0, [])]
def P180 : List (List MIns) := [B180_0, B180_1, B180_2]
def B181_0 : List MIns := [(4, 0, 0, []), (37, 149, 0, [219, 1003, 10]), (4, 0, 0, []), (2, 1, 0, []), (37, 131, 1, [154, 965, 10]), (20, 1, 0, []), (2, 2, 0, []), (36, 104, 1, [110, 915, 0]), (20, 1, 0, []), (4, 0, 0, []), (2, 1, 0, []), (2, 2, 0, []), (37, 180, 2, [275, 1163, 10]), (23, 2, 0, [])]
def B181_1 : List MIns := [(0, 1, (-2), []), (24, 2, 0, [])]
def B181_2 : List MIns := [(41, 0, 0, [])]
def P181 : List (List MIns) := [B181_0, B181_1, B181_2]
def B182_0 : List MIns := [(0, 0, 0, []), (5, 3, 0, []), (0, 0, 1, []), (5, 4, 0, []), (24, 1, 0, [])]
def B182_1 : List MIns := [(2, 4, 0, []), (0, 1, 21, []), (21, 6, 3, []), (0, 0, 0, []), (5, 5, 0, []), (0, 0, 1, []), (5, 6, 0, []), (24, 2, 0, [])]
def B182_2 : List MIns := [(2, 6, 0, []), (0, 1, 21, []), (21, 5, 3, []), (2, 5, 0, []), (2, 1, 0, []), (2, 4, 0, []), (36, 105, 2, [197, 1015, 0]), (20, 3, 0, []), (2, 1, 0, []), (2, 6, 0, []), (36, 105, 2, [197, 1015, 0]), (20, 3, 0, []), (4, 0, 0, []), (28, 0, 27, [73, 10, 2, 807]), (0, 1, 24, []), (2, 4, 0, []), (9, 2, 0, []), (2, 2, 0, []), (9, 0, 0, []), (31, 0, 0, []), (4, 0, 0, []), (28, 0, 27, [73, 10, 2, 807]), (0, 1, 24, []), (2, 6, 0, []), (9, 2, 0, []), (2, 2, 0, []), (9, 0, 0, []), (31, 0, 0, []), (21, 3, 1, []), (0, 0, 1, []), (23, 4, 0, [])]
def B182_3 : List MIns := [(0, 0, 0, []), (24, 4, 0, [])]
def B182_4 : List MIns := [(9, 0, 0, []), (5, 5, 0, []), (8, 6, 1, []), (23, 2, 0, [])]
def B182_5 : List MIns := [(2, 5, 0, []), (2, 3, 0, []), (36, 108, 2, [178, 1026, 0]), (5, 3, 0, []), (8, 4, 1, []), (23, 1, 0, [])]
def B182_6 : List MIns := [(2, 3, 0, []), (41, 0, 0, [])]
def P182 : List (List MIns) := [B182_0, B182_1, B182_2, B182_3, B182_4, B182_5, B182_6]
def B183_0 : List MIns := [(4, 0, 0, []), (2, 1, 0, []), (37, 178, 1, [269, 1167, 10]), (5, 2, 0, []), (0, 0, 0, []), (5, 3, 0, []), (0, 0, 1, []), (5, 4, 0, []), (24, 1, 0, [])]
def B183_1 : List MIns := [(2, 4, 0, []), (0, 1, 24, []), (21, 4, 3, []), (4, 0, 0, []), (2, 2, 0, []), (2, 4, 0, []), (37, 182, 2, [278, 1183, 10]), (4, 0, 0, []), (2, 2, 0, []), (2, 3, 0, []), (37, 182, 2, [278, 1183, 10]), (21, 2, 3, []), (2, 4, 0, []), (23, 3, 0, [])]
def B183_2 : List MIns := [(2, 3, 0, []), (24, 3, 0, [])]
def B183_3 : List MIns := [(5, 3, 0, []), (8, 4, 1, []), (23, 1, 0, [])]
def B183_4 : List MIns := [(2, 3, 0, []), (41, 0, 0, [])]
def P183 : List (List MIns) := [B183_0, B183_1, B183_2, B183_3, B183_4]
def B184_0 : List MIns := [(4, 0, 0, []), (37, 149, 0, [219, 1003, 10]), (4, 0, 0, []), (2, 1, 0, []), (37, 131, 1, [154, 965, 10]), (20, 1, 0, []), (4, 0, 0, []), (2, 1, 0, []), (37, 183, 1, [281, 1179, 10]), (23, 2, 0, [])]
def B184_1 : List MIns := [(0, 1, (-2), []), (24, 2, 0, [])]
def B184_2 : List MIns := [(41, 0, 0, [])]
def P184 : List (List MIns) := [B184_0, B184_1, B184_2]
def B185_0 : List MIns := [(1, 0, 0, []), (6, 4, 0, []), (0, 0, 0, []), (5, 6, 0, []), (24, 1, 0, [])]
def B185_1 : List MIns := [(2, 6, 0, []), (0, 0, 1, []), (4, 0, 0, []), (27, 0, 11, [160, 10, 0, 791]), (9, 5, 0, []), (21, 8, 3, []), (4, 0, 0, []), (2, 6, 0, []), (29, 0, 13, [194, 10, 0, 793]), (4, 0, 0, []), (37, 148, 0, [213, 1007, 10]), (4, 0, 0, []), (0, 0, 0, []), (37, 163, 1, [242, 1105, 10]), (2, 2, 0, []), (36, 105, 2, [197, 1015, 0]), (20, 2, 0, []), (1, 0, 1, []), (23, 3, 0, [])]
def B185_2 : List MIns := [(1, 0, 0, []), (24, 3, 0, [])]
def B185_3 : List MIns := [(6, 7, 0, []), (0, 0, 0, []), (5, 9, 0, []), (24, 4, 0, [])]
def B185_4 : List MIns := [(2, 9, 0, []), (4, 0, 0, []), (27, 0, 11, [160, 10, 0, 791]), (21, 7, 3, []), (3, 7, 0, []), (2, 6, 0, []), (2, 9, 0, []), (36, 105, 2, [197, 1015, 0]), (20, 5, 0, []), (0, 1, 16, []), (2, 1, 0, []), (9, 1, 0, []), (15, 0, 0, []), (23, 6, 0, [])]
def B185_5 : List MIns := [(2, 1, 0, []), (15, 0, 0, []), (24, 6, 0, [])]
def B185_6 : List MIns := [(11, 2, 0, []), (6, 7, 0, []), (8, 9, 1, []), (23, 4, 0, [])]
def B185_7 : List MIns := [(3, 4, 0, []), (3, 7, 0, []), (11, 0, 0, []), (6, 4, 0, []), (8, 6, 1, []), (23, 1, 0, [])]
def B185_8 : List MIns := [(4, 0, 0, []), (0, 0, 0, []), (29, 0, 13, [194, 10, 0, 793]), (3, 4, 0, []), (1, 0, 1, []), (0, 0, 4, []), (4, 0, 0, []), (27, 0, 11, [160, 10, 0, 791]), (9, 2, 0, []), (13, 0, 0, []), (2, 3, 0, []), (36, 109, 3, [284, 1196, 0]), (42, 0, 0, [])]
def P185 : List (List MIns) := [B185_0, B185_1, B185_2, B185_3, B185_4, B185_5, B185_6, B185_7, B185_8]
def B186_0 : List MIns := [(4, 0, 0, []), (37, 149, 0, [219, 1003, 10]), (2, 1, 0, []), (15, 0, 0, []), (1, 0, 0, []), (1, 1, 16, [288, 1191]), (36, 102, 3, [81, 879, 0]), (20, 1, 0, []), (4, 0, 0, []), (2, 2, 0, []), (37, 131, 1, [154, 965, 10]), (20, 1, 0, []), (2, 3, 0, []), (36, 104, 1, [110, 915, 0]), (20, 1, 0, []), (4, 0, 0, []), (2, 1, 0, []), (2, 2, 0, []), (2, 3, 0, []), (37, 185, 3, [290, 1192, 10]), (23, 2, 0, [])]
def B186_1 : List MIns := [(0, 1, (-2), []), (36, 103, 1, [294, 1199, 0]), (24, 2, 0, [])]
def B186_2 : List MIns := [(42, 0, 0, [])]
def P186 : List (List MIns) := [B186_0, B186_1, B186_2]
def B187_0 : List MIns := [(4, 0, 0, []), (0, 4, 1103515245, [298, 1216]), (4, 0, 0, []), (27, 0, 28, [299, 10, 0, 808]), (9, 2, 0, []), (0, 2, 12345, []), (9, 0, 0, []), (29, 0, 28, [299, 10, 0, 808]), (4, 0, 0, []), (27, 0, 28, [299, 10, 0, 808]), (0, 1, 16, []), (9, 7, 0, []), (2, 1, 0, []), (10, 1, 0, []), (41, 0, 0, [])]
def P187 : List (List MIns) := [B187_0]
def B188_0 : List MIns := [(4, 0, 0, []), (27, 0, 11, [160, 10, 0, 791]), (5, 4, 0, []), (0, 0, 0, []), (5, 5, 0, []), (24, 1, 0, [])]
def B188_1 : List MIns := [(2, 5, 0, []), (0, 1, 24, []), (21, 2, 3, []), (4, 0, 0, []), (28, 0, 29, [76, 10, 2, 809]), (2, 5, 0, []), (4, 0, 0, []), (28, 0, 12, [34, 10, 2, 792]), (2, 5, 0, []), (31, 0, 0, []), (32, 0, 0, []), (8, 5, 1, []), (23, 1, 0, [])]
def B188_2 : List MIns := [(4, 0, 0, []), (2, 1, 0, []), (29, 0, 28, [299, 10, 0, 808]), (4, 0, 0, []), (0, 0, 0, []), (29, 0, 11, [160, 10, 0, 791]), (0, 0, 0, []), (5, 5, 0, []), (24, 3, 0, [])]
def B188_3 : List MIns := [(2, 5, 0, []), (2, 2, 0, []), (21, 4, 3, []), (4, 0, 0, []), (0, 0, 3, []), (37, 187, 1, [302, 1212, 10]), (5, 6, 0, []), (4, 0, 0, []), (0, 1, 24, []), (37, 187, 1, [302, 1212, 10]), (5, 7, 0, []), (4, 0, 0, []), (2, 6, 0, []), (2, 7, 0, []), (4, 0, 0, []), (0, 1, 6, []), (37, 187, 1, [302, 1212, 10]), (37, 136, 3, [168, 986, 10]), (8, 5, 1, []), (23, 3, 0, [])]
def B188_4 : List MIns := [(4, 0, 0, []), (37, 148, 0, [213, 1007, 10]), (0, 0, 0, []), (5, 5, 0, []), (24, 5, 0, [])]
def B188_5 : List MIns := [(2, 5, 0, []), (0, 1, 24, []), (21, 6, 3, []), (4, 0, 0, []), (28, 0, 12, [34, 10, 2, 792]), (2, 5, 0, []), (4, 0, 0, []), (28, 0, 29, [76, 10, 2, 809]), (2, 5, 0, []), (31, 0, 0, []), (32, 0, 0, []), (8, 5, 1, []), (23, 5, 0, [])]
def B188_6 : List MIns := [(4, 0, 0, []), (2, 4, 0, []), (29, 0, 11, [160, 10, 0, 791]), (2, 3, 0, []), (20, 7, 1, []), (4, 0, 0, []), (0, 1, 23, []), (37, 155, 1, [230, 1073, 10]), (23, 8, 0, [])]
def B188_7 : List MIns := [(4, 0, 0, []), (0, 0, 1, []), (37, 163, 1, [242, 1105, 10]), (36, 106, 1, [305, 1217, 0]), (24, 8, 0, [])]
def B188_8 : List MIns := [(41, 0, 0, [])]
def P188 : List (List MIns) := [B188_0, B188_1, B188_2, B188_3, B188_4, B188_5, B188_6, B188_7, B188_8]
def B189_0 : List MIns := [(4, 0, 0, []), (37, 149, 0, [219, 1003, 10]), (2, 2, 0, []), (15, 0, 0, []), (1, 0, 0, []), (1, 1, 8, [308, 1207]), (36, 102, 3, [81, 879, 0]), (20, 1, 0, []), (2, 3, 0, []), (36, 104, 1, [110, 915, 0]), (20, 1, 0, []), (4, 0, 0, []), (2, 1, 0, []), (2, 2, 0, []), (2, 3, 0, []), (37, 188, 3, [310, 1208, 10]), (23, 2, 0, [])]
def B189_1 : List MIns := [(0, 1, (-2), []), (24, 2, 0, [])]
def B189_2 : List MIns := [(41, 0, 0, [])]
def P189 : List (List MIns) := [B189_0, B189_1, B189_2]
def B190_0 : List MIns := [(4, 0, 0, []), (37, 149, 0, [219, 1003, 10]), (4, 0, 0, []), (2, 1, 0, []), (37, 131, 1, [154, 965, 10]), (20, 1, 0, []), (2, 2, 0, []), (36, 111, 1, [91, 875, 0]), (20, 2, 1, []), (24, 1, 0, [])]
def B190_1 : List MIns := [(0, 1, (-2), []), (41, 0, 0, [])]
def B190_2 : List MIns := [(4, 0, 0, []), (28, 0, 0, [7, 10, 2, 780]), (2, 2, 0, []), (31, 0, 0, []), (20, 3, 3, []), (4, 0, 0, []), (0, 0, 1, []), (37, 110, 1, [97, 883, 10]), (41, 0, 0, [])]
def B190_3 : List MIns := [(4, 0, 0, []), (28, 0, 1, [13, 10, 2, 781]), (2, 2, 0, []), (31, 0, 0, []), (0, 1, 24, []), (36, 107, 2, [191, 1045, 0]), (5, 3, 0, []), (0, 0, 0, []), (5, 4, 0, []), (24, 4, 0, [])]
def B190_4 : List MIns := [(2, 4, 0, []), (2, 3, 0, []), (21, 5, 3, []), (4, 0, 0, []), (28, 0, 2, [16, 10, 2, 782]), (0, 1, 60, []), (2, 2, 0, []), (9, 2, 0, []), (2, 4, 0, []), (9, 0, 0, []), (4, 0, 0, []), (28, 0, 0, [7, 10, 2, 780]), (2, 2, 0, []), (31, 0, 0, []), (4, 0, 0, []), (2, 4, 0, []), (2, 1, 0, []), (37, 150, 2, [216, 1057, 10]), (36, 115, 2, [105, 899, 0]), (32, 0, 0, []), (8, 4, 1, []), (23, 4, 0, [])]
def B190_5 : List MIns := [(2, 3, 0, []), (41, 0, 0, [])]
def P190 : List (List MIns) := [B190_0, B190_1, B190_2, B190_3, B190_4, B190_5]
def B191_0 : List MIns := [(4, 0, 0, []), (37, 149, 0, [219, 1003, 10]), (2, 1, 0, []), (25, 9, 0, [1, 2, 3, 3, 4, 5, 6, 7, 8])]
def B191_1 : List MIns := [(4, 0, 0, []), (27, 0, 7, [122, 10, 0, 787]), (41, 0, 0, [])]
def B191_2 : List MIns := [(4, 0, 0, []), (27, 0, 9, [136, 10, 0, 789]), (41, 0, 0, [])]
def B191_3 : List MIns := [(4, 0, 0, []), (28, 0, 6, [25, 10, 2, 786]), (2, 1, 0, []), (0, 0, 2, []), (9, 1, 0, []), (31, 0, 0, []), (41, 0, 0, [])]
def B191_4 : List MIns := [(4, 0, 0, []), (27, 0, 11, [160, 10, 0, 791]), (41, 0, 0, [])]
def B191_5 : List MIns := [(4, 0, 0, []), (0, 1, 23, []), (37, 155, 1, [230, 1073, 10]), (41, 0, 0, [])]
def B191_6 : List MIns := [(4, 0, 0, []), (37, 165, 0, [313, 1228, 10]), (41, 0, 0, [])]
def B191_7 : List MIns := [(4, 0, 0, []), (27, 0, 25, [259, 10, 0, 805]), (41, 0, 0, [])]
def B191_8 : List MIns := [(4, 0, 0, []), (27, 0, 4, [85, 10, 0, 784]), (41, 0, 0, [])]
def B191_9 : List MIns := [(0, 1, (-2), []), (41, 0, 0, [])]
def P191 : List (List MIns) := [B191_0, B191_1, B191_2, B191_3, B191_4, B191_5, B191_6, B191_7, B191_8, B191_9]
def B192_0 : List MIns := [(3, 1, 0, []), (6, 5, 0, []), (0, 0, 0, []), (5, 7, 0, []), (24, 1, 0, [])]
def B192_1 : List MIns := [(2, 7, 0, []), (0, 0, 5, []), (21, 2, 3, []), (1, 1, 31, [316, 1237]), (3, 5, 0, []), (11, 2, 0, []), (4, 0, 0, []), (2, 3, 0, []), (2, 4, 0, []), (2, 7, 0, []), (37, 151, 3, [224, 1053, 10]), (15, 0, 0, []), (11, 0, 0, []), (6, 5, 0, []), (8, 7, 1, []), (23, 1, 0, [])]
def B192_2 : List MIns := [(3, 5, 0, []), (42, 0, 0, [])]
def P192 : List (List MIns) := [B192_0, B192_1, B192_2]
def B193_0 : List MIns := [(4, 0, 0, []), (37, 148, 0, [213, 1007, 10]), (1, 1, 31, [316, 1237]), (3, 1, 0, []), (11, 2, 0, []), (4, 0, 0, []), (28, 0, 8, [28, 10, 2, 788]), (0, 0, 2, []), (2, 3, 0, []), (9, 2, 0, []), (31, 0, 0, []), (15, 0, 0, []), (11, 0, 0, []), (6, 4, 0, []), (1, 1, 31, [316, 1237]), (3, 4, 0, []), (11, 2, 0, []), (4, 0, 0, []), (28, 0, 8, [28, 10, 2, 788]), (0, 0, 2, []), (2, 3, 0, []), (9, 2, 0, []), (0, 0, 1, []), (9, 0, 0, []), (31, 0, 0, []), (15, 0, 0, []), (11, 0, 0, []), (6, 4, 0, []), (4, 0, 0, []), (4, 0, 0, []), (4, 0, 0, []), (4, 0, 0, []), (3, 4, 0, []), (0, 0, 0, []), (2, 3, 0, []), (37, 192, 3, [318, 1243, 10]), (0, 1, 7, []), (2, 3, 0, []), (37, 192, 3, [318, 1243, 10]), (0, 1, 15, []), (2, 3, 0, []), (37, 192, 3, [318, 1243, 10]), (0, 1, 23, []), (2, 3, 0, []), (37, 192, 3, [318, 1243, 10]), (6, 4, 0, []), (1, 1, 31, [316, 1237]), (3, 4, 0, []), (11, 2, 0, []), (4, 0, 0, []), (2, 3, 0, []), (37, 178, 1, [269, 1167, 10]), (15, 0, 0, []), (11, 0, 0, []), (6, 4, 0, []), (1, 1, 31, [316, 1237]), (3, 4, 0, []), (11, 2, 0, []), (4, 0, 0, []), (2, 3, 0, []), (37, 179, 1, [272, 1171, 10]), (15, 0, 0, []), (11, 0, 0, []), (6, 4, 0, []), (1, 1, 31, [316, 1237]), (3, 4, 0, []), (11, 2, 0, []), (4, 0, 0, []), (2, 3, 0, []), (37, 183, 1, [281, 1179, 10]), (15, 0, 0, []), (11, 0, 0, []), (6, 4, 0, []), (1, 1, 31, [316, 1237]), (3, 4, 0, []), (11, 2, 0, []), (4, 0, 0, []), (0, 0, 5, []), (2, 3, 0, []), (0, 0, 0, []), (37, 185, 3, [290, 1192, 10]), (11, 0, 0, []), (6, 4, 0, []), (1, 1, 31, [316, 1237]), (3, 4, 0, []), (11, 2, 0, []), (4, 0, 0, []), (0, 0, 5, []), (2, 3, 0, []), (0, 0, 1, []), (37, 185, 3, [290, 1192, 10]), (11, 0, 0, []), (42, 0, 0, [])]
def P193 : List (List MIns) := [B193_0]
def B194_0 : List MIns := [(3, 1, 0, []), (6, 5, 0, []), (0, 0, 0, []), (5, 7, 0, []), (24, 1, 0, [])]
def B194_1 : List MIns := [(2, 7, 0, []), (0, 0, 3, []), (21, 2, 3, []), (1, 1, 31, [316, 1237]), (3, 5, 0, []), (11, 2, 0, []), (4, 0, 0, []), (2, 3, 0, []), (2, 4, 0, []), (2, 7, 0, []), (37, 153, 3, [227, 1065, 10]), (15, 0, 0, []), (11, 0, 0, []), (6, 5, 0, []), (8, 7, 1, []), (23, 1, 0, [])]
def B194_2 : List MIns := [(3, 5, 0, []), (42, 0, 0, [])]
def P194 : List (List MIns) := [B194_0, B194_1, B194_2]
def B195_0 : List MIns := [(4, 0, 0, []), (37, 148, 0, [213, 1007, 10]), (3, 1, 0, []), (6, 4, 0, []), (0, 0, 0, []), (5, 6, 0, []), (24, 1, 0, [])]
def B195_1 : List MIns := [(2, 6, 0, []), (0, 0, 4, []), (21, 2, 3, []), (1, 1, 31, [316, 1237]), (3, 4, 0, []), (11, 2, 0, []), (4, 0, 0, []), (28, 0, 10, [31, 10, 2, 790]), (0, 0, 4, []), (2, 3, 0, []), (9, 2, 0, []), (2, 6, 0, []), (9, 0, 0, []), (31, 0, 0, []), (15, 0, 0, []), (11, 0, 0, []), (6, 4, 0, []), (8, 6, 1, []), (23, 1, 0, [])]
def B195_2 : List MIns := [(4, 0, 0, []), (4, 0, 0, []), (4, 0, 0, []), (3, 4, 0, []), (0, 1, 7, []), (2, 3, 0, []), (37, 194, 3, [322, 1251, 10]), (0, 1, 15, []), (2, 3, 0, []), (37, 194, 3, [322, 1251, 10]), (0, 1, 23, []), (2, 3, 0, []), (37, 194, 3, [322, 1251, 10]), (6, 4, 0, []), (1, 1, 31, [316, 1237]), (3, 4, 0, []), (11, 2, 0, []), (4, 0, 0, []), (2, 3, 0, []), (37, 159, 1, [236, 1089, 10]), (15, 0, 0, []), (11, 0, 0, []), (6, 4, 0, []), (0, 0, 0, []), (5, 6, 0, []), (24, 3, 0, [])]
def B195_3 : List MIns := [(2, 6, 0, []), (0, 0, 2, []), (21, 4, 3, []), (1, 1, 31, [316, 1237]), (3, 4, 0, []), (11, 2, 0, []), (4, 0, 0, []), (2, 3, 0, []), (0, 0, 0, []), (4, 0, 0, []), (27, 0, 7, [122, 10, 0, 787]), (0, 0, (-1), []), (2, 6, 0, []), (37, 166, 5, [245, 1113, 10]), (15, 0, 0, []), (11, 0, 0, []), (6, 4, 0, []), (8, 6, 1, []), (23, 3, 0, [])]
def B195_4 : List MIns := [(0, 0, 0, []), (5, 6, 0, []), (24, 5, 0, [])]
def B195_5 : List MIns := [(2, 6, 0, []), (0, 0, 2, []), (21, 6, 3, []), (1, 1, 31, [316, 1237]), (3, 4, 0, []), (11, 2, 0, []), (4, 0, 0, []), (2, 3, 0, []), (0, 0, 1, []), (0, 1, 24, []), (0, 0, (-1), []), (2, 6, 0, []), (37, 166, 5, [245, 1113, 10]), (15, 0, 0, []), (11, 0, 0, []), (6, 4, 0, []), (8, 6, 1, []), (23, 5, 0, [])]
def B195_6 : List MIns := [(0, 0, 0, []), (5, 6, 0, []), (24, 7, 0, [])]
def B195_7 : List MIns := [(2, 6, 0, []), (0, 0, 2, []), (21, 8, 3, []), (1, 1, 31, [316, 1237]), (3, 4, 0, []), (11, 2, 0, []), (4, 0, 0, []), (2, 3, 0, []), (0, 0, 2, []), (0, 1, 9, []), (2, 3, 0, []), (2, 6, 0, []), (37, 166, 5, [245, 1113, 10]), (15, 0, 0, []), (11, 0, 0, []), (6, 4, 0, []), (8, 6, 1, []), (23, 7, 0, [])]
def B195_8 : List MIns := [(3, 4, 0, []), (42, 0, 0, [])]
def P195 : List (List MIns) := [B195_0, B195_1, B195_2, B195_3, B195_4, B195_5, B195_6, B195_7, B195_8]
def B196_0 : List MIns := [(1, 1, 17, [325, 1236]), (6, 1, 0, []), (0, 0, 0, []), (5, 3, 0, []), (24, 1, 0, [])]
def B196_1 : List MIns := [(2, 3, 0, []), (0, 1, 8, []), (21, 2, 3, []), (1, 1, 31, [316, 1237]), (3, 1, 0, []), (11, 2, 0, []), (4, 0, 0, []), (2, 3, 0, []), (37, 191, 1, [327, 1238, 10]), (15, 0, 0, []), (11, 0, 0, []), (6, 1, 0, []), (8, 3, 1, []), (23, 1, 0, [])]
def B196_2 : List MIns := [(0, 0, 0, []), (5, 3, 0, []), (24, 3, 0, [])]
def B196_3 : List MIns := [(2, 3, 0, []), (0, 0, 2, []), (21, 4, 3, []), (1, 1, 31, [316, 1237]), (3, 1, 0, []), (11, 2, 0, []), (4, 0, 0, []), (2, 3, 0, []), (37, 129, 1, [149, 931, 10]), (15, 0, 0, []), (11, 0, 0, []), (6, 1, 0, []), (8, 3, 1, []), (23, 3, 0, [])]
def B196_4 : List MIns := [(0, 0, 0, []), (5, 3, 0, []), (24, 5, 0, [])]
def B196_5 : List MIns := [(2, 3, 0, []), (4, 0, 0, []), (27, 0, 7, [122, 10, 0, 787]), (21, 6, 3, []), (4, 0, 0, []), (3, 1, 0, []), (2, 3, 0, []), (37, 193, 2, [330, 1239, 10]), (6, 1, 0, []), (8, 3, 1, []), (23, 5, 0, [])]
def B196_6 : List MIns := [(0, 0, 0, []), (5, 3, 0, []), (24, 7, 0, [])]
def B196_7 : List MIns := [(2, 3, 0, []), (4, 0, 0, []), (27, 0, 9, [136, 10, 0, 789]), (21, 8, 3, []), (4, 0, 0, []), (3, 1, 0, []), (2, 3, 0, []), (37, 195, 2, [334, 1247, 10]), (6, 1, 0, []), (8, 3, 1, []), (23, 7, 0, [])]
def B196_8 : List MIns := [(4, 0, 0, []), (37, 148, 0, [213, 1007, 10]), (0, 0, 0, []), (5, 3, 0, []), (24, 9, 0, [])]
def B196_9 : List MIns := [(2, 3, 0, []), (0, 1, 24, []), (21, 10, 3, []), (1, 1, 31, [316, 1237]), (3, 1, 0, []), (11, 2, 0, []), (4, 0, 0, []), (2, 3, 0, []), (37, 155, 1, [230, 1073, 10]), (15, 0, 0, []), (11, 0, 0, []), (6, 1, 0, []), (8, 3, 1, []), (23, 9, 0, [])]
def B196_10 : List MIns := [(1, 1, 31, [316, 1237]), (3, 1, 0, []), (11, 2, 0, []), (4, 0, 0, []), (0, 0, 0, []), (37, 157, 1, [233, 1081, 10]), (15, 0, 0, []), (11, 0, 0, []), (6, 1, 0, []), (1, 1, 31, [316, 1237]), (3, 1, 0, []), (11, 2, 0, []), (4, 0, 0, []), (0, 0, 1, []), (37, 157, 1, [233, 1081, 10]), (15, 0, 0, []), (11, 0, 0, []), (6, 1, 0, []), (1, 1, 31, [316, 1237]), (3, 1, 0, []), (11, 2, 0, []), (4, 0, 0, []), (37, 161, 0, [239, 1097, 10]), (15, 0, 0, []), (11, 0, 0, []), (6, 1, 0, []), (1, 1, 31, [316, 1237]), (3, 1, 0, []), (11, 2, 0, []), (4, 0, 0, []), (0, 0, 0, []), (37, 163, 1, [242, 1105, 10]), (15, 0, 0, []), (11, 0, 0, []), (6, 1, 0, []), (1, 1, 31, [316, 1237]), (3, 1, 0, []), (11, 2, 0, []), (4, 0, 0, []), (0, 0, 1, []), (37, 163, 1, [242, 1105, 10]), (15, 0, 0, []), (11, 0, 0, []), (6, 1, 0, []), (1, 1, 31, [316, 1237]), (3, 1, 0, []), (11, 2, 0, []), (4, 0, 0, []), (0, 0, (-1), []), (37, 171, 1, [254, 1130, 10]), (15, 0, 0, []), (11, 0, 0, []), (6, 1, 0, []), (1, 1, 31, [316, 1237]), (3, 1, 0, []), (11, 2, 0, []), (4, 0, 0, []), (0, 0, 0, []), (37, 171, 1, [254, 1130, 10]), (15, 0, 0, []), (11, 0, 0, []), (6, 1, 0, []), (1, 1, 31, [316, 1237]), (3, 1, 0, []), (11, 2, 0, []), (4, 0, 0, []), (37, 176, 0, [266, 1151, 10]), (15, 0, 0, []), (11, 0, 0, []), (6, 1, 0, []), (1, 1, 31, [316, 1237]), (3, 1, 0, []), (11, 2, 0, []), (4, 0, 0, []), (0, 1, 7, []), (0, 1, 6, []), (0, 0, 0, []), (37, 188, 3, [310, 1208, 10]), (15, 0, 0, []), (11, 0, 0, []), (6, 1, 0, []), (1, 1, 31, [316, 1237]), (3, 1, 0, []), (11, 2, 0, []), (4, 0, 0, []), (0, 1, 7, []), (0, 1, 6, []), (0, 0, 1, []), (37, 188, 3, [310, 1208, 10]), (15, 0, 0, []), (11, 0, 0, []), (42, 0, 0, [])]
def P196 : List (List MIns) := [B196_0, B196_1, B196_2, B196_3, B196_4, B196_5, B196_6, B196_7, B196_8, B196_9, B196_10]
def B197_0 : List MIns := [(0, 0, 0, []), (5, 3, 0, []), (24, 1, 0, [])]
def B197_1 : List MIns := [(2, 3, 0, []), (4, 0, 0, []), (33, 0, 0, []), (0, 1, 6, []), (9, 1, 0, []), (21, 38, 4, []), (4, 0, 0, []), (2, 3, 0, []), (31, 0, 0, []), (0, 1, 63, []), (9, 3, 0, []), (25, 37, 0, [2, 3, 4, 5, 6, 7, 8, 9, 10, 11, 12, 13, 14, 15, 16, 17, 18, 19, 20, 21, 22, 23, 24, 25, 26, 27, 28, 29, 30, 31, 32, 33, 34, 35, 36])]
def B197_2 : List MIns := [(4, 1, 0, []), (4, 0, 0, []), (2, 3, 0, []), (0, 0, 1, []), (9, 0, 0, []), (31, 0, 0, []), (4, 0, 0, []), (2, 3, 0, []), (0, 0, 2, []), (9, 0, 0, []), (31, 0, 0, []), (37, 41, 2, [13, 265, 9]), (4, 2, 0, []), (4, 0, 0, []), (2, 3, 0, []), (0, 0, 1, []), (9, 0, 0, []), (31, 0, 0, []), (4, 0, 0, []), (2, 3, 0, []), (0, 0, 2, []), (9, 0, 0, []), (31, 0, 0, []), (37, 119, 2, [17, 911, 10]), (21, 37, 0, []), (0, 0, 0, []), (41, 1, 0, [])]
def B197_3 : List MIns := [(4, 1, 0, []), (4, 0, 0, []), (2, 3, 0, []), (0, 0, 1, []), (9, 0, 0, []), (31, 0, 0, []), (37, 42, 1, [18, 398, 9]), (4, 2, 0, []), (4, 0, 0, []), (2, 3, 0, []), (0, 0, 1, []), (9, 0, 0, []), (31, 0, 0, []), (37, 120, 1, [22, 919, 10]), (21, 37, 0, []), (0, 0, 0, []), (41, 1, 0, [])]
def B197_4 : List MIns := [(4, 1, 0, []), (4, 0, 0, []), (2, 3, 0, []), (0, 0, 1, []), (9, 0, 0, []), (31, 0, 0, []), (37, 43, 1, [23, 410, 9]), (4, 2, 0, []), (4, 0, 0, []), (2, 3, 0, []), (0, 0, 1, []), (9, 0, 0, []), (31, 0, 0, []), (37, 121, 1, [26, 923, 10]), (21, 37, 0, []), (0, 0, 0, []), (41, 1, 0, [])]
def B197_5 : List MIns := [(4, 1, 0, []), (4, 0, 0, []), (2, 3, 0, []), (0, 0, 1, []), (9, 0, 0, []), (31, 0, 0, []), (37, 44, 1, [27, 414, 9]), (4, 2, 0, []), (4, 0, 0, []), (2, 3, 0, []), (0, 0, 1, []), (9, 0, 0, []), (31, 0, 0, []), (37, 130, 1, [30, 927, 10]), (21, 37, 0, []), (0, 0, 0, []), (41, 1, 0, [])]
def B197_6 : List MIns := [(4, 1, 0, []), (4, 0, 0, []), (2, 3, 0, []), (0, 0, 1, []), (9, 0, 0, []), (31, 0, 0, []), (4, 0, 0, []), (2, 3, 0, []), (0, 0, 2, []), (9, 0, 0, []), (31, 0, 0, []), (37, 45, 2, [31, 418, 9]), (4, 2, 0, []), (4, 0, 0, []), (2, 3, 0, []), (0, 0, 1, []), (9, 0, 0, []), (31, 0, 0, []), (4, 0, 0, []), (2, 3, 0, []), (0, 0, 2, []), (9, 0, 0, []), (31, 0, 0, []), (37, 134, 2, [34, 961, 10]), (21, 37, 0, []), (0, 0, 0, []), (41, 1, 0, [])]
def B197_7 : List MIns := [(4, 1, 0, []), (4, 0, 0, []), (2, 3, 0, []), (0, 0, 1, []), (9, 0, 0, []), (31, 0, 0, []), (4, 0, 0, []), (2, 3, 0, []), (0, 0, 2, []), (9, 0, 0, []), (31, 0, 0, []), (37, 46, 2, [35, 427, 9]), (4, 2, 0, []), (4, 0, 0, []), (2, 3, 0, []), (0, 0, 1, []), (9, 0, 0, []), (31, 0, 0, []), (4, 0, 0, []), (2, 3, 0, []), (0, 0, 2, []), (9, 0, 0, []), (31, 0, 0, []), (37, 135, 2, [38, 969, 10]), (21, 37, 0, []), (0, 0, 0, []), (41, 1, 0, [])]
def B197_8 : List MIns := [(4, 1, 0, []), (4, 0, 0, []), (2, 3, 0, []), (0, 0, 1, []), (9, 0, 0, []), (31, 0, 0, []), (4, 0, 0, []), (2, 3, 0, []), (0, 0, 2, []), (9, 0, 0, []), (31, 0, 0, []), (4, 0, 0, []), (2, 3, 0, []), (0, 0, 3, []), (9, 0, 0, []), (31, 0, 0, []), (37, 47, 3, [39, 431, 9]), (4, 2, 0, []), (4, 0, 0, []), (2, 3, 0, []), (0, 0, 1, []), (9, 0, 0, []), (31, 0, 0, []), (4, 0, 0, []), (2, 3, 0, []), (0, 0, 2, []), (9, 0, 0, []), (31, 0, 0, []), (4, 0, 0, []), (2, 3, 0, []), (0, 0, 3, []), (9, 0, 0, []), (31, 0, 0, []), (37, 137, 3, [43, 977, 10]), (21, 37, 0, []), (0, 0, 0, []), (41, 1, 0, [])]
def B197_9 : List MIns := [(4, 1, 0, []), (37, 48, 0, [44, 446, 9]), (4, 2, 0, []), (37, 138, 0, [48, 990, 10]), (21, 37, 0, []), (0, 0, 0, []), (41, 1, 0, [])]
def B197_10 : List MIns := [(4, 1, 0, []), (4, 0, 0, []), (2, 3, 0, []), (0, 0, 1, []), (9, 0, 0, []), (31, 0, 0, []), (37, 49, 1, [49, 450, 9]), (4, 2, 0, []), (4, 0, 0, []), (2, 3, 0, []), (0, 0, 1, []), (9, 0, 0, []), (31, 0, 0, []), (37, 139, 1, [52, 994, 10]), (21, 37, 0, []), (0, 0, 0, []), (41, 1, 0, [])]
def B197_11 : List MIns := [(4, 1, 0, []), (4, 0, 0, []), (2, 3, 0, []), (0, 0, 1, []), (9, 0, 0, []), (31, 0, 0, []), (4, 0, 0, []), (2, 3, 0, []), (0, 0, 2, []), (9, 0, 0, []), (31, 0, 0, []), (4, 0, 0, []), (2, 3, 0, []), (0, 0, 3, []), (9, 0, 0, []), (31, 0, 0, []), (37, 50, 3, [53, 462, 9]), (4, 2, 0, []), (4, 0, 0, []), (2, 3, 0, []), (0, 0, 1, []), (9, 0, 0, []), (31, 0, 0, []), (4, 0, 0, []), (2, 3, 0, []), (0, 0, 2, []), (9, 0, 0, []), (31, 0, 0, []), (4, 0, 0, []), (2, 3, 0, []), (0, 0, 3, []), (9, 0, 0, []), (31, 0, 0, []), (37, 152, 3, [56, 999, 10]), (21, 37, 0, []), (0, 0, 0, []), (41, 1, 0, [])]
def B197_12 : List MIns := [(4, 1, 0, []), (4, 0, 0, []), (2, 3, 0, []), (0, 0, 1, []), (9, 0, 0, []), (31, 0, 0, []), (4, 0, 0, []), (2, 3, 0, []), (0, 0, 2, []), (9, 0, 0, []), (31, 0, 0, []), (4, 0, 0, []), (2, 3, 0, []), (0, 0, 3, []), (9, 0, 0, []), (31, 0, 0, []), (37, 51, 3, [57, 534, 9]), (4, 2, 0, []), (4, 0, 0, []), (2, 3, 0, []), (0, 0, 1, []), (9, 0, 0, []), (31, 0, 0, []), (4, 0, 0, []), (2, 3, 0, []), (0, 0, 2, []), (9, 0, 0, []), (31, 0, 0, []), (4, 0, 0, []), (2, 3, 0, []), (0, 0, 3, []), (9, 0, 0, []), (31, 0, 0, []), (37, 154, 3, [60, 1061, 10]), (21, 37, 0, []), (0, 0, 0, []), (41, 1, 0, [])]
def B197_13 : List MIns := [(4, 1, 0, []), (4, 0, 0, []), (2, 3, 0, []), (0, 0, 1, []), (9, 0, 0, []), (31, 0, 0, []), (37, 52, 1, [61, 538, 9]), (4, 2, 0, []), (4, 0, 0, []), (2, 3, 0, []), (0, 0, 1, []), (9, 0, 0, []), (31, 0, 0, []), (37, 156, 1, [64, 1069, 10]), (21, 37, 0, []), (0, 0, 0, []), (41, 1, 0, [])]
def B197_14 : List MIns := [(4, 1, 0, []), (4, 0, 0, []), (2, 3, 0, []), (0, 0, 1, []), (9, 0, 0, []), (31, 0, 0, []), (37, 53, 1, [65, 547, 9]), (4, 2, 0, []), (4, 0, 0, []), (2, 3, 0, []), (0, 0, 1, []), (9, 0, 0, []), (31, 0, 0, []), (37, 158, 1, [68, 1077, 10]), (21, 37, 0, []), (0, 0, 0, []), (41, 1, 0, [])]
def B197_15 : List MIns := [(4, 1, 0, []), (4, 0, 0, []), (2, 3, 0, []), (0, 0, 1, []), (9, 0, 0, []), (31, 0, 0, []), (37, 54, 1, [69, 551, 9]), (4, 2, 0, []), (4, 0, 0, []), (2, 3, 0, []), (0, 0, 1, []), (9, 0, 0, []), (31, 0, 0, []), (37, 160, 1, [72, 1085, 10]), (21, 37, 0, []), (0, 0, 0, []), (41, 1, 0, [])]
def B197_16 : List MIns := [(4, 1, 0, []), (37, 55, 0, [73, 555, 9]), (4, 2, 0, []), (37, 162, 0, [76, 1093, 10]), (21, 37, 0, []), (0, 0, 0, []), (41, 1, 0, [])]
def B197_17 : List MIns := [(4, 1, 0, []), (4, 0, 0, []), (2, 3, 0, []), (0, 0, 1, []), (9, 0, 0, []), (31, 0, 0, []), (37, 56, 1, [77, 559, 9]), (4, 2, 0, []), (4, 0, 0, []), (2, 3, 0, []), (0, 0, 1, []), (9, 0, 0, []), (31, 0, 0, []), (37, 164, 1, [80, 1101, 10]), (21, 37, 0, []), (0, 0, 0, []), (41, 1, 0, [])]
def B197_18 : List MIns := [(4, 1, 0, []), (4, 0, 0, []), (2, 3, 0, []), (0, 0, 1, []), (9, 0, 0, []), (31, 0, 0, []), (4, 0, 0, []), (2, 3, 0, []), (0, 0, 2, []), (9, 0, 0, []), (31, 0, 0, []), (37, 57, 2, [81, 571, 9]), (4, 2, 0, []), (4, 0, 0, []), (2, 3, 0, []), (0, 0, 1, []), (9, 0, 0, []), (31, 0, 0, []), (4, 0, 0, []), (2, 3, 0, []), (0, 0, 2, []), (9, 0, 0, []), (31, 0, 0, []), (37, 167, 2, [84, 1109, 10]), (21, 37, 0, []), (0, 0, 0, []), (41, 1, 0, [])]
def B197_19 : List MIns := [(4, 1, 0, []), (4, 0, 0, []), (2, 3, 0, []), (0, 0, 1, []), (9, 0, 0, []), (31, 0, 0, []), (4, 0, 0, []), (2, 3, 0, []), (0, 0, 2, []), (9, 0, 0, []), (31, 0, 0, []), (37, 58, 2, [85, 582, 9]), (4, 2, 0, []), (4, 0, 0, []), (2, 3, 0, []), (0, 0, 1, []), (9, 0, 0, []), (31, 0, 0, []), (4, 0, 0, []), (2, 3, 0, []), (0, 0, 2, []), (9, 0, 0, []), (31, 0, 0, []), (37, 168, 2, [88, 1117, 10]), (21, 37, 0, []), (0, 0, 0, []), (41, 1, 0, [])]
def B197_20 : List MIns := [(4, 1, 0, []), (4, 0, 0, []), (2, 3, 0, []), (0, 0, 1, []), (9, 0, 0, []), (31, 0, 0, []), (4, 0, 0, []), (2, 3, 0, []), (0, 0, 2, []), (9, 0, 0, []), (31, 0, 0, []), (37, 59, 2, [89, 586, 9]), (4, 2, 0, []), (4, 0, 0, []), (2, 3, 0, []), (0, 0, 1, []), (9, 0, 0, []), (31, 0, 0, []), (4, 0, 0, []), (2, 3, 0, []), (0, 0, 2, []), (9, 0, 0, []), (31, 0, 0, []), (37, 169, 2, [92, 1121, 10]), (21, 37, 0, []), (0, 0, 0, []), (41, 1, 0, [])]
def B197_21 : List MIns := [(4, 1, 0, []), (4, 0, 0, []), (2, 3, 0, []), (0, 0, 1, []), (9, 0, 0, []), (31, 0, 0, []), (37, 60, 1, [93, 590, 9]), (4, 2, 0, []), (4, 0, 0, []), (2, 3, 0, []), (0, 0, 1, []), (9, 0, 0, []), (31, 0, 0, []), (37, 172, 1, [96, 1125, 10]), (21, 37, 0, []), (0, 0, 0, []), (41, 1, 0, [])]
def B197_22 : List MIns := [(4, 1, 0, []), (4, 0, 0, []), (2, 3, 0, []), (0, 0, 1, []), (9, 0, 0, []), (31, 0, 0, []), (4, 0, 0, []), (2, 3, 0, []), (0, 0, 2, []), (9, 0, 0, []), (31, 0, 0, []), (4, 0, 0, []), (2, 3, 0, []), (0, 0, 3, []), (9, 0, 0, []), (31, 0, 0, []), (37, 65, 3, [97, 615, 9]), (4, 2, 0, []), (4, 0, 0, []), (2, 3, 0, []), (0, 0, 1, []), (9, 0, 0, []), (31, 0, 0, []), (4, 0, 0, []), (2, 3, 0, []), (0, 0, 2, []), (9, 0, 0, []), (31, 0, 0, []), (4, 0, 0, []), (2, 3, 0, []), (0, 0, 3, []), (9, 0, 0, []), (31, 0, 0, []), (37, 173, 3, [100, 1138, 10]), (21, 37, 0, []), (0, 0, 0, []), (41, 1, 0, [])]
def B197_23 : List MIns := [(4, 1, 0, []), (37, 66, 0, [101, 619, 9]), (4, 2, 0, []), (37, 174, 0, [104, 1143, 10]), (21, 37, 0, []), (0, 0, 0, []), (41, 1, 0, [])]
def B197_24 : List MIns := [(4, 1, 0, []), (37, 67, 0, [105, 623, 9]), (4, 2, 0, []), (37, 177, 0, [108, 1147, 10]), (21, 37, 0, []), (0, 0, 0, []), (41, 1, 0, [])]
def B197_25 : List MIns := [(4, 1, 0, []), (4, 0, 0, []), (2, 3, 0, []), (0, 0, 1, []), (9, 0, 0, []), (31, 0, 0, []), (4, 0, 0, []), (2, 3, 0, []), (0, 0, 2, []), (9, 0, 0, []), (31, 0, 0, []), (37, 68, 2, [109, 635, 9]), (4, 2, 0, []), (4, 0, 0, []), (2, 3, 0, []), (0, 0, 1, []), (9, 0, 0, []), (31, 0, 0, []), (4, 0, 0, []), (2, 3, 0, []), (0, 0, 2, []), (9, 0, 0, []), (31, 0, 0, []), (37, 181, 2, [112, 1159, 10]), (21, 37, 0, []), (0, 0, 0, []), (41, 1, 0, [])]
def B197_26 : List MIns := [(4, 1, 0, []), (4, 0, 0, []), (2, 3, 0, []), (0, 0, 1, []), (9, 0, 0, []), (31, 0, 0, []), (37, 69, 1, [113, 643, 9]), (4, 2, 0, []), (4, 0, 0, []), (2, 3, 0, []), (0, 0, 1, []), (9, 0, 0, []), (31, 0, 0, []), (37, 184, 1, [116, 1175, 10]), (21, 37, 0, []), (0, 0, 0, []), (41, 1, 0, [])]
def B197_27 : List MIns := [(4, 1, 0, []), (4, 0, 0, []), (2, 3, 0, []), (0, 0, 1, []), (9, 0, 0, []), (31, 0, 0, []), (4, 0, 0, []), (2, 3, 0, []), (0, 0, 2, []), (9, 0, 0, []), (31, 0, 0, []), (4, 0, 0, []), (2, 3, 0, []), (0, 0, 3, []), (9, 0, 0, []), (31, 0, 0, []), (37, 70, 3, [117, 656, 9]), (4, 2, 0, []), (4, 0, 0, []), (2, 3, 0, []), (0, 0, 1, []), (9, 0, 0, []), (31, 0, 0, []), (4, 0, 0, []), (2, 3, 0, []), (0, 0, 2, []), (9, 0, 0, []), (31, 0, 0, []), (4, 0, 0, []), (2, 3, 0, []), (0, 0, 3, []), (9, 0, 0, []), (31, 0, 0, []), (37, 186, 3, [121, 1187, 10]), (16, 0, 0, []), (20, 37, 0, []), (0, 0, 0, []), (41, 1, 0, [])]
def B197_28 : List MIns := [(4, 1, 0, []), (4, 0, 0, []), (2, 3, 0, []), (0, 0, 1, []), (9, 0, 0, []), (31, 0, 0, []), (4, 0, 0, []), (2, 3, 0, []), (0, 0, 2, []), (9, 0, 0, []), (31, 0, 0, []), (4, 0, 0, []), (2, 3, 0, []), (0, 0, 3, []), (9, 0, 0, []), (31, 0, 0, []), (37, 71, 3, [122, 666, 9]), (4, 2, 0, []), (4, 0, 0, []), (2, 3, 0, []), (0, 0, 1, []), (9, 0, 0, []), (31, 0, 0, []), (4, 0, 0, []), (2, 3, 0, []), (0, 0, 2, []), (9, 0, 0, []), (31, 0, 0, []), (4, 0, 0, []), (2, 3, 0, []), (0, 0, 3, []), (9, 0, 0, []), (31, 0, 0, []), (37, 189, 3, [125, 1203, 10]), (21, 37, 0, []), (0, 0, 0, []), (41, 1, 0, [])]
def B197_29 : List MIns := [(4, 1, 0, []), (4, 0, 0, []), (2, 3, 0, []), (0, 0, 1, []), (9, 0, 0, []), (31, 0, 0, []), (4, 0, 0, []), (2, 3, 0, []), (0, 0, 2, []), (9, 0, 0, []), (31, 0, 0, []), (4, 0, 0, []), (2, 3, 0, []), (0, 0, 3, []), (9, 0, 0, []), (31, 0, 0, []), (37, 80, 3, [126, 678, 9]), (4, 2, 0, []), (4, 0, 0, []), (2, 3, 0, []), (0, 0, 1, []), (9, 0, 0, []), (31, 0, 0, []), (4, 0, 0, []), (2, 3, 0, []), (0, 0, 2, []), (9, 0, 0, []), (31, 0, 0, []), (4, 0, 0, []), (2, 3, 0, []), (0, 0, 3, []), (9, 0, 0, []), (31, 0, 0, []), (37, 112, 3, [129, 871, 10]), (21, 37, 0, []), (0, 0, 0, []), (41, 1, 0, [])]
def B197_30 : List MIns := [(4, 1, 0, []), (4, 0, 0, []), (2, 3, 0, []), (0, 0, 1, []), (9, 0, 0, []), (31, 0, 0, []), (37, 81, 1, [130, 687, 9]), (4, 2, 0, []), (4, 0, 0, []), (2, 3, 0, []), (0, 0, 1, []), (9, 0, 0, []), (31, 0, 0, []), (37, 113, 1, [133, 887, 10]), (21, 37, 0, []), (0, 0, 0, []), (41, 1, 0, [])]
def B197_31 : List MIns := [(4, 1, 0, []), (4, 0, 0, []), (2, 3, 0, []), (0, 0, 1, []), (9, 0, 0, []), (31, 0, 0, []), (4, 0, 0, []), (2, 3, 0, []), (0, 0, 2, []), (9, 0, 0, []), (31, 0, 0, []), (4, 0, 0, []), (2, 3, 0, []), (0, 0, 3, []), (9, 0, 0, []), (31, 0, 0, []), (4, 0, 0, []), (2, 3, 0, []), (0, 0, 4, []), (9, 0, 0, []), (31, 0, 0, []), (37, 82, 4, [134, 691, 9]), (4, 2, 0, []), (4, 0, 0, []), (2, 3, 0, []), (0, 0, 1, []), (9, 0, 0, []), (31, 0, 0, []), (4, 0, 0, []), (2, 3, 0, []), (0, 0, 2, []), (9, 0, 0, []), (31, 0, 0, []), (4, 0, 0, []), (2, 3, 0, []), (0, 0, 3, []), (9, 0, 0, []), (31, 0, 0, []), (4, 0, 0, []), (2, 3, 0, []), (0, 0, 4, []), (9, 0, 0, []), (31, 0, 0, []), (37, 116, 4, [138, 891, 10]), (21, 37, 0, []), (0, 0, 0, []), (41, 1, 0, [])]
def B197_32 : List MIns := [(4, 1, 0, []), (4, 0, 0, []), (2, 3, 0, []), (0, 0, 1, []), (9, 0, 0, []), (31, 0, 0, []), (4, 0, 0, []), (2, 3, 0, []), (0, 0, 2, []), (9, 0, 0, []), (31, 0, 0, []), (4, 0, 0, []), (2, 3, 0, []), (0, 0, 3, []), (9, 0, 0, []), (31, 0, 0, []), (37, 83, 3, [139, 708, 9]), (4, 2, 0, []), (4, 0, 0, []), (2, 3, 0, []), (0, 0, 1, []), (9, 0, 0, []), (31, 0, 0, []), (4, 0, 0, []), (2, 3, 0, []), (0, 0, 2, []), (9, 0, 0, []), (31, 0, 0, []), (4, 0, 0, []), (2, 3, 0, []), (0, 0, 3, []), (9, 0, 0, []), (31, 0, 0, []), (37, 117, 3, [142, 902, 10]), (21, 37, 0, []), (0, 0, 0, []), (41, 1, 0, [])]
def B197_33 : List MIns := [(4, 1, 0, []), (4, 0, 0, []), (2, 3, 0, []), (0, 0, 1, []), (9, 0, 0, []), (31, 0, 0, []), (4, 0, 0, []), (2, 3, 0, []), (0, 0, 2, []), (9, 0, 0, []), (31, 0, 0, []), (4, 0, 0, []), (2, 3, 0, []), (0, 0, 3, []), (9, 0, 0, []), (31, 0, 0, []), (4, 0, 0, []), (2, 3, 0, []), (0, 0, 4, []), (9, 0, 0, []), (31, 0, 0, []), (4, 0, 0, []), (2, 3, 0, []), (0, 0, 5, []), (9, 0, 0, []), (31, 0, 0, []), (37, 84, 5, [143, 713, 9]), (4, 2, 0, []), (4, 0, 0, []), (2, 3, 0, []), (0, 0, 1, []), (9, 0, 0, []), (31, 0, 0, []), (4, 0, 0, []), (2, 3, 0, []), (0, 0, 2, []), (9, 0, 0, []), (31, 0, 0, []), (4, 0, 0, []), (2, 3, 0, []), (0, 0, 3, []), (9, 0, 0, []), (31, 0, 0, []), (4, 0, 0, []), (2, 3, 0, []), (0, 0, 4, []), (9, 0, 0, []), (31, 0, 0, []), (4, 0, 0, []), (2, 3, 0, []), (0, 0, 5, []), (9, 0, 0, []), (31, 0, 0, []), (37, 118, 5, [147, 907, 10]), (21, 37, 0, []), (0, 0, 0, []), (41, 1, 0, [])]
def B197_34 : List MIns := [(4, 1, 0, []), (4, 0, 0, []), (2, 3, 0, []), (0, 0, 1, []), (9, 0, 0, []), (31, 0, 0, []), (4, 0, 0, []), (2, 3, 0, []), (0, 0, 2, []), (9, 0, 0, []), (31, 0, 0, []), (37, 85, 2, [148, 724, 9]), (4, 2, 0, []), (4, 0, 0, []), (2, 3, 0, []), (0, 0, 1, []), (9, 0, 0, []), (31, 0, 0, []), (4, 0, 0, []), (2, 3, 0, []), (0, 0, 2, []), (9, 0, 0, []), (31, 0, 0, []), (37, 190, 2, [151, 1220, 10]), (21, 37, 0, []), (0, 0, 0, []), (41, 1, 0, [])]
def B197_35 : List MIns := [(4, 1, 0, []), (4, 0, 0, []), (2, 3, 0, []), (0, 0, 1, []), (9, 0, 0, []), (31, 0, 0, []), (37, 86, 1, [152, 729, 9]), (4, 2, 0, []), (4, 0, 0, []), (2, 3, 0, []), (0, 0, 1, []), (9, 0, 0, []), (31, 0, 0, []), (37, 191, 1, [155, 1224, 10]), (21, 37, 0, []), (0, 0, 0, []), (41, 1, 0, [])]
def B197_36 : List MIns := [(4, 1, 0, []), (37, 87, 0, [156, 734, 9]), (4, 2, 0, []), (37, 196, 0, [160, 1232, 10]), (16, 0, 0, []), (20, 37, 0, []), (0, 0, 0, []), (41, 1, 0, [])]
def B197_37 : List MIns := [(8, 3, 6, []), (23, 1, 0, [])]
def B197_38 : List MIns := [(0, 0, 1, []), (41, 1, 0, [])]
def P197 : List (List MIns) := [B197_0, B197_1, B197_2, B197_3, B197_4, B197_5, B197_6, B197_7, B197_8, B197_9, B197_10, B197_11, B197_12, B197_13, B197_14, B197_15, B197_16, B197_17, B197_18, B197_19, B197_20, B197_21, B197_22, B197_23, B197_24, B197_25, B197_26, B197_27, B197_28, B197_29, B197_30, B197_31, B197_32, B197_33, B197_34, B197_35, B197_36, B197_37, B197_38]
def m_prog : List (List (List MIns)) := [P0, P1, P2, P3, P4, P5, P6, P7, P8, P9, P10, P11, P12, P13, P14, P15, P16, P17, P18, P19, P20, P21, P22, P23, P24, P25, P26, P27, P28, P29, P30, P31, P32, P33, P34, P35, P36, P37, P38, P39, P40, P41, P42, P43, P44, P45, P46, P47, P48, P49, P50, P51, P52, P53, P54, P55, P56, P57, P58, P59, P60, P61, P62, P63, P64, P65, P66, P67, P68, P69, P70, P71, P72, P73, P74, P75, P76, P77, P78, P79, P80, P81, P82, P83, P84, P85, P86, P87, P88, P89, P90, P91, P92, P93, P94, P95, P96, P97, P98, P99, P100, P101, P102, P103, P104, P105, P106, P107, P108, P109, P110, P111, P112, P113, P114, P115, P116, P117, P118, P119, P120, P121, P122, P123, P124, P125, P126, P127, P128, P129, P130, P131, P132, P133, P134, P135, P136, P137, P138, P139, P140, P141, P142, P143, P144, P145, P146, P147, P148, P149, P150, P151, P152, P153, P154, P155, P156, P157, P158, P159, P160, P161, P162, P163, P164, P165, P166, P167, P168, P169, P170, P171, P172, P173, P174, P175, P176, P177, P178, P179, P180, P181, P182, P183, P184, P185, P186, P187, P188, P189, P190, P191, P192, P193, P194, P195, P196, P197]
def m_mxs : List Nat := [1, 1, 2, 3, 1, 1, 1, 4, 6, 4, 3, 3, 3, 3, 3, 3, 2, 1, 2, 3, 4, 1, 2, 2, 6, 4, 5, 3, 3, 3, 4, 4, 4, 4, 4, 2, 4, 2, 3, 3, 4, 4, 4, 3, 3, 3, 3, 4, 1, 8, 4, 4, 2, 4, 4, 3, 2, 3, 3, 3, 3, 8, 2, 4, 4, 4, 2, 3, 3, 4, 9, 4, 3, 4, 8, 7, 4, 6, 7, 1, 5, 3, 7, 6, 8, 6, 2, 4, 8, 8, 3, 4, 2, 2, 3, 2, 3, 2, 2, 2, 2, 2, 6, 1, 1, 2, 3, 2, 2, 11, 2, 1, 5, 2, 4, 2, 6, 4, 7, 3, 3, 2, 2, 1, 2, 5, 2, 2, 5, 2, 2, 2, 2, 1, 3, 3, 4, 4, 1, 5, 3, 4, 4, 3, 4, 7, 5, 3, 2, 1, 3, 5, 4, 5, 4, 4, 2, 4, 2, 4, 2, 3, 1, 4, 2, 3, 12, 3, 3, 3, 2, 4, 2, 4, 2, 4, 3, 1, 6, 5, 3, 3, 7, 5, 2, 10, 4, 2, 8, 4, 5, 2, 8, 6, 8, 7, 4, 4]
def m_als : List Nat := [0, 0, 0, 0, 0, 0, 0, 0, 0, 0, 0, 0, 0, 60, 60, 60, 60, 0, 256, 504, 0, 0, 0, 0, 0, 6, 6, 8, 8, 8, 8, 8, 8, 8, 8, 8, 8, 8, 8, 8, 17, 39, 6, 8, 8, 8, 8, 0, 4, 4, 240, 60, 80, 2, 12, 32, 24, 6, 8, 8, 8, 192, 192, 192, 192, 192, 192, 192, 24, 504, 24]
def m_rfs : List (List Int) := [[1, 2, 3, 4, 5, 6, 7, 8, 18, 0, 19, 17, 0], [20, 2, 6, 0], [21, 4, 8, 0], [22, 3, 8, 0], [23, 3, 8, 0], [24, 3, 8, 0], [40, 1, 0, 0], [41, 2, 0, 0], [1, 2, 0, 0, 0, 42, 43, 44, 45, 46], [13, 0, 0, 0], [14, 0, 0, 0], [15, 0, 0, 0], [16, 0, 0, 0], [], [], [], [], [], [], [], [], [], [], [], [], [], [], [], [], [], [], [], [], [], [], [], [], [], [], [], [], [], [], [], [], [], [], [48, 49, 50, 51, 0, 52, 53, 0, 54, 0, 55, 0, 56, 0, 57, 58, 59, 60, 61, 62, 63, 64, 65, 66, 67, 0, 68, 69, 0, 70], [], [], [], [], [], [], [], [], [], [], [], [], [], [], [], [], [], [], [], [], [], [], []]
end
section
/-! The small machine: values are (tag, number), memory is by cell and place. -/
abbrev MVal : Type := Nat × Int
abbrev MMem : Type := Int → Int → Int
abbrev MRes : Type := MVal × MMem
abbrev MOut : Type := Nat × Nat × List MVal × List MVal × List MVal × MMem
def m_w (μ : MMem) (i k v : Int) : MMem := fun a b => if a = i ∧ b = k then v else μ a b
def m_l : List MVal → Nat → MVal
  | [], _ => (14, 0)
  | a :: _, 0 => a
  | _ :: r, n + 1 => m_l r n
def m_lp : List MVal → Nat → MVal → List MVal
  | [], _, _ => []
  | _ :: r, 0, v => v :: r
  | a :: r, n + 1, v => (if n = 0 ∧ a.1 = 1 then (14, 0) else a) :: m_lp r n v
def m_lq (ls : List MVal) (n : Nat) (v : MVal) : List MVal := m_lp (m_lp ls (n + 1) (14, 0)) n v
def m_en : Nat → List MVal → List MVal
  | n, [] => List.replicate n (14, 0)
  | n, a :: r => if a.1 = 1 then a :: (14, 0) :: m_en (n - 2) r else a :: m_en (n - 1) r
def m_ws : List MVal → Nat
  | [] => 0
  | a :: r => (if a.1 = 1 then 2 else 1) + m_ws r
def m_ps (r : MVal) (st : List MVal) : List MVal := if r.1 = 14 then st else r :: st
def m_i (k : Nat) (x y : Int) : Int :=
  match k with
  | 0 => (Int32.ofInt x + Int32.ofInt y).toInt
  | 1 => (Int32.ofInt x - Int32.ofInt y).toInt
  | 2 => (Int32.ofInt x * Int32.ofInt y).toInt
  | 3 => (Int32.ofInt x &&& Int32.ofInt y).toInt
  | 4 => (Int32.ofInt x ||| Int32.ofInt y).toInt
  | 5 => (Int32.ofInt x <<< (Int32.ofInt y &&& 31)).toInt
  | 6 => (Int32.ofInt x >>> (Int32.ofInt y &&& 31)).toInt
  | _ => ((Int32.ofInt x).toUInt32 >>> ((Int32.ofInt y).toUInt32 &&& Int32.toUInt32 31)).toInt32.toInt
def m_id (k : Nat) (x y : Int) : Int :=
  match k with
  | 0 => (Int32.ofInt x / Int32.ofInt y).toInt
  | _ => (Int32.ofInt x - Int32.ofInt x / Int32.ofInt y * Int32.ofInt y).toInt
def m_lb (k : Nat) (x y : Int) : Int :=
  match k with
  | 0 => (Int64.ofInt x + Int64.ofInt y).toInt
  | 1 => (Int64.ofInt x - Int64.ofInt y).toInt
  | _ => (Int64.ofInt x * Int64.ofInt y).toInt
def m_ld (k : Nat) (x y : Int) : Int :=
  match k with
  | 0 => (Int64.ofInt x / Int64.ofInt y).toInt
  | _ => (Int64.ofInt x - Int64.ofInt x / Int64.ofInt y * Int64.ofInt y).toInt
def m_ls (x y : Int) : Int := (Int64.ofInt x <<< ((Int32.ofInt y).toInt64 &&& 63)).toInt
def m_c (k : Nat) (x : Int) : Int :=
  match k with
  | 0 => (Int32.ofInt x).toInt8.toInt32.toInt
  | 1 => (Int32.ofInt x).toInt16.toInt32.toInt
  | _ => ((Int32.ofInt x).toUInt32 % 65536).toInt32.toInt
def m_cmp (x y : Int) : Int := if x < y then -1 else if x = y then 0 else 1
def m_cn (k x y : Int) : Bool :=
  if k = 0 then decide (x = y) else if k = 1 then decide (x ≠ y) else if k = 2 then decide (x < y)
  else if k = 3 then decide (y ≤ x) else if k = 4 then decide (y < x) else decide (x ≤ y)
def m_st : Int → List Nat → Nat → Int → Nat
  | _, [], d, _ => d
  | low, l :: r, d, x => if x = low then l else m_st (low + 1) r d x
def m_sl : List Nat → Nat → Int → Nat
  | k :: l :: r, d, x => if x = (k : Int) then l else m_sl r d x
  | _, d, _ => d
def m_cp (μ : MMem) (a i b j n : Int) : MMem := fun u v => if u = b ∧ j ≤ v ∧ v < j + n then μ a (i + (v - j)) else μ u v
/-- the last n of a stack, in the order of the parameters, and what lies below -/
def m_tk : Nat → List MVal → List MVal → Option (List MVal × List MVal)
  | 0, st, acc => some (acc, st)
  | _ + 1, [], _ => none
  | n + 1, a :: st, acc => m_tk n st (a :: acc)
/-- how long the arrays of ints are, by their cells -/
def m_al (id : Int) : Int := (m_als.getD id.toNat 0 : Nat)
def m_rf (id k : Int) : Int :=
  if id = 17 then 9 + k else if id = 20 then 25 + k else if id = 21 then 27 + k else if id = 22 then 31 + k else if id = 23 then 34 + k else if id = 24 then 37 + k
  else (m_rfs.getD id.toNat []).getD k.toNat 0
/-- how many rows an array of references has -/
def m_rl (id : Int) : Int := if id = 17 then 4 else if id = 20 then 2 else if id = 21 then 4 else 3
/-- arrays that nobody writes: the two of the class, the script -/
def m_ol (μ : MMem) (id : Int) : Int := if id = 200 then 4 else if id = 201 then 3 else μ 202 (-1)
def m_oc (μ : MMem) (id k : Int) : Int := if id = 200 then ([0, 7, 15, 23] : List Int).getD k.toNat 0 else if id = 201 then ([7, 15, 23] : List Int).getD k.toNat 0 else μ 202 k
def m_bc (k : Int) : Int := ([115, 119, 116] : List Int).getD k.toNat 0
def m_nx (ls st : List MVal) (μ : MMem) : Option MOut := some (0, 0, [], ls, st, μ)
def m_ju (l : Nat) (ls st : List MVal) (μ : MMem) : Option MOut := some (1, l, [], ls, st, μ)
def m_ca (z : Nat) (as ls st : List MVal) (μ : MMem) : Option MOut := if m_ws st ≤ 8 then some (2, z, as, ls, st, μ) else none
def m_re (r : MVal) (μ : MMem) : Option MOut := some (3, 0, [], [], [r], μ)
/-- straight instructions -/
def m_opA (op n : Nat) (c : Int) (ls st : List MVal) (μ : MMem) : Option MOut :=
  match op with
  | 0 => m_nx ls ((0, c) :: st) μ
  | 1 => m_nx ls ((1, c) :: st) μ
  | 2 => if (m_l ls n).1 = 0 then m_nx ls (m_l ls n :: st) μ else none
  | 3 => if (m_l ls n).1 = 1 then m_nx ls (m_l ls n :: st) μ else none
  | 4 => if 2 ≤ (m_l ls n).1 ∧ (m_l ls n).1 ≤ 13 then m_nx ls (m_l ls n :: st) μ else none
  | 5 => match st with
    | (0, x) :: st => m_nx (m_lp ls n (0, x)) st μ
    | _ => none
  | 6 => match st with
    | (1, x) :: st => m_nx (m_lq ls n (1, x)) st μ
    | _ => none
  | 7 => match st with
    | (t, x) :: st => if 2 ≤ t ∧ t ≤ 13 then m_nx (m_lp ls n (t, x)) st μ else none
    | _ => none
  | 8 => match m_l ls n with
    | (0, x) => m_nx (m_lp ls n (0, m_i 0 x c)) st μ
    | _ => none
  | 9 => match st with
    | (0, y) :: (0, x) :: st => m_nx ls ((0, m_i n x y) :: st) μ
    | _ => none
  | 10 => match st with
    | (0, y) :: (0, x) :: st => if y ≠ 0 then m_nx ls ((0, m_id n x y) :: st) μ else none
    | _ => none
  | 11 => match st with
    | (1, y) :: (1, x) :: st => m_nx ls ((1, m_lb n x y) :: st) μ
    | _ => none
  | 12 => match st with
    | (1, y) :: (1, x) :: st => if y ≠ 0 then m_nx ls ((1, m_ld n x y) :: st) μ else none
    | _ => none
  | 13 => match st with
    | (0, y) :: (1, x) :: st => m_nx ls ((1, m_ls x y) :: st) μ
    | _ => none
  | 14 => match st with
    | (0, x) :: st => m_nx ls ((0, m_c n x) :: st) μ
    | _ => none
  | 15 => match st with
    | (0, x) :: st => m_nx ls ((1, x) :: st) μ
    | _ => none
  | 16 => match st with
    | (1, y) :: (1, x) :: st => m_nx ls ((0, m_cmp x y) :: st) μ
    | _ => none
  | 17 => match st with
    | (t, x) :: st => if t ≠ 1 then m_nx ls ((t, x) :: (t, x) :: st) μ else none
    | _ => none
  | 18 => match st with
    | (t, _) :: st => if t ≠ 1 then m_nx ls st μ else none
    | _ => none
  | _ => match st with
    | (t, x) :: (u, y) :: st => if t ≠ 1 ∧ u ≠ 1 then m_nx ls ((t, x) :: (u, y) :: (t, x) :: (u, y) :: st) μ else none
    | _ => none
/-- jumps -/
def m_opB (op n : Nat) (c : Int) (e : List Nat) (ls st : List MVal) (μ : MMem) : Option MOut :=
  match op with
  | 20 => match st with
    | (0, x) :: st => if m_cn c x 0 then m_ju n ls st μ else m_nx ls st μ
    | _ => none
  | 21 => match st with
    | (0, y) :: (0, x) :: st => if m_cn c x y then m_ju n ls st μ else m_nx ls st μ
    | _ => none
  | 22 => match st with
    | (t, x) :: st => if 2 ≤ t ∧ t ≤ 13 then (if (c = 0 ∧ x < 0) ∨ (c = 1 ∧ 0 ≤ x) then m_ju n ls st μ else m_nx ls st μ) else none
    | _ => none
  | 23 => m_ju n ls st μ
  | 24 => m_ju n ls st μ
  | 25 => match st with
    | (0, x) :: st => m_ju (m_st c e n x) ls st μ
    | _ => none
  | _ => match st with
    | (0, x) :: st => m_ju (m_sl e n x) ls st μ
    | _ => none
/-- the heap -/
def m_opC (op n : Nat) (c : Int) (e : List Nat) (ls st : List MVal) (μ : MMem) : Option MOut :=
  match op with
  | 27 => match st, e with
    | (t, id) :: st, [_, ot, rt, _] => if t = ot ∧ 0 ≤ id then m_nx ls ((rt, μ id c) :: st) μ else none
    | _, _ => none
  | 28 => match st, e with
    | (t, id) :: st, [_, ot, rt, _] => if t = ot ∧ 0 ≤ id then m_nx ls ((rt, m_rf id c) :: st) μ else none
    | _, _ => none
  | 29 => match st, e with
    | (u, v) :: (t, id) :: st, [_, ot, vt, _] => if t = ot ∧ 0 ≤ id ∧ ((u = vt ∧ vt ≠ 1) ∨ (u = 0 ∧ vt = 1 ∧ (v = 0 ∨ v = 1))) ∧ (u = 0 ∨ 0 ≤ v) then m_nx ls st (m_w μ id c v) else none
    | _, _ => none
  | 30 => if n = 2 then m_nx ls ((0, 1) :: st) μ else if n = 1 then m_nx ls ((11, 201) :: st) μ else m_nx ls ((11, 200) :: st) μ
  | 31 => match st with
    | (0, j) :: (2, id) :: st => if 0 ≤ id ∧ 0 ≤ j ∧ j < m_al id then m_nx ls ((0, μ id j) :: st) μ else none
    | (0, j) :: (11, id) :: st => if 0 ≤ id ∧ 0 ≤ j ∧ j < m_ol μ id then m_nx ls ((0, m_oc μ id j) :: st) μ else none
    | _ => none
  | 32 => match st with
    | (0, v) :: (0, j) :: (2, id) :: st => if 0 ≤ id ∧ 0 ≤ j ∧ j < m_al id then m_nx ls st (m_w μ id j v) else none
    | _ => none
  | 33 => match st with
    | (2, id) :: st => if 0 ≤ id then m_nx ls ((0, m_al id) :: st) μ else none
    | (11, id) :: st => if 0 ≤ id then m_nx ls ((0, m_ol μ id) :: st) μ else none
    | (13, id) :: st => if 0 ≤ id then m_nx ls ((0, 3) :: st) μ else none
    | _ => none
  | 34 => match st with
    | (0, j) :: (3, id) :: st => if 0 ≤ id ∧ 0 ≤ j ∧ j < m_rl id then m_nx ls ((2, m_rf id j) :: st) μ else none
    | (0, j) :: (4, id) :: st => if 0 ≤ id ∧ 0 ≤ j ∧ j < m_rl id then m_nx ls ((6, m_rf id j) :: st) μ else none
    | _ => none
  | 35 => match st with
    | (0, j) :: (13, id) :: st => if 0 ≤ id ∧ 0 ≤ j ∧ j < 3 then m_nx ls ((0, m_bc j) :: st) μ else none
    | _ => none
  | 45 => m_nx ls ((5, -1) :: st) μ
  | 46 => m_nx ls ((12, 203) :: st) μ
  | _ => match st with
    | (12, id) :: st => if 0 ≤ id then (if n = 0 then m_nx ls ((13, 204) :: st) μ else m_nx ls ((0, 0) :: st) μ) else none
    | _ => none
/-- calls and returns -/
def m_opD (op n : Nat) (c : Int) (e : List Nat) (ls st : List MVal) (μ : MMem) : Option MOut :=
  match op with
  | 36 => match m_tk c.toNat st [] with
    | some (as, st) => m_ca n as ls st μ
    | none => none
  | 40 => match st with
    | (0, n) :: (0, j) :: (2, b) :: (0, i) :: (2, a) :: st => if (0 ≤ a ∧ 0 ≤ b ∧ 0 ≤ i ∧ 0 ≤ j ∧ 0 ≤ n ∧ i + n ≤ m_al a ∧ j + n ≤ m_al b) ∧ m_ws st ≤ 8 then m_nx ls st (m_cp μ a i b j n) else none
    | _ => none
  | 41 => match st with
    | [(0, x)] => if n = 0 ∨ x = 0 ∨ x = 1 then m_re (0, x) μ else none
    | _ => none
  | 42 => match st with
    | [(1, x)] => m_re (1, x) μ
    | _ => none
  | 43 => match st with
    | [(t, x)] => if 2 ≤ t ∧ t ≤ 13 then m_re (t, x) μ else none
    | _ => none
  | 44 => match st with
    | [] => m_re (14, 0) μ
    | _ => none
  | 50 => match st with
    | (0, y) :: (0, x) :: st => if m_ws st ≤ 8 then m_nx ls ((0, if x < y then y else x) :: st) μ else none
    | _ => none
  | 51 => match st with
    | (0, y) :: (0, x) :: st => if m_ws st ≤ 8 then m_nx ls ((0, if y < x then y else x) :: st) μ else none
    | _ => none
  | 39 => match m_tk c.toNat st [], e with
    | some (as, (5, id) :: st), [_, _, h, b] => if id = 6 then m_ca h ((5, id) :: as) ls st μ else if id = 7 then m_ca b ((5, id) :: as) ls st μ else none
    | _, _ => none
  | 37 => match m_tk c.toNat st [], e with
    | some (as, (t, id) :: st), [_, _, tg] => if t = tg ∧ 0 ≤ id then m_ca n ((t, id) :: as) ls st μ else none
    | _, _ => none
  | 38 => match m_tk c.toNat st [] with
    | some (as, (t, id) :: st) => if t = 5 ∧ 0 ≤ id then m_ca n ((t, id) :: as) ls st μ else none
    | _ => none
  | 48 => match m_tk c.toNat st [] with
    | some (as, (t, id) :: st) => if t = 12 ∧ id = 203 then m_ca n ((t, id) :: as) ls st μ else none
    | _ => none
  | _ => none
def m_op (i : MIns) (ls st : List MVal) (μ : MMem) : Option MOut :=
  if i.1 < 20 then m_opA i.1 i.2.1 i.2.2.1 ls st μ
  else if i.1 < 27 then m_opB i.1 i.2.1 i.2.2.1 i.2.2.2 ls st μ
  else if i.1 < 36 ∨ (45 ≤ i.1 ∧ i.1 < 48) then m_opC i.1 i.2.1 i.2.2.1 i.2.2.2 ls st μ
  else m_opD i.1 i.2.1 i.2.2.1 i.2.2.2 ls st μ
def m_bl (m l : Nat) : List MIns := (m_prog.getD m []).getD l []
def m_mx (m : Nat) : Nat := m_mxs.getD m 0
def m_ex : Nat → Nat → List MIns → List MVal → List MVal → MMem → Option MRes
  | 0, _, _, _, _, _ => none
  | _ + 1, _, [], _, _, _ => none
  | f + 1, m, i :: is, ls, st, μ => match m_op i ls st μ with
    | none => none
    | some (k, l, as, ls, st, μ) =>
      if k = 0 then m_ex f m is ls st μ
      else if k = 1 then m_ex f m (m_bl m l) ls st μ
      else if k = 2 then (if m_ws as ≤ m_mx l then (match m_ex f l (m_bl l 0) (m_en (m_mx l) as) [] μ with
        | none => none
        | some r => m_ex f m is ls (m_ps r.1 st) r.2) else none)
      else match st with
        | [] => none
        | r :: _ => some (r, μ)
theorem m_mono : ∀ (f m : Nat) (is : List MIns) (ls st : List MVal) (μ : MMem) (r : MRes), m_ex f m is ls st μ = some r → m_ex (f + 1) m is ls st μ = some r
  | 0, _, _, _, _, _, _, h => by simp [m_ex] at h
  | f + 1, _, [], _, _, _, _, h => by simp [m_ex] at h
  | f + 1, m, i :: is, ls, st, μ, r, h => by
    rw [m_ex] at h ⊢
    cases ho : m_op i ls st μ with
    | none => rw [ho] at h; cases h
    | some o =>
      obtain ⟨k, l, as, ls', st', μ'⟩ := o
      rw [ho] at h
      dsimp only at h ⊢
      by_cases h0 : k = 0
      · rw [if_pos h0] at h ⊢
        exact m_mono f _ _ _ _ _ _ h
      · rw [if_neg h0] at h ⊢
        by_cases h1 : k = 1
        · rw [if_pos h1] at h ⊢
          exact m_mono f _ _ _ _ _ _ h
        · rw [if_neg h1] at h ⊢
          by_cases h2 : k = 2
          · rw [if_pos h2] at h ⊢
            by_cases hw : m_ws as ≤ m_mx l
            case neg => rw [if_neg hw] at h; cases h
            rw [if_pos hw] at h ⊢
            cases hc : m_ex f l (m_bl l 0) (m_en (m_mx l) as) [] μ' with
            | none => rw [hc] at h; cases h
            | some q =>
              rw [hc] at h
              rw [m_mono f _ _ _ _ _ _ hc]
              exact m_mono f _ _ _ _ _ _ h
          · rw [if_neg h2] at h ⊢
            exact h
theorem m_more {f g m : Nat} {is : List MIns} {ls st : List MVal} {μ : MMem} {r : MRes} (h : m_ex f m is ls st μ = some r) (hg : f ≤ g) : m_ex g m is ls st μ = some r := by
  induction g with
  | zero => have : f = 0 := by omega
            subst this; exact h
  | succ g ih =>
    by_cases e : f = g + 1
    · subst e; exact h
    · exact m_mono _ _ _ _ _ _ _ (ih (by omega))
theorem m_same {f g m : Nat} {is : List MIns} {ls st : List MVal} {μ : MMem} {r q : MRes} (h : m_ex f m is ls st μ = some r) (h2 : m_ex g m is ls st μ = some q) : r = q := by
  have a := m_more h (Nat.le_max_left f g)
  have b := m_more h2 (Nat.le_max_right f g)
  exact Option.some.inj (a.symm.trans b)
def Rn (m : Nat) (is : List MIns) (ls st : List MVal) (μ : MMem) (Q : MVal → MMem → Prop) : Prop := ∃ (f : Nat) (r : MRes), m_ex f m is ls st μ = some r ∧ Q r.1 r.2
def At (m l : Nat) (ls st : List MVal) (μ : MMem) (Q : MVal → MMem → Prop) : Prop := Rn m (m_bl m l) ls st μ Q
def Cal (m : Nat) (as : List MVal) (μ : MMem) (Q : MVal → MMem → Prop) : Prop := m_ws as ≤ m_mx m ∧ Rn m (m_bl m 0) (m_en (m_mx m) as) [] μ Q
def Ret (m : Nat) (as : List MVal) (μ : MMem) (r : MVal) (μ' : MMem) : Prop := m_ws as ≤ m_mx m ∧ ∃ f : Nat, m_ex f m (m_bl m 0) (m_en (m_mx m) as) [] μ = some (r, μ')
theorem cal_ret {m : Nat} {as : List MVal} {μ μ' : MMem} {r : MVal} (hw : m_ws as ≤ m_mx m) (h : Rn m (m_bl m 0) (m_en (m_mx m) as) [] μ (fun a b => a = r ∧ b = μ')) : Ret m as μ r μ' := by
  obtain ⟨f, q, h1, h2, h3⟩ := h
  refine ⟨hw, f, ?_⟩
  rw [h1, ← h2, ← h3]
theorem ret_cal {m : Nat} {as : List MVal} {μ μ' : MMem} {r : MVal} (h : Ret m as μ r μ') (Q : MVal → MMem → Prop) : Cal m as μ Q = Q r μ' := by
  obtain ⟨hw, f, hf⟩ := h
  refine propext ⟨?_, fun q => ⟨hw, f, _, hf, q⟩⟩
  rintro ⟨-, g, q, h1, h2⟩
  have e := m_same hf h1
  rw [← e] at h2
  exact h2
theorem rn_mono {m : Nat} {is : List MIns} {ls st : List MVal} {μ : MMem} {Q Q' : MVal → MMem → Prop} (h : Rn m is ls st μ Q) (hq : ∀ r μ', Q r μ' → Q' r μ') : Rn m is ls st μ Q' := by
  obtain ⟨f, r, h1, h2⟩ := h
  exact ⟨f, r, h1, hq _ _ h2⟩
theorem rn_none {m : Nat} {i : MIns} {is : List MIns} {ls st : List MVal} {μ : MMem} {Q : MVal → MMem → Prop} (h : m_op i ls st μ = none) : Rn m (i :: is) ls st μ Q = False := by
  refine propext ⟨?_, False.elim⟩
  rintro ⟨f, r, h1, -⟩
  cases f with
  | zero => simp [m_ex] at h1
  | succ f => rw [m_ex, h] at h1; cases h1
theorem rn_nx {m : Nat} {i : MIns} {is : List MIns} {ls st ls' st' : List MVal} {μ μ' : MMem} {Q : MVal → MMem → Prop} (h : m_op i ls st μ = m_nx ls' st' μ') : Rn m (i :: is) ls st μ Q = Rn m is ls' st' μ' Q := by
  have e : ∀ f, m_ex (f + 1) m (i :: is) ls st μ = m_ex f m is ls' st' μ' := fun f => by rw [m_ex, h]; rfl
  refine propext ⟨?_, ?_⟩
  · rintro ⟨f, r, h1, h2⟩
    cases f with
    | zero => simp [m_ex] at h1
    | succ f => exact ⟨f, r, (e f) ▸ h1, h2⟩
  · rintro ⟨f, r, h1, h2⟩
    exact ⟨f + 1, r, (e f).trans h1, h2⟩
theorem rn_ju {m l : Nat} {i : MIns} {is : List MIns} {ls st ls' st' : List MVal} {μ μ' : MMem} {Q : MVal → MMem → Prop} (h : m_op i ls st μ = m_ju l ls' st' μ') : Rn m (i :: is) ls st μ Q = At m l ls' st' μ' Q := by
  have e : ∀ f, m_ex (f + 1) m (i :: is) ls st μ = m_ex f m (m_bl m l) ls' st' μ' := fun f => by rw [m_ex, h]; rfl
  refine propext ⟨?_, ?_⟩
  · rintro ⟨f, r, h1, h2⟩
    cases f with
    | zero => simp [m_ex] at h1
    | succ f => exact ⟨f, r, (e f) ▸ h1, h2⟩
  · rintro ⟨f, r, h1, h2⟩
    exact ⟨f + 1, r, (e f).trans h1, h2⟩
theorem rn_re {m : Nat} {i : MIns} {is : List MIns} {ls st : List MVal} {μ μ' : MMem} {r : MVal} {Q : MVal → MMem → Prop} (h : m_op i ls st μ = m_re r μ') : Rn m (i :: is) ls st μ Q = Q r μ' := by
  have e : ∀ f, m_ex (f + 1) m (i :: is) ls st μ = some (r, μ') := fun f => by rw [m_ex, h]; rfl
  refine propext ⟨?_, ?_⟩
  · rintro ⟨f, q, h1, h2⟩
    cases f with
    | zero => simp [m_ex] at h1
    | succ f =>
      have h3 := (e f).symm.trans h1
      cases h3
      exact h2
  · intro q
    exact ⟨1, (r, μ'), e 0, q⟩
theorem rn_ca {m z : Nat} {i : MIns} {is : List MIns} {as ls st ls' st' : List MVal} {μ μ' : MMem} {Q : MVal → MMem → Prop} (h : m_op i ls st μ = m_ca z as ls' st' μ') : Rn m (i :: is) ls st μ Q = (m_ws st' ≤ 8 ∧ Cal z as μ' (fun r ν => Rn m is ls' (m_ps r st') ν Q)) := by
  by_cases hw : m_ws st' ≤ 8
  · by_cases ha : m_ws as ≤ m_mx z
    · have e : ∀ f, m_ex (f + 1) m (i :: is) ls st μ = (match m_ex f z (m_bl z 0) (m_en (m_mx z) as) [] μ' with
          | none => none
          | some r => m_ex f m is ls' (m_ps r.1 st') r.2) := fun f => by
        rw [m_ex, h, m_ca, if_pos hw]
        show (if m_ws as ≤ m_mx z then _ else _) = _
        rw [if_pos ha]
      refine propext ⟨?_, ?_⟩
      · rintro ⟨f, r, h1, h2⟩
        cases f with
        | zero => simp [m_ex] at h1
        | succ f =>
          rw [e f] at h1
          refine ⟨hw, ha, ?_⟩
          cases hc : m_ex f z (m_bl z 0) (m_en (m_mx z) as) [] μ' with
          | none => rw [hc] at h1; cases h1
          | some q => rw [hc] at h1; exact ⟨f, q, hc, f, r, h1, h2⟩
      · rintro ⟨-, -, f, q, h1, g, r, h2, h3⟩
        refine ⟨max f g + 1, r, ?_, h3⟩
        rw [e, m_more h1 (Nat.le_max_left f g)]
        exact m_more h2 (Nat.le_max_right f g)
    · have e : ∀ f, m_ex (f + 1) m (i :: is) ls st μ = none := fun f => by
        rw [m_ex, h, m_ca, if_pos hw]
        show (if m_ws as ≤ m_mx z then _ else _) = _
        rw [if_neg ha]
      refine propext ⟨?_, fun q => absurd q.2.1 ha⟩
      rintro ⟨f, r, h1, -⟩
      cases f with
      | zero => simp [m_ex] at h1
      | succ f => rw [e f] at h1; cases h1
  · have e : m_op i ls st μ = none := by rw [h, m_ca, if_neg hw]
    rw [rn_none e]
    exact propext ⟨False.elim, fun q => hw q.1⟩
end
section
theorem rn_if {cd : Prop} [Decidable cd] {m : Nat} {i : MIns} {is : List MIns} {ls st ls' st' : List MVal} {μ μ' : MMem} {Q : MVal → MMem → Prop} (h : m_op i ls st μ = if cd then m_nx ls' st' μ' else none) : Rn m (i :: is) ls st μ Q = if cd then Rn m is ls' st' μ' Q else False := by
  by_cases hc : cd
  · rw [if_pos hc] at h ⊢
    exact rn_nx h
  · rw [if_neg hc] at h ⊢
    exact rn_none h
theorem rn_an {cd : Prop} [Decidable cd] {m : Nat} {i : MIns} {is : List MIns} {ls st ls' st' : List MVal} {μ μ' : MMem} {Q : MVal → MMem → Prop} (h : m_op i ls st μ = if cd then m_nx ls' st' μ' else none) : Rn m (i :: is) ls st μ Q = (cd ∧ Rn m is ls' st' μ' Q) := by
  rw [rn_if h]
  by_cases hc : cd
  · rw [if_pos hc]
    exact propext ⟨fun q => ⟨hc, q⟩, fun q => q.2⟩
  · rw [if_neg hc]
    exact propext ⟨False.elim, fun q => hc q.1⟩
theorem rn_br {cd : Prop} [Decidable cd] {m l : Nat} {i : MIns} {is : List MIns} {ls st ls' st' : List MVal} {μ μ' : MMem} {Q : MVal → MMem → Prop} (h : m_op i ls st μ = if cd then m_ju l ls' st' μ' else m_nx ls' st' μ') : Rn m (i :: is) ls st μ Q = if cd then At m l ls' st' μ' Q else Rn m is ls' st' μ' Q := by
  by_cases hc : cd
  · rw [if_pos hc] at h ⊢
    exact rn_ju h
  · rw [if_neg hc] at h ⊢
    exact rn_nx h
theorem rn_ifr {cd : Prop} [Decidable cd] {m : Nat} {i : MIns} {is : List MIns} {ls st : List MVal} {μ μ' : MMem} {r : MVal} {Q : MVal → MMem → Prop} (h : m_op i ls st μ = if cd then m_re r μ' else none) : Rn m (i :: is) ls st μ Q = if cd then Q r μ' else False := by
  by_cases hc : cd
  · rw [if_pos hc] at h ⊢
    exact rn_re h
  · rw [if_neg hc] at h ⊢
    exact rn_none h
theorem rn_ifc {cd : Prop} [Decidable cd] {m z : Nat} {i : MIns} {is : List MIns} {as ls st ls' st' : List MVal} {μ μ' : MMem} {Q : MVal → MMem → Prop} (h : m_op i ls st μ = if cd then m_ca z as ls' st' μ' else none) : Rn m (i :: is) ls st μ Q = if cd then (m_ws st' ≤ 8 ∧ Cal z as μ' (fun r ν => Rn m is ls' (m_ps r st') ν Q)) else False := by
  by_cases hc : cd
  · rw [if_pos hc] at h ⊢
    exact rn_ca h
  · rw [if_neg hc] at h ⊢
    exact rn_none h
theorem m_cn0 (x y : Int) : m_cn 0 x y = decide (x = y) := rfl
theorem m_cn1 (x y : Int) : m_cn 1 x y = decide (x ≠ y) := rfl
theorem m_cn2 (x y : Int) : m_cn 2 x y = decide (x < y) := rfl
theorem m_cn3 (x y : Int) : m_cn 3 x y = decide (y ≤ x) := rfl
theorem m_cn4 (x y : Int) : m_cn 4 x y = decide (y < x) := rfl
theorem m_cn5 (x y : Int) : m_cn 5 x y = decide (x ≤ y) := rfl
theorem r_0 {m : Nat} {is : List MIns} {ls : List MVal} {μ : MMem} {Q : MVal → MMem → Prop} {n : Nat} {st : List MVal} {c : Int} {e : List Nat}  : Rn m ((0, n, c, e) :: is) ls st μ Q = Rn m is ls ((0, c) :: st) μ Q := rn_nx rfl
theorem r_1 {m : Nat} {is : List MIns} {ls : List MVal} {μ : MMem} {Q : MVal → MMem → Prop} {n : Nat} {st : List MVal} {c : Int} {e : List Nat}  : Rn m ((1, n, c, e) :: is) ls st μ Q = Rn m is ls ((1, c) :: st) μ Q := rn_nx rfl
theorem r_2 {m : Nat} {is : List MIns} {ls : List MVal} {μ : MMem} {Q : MVal → MMem → Prop} {n : Nat} {st : List MVal} {c : Int} {e : List Nat}  : Rn m ((2, n, c, e) :: is) ls st μ Q = (if (m_l ls n).1 = 0 then Rn m is ls (m_l ls n :: st) μ Q else False) := rn_if rfl
theorem r_3 {m : Nat} {is : List MIns} {ls : List MVal} {μ : MMem} {Q : MVal → MMem → Prop} {n : Nat} {st : List MVal} {c : Int} {e : List Nat}  : Rn m ((3, n, c, e) :: is) ls st μ Q = (if (m_l ls n).1 = 1 then Rn m is ls (m_l ls n :: st) μ Q else False) := rn_if rfl
theorem r_4 {m : Nat} {is : List MIns} {ls : List MVal} {μ : MMem} {Q : MVal → MMem → Prop} {n : Nat} {st : List MVal} {c : Int} {e : List Nat}  : Rn m ((4, n, c, e) :: is) ls st μ Q = (if 2 ≤ (m_l ls n).1 ∧ (m_l ls n).1 ≤ 13 then Rn m is ls (m_l ls n :: st) μ Q else False) := rn_if rfl
theorem r_5 {m : Nat} {is : List MIns} {ls : List MVal} {μ : MMem} {Q : MVal → MMem → Prop} {n : Nat} {st : List MVal} {c : Int} {e : List Nat} {x : Int} : Rn m ((5, n, c, e) :: is) ls ((0, x) :: st) μ Q = Rn m is (m_lp ls n (0, x)) st μ Q := rn_nx rfl
theorem r_6 {m : Nat} {is : List MIns} {ls : List MVal} {μ : MMem} {Q : MVal → MMem → Prop} {n : Nat} {st : List MVal} {c : Int} {e : List Nat} {x : Int} : Rn m ((6, n, c, e) :: is) ls ((1, x) :: st) μ Q = Rn m is (m_lq ls n (1, x)) st μ Q := rn_nx rfl
theorem r_7 {m : Nat} {is : List MIns} {ls : List MVal} {μ : MMem} {Q : MVal → MMem → Prop} {n : Nat} {st : List MVal} {c : Int} {e : List Nat} {t : Nat} {x : Int} : Rn m ((7, n, c, e) :: is) ls ((t, x) :: st) μ Q = (if 2 ≤ t ∧ t ≤ 13 then Rn m is (m_lp ls n (t, x)) st μ Q else False) := rn_if rfl
theorem r_9 {m : Nat} {is : List MIns} {ls : List MVal} {μ : MMem} {Q : MVal → MMem → Prop} {n : Nat} {st : List MVal} {c : Int} {e : List Nat} {x y : Int} : Rn m ((9, n, c, e) :: is) ls ((0, y) :: (0, x) :: st) μ Q = Rn m is ls ((0, m_i n x y) :: st) μ Q := rn_nx rfl
theorem r_10 {m : Nat} {is : List MIns} {ls : List MVal} {μ : MMem} {Q : MVal → MMem → Prop} {n : Nat} {st : List MVal} {c : Int} {e : List Nat} {x y : Int} : Rn m ((10, n, c, e) :: is) ls ((0, y) :: (0, x) :: st) μ Q = (if y ≠ 0 then Rn m is ls ((0, m_id n x y) :: st) μ Q else False) := rn_if rfl
theorem r_11 {m : Nat} {is : List MIns} {ls : List MVal} {μ : MMem} {Q : MVal → MMem → Prop} {n : Nat} {st : List MVal} {c : Int} {e : List Nat} {x y : Int} : Rn m ((11, n, c, e) :: is) ls ((1, y) :: (1, x) :: st) μ Q = Rn m is ls ((1, m_lb n x y) :: st) μ Q := rn_nx rfl
theorem r_12 {m : Nat} {is : List MIns} {ls : List MVal} {μ : MMem} {Q : MVal → MMem → Prop} {n : Nat} {st : List MVal} {c : Int} {e : List Nat} {x y : Int} : Rn m ((12, n, c, e) :: is) ls ((1, y) :: (1, x) :: st) μ Q = (if y ≠ 0 then Rn m is ls ((1, m_ld n x y) :: st) μ Q else False) := rn_if rfl
theorem r_13 {m : Nat} {is : List MIns} {ls : List MVal} {μ : MMem} {Q : MVal → MMem → Prop} {n : Nat} {st : List MVal} {c : Int} {e : List Nat} {x y : Int} : Rn m ((13, n, c, e) :: is) ls ((0, y) :: (1, x) :: st) μ Q = Rn m is ls ((1, m_ls x y) :: st) μ Q := rn_nx rfl
theorem r_14 {m : Nat} {is : List MIns} {ls : List MVal} {μ : MMem} {Q : MVal → MMem → Prop} {n : Nat} {st : List MVal} {c : Int} {e : List Nat} {x : Int} : Rn m ((14, n, c, e) :: is) ls ((0, x) :: st) μ Q = Rn m is ls ((0, m_c n x) :: st) μ Q := rn_nx rfl
theorem r_15 {m : Nat} {is : List MIns} {ls : List MVal} {μ : MMem} {Q : MVal → MMem → Prop} {n : Nat} {st : List MVal} {c : Int} {e : List Nat} {x : Int} : Rn m ((15, n, c, e) :: is) ls ((0, x) :: st) μ Q = Rn m is ls ((1, x) :: st) μ Q := rn_nx rfl
theorem r_16 {m : Nat} {is : List MIns} {ls : List MVal} {μ : MMem} {Q : MVal → MMem → Prop} {n : Nat} {st : List MVal} {c : Int} {e : List Nat} {x y : Int} : Rn m ((16, n, c, e) :: is) ls ((1, y) :: (1, x) :: st) μ Q = Rn m is ls ((0, m_cmp x y) :: st) μ Q := rn_nx rfl
theorem r_17 {m : Nat} {is : List MIns} {ls : List MVal} {μ : MMem} {Q : MVal → MMem → Prop} {n : Nat} {st : List MVal} {c : Int} {e : List Nat} {t : Nat} {x : Int} : Rn m ((17, n, c, e) :: is) ls ((t, x) :: st) μ Q = (if t ≠ 1 then Rn m is ls ((t, x) :: (t, x) :: st) μ Q else False) := rn_if rfl
theorem r_18 {m : Nat} {is : List MIns} {ls : List MVal} {μ : MMem} {Q : MVal → MMem → Prop} {n : Nat} {st : List MVal} {c : Int} {e : List Nat} {t : Nat} {x : Int} : Rn m ((18, n, c, e) :: is) ls ((t, x) :: st) μ Q = (if t ≠ 1 then Rn m is ls st μ Q else False) := rn_if rfl
theorem r_19 {m : Nat} {is : List MIns} {ls : List MVal} {μ : MMem} {Q : MVal → MMem → Prop} {n : Nat} {st : List MVal} {c : Int} {e : List Nat} {t u : Nat} {x y : Int} : Rn m ((19, n, c, e) :: is) ls ((t, x) :: (u, y) :: st) μ Q = (if t ≠ 1 ∧ u ≠ 1 then Rn m is ls ((t, x) :: (u, y) :: (t, x) :: (u, y) :: st) μ Q else False) := rn_if rfl
theorem r_20_0 {m : Nat} {is : List MIns} {ls : List MVal} {μ : MMem} {Q : MVal → MMem → Prop} {n : Nat} {st : List MVal} {e : List Nat} {x : Int} : Rn m ((20, n, 0, e) :: is) ls ((0, x) :: st) μ Q = (if x = 0 then At m n ls st μ Q else Rn m is ls st μ Q) := by
  refine rn_br ?_
  show (if m_cn 0 _ _ = true then _ else _) = _
  rw [m_cn0]
  simp only [decide_eq_true_eq]
theorem r_21_0 {m : Nat} {is : List MIns} {ls : List MVal} {μ : MMem} {Q : MVal → MMem → Prop} {n : Nat} {st : List MVal} {e : List Nat} {x y : Int} : Rn m ((21, n, 0, e) :: is) ls ((0, y) :: (0, x) :: st) μ Q = (if x = y then At m n ls st μ Q else Rn m is ls st μ Q) := by
  refine rn_br ?_
  show (if m_cn 0 _ _ = true then _ else _) = _
  rw [m_cn0]
  simp only [decide_eq_true_eq]
theorem r_20_1 {m : Nat} {is : List MIns} {ls : List MVal} {μ : MMem} {Q : MVal → MMem → Prop} {n : Nat} {st : List MVal} {e : List Nat} {x : Int} : Rn m ((20, n, 1, e) :: is) ls ((0, x) :: st) μ Q = (if x ≠ 0 then At m n ls st μ Q else Rn m is ls st μ Q) := by
  refine rn_br ?_
  show (if m_cn 1 _ _ = true then _ else _) = _
  rw [m_cn1]
  simp only [decide_eq_true_eq]
theorem r_21_1 {m : Nat} {is : List MIns} {ls : List MVal} {μ : MMem} {Q : MVal → MMem → Prop} {n : Nat} {st : List MVal} {e : List Nat} {x y : Int} : Rn m ((21, n, 1, e) :: is) ls ((0, y) :: (0, x) :: st) μ Q = (if x ≠ y then At m n ls st μ Q else Rn m is ls st μ Q) := by
  refine rn_br ?_
  show (if m_cn 1 _ _ = true then _ else _) = _
  rw [m_cn1]
  simp only [decide_eq_true_eq]
theorem r_20_2 {m : Nat} {is : List MIns} {ls : List MVal} {μ : MMem} {Q : MVal → MMem → Prop} {n : Nat} {st : List MVal} {e : List Nat} {x : Int} : Rn m ((20, n, 2, e) :: is) ls ((0, x) :: st) μ Q = (if x < 0 then At m n ls st μ Q else Rn m is ls st μ Q) := by
  refine rn_br ?_
  show (if m_cn 2 _ _ = true then _ else _) = _
  rw [m_cn2]
  simp only [decide_eq_true_eq]
theorem r_21_2 {m : Nat} {is : List MIns} {ls : List MVal} {μ : MMem} {Q : MVal → MMem → Prop} {n : Nat} {st : List MVal} {e : List Nat} {x y : Int} : Rn m ((21, n, 2, e) :: is) ls ((0, y) :: (0, x) :: st) μ Q = (if x < y then At m n ls st μ Q else Rn m is ls st μ Q) := by
  refine rn_br ?_
  show (if m_cn 2 _ _ = true then _ else _) = _
  rw [m_cn2]
  simp only [decide_eq_true_eq]
theorem r_20_3 {m : Nat} {is : List MIns} {ls : List MVal} {μ : MMem} {Q : MVal → MMem → Prop} {n : Nat} {st : List MVal} {e : List Nat} {x : Int} : Rn m ((20, n, 3, e) :: is) ls ((0, x) :: st) μ Q = (if 0 ≤ x then At m n ls st μ Q else Rn m is ls st μ Q) := by
  refine rn_br ?_
  show (if m_cn 3 _ _ = true then _ else _) = _
  rw [m_cn3]
  simp only [decide_eq_true_eq]
theorem r_21_3 {m : Nat} {is : List MIns} {ls : List MVal} {μ : MMem} {Q : MVal → MMem → Prop} {n : Nat} {st : List MVal} {e : List Nat} {x y : Int} : Rn m ((21, n, 3, e) :: is) ls ((0, y) :: (0, x) :: st) μ Q = (if y ≤ x then At m n ls st μ Q else Rn m is ls st μ Q) := by
  refine rn_br ?_
  show (if m_cn 3 _ _ = true then _ else _) = _
  rw [m_cn3]
  simp only [decide_eq_true_eq]
theorem r_20_4 {m : Nat} {is : List MIns} {ls : List MVal} {μ : MMem} {Q : MVal → MMem → Prop} {n : Nat} {st : List MVal} {e : List Nat} {x : Int} : Rn m ((20, n, 4, e) :: is) ls ((0, x) :: st) μ Q = (if 0 < x then At m n ls st μ Q else Rn m is ls st μ Q) := by
  refine rn_br ?_
  show (if m_cn 4 _ _ = true then _ else _) = _
  rw [m_cn4]
  simp only [decide_eq_true_eq]
theorem r_21_4 {m : Nat} {is : List MIns} {ls : List MVal} {μ : MMem} {Q : MVal → MMem → Prop} {n : Nat} {st : List MVal} {e : List Nat} {x y : Int} : Rn m ((21, n, 4, e) :: is) ls ((0, y) :: (0, x) :: st) μ Q = (if y < x then At m n ls st μ Q else Rn m is ls st μ Q) := by
  refine rn_br ?_
  show (if m_cn 4 _ _ = true then _ else _) = _
  rw [m_cn4]
  simp only [decide_eq_true_eq]
theorem r_20_5 {m : Nat} {is : List MIns} {ls : List MVal} {μ : MMem} {Q : MVal → MMem → Prop} {n : Nat} {st : List MVal} {e : List Nat} {x : Int} : Rn m ((20, n, 5, e) :: is) ls ((0, x) :: st) μ Q = (if x ≤ 0 then At m n ls st μ Q else Rn m is ls st μ Q) := by
  refine rn_br ?_
  show (if m_cn 5 _ _ = true then _ else _) = _
  rw [m_cn5]
  simp only [decide_eq_true_eq]
theorem r_21_5 {m : Nat} {is : List MIns} {ls : List MVal} {μ : MMem} {Q : MVal → MMem → Prop} {n : Nat} {st : List MVal} {e : List Nat} {x y : Int} : Rn m ((21, n, 5, e) :: is) ls ((0, y) :: (0, x) :: st) μ Q = (if x ≤ y then At m n ls st μ Q else Rn m is ls st μ Q) := by
  refine rn_br ?_
  show (if m_cn 5 _ _ = true then _ else _) = _
  rw [m_cn5]
  simp only [decide_eq_true_eq]
theorem r_22_0 {m : Nat} {is : List MIns} {ls : List MVal} {μ : MMem} {Q : MVal → MMem → Prop} {n : Nat} {st : List MVal} {e : List Nat} {t : Nat} {x : Int} : Rn m ((22, n, 0, e) :: is) ls ((t, x) :: st) μ Q = (if 2 ≤ t ∧ t ≤ 13 then (if x < 0 then At m n ls st μ Q else Rn m is ls st μ Q) else False) := by
  show _ = _
  by_cases h : 2 ≤ t ∧ t ≤ 13
  · rw [if_pos h]
    refine rn_br ?_
    show (if 2 ≤ t ∧ t ≤ 13 then (if _ then _ else _) else _) = _
    rw [if_pos h]
    simp
  · rw [if_neg h]
    refine rn_none ?_
    show (if 2 ≤ t ∧ t ≤ 13 then _ else _) = _
    rw [if_neg h]
theorem r_22_1 {m : Nat} {is : List MIns} {ls : List MVal} {μ : MMem} {Q : MVal → MMem → Prop} {n : Nat} {st : List MVal} {e : List Nat} {t : Nat} {x : Int} : Rn m ((22, n, 1, e) :: is) ls ((t, x) :: st) μ Q = (if 2 ≤ t ∧ t ≤ 13 then (if 0 ≤ x then At m n ls st μ Q else Rn m is ls st μ Q) else False) := by
  show _ = _
  by_cases h : 2 ≤ t ∧ t ≤ 13
  · rw [if_pos h]
    refine rn_br ?_
    show (if 2 ≤ t ∧ t ≤ 13 then (if _ then _ else _) else _) = _
    rw [if_pos h]
    simp
  · rw [if_neg h]
    refine rn_none ?_
    show (if 2 ≤ t ∧ t ≤ 13 then _ else _) = _
    rw [if_neg h]
theorem r_23 {m : Nat} {is : List MIns} {ls : List MVal} {μ : MMem} {Q : MVal → MMem → Prop} {n : Nat} {st : List MVal} {c : Int} {e : List Nat}  : Rn m ((23, n, c, e) :: is) ls st μ Q = At m n ls st μ Q := rn_ju rfl
theorem r_24 {m : Nat} {is : List MIns} {ls : List MVal} {μ : MMem} {Q : MVal → MMem → Prop} {n : Nat} {st : List MVal} {c : Int} {e : List Nat}  : Rn m ((24, n, c, e) :: is) ls st μ Q = At m n ls st μ Q := rn_ju rfl
theorem r_25 {m : Nat} {is : List MIns} {ls : List MVal} {μ : MMem} {Q : MVal → MMem → Prop} {n : Nat} {st : List MVal} {c : Int} {e : List Nat} {x : Int} : Rn m ((25, n, c, e) :: is) ls ((0, x) :: st) μ Q = At m (m_st c e n x) ls st μ Q := rn_ju rfl
theorem r_26 {m : Nat} {is : List MIns} {ls : List MVal} {μ : MMem} {Q : MVal → MMem → Prop} {n : Nat} {st : List MVal} {c : Int} {e : List Nat} {x : Int} : Rn m ((26, n, c, e) :: is) ls ((0, x) :: st) μ Q = At m (m_sl e n x) ls st μ Q := rn_ju rfl
theorem r_27 {m : Nat} {is : List MIns} {ls : List MVal} {μ : MMem} {Q : MVal → MMem → Prop} {n : Nat} {st : List MVal} {c : Int} {t a b rt : Nat} {id : Int} : Rn m ((27, n, c, [a, t, rt, b]) :: is) ls ((t, id) :: st) μ Q = (if 0 ≤ id then Rn m is ls ((rt, μ id c) :: st) μ Q else False) := by
  refine rn_if ?_
  show (if _ = _ ∧ _ then _ else _) = _
  simp only [true_and]
theorem r_28 {m : Nat} {is : List MIns} {ls : List MVal} {μ : MMem} {Q : MVal → MMem → Prop} {n : Nat} {st : List MVal} {c : Int} {t a b rt : Nat} {id : Int} : Rn m ((28, n, c, [a, t, rt, b]) :: is) ls ((t, id) :: st) μ Q = (if 0 ≤ id then Rn m is ls ((rt, m_rf id c) :: st) μ Q else False) := by
  refine rn_if ?_
  show (if _ = _ ∧ _ then _ else _) = _
  simp only [true_and]
theorem r_29 {m : Nat} {is : List MIns} {ls : List MVal} {μ : MMem} {Q : MVal → MMem → Prop} {n : Nat} {st : List MVal} {c : Int} {u t a b vt : Nat} {v id : Int} : Rn m ((29, n, c, [a, t, vt, b]) :: is) ls ((u, v) :: (t, id) :: st) μ Q = (if 0 ≤ id ∧ ((u = vt ∧ vt ≠ 1) ∨ (u = 0 ∧ vt = 1 ∧ (v = 0 ∨ v = 1))) ∧ (u = 0 ∨ 0 ≤ v) then Rn m is ls st (m_w μ id c v) Q else False) := by
  refine rn_if ?_
  show (if _ = _ ∧ _ then _ else _) = _
  simp only [true_and]
theorem r_30_0 {m : Nat} {is : List MIns} {ls : List MVal} {μ : MMem} {Q : MVal → MMem → Prop} {st : List MVal} {c : Int} {e : List Nat}  : Rn m ((30, 0, c, e) :: is) ls st μ Q = Rn m is ls ((11, 200) :: st) μ Q := rn_nx rfl
theorem r_30_1 {m : Nat} {is : List MIns} {ls : List MVal} {μ : MMem} {Q : MVal → MMem → Prop} {st : List MVal} {c : Int} {e : List Nat}  : Rn m ((30, 1, c, e) :: is) ls st μ Q = Rn m is ls ((11, 201) :: st) μ Q := rn_nx rfl
theorem r_30_2 {m : Nat} {is : List MIns} {ls : List MVal} {μ : MMem} {Q : MVal → MMem → Prop} {st : List MVal} {c : Int} {e : List Nat}  : Rn m ((30, 2, c, e) :: is) ls st μ Q = Rn m is ls ((0, 1) :: st) μ Q := rn_nx rfl
theorem r_31 {m : Nat} {is : List MIns} {ls : List MVal} {μ : MMem} {Q : MVal → MMem → Prop} {n : Nat} {st : List MVal} {c : Int} {e : List Nat} {j id : Int} : Rn m ((31, n, c, e) :: is) ls ((0, j) :: (2, id) :: st) μ Q = ((0 ≤ id ∧ 0 ≤ j ∧ j < m_al id) ∧ Rn m is ls ((0, μ id j) :: st) μ Q) := rn_an rfl
theorem r_31b {m : Nat} {is : List MIns} {ls : List MVal} {μ : MMem} {Q : MVal → MMem → Prop} {n : Nat} {st : List MVal} {c : Int} {e : List Nat} {j id : Int} : Rn m ((31, n, c, e) :: is) ls ((0, j) :: (11, id) :: st) μ Q = ((0 ≤ id ∧ 0 ≤ j ∧ j < m_ol μ id) ∧ Rn m is ls ((0, m_oc μ id j) :: st) μ Q) := rn_an rfl
theorem r_32 {m : Nat} {is : List MIns} {ls : List MVal} {μ : MMem} {Q : MVal → MMem → Prop} {n : Nat} {st : List MVal} {c : Int} {e : List Nat} {v j id : Int} : Rn m ((32, n, c, e) :: is) ls ((0, v) :: (0, j) :: (2, id) :: st) μ Q = ((0 ≤ id ∧ 0 ≤ j ∧ j < m_al id) ∧ Rn m is ls st (m_w μ id j v) Q) := rn_an rfl
theorem r_33 {m : Nat} {is : List MIns} {ls : List MVal} {μ : MMem} {Q : MVal → MMem → Prop} {n : Nat} {st : List MVal} {c : Int} {e : List Nat} {id : Int} : Rn m ((33, n, c, e) :: is) ls ((2, id) :: st) μ Q = (if 0 ≤ id then Rn m is ls ((0, m_al id) :: st) μ Q else False) := rn_if rfl
theorem r_33b {m : Nat} {is : List MIns} {ls : List MVal} {μ : MMem} {Q : MVal → MMem → Prop} {n : Nat} {st : List MVal} {c : Int} {e : List Nat} {id : Int} : Rn m ((33, n, c, e) :: is) ls ((11, id) :: st) μ Q = (if 0 ≤ id then Rn m is ls ((0, m_ol μ id) :: st) μ Q else False) := rn_if rfl
theorem r_33c {m : Nat} {is : List MIns} {ls : List MVal} {μ : MMem} {Q : MVal → MMem → Prop} {n : Nat} {st : List MVal} {c : Int} {e : List Nat} {id : Int} : Rn m ((33, n, c, e) :: is) ls ((13, id) :: st) μ Q = (if 0 ≤ id then Rn m is ls ((0, 3) :: st) μ Q else False) := rn_if rfl
theorem r_34 {m : Nat} {is : List MIns} {ls : List MVal} {μ : MMem} {Q : MVal → MMem → Prop} {n : Nat} {st : List MVal} {c : Int} {e : List Nat} {j id : Int} : Rn m ((34, n, c, e) :: is) ls ((0, j) :: (3, id) :: st) μ Q = ((0 ≤ id ∧ 0 ≤ j ∧ j < m_rl id) ∧ Rn m is ls ((2, m_rf id j) :: st) μ Q) := rn_an rfl
theorem r_34b {m : Nat} {is : List MIns} {ls : List MVal} {μ : MMem} {Q : MVal → MMem → Prop} {n : Nat} {st : List MVal} {c : Int} {e : List Nat} {j id : Int} : Rn m ((34, n, c, e) :: is) ls ((0, j) :: (4, id) :: st) μ Q = ((0 ≤ id ∧ 0 ≤ j ∧ j < m_rl id) ∧ Rn m is ls ((6, m_rf id j) :: st) μ Q) := rn_an rfl
theorem r_35 {m : Nat} {is : List MIns} {ls : List MVal} {μ : MMem} {Q : MVal → MMem → Prop} {n : Nat} {st : List MVal} {c : Int} {e : List Nat} {j id : Int} : Rn m ((35, n, c, e) :: is) ls ((0, j) :: (13, id) :: st) μ Q = ((0 ≤ id ∧ 0 ≤ j ∧ j < 3) ∧ Rn m is ls ((0, m_bc j) :: st) μ Q) := rn_an rfl
theorem r_45 {m : Nat} {is : List MIns} {ls : List MVal} {μ : MMem} {Q : MVal → MMem → Prop} {n : Nat} {st : List MVal} {c : Int} {e : List Nat}  : Rn m ((45, n, c, e) :: is) ls st μ Q = Rn m is ls ((5, -1) :: st) μ Q := rn_nx rfl
theorem r_46 {m : Nat} {is : List MIns} {ls : List MVal} {μ : MMem} {Q : MVal → MMem → Prop} {n : Nat} {st : List MVal} {c : Int} {e : List Nat}  : Rn m ((46, n, c, e) :: is) ls st μ Q = Rn m is ls ((12, 203) :: st) μ Q := rn_nx rfl
theorem r_47_0 {m : Nat} {is : List MIns} {ls : List MVal} {μ : MMem} {Q : MVal → MMem → Prop} {st : List MVal} {c : Int} {e : List Nat} {id : Int} : Rn m ((47, 0, c, e) :: is) ls ((12, id) :: st) μ Q = (if 0 ≤ id then Rn m is ls ((13, 204) :: st) μ Q else False) := rn_if rfl
theorem r_47_1 {m : Nat} {is : List MIns} {ls : List MVal} {μ : MMem} {Q : MVal → MMem → Prop} {st : List MVal} {c : Int} {e : List Nat} {id : Int} : Rn m ((47, 1, c, e) :: is) ls ((12, id) :: st) μ Q = (if 0 ≤ id then Rn m is ls ((0, 0) :: st) μ Q else False) := rn_if rfl
theorem r_40 {m : Nat} {is : List MIns} {ls : List MVal} {μ : MMem} {Q : MVal → MMem → Prop} {n : Nat} {st : List MVal} {c : Int} {e : List Nat} {k j b i a : Int} : Rn m ((40, n, c, e) :: is) ls ((0, k) :: (0, j) :: (2, b) :: (0, i) :: (2, a) :: st) μ Q = (((0 ≤ a ∧ 0 ≤ b ∧ 0 ≤ i ∧ 0 ≤ j ∧ 0 ≤ k ∧ i + k ≤ m_al a ∧ j + k ≤ m_al b) ∧ m_ws st ≤ 8) ∧ Rn m is ls st (m_cp μ a i b j k) Q) := rn_an rfl
theorem r_50 {m : Nat} {is : List MIns} {ls : List MVal} {μ : MMem} {Q : MVal → MMem → Prop} {n : Nat} {st : List MVal} {c : Int} {e : List Nat} {x y : Int} : Rn m ((50, n, c, e) :: is) ls ((0, y) :: (0, x) :: st) μ Q = (m_ws st ≤ 8 ∧ Rn m is ls ((0, if x < y then y else x) :: st) μ Q) := rn_an rfl
theorem r_51 {m : Nat} {is : List MIns} {ls : List MVal} {μ : MMem} {Q : MVal → MMem → Prop} {n : Nat} {st : List MVal} {c : Int} {e : List Nat} {x y : Int} : Rn m ((51, n, c, e) :: is) ls ((0, y) :: (0, x) :: st) μ Q = (m_ws st ≤ 8 ∧ Rn m is ls ((0, if y < x then y else x) :: st) μ Q) := rn_an rfl
theorem r_41_0 {m : Nat} {is : List MIns} {ls : List MVal} {μ : MMem} {Q : MVal → MMem → Prop} {c : Int} {e : List Nat} {x : Int} : Rn m ((41, 0, c, e) :: is) ls [(0, x)] μ Q = Q (0, x) μ := rn_re rfl
theorem r_41_1 {m : Nat} {is : List MIns} {ls : List MVal} {μ : MMem} {Q : MVal → MMem → Prop} {c : Int} {e : List Nat} {x : Int} : Rn m ((41, 1, c, e) :: is) ls [(0, x)] μ Q = ((x = 0 ∨ x = 1) ∧ Q (0, x) μ) := by
  by_cases h : x = 0 ∨ x = 1
  · rw [rn_re (r := (0, x)) (μ' := μ) (by show (if 1 = 0 ∨ x = 0 ∨ x = 1 then _ else _) = _; rw [if_pos (Or.inr h)])]
    exact propext ⟨fun q => ⟨h, q⟩, fun q => q.2⟩
  · rw [rn_none (by show (if 1 = 0 ∨ x = 0 ∨ x = 1 then _ else _) = _; rw [if_neg (fun q => q.elim (fun z => by cases z) h)])]
    exact propext ⟨False.elim, fun q => h q.1⟩
theorem r_42 {m : Nat} {is : List MIns} {ls : List MVal} {μ : MMem} {Q : MVal → MMem → Prop} {n : Nat} {c : Int} {e : List Nat} {x : Int} : Rn m ((42, n, c, e) :: is) ls [(1, x)] μ Q = Q (1, x) μ := rn_re rfl
theorem r_43 {m : Nat} {is : List MIns} {ls : List MVal} {μ : MMem} {Q : MVal → MMem → Prop} {n : Nat} {c : Int} {e : List Nat} {t : Nat} {x : Int} : Rn m ((43, n, c, e) :: is) ls [(t, x)] μ Q = (if 2 ≤ t ∧ t ≤ 13 then Q (t, x) μ else False) := rn_ifr rfl
theorem r_44 {m : Nat} {is : List MIns} {ls : List MVal} {μ : MMem} {Q : MVal → MMem → Prop} {n : Nat} {c : Int} {e : List Nat}  : Rn m ((44, n, c, e) :: is) ls [] μ Q = Q (14, 0) μ := rn_re rfl
theorem r_36_0 {m : Nat} {is : List MIns} {ls : List MVal} {μ : MMem} {Q : MVal → MMem → Prop} {n : Nat} {st : List MVal} {e : List Nat}  : Rn m ((36, n, 0, e) :: is) ls st μ Q = (m_ws st ≤ 8 ∧ Cal n [] μ (fun r ν => Rn m is ls (m_ps r st) ν Q)) := rn_ca rfl
theorem r_37_0 {m : Nat} {is : List MIns} {ls : List MVal} {μ : MMem} {Q : MVal → MMem → Prop} {n : Nat} {st : List MVal}  {t i j : Nat} {id : Int} : Rn m ((37, n, 0, [i, j, t]) :: is) ls ((t, id) :: st) μ Q = (if 0 ≤ id then (m_ws st ≤ 8 ∧ Cal n [(t, id)] μ (fun r ν => Rn m is ls (m_ps r st) ν Q)) else False) := by
  refine rn_ifc ?_
  show (if _ = _ ∧ _ then _ else _) = _
  simp only [true_and]
theorem r_38_0 {m : Nat} {is : List MIns} {ls : List MVal} {μ : MMem} {Q : MVal → MMem → Prop} {n : Nat} {st : List MVal} {e : List Nat}  {t : Nat} {id : Int} : Rn m ((38, n, 0, e) :: is) ls ((t, id) :: st) μ Q = (if t = 5 ∧ 0 ≤ id then (m_ws st ≤ 8 ∧ Cal n [(t, id)] μ (fun r ν => Rn m is ls (m_ps r st) ν Q)) else False) := rn_ifc rfl
theorem r_48_0 {m : Nat} {is : List MIns} {ls : List MVal} {μ : MMem} {Q : MVal → MMem → Prop} {n : Nat} {st : List MVal} {e : List Nat}  {t : Nat} {id : Int} : Rn m ((48, n, 0, e) :: is) ls ((t, id) :: st) μ Q = (if t = 12 ∧ id = 203 then (m_ws st ≤ 8 ∧ Cal n [(t, id)] μ (fun r ν => Rn m is ls (m_ps r st) ν Q)) else False) := rn_ifc rfl
theorem r_36_1 {m : Nat} {is : List MIns} {ls : List MVal} {μ : MMem} {Q : MVal → MMem → Prop} {n : Nat} {st : List MVal} {e : List Nat} {a0 : MVal} : Rn m ((36, n, 1, e) :: is) ls (a0 :: st) μ Q = (m_ws st ≤ 8 ∧ Cal n [a0] μ (fun r ν => Rn m is ls (m_ps r st) ν Q)) := rn_ca rfl
theorem r_37_1 {m : Nat} {is : List MIns} {ls : List MVal} {μ : MMem} {Q : MVal → MMem → Prop} {n : Nat} {st : List MVal} {a0 : MVal} {t i j : Nat} {id : Int} : Rn m ((37, n, 1, [i, j, t]) :: is) ls (a0 :: (t, id) :: st) μ Q = (if 0 ≤ id then (m_ws st ≤ 8 ∧ Cal n [(t, id), a0] μ (fun r ν => Rn m is ls (m_ps r st) ν Q)) else False) := by
  refine rn_ifc ?_
  show (if _ = _ ∧ _ then _ else _) = _
  simp only [true_and]
theorem r_38_1 {m : Nat} {is : List MIns} {ls : List MVal} {μ : MMem} {Q : MVal → MMem → Prop} {n : Nat} {st : List MVal} {e : List Nat} {a0 : MVal} {t : Nat} {id : Int} : Rn m ((38, n, 1, e) :: is) ls (a0 :: (t, id) :: st) μ Q = (if t = 5 ∧ 0 ≤ id then (m_ws st ≤ 8 ∧ Cal n [(t, id), a0] μ (fun r ν => Rn m is ls (m_ps r st) ν Q)) else False) := rn_ifc rfl
theorem r_48_1 {m : Nat} {is : List MIns} {ls : List MVal} {μ : MMem} {Q : MVal → MMem → Prop} {n : Nat} {st : List MVal} {e : List Nat} {a0 : MVal} {t : Nat} {id : Int} : Rn m ((48, n, 1, e) :: is) ls (a0 :: (t, id) :: st) μ Q = (if t = 12 ∧ id = 203 then (m_ws st ≤ 8 ∧ Cal n [(t, id), a0] μ (fun r ν => Rn m is ls (m_ps r st) ν Q)) else False) := rn_ifc rfl
theorem r_36_2 {m : Nat} {is : List MIns} {ls : List MVal} {μ : MMem} {Q : MVal → MMem → Prop} {n : Nat} {st : List MVal} {e : List Nat} {a0 a1 : MVal} : Rn m ((36, n, 2, e) :: is) ls (a1 :: a0 :: st) μ Q = (m_ws st ≤ 8 ∧ Cal n [a0, a1] μ (fun r ν => Rn m is ls (m_ps r st) ν Q)) := rn_ca rfl
theorem r_37_2 {m : Nat} {is : List MIns} {ls : List MVal} {μ : MMem} {Q : MVal → MMem → Prop} {n : Nat} {st : List MVal} {a0 a1 : MVal} {t i j : Nat} {id : Int} : Rn m ((37, n, 2, [i, j, t]) :: is) ls (a1 :: a0 :: (t, id) :: st) μ Q = (if 0 ≤ id then (m_ws st ≤ 8 ∧ Cal n [(t, id), a0, a1] μ (fun r ν => Rn m is ls (m_ps r st) ν Q)) else False) := by
  refine rn_ifc ?_
  show (if _ = _ ∧ _ then _ else _) = _
  simp only [true_and]
theorem r_38_2 {m : Nat} {is : List MIns} {ls : List MVal} {μ : MMem} {Q : MVal → MMem → Prop} {n : Nat} {st : List MVal} {e : List Nat} {a0 a1 : MVal} {t : Nat} {id : Int} : Rn m ((38, n, 2, e) :: is) ls (a1 :: a0 :: (t, id) :: st) μ Q = (if t = 5 ∧ 0 ≤ id then (m_ws st ≤ 8 ∧ Cal n [(t, id), a0, a1] μ (fun r ν => Rn m is ls (m_ps r st) ν Q)) else False) := rn_ifc rfl
theorem r_48_2 {m : Nat} {is : List MIns} {ls : List MVal} {μ : MMem} {Q : MVal → MMem → Prop} {n : Nat} {st : List MVal} {e : List Nat} {a0 a1 : MVal} {t : Nat} {id : Int} : Rn m ((48, n, 2, e) :: is) ls (a1 :: a0 :: (t, id) :: st) μ Q = (if t = 12 ∧ id = 203 then (m_ws st ≤ 8 ∧ Cal n [(t, id), a0, a1] μ (fun r ν => Rn m is ls (m_ps r st) ν Q)) else False) := rn_ifc rfl
theorem r_36_3 {m : Nat} {is : List MIns} {ls : List MVal} {μ : MMem} {Q : MVal → MMem → Prop} {n : Nat} {st : List MVal} {e : List Nat} {a0 a1 a2 : MVal} : Rn m ((36, n, 3, e) :: is) ls (a2 :: a1 :: a0 :: st) μ Q = (m_ws st ≤ 8 ∧ Cal n [a0, a1, a2] μ (fun r ν => Rn m is ls (m_ps r st) ν Q)) := rn_ca rfl
theorem r_37_3 {m : Nat} {is : List MIns} {ls : List MVal} {μ : MMem} {Q : MVal → MMem → Prop} {n : Nat} {st : List MVal} {a0 a1 a2 : MVal} {t i j : Nat} {id : Int} : Rn m ((37, n, 3, [i, j, t]) :: is) ls (a2 :: a1 :: a0 :: (t, id) :: st) μ Q = (if 0 ≤ id then (m_ws st ≤ 8 ∧ Cal n [(t, id), a0, a1, a2] μ (fun r ν => Rn m is ls (m_ps r st) ν Q)) else False) := by
  refine rn_ifc ?_
  show (if _ = _ ∧ _ then _ else _) = _
  simp only [true_and]
theorem r_36_4 {m : Nat} {is : List MIns} {ls : List MVal} {μ : MMem} {Q : MVal → MMem → Prop} {n : Nat} {st : List MVal} {e : List Nat} {a0 a1 a2 a3 : MVal} : Rn m ((36, n, 4, e) :: is) ls (a3 :: a2 :: a1 :: a0 :: st) μ Q = (m_ws st ≤ 8 ∧ Cal n [a0, a1, a2, a3] μ (fun r ν => Rn m is ls (m_ps r st) ν Q)) := rn_ca rfl
theorem r_37_4 {m : Nat} {is : List MIns} {ls : List MVal} {μ : MMem} {Q : MVal → MMem → Prop} {n : Nat} {st : List MVal} {a0 a1 a2 a3 : MVal} {t i j : Nat} {id : Int} : Rn m ((37, n, 4, [i, j, t]) :: is) ls (a3 :: a2 :: a1 :: a0 :: (t, id) :: st) μ Q = (if 0 ≤ id then (m_ws st ≤ 8 ∧ Cal n [(t, id), a0, a1, a2, a3] μ (fun r ν => Rn m is ls (m_ps r st) ν Q)) else False) := by
  refine rn_ifc ?_
  show (if _ = _ ∧ _ then _ else _) = _
  simp only [true_and]
theorem r_36_5 {m : Nat} {is : List MIns} {ls : List MVal} {μ : MMem} {Q : MVal → MMem → Prop} {n : Nat} {st : List MVal} {e : List Nat} {a0 a1 a2 a3 a4 : MVal} : Rn m ((36, n, 5, e) :: is) ls (a4 :: a3 :: a2 :: a1 :: a0 :: st) μ Q = (m_ws st ≤ 8 ∧ Cal n [a0, a1, a2, a3, a4] μ (fun r ν => Rn m is ls (m_ps r st) ν Q)) := rn_ca rfl
theorem r_37_5 {m : Nat} {is : List MIns} {ls : List MVal} {μ : MMem} {Q : MVal → MMem → Prop} {n : Nat} {st : List MVal} {a0 a1 a2 a3 a4 : MVal} {t i j : Nat} {id : Int} : Rn m ((37, n, 5, [i, j, t]) :: is) ls (a4 :: a3 :: a2 :: a1 :: a0 :: (t, id) :: st) μ Q = (if 0 ≤ id then (m_ws st ≤ 8 ∧ Cal n [(t, id), a0, a1, a2, a3, a4] μ (fun r ν => Rn m is ls (m_ps r st) ν Q)) else False) := by
  refine rn_ifc ?_
  show (if _ = _ ∧ _ then _ else _) = _
  simp only [true_and]
theorem r_39 {m : Nat} {is : List MIns} {ls : List MVal} {μ : MMem} {Q : MVal → MMem → Prop} {n : Nat} {st : List MVal} {a0 a1 : MVal} {i j h b : Nat} {id : Int} : Rn m ((39, n, 2, [i, j, h, b]) :: is) ls (a1 :: a0 :: (5, id) :: st) μ Q = (if id = 6 then (m_ws st ≤ 8 ∧ Cal h [(5, id), a0, a1] μ (fun r ν => Rn m is ls (m_ps r st) ν Q)) else if id = 7 then (m_ws st ≤ 8 ∧ Cal b [(5, id), a0, a1] μ (fun r ν => Rn m is ls (m_ps r st) ν Q)) else False) := by
  by_cases h6 : id = 6
  · rw [if_pos h6]
    exact rn_ca (by show (if id = 6 then _ else _) = _; rw [if_pos h6])
  · rw [if_neg h6]
    by_cases h7 : id = 7
    · rw [if_pos h7]
      exact rn_ca (by show (if id = 6 then _ else if id = 7 then _ else _) = _; rw [if_neg h6, if_pos h7])
    · rw [if_neg h7]
      exact rn_none (by show (if id = 6 then _ else if id = 7 then _ else _) = _; rw [if_neg h6, if_neg h7])
theorem r_8 {m n : Nat} {is : List MIns} {ls st : List MVal} {μ : MMem} {Q : MVal → MMem → Prop} {c : Int} {e : List Nat} : Rn m ((8, n, c, e) :: is) ls st μ Q = (if (m_l ls n).1 = 0 then Rn m is (m_lp ls n (0, m_i 0 (m_l ls n).2 c)) st μ Q else False) := by
  cases hl : m_l ls n with
  | mk t x =>
    by_cases h : t = 0
    · subst h
      rw [if_pos rfl]
      refine rn_nx ?_
      show (match m_l ls n with | (0, x) => m_nx (m_lp ls n (0, m_i 0 x c)) st μ | _ => none) = _
      rw [hl]
      rfl
    · rw [if_neg h]
      refine rn_none ?_
      show (match m_l ls n with | (0, x) => m_nx (m_lp ls n (0, m_i 0 x c)) st μ | _ => none) = _
      rw [hl]
      split
      · rename_i q; cases q; exact absurd rfl h
      · rfl
theorem t0_0 {ls st : List MVal} {μ : MMem} {Q : MVal → MMem → Prop} : At 0 0 ls st μ Q = Rn 0 B0_0 ls st μ Q := rfl
theorem t1_0 {ls st : List MVal} {μ : MMem} {Q : MVal → MMem → Prop} : At 1 0 ls st μ Q = Rn 1 B1_0 ls st μ Q := rfl
theorem t2_0 {ls st : List MVal} {μ : MMem} {Q : MVal → MMem → Prop} : At 2 0 ls st μ Q = Rn 2 B2_0 ls st μ Q := rfl
theorem t3_0 {ls st : List MVal} {μ : MMem} {Q : MVal → MMem → Prop} : At 3 0 ls st μ Q = Rn 3 B3_0 ls st μ Q := rfl
theorem t3_1 {ls st : List MVal} {μ : MMem} {Q : MVal → MMem → Prop} : At 3 1 ls st μ Q = Rn 3 B3_1 ls st μ Q := rfl
theorem t3_2 {ls st : List MVal} {μ : MMem} {Q : MVal → MMem → Prop} : At 3 2 ls st μ Q = Rn 3 B3_2 ls st μ Q := rfl
theorem t4_0 {ls st : List MVal} {μ : MMem} {Q : MVal → MMem → Prop} : At 4 0 ls st μ Q = Rn 4 B4_0 ls st μ Q := rfl
theorem t4_1 {ls st : List MVal} {μ : MMem} {Q : MVal → MMem → Prop} : At 4 1 ls st μ Q = Rn 4 B4_1 ls st μ Q := rfl
theorem t4_2 {ls st : List MVal} {μ : MMem} {Q : MVal → MMem → Prop} : At 4 2 ls st μ Q = Rn 4 B4_2 ls st μ Q := rfl
theorem t5_0 {ls st : List MVal} {μ : MMem} {Q : MVal → MMem → Prop} : At 5 0 ls st μ Q = Rn 5 B5_0 ls st μ Q := rfl
theorem t5_1 {ls st : List MVal} {μ : MMem} {Q : MVal → MMem → Prop} : At 5 1 ls st μ Q = Rn 5 B5_1 ls st μ Q := rfl
theorem t5_2 {ls st : List MVal} {μ : MMem} {Q : MVal → MMem → Prop} : At 5 2 ls st μ Q = Rn 5 B5_2 ls st μ Q := rfl
theorem t6_0 {ls st : List MVal} {μ : MMem} {Q : MVal → MMem → Prop} : At 6 0 ls st μ Q = Rn 6 B6_0 ls st μ Q := rfl
theorem t6_1 {ls st : List MVal} {μ : MMem} {Q : MVal → MMem → Prop} : At 6 1 ls st μ Q = Rn 6 B6_1 ls st μ Q := rfl
theorem t6_2 {ls st : List MVal} {μ : MMem} {Q : MVal → MMem → Prop} : At 6 2 ls st μ Q = Rn 6 B6_2 ls st μ Q := rfl
theorem t7_0 {ls st : List MVal} {μ : MMem} {Q : MVal → MMem → Prop} : At 7 0 ls st μ Q = Rn 7 B7_0 ls st μ Q := rfl
theorem t7_1 {ls st : List MVal} {μ : MMem} {Q : MVal → MMem → Prop} : At 7 1 ls st μ Q = Rn 7 B7_1 ls st μ Q := rfl
theorem t7_2 {ls st : List MVal} {μ : MMem} {Q : MVal → MMem → Prop} : At 7 2 ls st μ Q = Rn 7 B7_2 ls st μ Q := rfl
theorem t8_0 {ls st : List MVal} {μ : MMem} {Q : MVal → MMem → Prop} : At 8 0 ls st μ Q = Rn 8 B8_0 ls st μ Q := rfl
theorem t8_1 {ls st : List MVal} {μ : MMem} {Q : MVal → MMem → Prop} : At 8 1 ls st μ Q = Rn 8 B8_1 ls st μ Q := rfl
theorem t8_2 {ls st : List MVal} {μ : MMem} {Q : MVal → MMem → Prop} : At 8 2 ls st μ Q = Rn 8 B8_2 ls st μ Q := rfl
theorem t8_3 {ls st : List MVal} {μ : MMem} {Q : MVal → MMem → Prop} : At 8 3 ls st μ Q = Rn 8 B8_3 ls st μ Q := rfl
theorem t9_0 {ls st : List MVal} {μ : MMem} {Q : MVal → MMem → Prop} : At 9 0 ls st μ Q = Rn 9 B9_0 ls st μ Q := rfl
theorem t9_1 {ls st : List MVal} {μ : MMem} {Q : MVal → MMem → Prop} : At 9 1 ls st μ Q = Rn 9 B9_1 ls st μ Q := rfl
theorem t9_2 {ls st : List MVal} {μ : MMem} {Q : MVal → MMem → Prop} : At 9 2 ls st μ Q = Rn 9 B9_2 ls st μ Q := rfl
theorem t10_0 {ls st : List MVal} {μ : MMem} {Q : MVal → MMem → Prop} : At 10 0 ls st μ Q = Rn 10 B10_0 ls st μ Q := rfl
theorem t10_1 {ls st : List MVal} {μ : MMem} {Q : MVal → MMem → Prop} : At 10 1 ls st μ Q = Rn 10 B10_1 ls st μ Q := rfl
theorem t10_2 {ls st : List MVal} {μ : MMem} {Q : MVal → MMem → Prop} : At 10 2 ls st μ Q = Rn 10 B10_2 ls st μ Q := rfl
theorem t10_3 {ls st : List MVal} {μ : MMem} {Q : MVal → MMem → Prop} : At 10 3 ls st μ Q = Rn 10 B10_3 ls st μ Q := rfl
theorem t10_4 {ls st : List MVal} {μ : MMem} {Q : MVal → MMem → Prop} : At 10 4 ls st μ Q = Rn 10 B10_4 ls st μ Q := rfl
theorem t11_0 {ls st : List MVal} {μ : MMem} {Q : MVal → MMem → Prop} : At 11 0 ls st μ Q = Rn 11 B11_0 ls st μ Q := rfl
theorem t11_1 {ls st : List MVal} {μ : MMem} {Q : MVal → MMem → Prop} : At 11 1 ls st μ Q = Rn 11 B11_1 ls st μ Q := rfl
theorem t11_2 {ls st : List MVal} {μ : MMem} {Q : MVal → MMem → Prop} : At 11 2 ls st μ Q = Rn 11 B11_2 ls st μ Q := rfl
theorem t12_0 {ls st : List MVal} {μ : MMem} {Q : MVal → MMem → Prop} : At 12 0 ls st μ Q = Rn 12 B12_0 ls st μ Q := rfl
theorem t13_0 {ls st : List MVal} {μ : MMem} {Q : MVal → MMem → Prop} : At 13 0 ls st μ Q = Rn 13 B13_0 ls st μ Q := rfl
theorem t13_1 {ls st : List MVal} {μ : MMem} {Q : MVal → MMem → Prop} : At 13 1 ls st μ Q = Rn 13 B13_1 ls st μ Q := rfl
theorem t13_2 {ls st : List MVal} {μ : MMem} {Q : MVal → MMem → Prop} : At 13 2 ls st μ Q = Rn 13 B13_2 ls st μ Q := rfl
theorem t13_3 {ls st : List MVal} {μ : MMem} {Q : MVal → MMem → Prop} : At 13 3 ls st μ Q = Rn 13 B13_3 ls st μ Q := rfl
theorem t13_4 {ls st : List MVal} {μ : MMem} {Q : MVal → MMem → Prop} : At 13 4 ls st μ Q = Rn 13 B13_4 ls st μ Q := rfl
theorem t14_0 {ls st : List MVal} {μ : MMem} {Q : MVal → MMem → Prop} : At 14 0 ls st μ Q = Rn 14 B14_0 ls st μ Q := rfl
theorem t14_1 {ls st : List MVal} {μ : MMem} {Q : MVal → MMem → Prop} : At 14 1 ls st μ Q = Rn 14 B14_1 ls st μ Q := rfl
theorem t14_2 {ls st : List MVal} {μ : MMem} {Q : MVal → MMem → Prop} : At 14 2 ls st μ Q = Rn 14 B14_2 ls st μ Q := rfl
theorem t15_0 {ls st : List MVal} {μ : MMem} {Q : MVal → MMem → Prop} : At 15 0 ls st μ Q = Rn 15 B15_0 ls st μ Q := rfl
theorem t15_1 {ls st : List MVal} {μ : MMem} {Q : MVal → MMem → Prop} : At 15 1 ls st μ Q = Rn 15 B15_1 ls st μ Q := rfl
theorem t16_0 {ls st : List MVal} {μ : MMem} {Q : MVal → MMem → Prop} : At 16 0 ls st μ Q = Rn 16 B16_0 ls st μ Q := rfl
theorem t16_1 {ls st : List MVal} {μ : MMem} {Q : MVal → MMem → Prop} : At 16 1 ls st μ Q = Rn 16 B16_1 ls st μ Q := rfl
theorem t16_2 {ls st : List MVal} {μ : MMem} {Q : MVal → MMem → Prop} : At 16 2 ls st μ Q = Rn 16 B16_2 ls st μ Q := rfl
theorem t16_3 {ls st : List MVal} {μ : MMem} {Q : MVal → MMem → Prop} : At 16 3 ls st μ Q = Rn 16 B16_3 ls st μ Q := rfl
theorem t17_0 {ls st : List MVal} {μ : MMem} {Q : MVal → MMem → Prop} : At 17 0 ls st μ Q = Rn 17 B17_0 ls st μ Q := rfl
theorem t17_1 {ls st : List MVal} {μ : MMem} {Q : MVal → MMem → Prop} : At 17 1 ls st μ Q = Rn 17 B17_1 ls st μ Q := rfl
theorem t17_2 {ls st : List MVal} {μ : MMem} {Q : MVal → MMem → Prop} : At 17 2 ls st μ Q = Rn 17 B17_2 ls st μ Q := rfl
theorem t18_0 {ls st : List MVal} {μ : MMem} {Q : MVal → MMem → Prop} : At 18 0 ls st μ Q = Rn 18 B18_0 ls st μ Q := rfl
theorem t18_1 {ls st : List MVal} {μ : MMem} {Q : MVal → MMem → Prop} : At 18 1 ls st μ Q = Rn 18 B18_1 ls st μ Q := rfl
theorem t18_2 {ls st : List MVal} {μ : MMem} {Q : MVal → MMem → Prop} : At 18 2 ls st μ Q = Rn 18 B18_2 ls st μ Q := rfl
theorem t19_0 {ls st : List MVal} {μ : MMem} {Q : MVal → MMem → Prop} : At 19 0 ls st μ Q = Rn 19 B19_0 ls st μ Q := rfl
theorem t19_1 {ls st : List MVal} {μ : MMem} {Q : MVal → MMem → Prop} : At 19 1 ls st μ Q = Rn 19 B19_1 ls st μ Q := rfl
theorem t19_2 {ls st : List MVal} {μ : MMem} {Q : MVal → MMem → Prop} : At 19 2 ls st μ Q = Rn 19 B19_2 ls st μ Q := rfl
theorem t20_0 {ls st : List MVal} {μ : MMem} {Q : MVal → MMem → Prop} : At 20 0 ls st μ Q = Rn 20 B20_0 ls st μ Q := rfl
theorem t20_1 {ls st : List MVal} {μ : MMem} {Q : MVal → MMem → Prop} : At 20 1 ls st μ Q = Rn 20 B20_1 ls st μ Q := rfl
theorem t21_0 {ls st : List MVal} {μ : MMem} {Q : MVal → MMem → Prop} : At 21 0 ls st μ Q = Rn 21 B21_0 ls st μ Q := rfl
theorem t21_1 {ls st : List MVal} {μ : MMem} {Q : MVal → MMem → Prop} : At 21 1 ls st μ Q = Rn 21 B21_1 ls st μ Q := rfl
theorem t21_2 {ls st : List MVal} {μ : MMem} {Q : MVal → MMem → Prop} : At 21 2 ls st μ Q = Rn 21 B21_2 ls st μ Q := rfl
theorem t22_0 {ls st : List MVal} {μ : MMem} {Q : MVal → MMem → Prop} : At 22 0 ls st μ Q = Rn 22 B22_0 ls st μ Q := rfl
theorem t22_1 {ls st : List MVal} {μ : MMem} {Q : MVal → MMem → Prop} : At 22 1 ls st μ Q = Rn 22 B22_1 ls st μ Q := rfl
theorem t23_0 {ls st : List MVal} {μ : MMem} {Q : MVal → MMem → Prop} : At 23 0 ls st μ Q = Rn 23 B23_0 ls st μ Q := rfl
theorem t24_0 {ls st : List MVal} {μ : MMem} {Q : MVal → MMem → Prop} : At 24 0 ls st μ Q = Rn 24 B24_0 ls st μ Q := rfl
theorem t24_1 {ls st : List MVal} {μ : MMem} {Q : MVal → MMem → Prop} : At 24 1 ls st μ Q = Rn 24 B24_1 ls st μ Q := rfl
theorem t24_2 {ls st : List MVal} {μ : MMem} {Q : MVal → MMem → Prop} : At 24 2 ls st μ Q = Rn 24 B24_2 ls st μ Q := rfl
theorem t24_3 {ls st : List MVal} {μ : MMem} {Q : MVal → MMem → Prop} : At 24 3 ls st μ Q = Rn 24 B24_3 ls st μ Q := rfl
theorem t24_4 {ls st : List MVal} {μ : MMem} {Q : MVal → MMem → Prop} : At 24 4 ls st μ Q = Rn 24 B24_4 ls st μ Q := rfl
theorem t24_5 {ls st : List MVal} {μ : MMem} {Q : MVal → MMem → Prop} : At 24 5 ls st μ Q = Rn 24 B24_5 ls st μ Q := rfl
theorem t24_6 {ls st : List MVal} {μ : MMem} {Q : MVal → MMem → Prop} : At 24 6 ls st μ Q = Rn 24 B24_6 ls st μ Q := rfl
theorem t24_7 {ls st : List MVal} {μ : MMem} {Q : MVal → MMem → Prop} : At 24 7 ls st μ Q = Rn 24 B24_7 ls st μ Q := rfl
theorem t24_8 {ls st : List MVal} {μ : MMem} {Q : MVal → MMem → Prop} : At 24 8 ls st μ Q = Rn 24 B24_8 ls st μ Q := rfl
theorem t24_9 {ls st : List MVal} {μ : MMem} {Q : MVal → MMem → Prop} : At 24 9 ls st μ Q = Rn 24 B24_9 ls st μ Q := rfl
theorem t24_10 {ls st : List MVal} {μ : MMem} {Q : MVal → MMem → Prop} : At 24 10 ls st μ Q = Rn 24 B24_10 ls st μ Q := rfl
theorem t24_11 {ls st : List MVal} {μ : MMem} {Q : MVal → MMem → Prop} : At 24 11 ls st μ Q = Rn 24 B24_11 ls st μ Q := rfl
theorem t24_12 {ls st : List MVal} {μ : MMem} {Q : MVal → MMem → Prop} : At 24 12 ls st μ Q = Rn 24 B24_12 ls st μ Q := rfl
theorem t24_13 {ls st : List MVal} {μ : MMem} {Q : MVal → MMem → Prop} : At 24 13 ls st μ Q = Rn 24 B24_13 ls st μ Q := rfl
theorem t24_14 {ls st : List MVal} {μ : MMem} {Q : MVal → MMem → Prop} : At 24 14 ls st μ Q = Rn 24 B24_14 ls st μ Q := rfl
theorem t24_15 {ls st : List MVal} {μ : MMem} {Q : MVal → MMem → Prop} : At 24 15 ls st μ Q = Rn 24 B24_15 ls st μ Q := rfl
theorem t24_16 {ls st : List MVal} {μ : MMem} {Q : MVal → MMem → Prop} : At 24 16 ls st μ Q = Rn 24 B24_16 ls st μ Q := rfl
theorem t24_17 {ls st : List MVal} {μ : MMem} {Q : MVal → MMem → Prop} : At 24 17 ls st μ Q = Rn 24 B24_17 ls st μ Q := rfl
theorem t25_0 {ls st : List MVal} {μ : MMem} {Q : MVal → MMem → Prop} : At 25 0 ls st μ Q = Rn 25 B25_0 ls st μ Q := rfl
theorem t25_1 {ls st : List MVal} {μ : MMem} {Q : MVal → MMem → Prop} : At 25 1 ls st μ Q = Rn 25 B25_1 ls st μ Q := rfl
theorem t25_2 {ls st : List MVal} {μ : MMem} {Q : MVal → MMem → Prop} : At 25 2 ls st μ Q = Rn 25 B25_2 ls st μ Q := rfl
theorem t25_3 {ls st : List MVal} {μ : MMem} {Q : MVal → MMem → Prop} : At 25 3 ls st μ Q = Rn 25 B25_3 ls st μ Q := rfl
theorem t25_4 {ls st : List MVal} {μ : MMem} {Q : MVal → MMem → Prop} : At 25 4 ls st μ Q = Rn 25 B25_4 ls st μ Q := rfl
theorem t25_5 {ls st : List MVal} {μ : MMem} {Q : MVal → MMem → Prop} : At 25 5 ls st μ Q = Rn 25 B25_5 ls st μ Q := rfl
theorem t25_6 {ls st : List MVal} {μ : MMem} {Q : MVal → MMem → Prop} : At 25 6 ls st μ Q = Rn 25 B25_6 ls st μ Q := rfl
theorem t26_0 {ls st : List MVal} {μ : MMem} {Q : MVal → MMem → Prop} : At 26 0 ls st μ Q = Rn 26 B26_0 ls st μ Q := rfl
theorem t26_1 {ls st : List MVal} {μ : MMem} {Q : MVal → MMem → Prop} : At 26 1 ls st μ Q = Rn 26 B26_1 ls st μ Q := rfl
theorem t26_2 {ls st : List MVal} {μ : MMem} {Q : MVal → MMem → Prop} : At 26 2 ls st μ Q = Rn 26 B26_2 ls st μ Q := rfl
theorem t26_3 {ls st : List MVal} {μ : MMem} {Q : MVal → MMem → Prop} : At 26 3 ls st μ Q = Rn 26 B26_3 ls st μ Q := rfl
theorem t26_4 {ls st : List MVal} {μ : MMem} {Q : MVal → MMem → Prop} : At 26 4 ls st μ Q = Rn 26 B26_4 ls st μ Q := rfl
theorem t26_5 {ls st : List MVal} {μ : MMem} {Q : MVal → MMem → Prop} : At 26 5 ls st μ Q = Rn 26 B26_5 ls st μ Q := rfl
theorem t26_6 {ls st : List MVal} {μ : MMem} {Q : MVal → MMem → Prop} : At 26 6 ls st μ Q = Rn 26 B26_6 ls st μ Q := rfl
theorem t26_7 {ls st : List MVal} {μ : MMem} {Q : MVal → MMem → Prop} : At 26 7 ls st μ Q = Rn 26 B26_7 ls st μ Q := rfl
theorem t26_8 {ls st : List MVal} {μ : MMem} {Q : MVal → MMem → Prop} : At 26 8 ls st μ Q = Rn 26 B26_8 ls st μ Q := rfl
theorem t26_9 {ls st : List MVal} {μ : MMem} {Q : MVal → MMem → Prop} : At 26 9 ls st μ Q = Rn 26 B26_9 ls st μ Q := rfl
theorem t27_0 {ls st : List MVal} {μ : MMem} {Q : MVal → MMem → Prop} : At 27 0 ls st μ Q = Rn 27 B27_0 ls st μ Q := rfl
theorem t27_1 {ls st : List MVal} {μ : MMem} {Q : MVal → MMem → Prop} : At 27 1 ls st μ Q = Rn 27 B27_1 ls st μ Q := rfl
theorem t27_2 {ls st : List MVal} {μ : MMem} {Q : MVal → MMem → Prop} : At 27 2 ls st μ Q = Rn 27 B27_2 ls st μ Q := rfl
theorem t27_3 {ls st : List MVal} {μ : MMem} {Q : MVal → MMem → Prop} : At 27 3 ls st μ Q = Rn 27 B27_3 ls st μ Q := rfl
theorem t28_0 {ls st : List MVal} {μ : MMem} {Q : MVal → MMem → Prop} : At 28 0 ls st μ Q = Rn 28 B28_0 ls st μ Q := rfl
theorem t28_1 {ls st : List MVal} {μ : MMem} {Q : MVal → MMem → Prop} : At 28 1 ls st μ Q = Rn 28 B28_1 ls st μ Q := rfl
theorem t28_2 {ls st : List MVal} {μ : MMem} {Q : MVal → MMem → Prop} : At 28 2 ls st μ Q = Rn 28 B28_2 ls st μ Q := rfl
theorem t28_3 {ls st : List MVal} {μ : MMem} {Q : MVal → MMem → Prop} : At 28 3 ls st μ Q = Rn 28 B28_3 ls st μ Q := rfl
theorem t29_0 {ls st : List MVal} {μ : MMem} {Q : MVal → MMem → Prop} : At 29 0 ls st μ Q = Rn 29 B29_0 ls st μ Q := rfl
theorem t29_1 {ls st : List MVal} {μ : MMem} {Q : MVal → MMem → Prop} : At 29 1 ls st μ Q = Rn 29 B29_1 ls st μ Q := rfl
theorem t30_0 {ls st : List MVal} {μ : MMem} {Q : MVal → MMem → Prop} : At 30 0 ls st μ Q = Rn 30 B30_0 ls st μ Q := rfl
theorem t30_1 {ls st : List MVal} {μ : MMem} {Q : MVal → MMem → Prop} : At 30 1 ls st μ Q = Rn 30 B30_1 ls st μ Q := rfl
theorem t30_2 {ls st : List MVal} {μ : MMem} {Q : MVal → MMem → Prop} : At 30 2 ls st μ Q = Rn 30 B30_2 ls st μ Q := rfl
theorem t31_0 {ls st : List MVal} {μ : MMem} {Q : MVal → MMem → Prop} : At 31 0 ls st μ Q = Rn 31 B31_0 ls st μ Q := rfl
theorem t31_1 {ls st : List MVal} {μ : MMem} {Q : MVal → MMem → Prop} : At 31 1 ls st μ Q = Rn 31 B31_1 ls st μ Q := rfl
theorem t31_2 {ls st : List MVal} {μ : MMem} {Q : MVal → MMem → Prop} : At 31 2 ls st μ Q = Rn 31 B31_2 ls st μ Q := rfl
theorem t31_3 {ls st : List MVal} {μ : MMem} {Q : MVal → MMem → Prop} : At 31 3 ls st μ Q = Rn 31 B31_3 ls st μ Q := rfl
theorem t31_4 {ls st : List MVal} {μ : MMem} {Q : MVal → MMem → Prop} : At 31 4 ls st μ Q = Rn 31 B31_4 ls st μ Q := rfl
theorem t31_5 {ls st : List MVal} {μ : MMem} {Q : MVal → MMem → Prop} : At 31 5 ls st μ Q = Rn 31 B31_5 ls st μ Q := rfl
theorem t32_0 {ls st : List MVal} {μ : MMem} {Q : MVal → MMem → Prop} : At 32 0 ls st μ Q = Rn 32 B32_0 ls st μ Q := rfl
theorem t32_1 {ls st : List MVal} {μ : MMem} {Q : MVal → MMem → Prop} : At 32 1 ls st μ Q = Rn 32 B32_1 ls st μ Q := rfl
theorem t32_2 {ls st : List MVal} {μ : MMem} {Q : MVal → MMem → Prop} : At 32 2 ls st μ Q = Rn 32 B32_2 ls st μ Q := rfl
theorem t32_3 {ls st : List MVal} {μ : MMem} {Q : MVal → MMem → Prop} : At 32 3 ls st μ Q = Rn 32 B32_3 ls st μ Q := rfl
theorem t32_4 {ls st : List MVal} {μ : MMem} {Q : MVal → MMem → Prop} : At 32 4 ls st μ Q = Rn 32 B32_4 ls st μ Q := rfl
theorem t32_5 {ls st : List MVal} {μ : MMem} {Q : MVal → MMem → Prop} : At 32 5 ls st μ Q = Rn 32 B32_5 ls st μ Q := rfl
theorem t33_0 {ls st : List MVal} {μ : MMem} {Q : MVal → MMem → Prop} : At 33 0 ls st μ Q = Rn 33 B33_0 ls st μ Q := rfl
theorem t33_1 {ls st : List MVal} {μ : MMem} {Q : MVal → MMem → Prop} : At 33 1 ls st μ Q = Rn 33 B33_1 ls st μ Q := rfl
theorem t33_2 {ls st : List MVal} {μ : MMem} {Q : MVal → MMem → Prop} : At 33 2 ls st μ Q = Rn 33 B33_2 ls st μ Q := rfl
theorem t33_3 {ls st : List MVal} {μ : MMem} {Q : MVal → MMem → Prop} : At 33 3 ls st μ Q = Rn 33 B33_3 ls st μ Q := rfl
theorem t33_4 {ls st : List MVal} {μ : MMem} {Q : MVal → MMem → Prop} : At 33 4 ls st μ Q = Rn 33 B33_4 ls st μ Q := rfl
theorem t34_0 {ls st : List MVal} {μ : MMem} {Q : MVal → MMem → Prop} : At 34 0 ls st μ Q = Rn 34 B34_0 ls st μ Q := rfl
theorem t34_1 {ls st : List MVal} {μ : MMem} {Q : MVal → MMem → Prop} : At 34 1 ls st μ Q = Rn 34 B34_1 ls st μ Q := rfl
theorem t34_2 {ls st : List MVal} {μ : MMem} {Q : MVal → MMem → Prop} : At 34 2 ls st μ Q = Rn 34 B34_2 ls st μ Q := rfl
theorem t34_3 {ls st : List MVal} {μ : MMem} {Q : MVal → MMem → Prop} : At 34 3 ls st μ Q = Rn 34 B34_3 ls st μ Q := rfl
theorem t34_4 {ls st : List MVal} {μ : MMem} {Q : MVal → MMem → Prop} : At 34 4 ls st μ Q = Rn 34 B34_4 ls st μ Q := rfl
theorem t35_0 {ls st : List MVal} {μ : MMem} {Q : MVal → MMem → Prop} : At 35 0 ls st μ Q = Rn 35 B35_0 ls st μ Q := rfl
theorem t35_1 {ls st : List MVal} {μ : MMem} {Q : MVal → MMem → Prop} : At 35 1 ls st μ Q = Rn 35 B35_1 ls st μ Q := rfl
theorem t35_2 {ls st : List MVal} {μ : MMem} {Q : MVal → MMem → Prop} : At 35 2 ls st μ Q = Rn 35 B35_2 ls st μ Q := rfl
theorem t36_0 {ls st : List MVal} {μ : MMem} {Q : MVal → MMem → Prop} : At 36 0 ls st μ Q = Rn 36 B36_0 ls st μ Q := rfl
theorem t36_1 {ls st : List MVal} {μ : MMem} {Q : MVal → MMem → Prop} : At 36 1 ls st μ Q = Rn 36 B36_1 ls st μ Q := rfl
theorem t36_2 {ls st : List MVal} {μ : MMem} {Q : MVal → MMem → Prop} : At 36 2 ls st μ Q = Rn 36 B36_2 ls st μ Q := rfl
theorem t36_3 {ls st : List MVal} {μ : MMem} {Q : MVal → MMem → Prop} : At 36 3 ls st μ Q = Rn 36 B36_3 ls st μ Q := rfl
theorem t37_0 {ls st : List MVal} {μ : MMem} {Q : MVal → MMem → Prop} : At 37 0 ls st μ Q = Rn 37 B37_0 ls st μ Q := rfl
theorem t37_1 {ls st : List MVal} {μ : MMem} {Q : MVal → MMem → Prop} : At 37 1 ls st μ Q = Rn 37 B37_1 ls st μ Q := rfl
theorem t37_2 {ls st : List MVal} {μ : MMem} {Q : MVal → MMem → Prop} : At 37 2 ls st μ Q = Rn 37 B37_2 ls st μ Q := rfl
theorem t38_0 {ls st : List MVal} {μ : MMem} {Q : MVal → MMem → Prop} : At 38 0 ls st μ Q = Rn 38 B38_0 ls st μ Q := rfl
theorem t38_1 {ls st : List MVal} {μ : MMem} {Q : MVal → MMem → Prop} : At 38 1 ls st μ Q = Rn 38 B38_1 ls st μ Q := rfl
theorem t38_2 {ls st : List MVal} {μ : MMem} {Q : MVal → MMem → Prop} : At 38 2 ls st μ Q = Rn 38 B38_2 ls st μ Q := rfl
theorem t39_0 {ls st : List MVal} {μ : MMem} {Q : MVal → MMem → Prop} : At 39 0 ls st μ Q = Rn 39 B39_0 ls st μ Q := rfl
theorem t39_1 {ls st : List MVal} {μ : MMem} {Q : MVal → MMem → Prop} : At 39 1 ls st μ Q = Rn 39 B39_1 ls st μ Q := rfl
theorem t39_2 {ls st : List MVal} {μ : MMem} {Q : MVal → MMem → Prop} : At 39 2 ls st μ Q = Rn 39 B39_2 ls st μ Q := rfl
theorem t39_3 {ls st : List MVal} {μ : MMem} {Q : MVal → MMem → Prop} : At 39 3 ls st μ Q = Rn 39 B39_3 ls st μ Q := rfl
theorem t40_0 {ls st : List MVal} {μ : MMem} {Q : MVal → MMem → Prop} : At 40 0 ls st μ Q = Rn 40 B40_0 ls st μ Q := rfl
theorem t40_1 {ls st : List MVal} {μ : MMem} {Q : MVal → MMem → Prop} : At 40 1 ls st μ Q = Rn 40 B40_1 ls st μ Q := rfl
theorem t40_2 {ls st : List MVal} {μ : MMem} {Q : MVal → MMem → Prop} : At 40 2 ls st μ Q = Rn 40 B40_2 ls st μ Q := rfl
theorem t40_3 {ls st : List MVal} {μ : MMem} {Q : MVal → MMem → Prop} : At 40 3 ls st μ Q = Rn 40 B40_3 ls st μ Q := rfl
theorem t41_0 {ls st : List MVal} {μ : MMem} {Q : MVal → MMem → Prop} : At 41 0 ls st μ Q = Rn 41 B41_0 ls st μ Q := rfl
theorem t41_1 {ls st : List MVal} {μ : MMem} {Q : MVal → MMem → Prop} : At 41 1 ls st μ Q = Rn 41 B41_1 ls st μ Q := rfl
theorem t41_2 {ls st : List MVal} {μ : MMem} {Q : MVal → MMem → Prop} : At 41 2 ls st μ Q = Rn 41 B41_2 ls st μ Q := rfl
theorem t41_3 {ls st : List MVal} {μ : MMem} {Q : MVal → MMem → Prop} : At 41 3 ls st μ Q = Rn 41 B41_3 ls st μ Q := rfl
theorem t42_0 {ls st : List MVal} {μ : MMem} {Q : MVal → MMem → Prop} : At 42 0 ls st μ Q = Rn 42 B42_0 ls st μ Q := rfl
theorem t42_1 {ls st : List MVal} {μ : MMem} {Q : MVal → MMem → Prop} : At 42 1 ls st μ Q = Rn 42 B42_1 ls st μ Q := rfl
theorem t43_0 {ls st : List MVal} {μ : MMem} {Q : MVal → MMem → Prop} : At 43 0 ls st μ Q = Rn 43 B43_0 ls st μ Q := rfl
theorem t43_1 {ls st : List MVal} {μ : MMem} {Q : MVal → MMem → Prop} : At 43 1 ls st μ Q = Rn 43 B43_1 ls st μ Q := rfl
theorem t43_2 {ls st : List MVal} {μ : MMem} {Q : MVal → MMem → Prop} : At 43 2 ls st μ Q = Rn 43 B43_2 ls st μ Q := rfl
theorem t44_0 {ls st : List MVal} {μ : MMem} {Q : MVal → MMem → Prop} : At 44 0 ls st μ Q = Rn 44 B44_0 ls st μ Q := rfl
theorem t44_1 {ls st : List MVal} {μ : MMem} {Q : MVal → MMem → Prop} : At 44 1 ls st μ Q = Rn 44 B44_1 ls st μ Q := rfl
theorem t44_2 {ls st : List MVal} {μ : MMem} {Q : MVal → MMem → Prop} : At 44 2 ls st μ Q = Rn 44 B44_2 ls st μ Q := rfl
theorem t45_0 {ls st : List MVal} {μ : MMem} {Q : MVal → MMem → Prop} : At 45 0 ls st μ Q = Rn 45 B45_0 ls st μ Q := rfl
theorem t45_1 {ls st : List MVal} {μ : MMem} {Q : MVal → MMem → Prop} : At 45 1 ls st μ Q = Rn 45 B45_1 ls st μ Q := rfl
theorem t45_2 {ls st : List MVal} {μ : MMem} {Q : MVal → MMem → Prop} : At 45 2 ls st μ Q = Rn 45 B45_2 ls st μ Q := rfl
theorem t46_0 {ls st : List MVal} {μ : MMem} {Q : MVal → MMem → Prop} : At 46 0 ls st μ Q = Rn 46 B46_0 ls st μ Q := rfl
theorem t46_1 {ls st : List MVal} {μ : MMem} {Q : MVal → MMem → Prop} : At 46 1 ls st μ Q = Rn 46 B46_1 ls st μ Q := rfl
theorem t46_2 {ls st : List MVal} {μ : MMem} {Q : MVal → MMem → Prop} : At 46 2 ls st μ Q = Rn 46 B46_2 ls st μ Q := rfl
theorem t47_0 {ls st : List MVal} {μ : MMem} {Q : MVal → MMem → Prop} : At 47 0 ls st μ Q = Rn 47 B47_0 ls st μ Q := rfl
theorem t47_1 {ls st : List MVal} {μ : MMem} {Q : MVal → MMem → Prop} : At 47 1 ls st μ Q = Rn 47 B47_1 ls st μ Q := rfl
theorem t47_2 {ls st : List MVal} {μ : MMem} {Q : MVal → MMem → Prop} : At 47 2 ls st μ Q = Rn 47 B47_2 ls st μ Q := rfl
theorem t48_0 {ls st : List MVal} {μ : MMem} {Q : MVal → MMem → Prop} : At 48 0 ls st μ Q = Rn 48 B48_0 ls st μ Q := rfl
theorem t48_1 {ls st : List MVal} {μ : MMem} {Q : MVal → MMem → Prop} : At 48 1 ls st μ Q = Rn 48 B48_1 ls st μ Q := rfl
theorem t49_0 {ls st : List MVal} {μ : MMem} {Q : MVal → MMem → Prop} : At 49 0 ls st μ Q = Rn 49 B49_0 ls st μ Q := rfl
theorem t49_1 {ls st : List MVal} {μ : MMem} {Q : MVal → MMem → Prop} : At 49 1 ls st μ Q = Rn 49 B49_1 ls st μ Q := rfl
theorem t49_2 {ls st : List MVal} {μ : MMem} {Q : MVal → MMem → Prop} : At 49 2 ls st μ Q = Rn 49 B49_2 ls st μ Q := rfl
theorem t49_3 {ls st : List MVal} {μ : MMem} {Q : MVal → MMem → Prop} : At 49 3 ls st μ Q = Rn 49 B49_3 ls st μ Q := rfl
theorem t49_4 {ls st : List MVal} {μ : MMem} {Q : MVal → MMem → Prop} : At 49 4 ls st μ Q = Rn 49 B49_4 ls st μ Q := rfl
theorem t49_5 {ls st : List MVal} {μ : MMem} {Q : MVal → MMem → Prop} : At 49 5 ls st μ Q = Rn 49 B49_5 ls st μ Q := rfl
theorem t50_0 {ls st : List MVal} {μ : MMem} {Q : MVal → MMem → Prop} : At 50 0 ls st μ Q = Rn 50 B50_0 ls st μ Q := rfl
theorem t50_1 {ls st : List MVal} {μ : MMem} {Q : MVal → MMem → Prop} : At 50 1 ls st μ Q = Rn 50 B50_1 ls st μ Q := rfl
theorem t50_2 {ls st : List MVal} {μ : MMem} {Q : MVal → MMem → Prop} : At 50 2 ls st μ Q = Rn 50 B50_2 ls st μ Q := rfl
theorem t50_3 {ls st : List MVal} {μ : MMem} {Q : MVal → MMem → Prop} : At 50 3 ls st μ Q = Rn 50 B50_3 ls st μ Q := rfl
theorem t50_4 {ls st : List MVal} {μ : MMem} {Q : MVal → MMem → Prop} : At 50 4 ls st μ Q = Rn 50 B50_4 ls st μ Q := rfl
theorem t50_5 {ls st : List MVal} {μ : MMem} {Q : MVal → MMem → Prop} : At 50 5 ls st μ Q = Rn 50 B50_5 ls st μ Q := rfl
theorem t50_6 {ls st : List MVal} {μ : MMem} {Q : MVal → MMem → Prop} : At 50 6 ls st μ Q = Rn 50 B50_6 ls st μ Q := rfl
theorem t50_7 {ls st : List MVal} {μ : MMem} {Q : MVal → MMem → Prop} : At 50 7 ls st μ Q = Rn 50 B50_7 ls st μ Q := rfl
theorem t51_0 {ls st : List MVal} {μ : MMem} {Q : MVal → MMem → Prop} : At 51 0 ls st μ Q = Rn 51 B51_0 ls st μ Q := rfl
theorem t51_1 {ls st : List MVal} {μ : MMem} {Q : MVal → MMem → Prop} : At 51 1 ls st μ Q = Rn 51 B51_1 ls st μ Q := rfl
theorem t51_2 {ls st : List MVal} {μ : MMem} {Q : MVal → MMem → Prop} : At 51 2 ls st μ Q = Rn 51 B51_2 ls st μ Q := rfl
theorem t51_3 {ls st : List MVal} {μ : MMem} {Q : MVal → MMem → Prop} : At 51 3 ls st μ Q = Rn 51 B51_3 ls st μ Q := rfl
theorem t51_4 {ls st : List MVal} {μ : MMem} {Q : MVal → MMem → Prop} : At 51 4 ls st μ Q = Rn 51 B51_4 ls st μ Q := rfl
theorem t51_5 {ls st : List MVal} {μ : MMem} {Q : MVal → MMem → Prop} : At 51 5 ls st μ Q = Rn 51 B51_5 ls st μ Q := rfl
theorem t52_0 {ls st : List MVal} {μ : MMem} {Q : MVal → MMem → Prop} : At 52 0 ls st μ Q = Rn 52 B52_0 ls st μ Q := rfl
theorem t52_1 {ls st : List MVal} {μ : MMem} {Q : MVal → MMem → Prop} : At 52 1 ls st μ Q = Rn 52 B52_1 ls st μ Q := rfl
theorem t53_0 {ls st : List MVal} {μ : MMem} {Q : MVal → MMem → Prop} : At 53 0 ls st μ Q = Rn 53 B53_0 ls st μ Q := rfl
theorem t53_1 {ls st : List MVal} {μ : MMem} {Q : MVal → MMem → Prop} : At 53 1 ls st μ Q = Rn 53 B53_1 ls st μ Q := rfl
theorem t53_2 {ls st : List MVal} {μ : MMem} {Q : MVal → MMem → Prop} : At 53 2 ls st μ Q = Rn 53 B53_2 ls st μ Q := rfl
theorem t53_3 {ls st : List MVal} {μ : MMem} {Q : MVal → MMem → Prop} : At 53 3 ls st μ Q = Rn 53 B53_3 ls st μ Q := rfl
theorem t53_4 {ls st : List MVal} {μ : MMem} {Q : MVal → MMem → Prop} : At 53 4 ls st μ Q = Rn 53 B53_4 ls st μ Q := rfl
theorem t53_5 {ls st : List MVal} {μ : MMem} {Q : MVal → MMem → Prop} : At 53 5 ls st μ Q = Rn 53 B53_5 ls st μ Q := rfl
theorem t53_6 {ls st : List MVal} {μ : MMem} {Q : MVal → MMem → Prop} : At 53 6 ls st μ Q = Rn 53 B53_6 ls st μ Q := rfl
theorem t53_7 {ls st : List MVal} {μ : MMem} {Q : MVal → MMem → Prop} : At 53 7 ls st μ Q = Rn 53 B53_7 ls st μ Q := rfl
theorem t53_8 {ls st : List MVal} {μ : MMem} {Q : MVal → MMem → Prop} : At 53 8 ls st μ Q = Rn 53 B53_8 ls st μ Q := rfl
theorem t54_0 {ls st : List MVal} {μ : MMem} {Q : MVal → MMem → Prop} : At 54 0 ls st μ Q = Rn 54 B54_0 ls st μ Q := rfl
theorem t54_1 {ls st : List MVal} {μ : MMem} {Q : MVal → MMem → Prop} : At 54 1 ls st μ Q = Rn 54 B54_1 ls st μ Q := rfl
theorem t54_2 {ls st : List MVal} {μ : MMem} {Q : MVal → MMem → Prop} : At 54 2 ls st μ Q = Rn 54 B54_2 ls st μ Q := rfl
theorem t54_3 {ls st : List MVal} {μ : MMem} {Q : MVal → MMem → Prop} : At 54 3 ls st μ Q = Rn 54 B54_3 ls st μ Q := rfl
theorem t55_0 {ls st : List MVal} {μ : MMem} {Q : MVal → MMem → Prop} : At 55 0 ls st μ Q = Rn 55 B55_0 ls st μ Q := rfl
theorem t55_1 {ls st : List MVal} {μ : MMem} {Q : MVal → MMem → Prop} : At 55 1 ls st μ Q = Rn 55 B55_1 ls st μ Q := rfl
theorem t55_2 {ls st : List MVal} {μ : MMem} {Q : MVal → MMem → Prop} : At 55 2 ls st μ Q = Rn 55 B55_2 ls st μ Q := rfl
theorem t55_3 {ls st : List MVal} {μ : MMem} {Q : MVal → MMem → Prop} : At 55 3 ls st μ Q = Rn 55 B55_3 ls st μ Q := rfl
theorem t55_4 {ls st : List MVal} {μ : MMem} {Q : MVal → MMem → Prop} : At 55 4 ls st μ Q = Rn 55 B55_4 ls st μ Q := rfl
theorem t56_0 {ls st : List MVal} {μ : MMem} {Q : MVal → MMem → Prop} : At 56 0 ls st μ Q = Rn 56 B56_0 ls st μ Q := rfl
theorem t56_1 {ls st : List MVal} {μ : MMem} {Q : MVal → MMem → Prop} : At 56 1 ls st μ Q = Rn 56 B56_1 ls st μ Q := rfl
theorem t56_2 {ls st : List MVal} {μ : MMem} {Q : MVal → MMem → Prop} : At 56 2 ls st μ Q = Rn 56 B56_2 ls st μ Q := rfl
theorem t56_3 {ls st : List MVal} {μ : MMem} {Q : MVal → MMem → Prop} : At 56 3 ls st μ Q = Rn 56 B56_3 ls st μ Q := rfl
theorem t57_0 {ls st : List MVal} {μ : MMem} {Q : MVal → MMem → Prop} : At 57 0 ls st μ Q = Rn 57 B57_0 ls st μ Q := rfl
theorem t57_1 {ls st : List MVal} {μ : MMem} {Q : MVal → MMem → Prop} : At 57 1 ls st μ Q = Rn 57 B57_1 ls st μ Q := rfl
theorem t57_2 {ls st : List MVal} {μ : MMem} {Q : MVal → MMem → Prop} : At 57 2 ls st μ Q = Rn 57 B57_2 ls st μ Q := rfl
theorem t58_0 {ls st : List MVal} {μ : MMem} {Q : MVal → MMem → Prop} : At 58 0 ls st μ Q = Rn 58 B58_0 ls st μ Q := rfl
theorem t58_1 {ls st : List MVal} {μ : MMem} {Q : MVal → MMem → Prop} : At 58 1 ls st μ Q = Rn 58 B58_1 ls st μ Q := rfl
theorem t58_2 {ls st : List MVal} {μ : MMem} {Q : MVal → MMem → Prop} : At 58 2 ls st μ Q = Rn 58 B58_2 ls st μ Q := rfl
theorem t59_0 {ls st : List MVal} {μ : MMem} {Q : MVal → MMem → Prop} : At 59 0 ls st μ Q = Rn 59 B59_0 ls st μ Q := rfl
theorem t59_1 {ls st : List MVal} {μ : MMem} {Q : MVal → MMem → Prop} : At 59 1 ls st μ Q = Rn 59 B59_1 ls st μ Q := rfl
theorem t59_2 {ls st : List MVal} {μ : MMem} {Q : MVal → MMem → Prop} : At 59 2 ls st μ Q = Rn 59 B59_2 ls st μ Q := rfl
theorem t60_0 {ls st : List MVal} {μ : MMem} {Q : MVal → MMem → Prop} : At 60 0 ls st μ Q = Rn 60 B60_0 ls st μ Q := rfl
theorem t60_1 {ls st : List MVal} {μ : MMem} {Q : MVal → MMem → Prop} : At 60 1 ls st μ Q = Rn 60 B60_1 ls st μ Q := rfl
theorem t60_2 {ls st : List MVal} {μ : MMem} {Q : MVal → MMem → Prop} : At 60 2 ls st μ Q = Rn 60 B60_2 ls st μ Q := rfl
theorem t60_3 {ls st : List MVal} {μ : MMem} {Q : MVal → MMem → Prop} : At 60 3 ls st μ Q = Rn 60 B60_3 ls st μ Q := rfl
theorem t60_4 {ls st : List MVal} {μ : MMem} {Q : MVal → MMem → Prop} : At 60 4 ls st μ Q = Rn 60 B60_4 ls st μ Q := rfl
theorem t60_5 {ls st : List MVal} {μ : MMem} {Q : MVal → MMem → Prop} : At 60 5 ls st μ Q = Rn 60 B60_5 ls st μ Q := rfl
theorem t61_0 {ls st : List MVal} {μ : MMem} {Q : MVal → MMem → Prop} : At 61 0 ls st μ Q = Rn 61 B61_0 ls st μ Q := rfl
theorem t61_1 {ls st : List MVal} {μ : MMem} {Q : MVal → MMem → Prop} : At 61 1 ls st μ Q = Rn 61 B61_1 ls st μ Q := rfl
theorem t61_2 {ls st : List MVal} {μ : MMem} {Q : MVal → MMem → Prop} : At 61 2 ls st μ Q = Rn 61 B61_2 ls st μ Q := rfl
theorem t61_3 {ls st : List MVal} {μ : MMem} {Q : MVal → MMem → Prop} : At 61 3 ls st μ Q = Rn 61 B61_3 ls st μ Q := rfl
theorem t61_4 {ls st : List MVal} {μ : MMem} {Q : MVal → MMem → Prop} : At 61 4 ls st μ Q = Rn 61 B61_4 ls st μ Q := rfl
theorem t61_5 {ls st : List MVal} {μ : MMem} {Q : MVal → MMem → Prop} : At 61 5 ls st μ Q = Rn 61 B61_5 ls st μ Q := rfl
theorem t62_0 {ls st : List MVal} {μ : MMem} {Q : MVal → MMem → Prop} : At 62 0 ls st μ Q = Rn 62 B62_0 ls st μ Q := rfl
theorem t62_1 {ls st : List MVal} {μ : MMem} {Q : MVal → MMem → Prop} : At 62 1 ls st μ Q = Rn 62 B62_1 ls st μ Q := rfl
theorem t62_2 {ls st : List MVal} {μ : MMem} {Q : MVal → MMem → Prop} : At 62 2 ls st μ Q = Rn 62 B62_2 ls st μ Q := rfl
theorem t62_3 {ls st : List MVal} {μ : MMem} {Q : MVal → MMem → Prop} : At 62 3 ls st μ Q = Rn 62 B62_3 ls st μ Q := rfl
theorem t63_0 {ls st : List MVal} {μ : MMem} {Q : MVal → MMem → Prop} : At 63 0 ls st μ Q = Rn 63 B63_0 ls st μ Q := rfl
theorem t63_1 {ls st : List MVal} {μ : MMem} {Q : MVal → MMem → Prop} : At 63 1 ls st μ Q = Rn 63 B63_1 ls st μ Q := rfl
theorem t63_2 {ls st : List MVal} {μ : MMem} {Q : MVal → MMem → Prop} : At 63 2 ls st μ Q = Rn 63 B63_2 ls st μ Q := rfl
theorem t63_3 {ls st : List MVal} {μ : MMem} {Q : MVal → MMem → Prop} : At 63 3 ls st μ Q = Rn 63 B63_3 ls st μ Q := rfl
theorem t63_4 {ls st : List MVal} {μ : MMem} {Q : MVal → MMem → Prop} : At 63 4 ls st μ Q = Rn 63 B63_4 ls st μ Q := rfl
theorem t63_5 {ls st : List MVal} {μ : MMem} {Q : MVal → MMem → Prop} : At 63 5 ls st μ Q = Rn 63 B63_5 ls st μ Q := rfl
theorem t63_6 {ls st : List MVal} {μ : MMem} {Q : MVal → MMem → Prop} : At 63 6 ls st μ Q = Rn 63 B63_6 ls st μ Q := rfl
theorem t63_7 {ls st : List MVal} {μ : MMem} {Q : MVal → MMem → Prop} : At 63 7 ls st μ Q = Rn 63 B63_7 ls st μ Q := rfl
theorem t63_8 {ls st : List MVal} {μ : MMem} {Q : MVal → MMem → Prop} : At 63 8 ls st μ Q = Rn 63 B63_8 ls st μ Q := rfl
theorem t63_9 {ls st : List MVal} {μ : MMem} {Q : MVal → MMem → Prop} : At 63 9 ls st μ Q = Rn 63 B63_9 ls st μ Q := rfl
theorem t64_0 {ls st : List MVal} {μ : MMem} {Q : MVal → MMem → Prop} : At 64 0 ls st μ Q = Rn 64 B64_0 ls st μ Q := rfl
theorem t64_1 {ls st : List MVal} {μ : MMem} {Q : MVal → MMem → Prop} : At 64 1 ls st μ Q = Rn 64 B64_1 ls st μ Q := rfl
theorem t64_2 {ls st : List MVal} {μ : MMem} {Q : MVal → MMem → Prop} : At 64 2 ls st μ Q = Rn 64 B64_2 ls st μ Q := rfl
theorem t64_3 {ls st : List MVal} {μ : MMem} {Q : MVal → MMem → Prop} : At 64 3 ls st μ Q = Rn 64 B64_3 ls st μ Q := rfl
theorem t64_4 {ls st : List MVal} {μ : MMem} {Q : MVal → MMem → Prop} : At 64 4 ls st μ Q = Rn 64 B64_4 ls st μ Q := rfl
theorem t65_0 {ls st : List MVal} {μ : MMem} {Q : MVal → MMem → Prop} : At 65 0 ls st μ Q = Rn 65 B65_0 ls st μ Q := rfl
theorem t65_1 {ls st : List MVal} {μ : MMem} {Q : MVal → MMem → Prop} : At 65 1 ls st μ Q = Rn 65 B65_1 ls st μ Q := rfl
theorem t65_2 {ls st : List MVal} {μ : MMem} {Q : MVal → MMem → Prop} : At 65 2 ls st μ Q = Rn 65 B65_2 ls st μ Q := rfl
theorem t65_3 {ls st : List MVal} {μ : MMem} {Q : MVal → MMem → Prop} : At 65 3 ls st μ Q = Rn 65 B65_3 ls st μ Q := rfl
theorem t66_0 {ls st : List MVal} {μ : MMem} {Q : MVal → MMem → Prop} : At 66 0 ls st μ Q = Rn 66 B66_0 ls st μ Q := rfl
theorem t67_0 {ls st : List MVal} {μ : MMem} {Q : MVal → MMem → Prop} : At 67 0 ls st μ Q = Rn 67 B67_0 ls st μ Q := rfl
theorem t67_1 {ls st : List MVal} {μ : MMem} {Q : MVal → MMem → Prop} : At 67 1 ls st μ Q = Rn 67 B67_1 ls st μ Q := rfl
theorem t67_2 {ls st : List MVal} {μ : MMem} {Q : MVal → MMem → Prop} : At 67 2 ls st μ Q = Rn 67 B67_2 ls st μ Q := rfl
theorem t67_3 {ls st : List MVal} {μ : MMem} {Q : MVal → MMem → Prop} : At 67 3 ls st μ Q = Rn 67 B67_3 ls st μ Q := rfl
theorem t68_0 {ls st : List MVal} {μ : MMem} {Q : MVal → MMem → Prop} : At 68 0 ls st μ Q = Rn 68 B68_0 ls st μ Q := rfl
theorem t68_1 {ls st : List MVal} {μ : MMem} {Q : MVal → MMem → Prop} : At 68 1 ls st μ Q = Rn 68 B68_1 ls st μ Q := rfl
theorem t68_2 {ls st : List MVal} {μ : MMem} {Q : MVal → MMem → Prop} : At 68 2 ls st μ Q = Rn 68 B68_2 ls st μ Q := rfl
theorem t68_3 {ls st : List MVal} {μ : MMem} {Q : MVal → MMem → Prop} : At 68 3 ls st μ Q = Rn 68 B68_3 ls st μ Q := rfl
theorem t68_4 {ls st : List MVal} {μ : MMem} {Q : MVal → MMem → Prop} : At 68 4 ls st μ Q = Rn 68 B68_4 ls st μ Q := rfl
theorem t69_0 {ls st : List MVal} {μ : MMem} {Q : MVal → MMem → Prop} : At 69 0 ls st μ Q = Rn 69 B69_0 ls st μ Q := rfl
theorem t69_1 {ls st : List MVal} {μ : MMem} {Q : MVal → MMem → Prop} : At 69 1 ls st μ Q = Rn 69 B69_1 ls st μ Q := rfl
theorem t69_2 {ls st : List MVal} {μ : MMem} {Q : MVal → MMem → Prop} : At 69 2 ls st μ Q = Rn 69 B69_2 ls st μ Q := rfl
theorem t69_3 {ls st : List MVal} {μ : MMem} {Q : MVal → MMem → Prop} : At 69 3 ls st μ Q = Rn 69 B69_3 ls st μ Q := rfl
theorem t69_4 {ls st : List MVal} {μ : MMem} {Q : MVal → MMem → Prop} : At 69 4 ls st μ Q = Rn 69 B69_4 ls st μ Q := rfl
theorem t70_0 {ls st : List MVal} {μ : MMem} {Q : MVal → MMem → Prop} : At 70 0 ls st μ Q = Rn 70 B70_0 ls st μ Q := rfl
theorem t70_1 {ls st : List MVal} {μ : MMem} {Q : MVal → MMem → Prop} : At 70 1 ls st μ Q = Rn 70 B70_1 ls st μ Q := rfl
theorem t70_2 {ls st : List MVal} {μ : MMem} {Q : MVal → MMem → Prop} : At 70 2 ls st μ Q = Rn 70 B70_2 ls st μ Q := rfl
theorem t70_3 {ls st : List MVal} {μ : MMem} {Q : MVal → MMem → Prop} : At 70 3 ls st μ Q = Rn 70 B70_3 ls st μ Q := rfl
theorem t70_4 {ls st : List MVal} {μ : MMem} {Q : MVal → MMem → Prop} : At 70 4 ls st μ Q = Rn 70 B70_4 ls st μ Q := rfl
theorem t70_5 {ls st : List MVal} {μ : MMem} {Q : MVal → MMem → Prop} : At 70 5 ls st μ Q = Rn 70 B70_5 ls st μ Q := rfl
theorem t70_6 {ls st : List MVal} {μ : MMem} {Q : MVal → MMem → Prop} : At 70 6 ls st μ Q = Rn 70 B70_6 ls st μ Q := rfl
theorem t70_7 {ls st : List MVal} {μ : MMem} {Q : MVal → MMem → Prop} : At 70 7 ls st μ Q = Rn 70 B70_7 ls st μ Q := rfl
theorem t70_8 {ls st : List MVal} {μ : MMem} {Q : MVal → MMem → Prop} : At 70 8 ls st μ Q = Rn 70 B70_8 ls st μ Q := rfl
theorem t70_9 {ls st : List MVal} {μ : MMem} {Q : MVal → MMem → Prop} : At 70 9 ls st μ Q = Rn 70 B70_9 ls st μ Q := rfl
theorem t71_0 {ls st : List MVal} {μ : MMem} {Q : MVal → MMem → Prop} : At 71 0 ls st μ Q = Rn 71 B71_0 ls st μ Q := rfl
theorem t71_1 {ls st : List MVal} {μ : MMem} {Q : MVal → MMem → Prop} : At 71 1 ls st μ Q = Rn 71 B71_1 ls st μ Q := rfl
theorem t71_2 {ls st : List MVal} {μ : MMem} {Q : MVal → MMem → Prop} : At 71 2 ls st μ Q = Rn 71 B71_2 ls st μ Q := rfl
theorem t71_3 {ls st : List MVal} {μ : MMem} {Q : MVal → MMem → Prop} : At 71 3 ls st μ Q = Rn 71 B71_3 ls st μ Q := rfl
theorem t71_4 {ls st : List MVal} {μ : MMem} {Q : MVal → MMem → Prop} : At 71 4 ls st μ Q = Rn 71 B71_4 ls st μ Q := rfl
theorem t72_0 {ls st : List MVal} {μ : MMem} {Q : MVal → MMem → Prop} : At 72 0 ls st μ Q = Rn 72 B72_0 ls st μ Q := rfl
theorem t72_1 {ls st : List MVal} {μ : MMem} {Q : MVal → MMem → Prop} : At 72 1 ls st μ Q = Rn 72 B72_1 ls st μ Q := rfl
theorem t72_2 {ls st : List MVal} {μ : MMem} {Q : MVal → MMem → Prop} : At 72 2 ls st μ Q = Rn 72 B72_2 ls st μ Q := rfl
theorem t72_3 {ls st : List MVal} {μ : MMem} {Q : MVal → MMem → Prop} : At 72 3 ls st μ Q = Rn 72 B72_3 ls st μ Q := rfl
theorem t73_0 {ls st : List MVal} {μ : MMem} {Q : MVal → MMem → Prop} : At 73 0 ls st μ Q = Rn 73 B73_0 ls st μ Q := rfl
theorem t73_1 {ls st : List MVal} {μ : MMem} {Q : MVal → MMem → Prop} : At 73 1 ls st μ Q = Rn 73 B73_1 ls st μ Q := rfl
theorem t73_2 {ls st : List MVal} {μ : MMem} {Q : MVal → MMem → Prop} : At 73 2 ls st μ Q = Rn 73 B73_2 ls st μ Q := rfl
theorem t73_3 {ls st : List MVal} {μ : MMem} {Q : MVal → MMem → Prop} : At 73 3 ls st μ Q = Rn 73 B73_3 ls st μ Q := rfl
theorem t73_4 {ls st : List MVal} {μ : MMem} {Q : MVal → MMem → Prop} : At 73 4 ls st μ Q = Rn 73 B73_4 ls st μ Q := rfl
theorem t74_0 {ls st : List MVal} {μ : MMem} {Q : MVal → MMem → Prop} : At 74 0 ls st μ Q = Rn 74 B74_0 ls st μ Q := rfl
theorem t74_1 {ls st : List MVal} {μ : MMem} {Q : MVal → MMem → Prop} : At 74 1 ls st μ Q = Rn 74 B74_1 ls st μ Q := rfl
theorem t74_2 {ls st : List MVal} {μ : MMem} {Q : MVal → MMem → Prop} : At 74 2 ls st μ Q = Rn 74 B74_2 ls st μ Q := rfl
theorem t74_3 {ls st : List MVal} {μ : MMem} {Q : MVal → MMem → Prop} : At 74 3 ls st μ Q = Rn 74 B74_3 ls st μ Q := rfl
theorem t75_0 {ls st : List MVal} {μ : MMem} {Q : MVal → MMem → Prop} : At 75 0 ls st μ Q = Rn 75 B75_0 ls st μ Q := rfl
theorem t75_1 {ls st : List MVal} {μ : MMem} {Q : MVal → MMem → Prop} : At 75 1 ls st μ Q = Rn 75 B75_1 ls st μ Q := rfl
theorem t75_2 {ls st : List MVal} {μ : MMem} {Q : MVal → MMem → Prop} : At 75 2 ls st μ Q = Rn 75 B75_2 ls st μ Q := rfl
theorem t75_3 {ls st : List MVal} {μ : MMem} {Q : MVal → MMem → Prop} : At 75 3 ls st μ Q = Rn 75 B75_3 ls st μ Q := rfl
theorem t75_4 {ls st : List MVal} {μ : MMem} {Q : MVal → MMem → Prop} : At 75 4 ls st μ Q = Rn 75 B75_4 ls st μ Q := rfl
theorem t75_5 {ls st : List MVal} {μ : MMem} {Q : MVal → MMem → Prop} : At 75 5 ls st μ Q = Rn 75 B75_5 ls st μ Q := rfl
theorem t75_6 {ls st : List MVal} {μ : MMem} {Q : MVal → MMem → Prop} : At 75 6 ls st μ Q = Rn 75 B75_6 ls st μ Q := rfl
theorem t76_0 {ls st : List MVal} {μ : MMem} {Q : MVal → MMem → Prop} : At 76 0 ls st μ Q = Rn 76 B76_0 ls st μ Q := rfl
theorem t76_1 {ls st : List MVal} {μ : MMem} {Q : MVal → MMem → Prop} : At 76 1 ls st μ Q = Rn 76 B76_1 ls st μ Q := rfl
theorem t76_2 {ls st : List MVal} {μ : MMem} {Q : MVal → MMem → Prop} : At 76 2 ls st μ Q = Rn 76 B76_2 ls st μ Q := rfl
theorem t77_0 {ls st : List MVal} {μ : MMem} {Q : MVal → MMem → Prop} : At 77 0 ls st μ Q = Rn 77 B77_0 ls st μ Q := rfl
theorem t77_1 {ls st : List MVal} {μ : MMem} {Q : MVal → MMem → Prop} : At 77 1 ls st μ Q = Rn 77 B77_1 ls st μ Q := rfl
theorem t77_2 {ls st : List MVal} {μ : MMem} {Q : MVal → MMem → Prop} : At 77 2 ls st μ Q = Rn 77 B77_2 ls st μ Q := rfl
theorem t77_3 {ls st : List MVal} {μ : MMem} {Q : MVal → MMem → Prop} : At 77 3 ls st μ Q = Rn 77 B77_3 ls st μ Q := rfl
theorem t77_4 {ls st : List MVal} {μ : MMem} {Q : MVal → MMem → Prop} : At 77 4 ls st μ Q = Rn 77 B77_4 ls st μ Q := rfl
theorem t78_0 {ls st : List MVal} {μ : MMem} {Q : MVal → MMem → Prop} : At 78 0 ls st μ Q = Rn 78 B78_0 ls st μ Q := rfl
theorem t78_1 {ls st : List MVal} {μ : MMem} {Q : MVal → MMem → Prop} : At 78 1 ls st μ Q = Rn 78 B78_1 ls st μ Q := rfl
theorem t78_2 {ls st : List MVal} {μ : MMem} {Q : MVal → MMem → Prop} : At 78 2 ls st μ Q = Rn 78 B78_2 ls st μ Q := rfl
theorem t79_0 {ls st : List MVal} {μ : MMem} {Q : MVal → MMem → Prop} : At 79 0 ls st μ Q = Rn 79 B79_0 ls st μ Q := rfl
theorem t80_0 {ls st : List MVal} {μ : MMem} {Q : MVal → MMem → Prop} : At 80 0 ls st μ Q = Rn 80 B80_0 ls st μ Q := rfl
theorem t80_1 {ls st : List MVal} {μ : MMem} {Q : MVal → MMem → Prop} : At 80 1 ls st μ Q = Rn 80 B80_1 ls st μ Q := rfl
theorem t80_2 {ls st : List MVal} {μ : MMem} {Q : MVal → MMem → Prop} : At 80 2 ls st μ Q = Rn 80 B80_2 ls st μ Q := rfl
theorem t80_3 {ls st : List MVal} {μ : MMem} {Q : MVal → MMem → Prop} : At 80 3 ls st μ Q = Rn 80 B80_3 ls st μ Q := rfl
theorem t81_0 {ls st : List MVal} {μ : MMem} {Q : MVal → MMem → Prop} : At 81 0 ls st μ Q = Rn 81 B81_0 ls st μ Q := rfl
theorem t81_1 {ls st : List MVal} {μ : MMem} {Q : MVal → MMem → Prop} : At 81 1 ls st μ Q = Rn 81 B81_1 ls st μ Q := rfl
theorem t81_2 {ls st : List MVal} {μ : MMem} {Q : MVal → MMem → Prop} : At 81 2 ls st μ Q = Rn 81 B81_2 ls st μ Q := rfl
theorem t82_0 {ls st : List MVal} {μ : MMem} {Q : MVal → MMem → Prop} : At 82 0 ls st μ Q = Rn 82 B82_0 ls st μ Q := rfl
theorem t82_1 {ls st : List MVal} {μ : MMem} {Q : MVal → MMem → Prop} : At 82 1 ls st μ Q = Rn 82 B82_1 ls st μ Q := rfl
theorem t82_2 {ls st : List MVal} {μ : MMem} {Q : MVal → MMem → Prop} : At 82 2 ls st μ Q = Rn 82 B82_2 ls st μ Q := rfl
theorem t82_3 {ls st : List MVal} {μ : MMem} {Q : MVal → MMem → Prop} : At 82 3 ls st μ Q = Rn 82 B82_3 ls st μ Q := rfl
theorem t83_0 {ls st : List MVal} {μ : MMem} {Q : MVal → MMem → Prop} : At 83 0 ls st μ Q = Rn 83 B83_0 ls st μ Q := rfl
theorem t83_1 {ls st : List MVal} {μ : MMem} {Q : MVal → MMem → Prop} : At 83 1 ls st μ Q = Rn 83 B83_1 ls st μ Q := rfl
theorem t83_2 {ls st : List MVal} {μ : MMem} {Q : MVal → MMem → Prop} : At 83 2 ls st μ Q = Rn 83 B83_2 ls st μ Q := rfl
theorem t83_3 {ls st : List MVal} {μ : MMem} {Q : MVal → MMem → Prop} : At 83 3 ls st μ Q = Rn 83 B83_3 ls st μ Q := rfl
theorem t84_0 {ls st : List MVal} {μ : MMem} {Q : MVal → MMem → Prop} : At 84 0 ls st μ Q = Rn 84 B84_0 ls st μ Q := rfl
theorem t84_1 {ls st : List MVal} {μ : MMem} {Q : MVal → MMem → Prop} : At 84 1 ls st μ Q = Rn 84 B84_1 ls st μ Q := rfl
theorem t84_2 {ls st : List MVal} {μ : MMem} {Q : MVal → MMem → Prop} : At 84 2 ls st μ Q = Rn 84 B84_2 ls st μ Q := rfl
theorem t84_3 {ls st : List MVal} {μ : MMem} {Q : MVal → MMem → Prop} : At 84 3 ls st μ Q = Rn 84 B84_3 ls st μ Q := rfl
theorem t84_4 {ls st : List MVal} {μ : MMem} {Q : MVal → MMem → Prop} : At 84 4 ls st μ Q = Rn 84 B84_4 ls st μ Q := rfl
theorem t84_5 {ls st : List MVal} {μ : MMem} {Q : MVal → MMem → Prop} : At 84 5 ls st μ Q = Rn 84 B84_5 ls st μ Q := rfl
theorem t84_6 {ls st : List MVal} {μ : MMem} {Q : MVal → MMem → Prop} : At 84 6 ls st μ Q = Rn 84 B84_6 ls st μ Q := rfl
theorem t84_7 {ls st : List MVal} {μ : MMem} {Q : MVal → MMem → Prop} : At 84 7 ls st μ Q = Rn 84 B84_7 ls st μ Q := rfl
theorem t85_0 {ls st : List MVal} {μ : MMem} {Q : MVal → MMem → Prop} : At 85 0 ls st μ Q = Rn 85 B85_0 ls st μ Q := rfl
theorem t85_1 {ls st : List MVal} {μ : MMem} {Q : MVal → MMem → Prop} : At 85 1 ls st μ Q = Rn 85 B85_1 ls st μ Q := rfl
theorem t85_2 {ls st : List MVal} {μ : MMem} {Q : MVal → MMem → Prop} : At 85 2 ls st μ Q = Rn 85 B85_2 ls st μ Q := rfl
theorem t85_3 {ls st : List MVal} {μ : MMem} {Q : MVal → MMem → Prop} : At 85 3 ls st μ Q = Rn 85 B85_3 ls st μ Q := rfl
theorem t85_4 {ls st : List MVal} {μ : MMem} {Q : MVal → MMem → Prop} : At 85 4 ls st μ Q = Rn 85 B85_4 ls st μ Q := rfl
theorem t85_5 {ls st : List MVal} {μ : MMem} {Q : MVal → MMem → Prop} : At 85 5 ls st μ Q = Rn 85 B85_5 ls st μ Q := rfl
theorem t86_0 {ls st : List MVal} {μ : MMem} {Q : MVal → MMem → Prop} : At 86 0 ls st μ Q = Rn 86 B86_0 ls st μ Q := rfl
theorem t86_1 {ls st : List MVal} {μ : MMem} {Q : MVal → MMem → Prop} : At 86 1 ls st μ Q = Rn 86 B86_1 ls st μ Q := rfl
theorem t86_2 {ls st : List MVal} {μ : MMem} {Q : MVal → MMem → Prop} : At 86 2 ls st μ Q = Rn 86 B86_2 ls st μ Q := rfl
theorem t86_3 {ls st : List MVal} {μ : MMem} {Q : MVal → MMem → Prop} : At 86 3 ls st μ Q = Rn 86 B86_3 ls st μ Q := rfl
theorem t86_4 {ls st : List MVal} {μ : MMem} {Q : MVal → MMem → Prop} : At 86 4 ls st μ Q = Rn 86 B86_4 ls st μ Q := rfl
theorem t86_5 {ls st : List MVal} {μ : MMem} {Q : MVal → MMem → Prop} : At 86 5 ls st μ Q = Rn 86 B86_5 ls st μ Q := rfl
theorem t86_6 {ls st : List MVal} {μ : MMem} {Q : MVal → MMem → Prop} : At 86 6 ls st μ Q = Rn 86 B86_6 ls st μ Q := rfl
theorem t86_7 {ls st : List MVal} {μ : MMem} {Q : MVal → MMem → Prop} : At 86 7 ls st μ Q = Rn 86 B86_7 ls st μ Q := rfl
theorem t86_8 {ls st : List MVal} {μ : MMem} {Q : MVal → MMem → Prop} : At 86 8 ls st μ Q = Rn 86 B86_8 ls st μ Q := rfl
theorem t86_9 {ls st : List MVal} {μ : MMem} {Q : MVal → MMem → Prop} : At 86 9 ls st μ Q = Rn 86 B86_9 ls st μ Q := rfl
theorem t86_10 {ls st : List MVal} {μ : MMem} {Q : MVal → MMem → Prop} : At 86 10 ls st μ Q = Rn 86 B86_10 ls st μ Q := rfl
theorem t87_0 {ls st : List MVal} {μ : MMem} {Q : MVal → MMem → Prop} : At 87 0 ls st μ Q = Rn 87 B87_0 ls st μ Q := rfl
theorem t87_1 {ls st : List MVal} {μ : MMem} {Q : MVal → MMem → Prop} : At 87 1 ls st μ Q = Rn 87 B87_1 ls st μ Q := rfl
theorem t87_2 {ls st : List MVal} {μ : MMem} {Q : MVal → MMem → Prop} : At 87 2 ls st μ Q = Rn 87 B87_2 ls st μ Q := rfl
theorem t87_3 {ls st : List MVal} {μ : MMem} {Q : MVal → MMem → Prop} : At 87 3 ls st μ Q = Rn 87 B87_3 ls st μ Q := rfl
theorem t87_4 {ls st : List MVal} {μ : MMem} {Q : MVal → MMem → Prop} : At 87 4 ls st μ Q = Rn 87 B87_4 ls st μ Q := rfl
theorem t87_5 {ls st : List MVal} {μ : MMem} {Q : MVal → MMem → Prop} : At 87 5 ls st μ Q = Rn 87 B87_5 ls st μ Q := rfl
theorem t87_6 {ls st : List MVal} {μ : MMem} {Q : MVal → MMem → Prop} : At 87 6 ls st μ Q = Rn 87 B87_6 ls st μ Q := rfl
theorem t87_7 {ls st : List MVal} {μ : MMem} {Q : MVal → MMem → Prop} : At 87 7 ls st μ Q = Rn 87 B87_7 ls st μ Q := rfl
theorem t87_8 {ls st : List MVal} {μ : MMem} {Q : MVal → MMem → Prop} : At 87 8 ls st μ Q = Rn 87 B87_8 ls st μ Q := rfl
theorem t88_0 {ls st : List MVal} {μ : MMem} {Q : MVal → MMem → Prop} : At 88 0 ls st μ Q = Rn 88 B88_0 ls st μ Q := rfl
theorem t88_1 {ls st : List MVal} {μ : MMem} {Q : MVal → MMem → Prop} : At 88 1 ls st μ Q = Rn 88 B88_1 ls st μ Q := rfl
theorem t88_2 {ls st : List MVal} {μ : MMem} {Q : MVal → MMem → Prop} : At 88 2 ls st μ Q = Rn 88 B88_2 ls st μ Q := rfl
theorem t88_3 {ls st : List MVal} {μ : MMem} {Q : MVal → MMem → Prop} : At 88 3 ls st μ Q = Rn 88 B88_3 ls st μ Q := rfl
theorem t88_4 {ls st : List MVal} {μ : MMem} {Q : MVal → MMem → Prop} : At 88 4 ls st μ Q = Rn 88 B88_4 ls st μ Q := rfl
theorem t89_0 {ls st : List MVal} {μ : MMem} {Q : MVal → MMem → Prop} : At 89 0 ls st μ Q = Rn 89 B89_0 ls st μ Q := rfl
theorem t89_1 {ls st : List MVal} {μ : MMem} {Q : MVal → MMem → Prop} : At 89 1 ls st μ Q = Rn 89 B89_1 ls st μ Q := rfl
theorem t89_2 {ls st : List MVal} {μ : MMem} {Q : MVal → MMem → Prop} : At 89 2 ls st μ Q = Rn 89 B89_2 ls st μ Q := rfl
theorem t89_3 {ls st : List MVal} {μ : MMem} {Q : MVal → MMem → Prop} : At 89 3 ls st μ Q = Rn 89 B89_3 ls st μ Q := rfl
theorem t89_4 {ls st : List MVal} {μ : MMem} {Q : MVal → MMem → Prop} : At 89 4 ls st μ Q = Rn 89 B89_4 ls st μ Q := rfl
theorem t89_5 {ls st : List MVal} {μ : MMem} {Q : MVal → MMem → Prop} : At 89 5 ls st μ Q = Rn 89 B89_5 ls st μ Q := rfl
theorem t89_6 {ls st : List MVal} {μ : MMem} {Q : MVal → MMem → Prop} : At 89 6 ls st μ Q = Rn 89 B89_6 ls st μ Q := rfl
theorem t90_0 {ls st : List MVal} {μ : MMem} {Q : MVal → MMem → Prop} : At 90 0 ls st μ Q = Rn 90 B90_0 ls st μ Q := rfl
theorem t91_0 {ls st : List MVal} {μ : MMem} {Q : MVal → MMem → Prop} : At 91 0 ls st μ Q = Rn 91 B91_0 ls st μ Q := rfl
theorem t92_0 {ls st : List MVal} {μ : MMem} {Q : MVal → MMem → Prop} : At 92 0 ls st μ Q = Rn 92 B92_0 ls st μ Q := rfl
theorem t92_1 {ls st : List MVal} {μ : MMem} {Q : MVal → MMem → Prop} : At 92 1 ls st μ Q = Rn 92 B92_1 ls st μ Q := rfl
theorem t92_2 {ls st : List MVal} {μ : MMem} {Q : MVal → MMem → Prop} : At 92 2 ls st μ Q = Rn 92 B92_2 ls st μ Q := rfl
theorem t93_0 {ls st : List MVal} {μ : MMem} {Q : MVal → MMem → Prop} : At 93 0 ls st μ Q = Rn 93 B93_0 ls st μ Q := rfl
theorem t93_1 {ls st : List MVal} {μ : MMem} {Q : MVal → MMem → Prop} : At 93 1 ls st μ Q = Rn 93 B93_1 ls st μ Q := rfl
theorem t93_2 {ls st : List MVal} {μ : MMem} {Q : MVal → MMem → Prop} : At 93 2 ls st μ Q = Rn 93 B93_2 ls st μ Q := rfl
theorem t94_0 {ls st : List MVal} {μ : MMem} {Q : MVal → MMem → Prop} : At 94 0 ls st μ Q = Rn 94 B94_0 ls st μ Q := rfl
theorem t94_1 {ls st : List MVal} {μ : MMem} {Q : MVal → MMem → Prop} : At 94 1 ls st μ Q = Rn 94 B94_1 ls st μ Q := rfl
theorem t94_2 {ls st : List MVal} {μ : MMem} {Q : MVal → MMem → Prop} : At 94 2 ls st μ Q = Rn 94 B94_2 ls st μ Q := rfl
theorem t95_0 {ls st : List MVal} {μ : MMem} {Q : MVal → MMem → Prop} : At 95 0 ls st μ Q = Rn 95 B95_0 ls st μ Q := rfl
theorem t95_1 {ls st : List MVal} {μ : MMem} {Q : MVal → MMem → Prop} : At 95 1 ls st μ Q = Rn 95 B95_1 ls st μ Q := rfl
theorem t95_2 {ls st : List MVal} {μ : MMem} {Q : MVal → MMem → Prop} : At 95 2 ls st μ Q = Rn 95 B95_2 ls st μ Q := rfl
theorem t96_0 {ls st : List MVal} {μ : MMem} {Q : MVal → MMem → Prop} : At 96 0 ls st μ Q = Rn 96 B96_0 ls st μ Q := rfl
theorem t96_1 {ls st : List MVal} {μ : MMem} {Q : MVal → MMem → Prop} : At 96 1 ls st μ Q = Rn 96 B96_1 ls st μ Q := rfl
theorem t96_2 {ls st : List MVal} {μ : MMem} {Q : MVal → MMem → Prop} : At 96 2 ls st μ Q = Rn 96 B96_2 ls st μ Q := rfl
theorem t97_0 {ls st : List MVal} {μ : MMem} {Q : MVal → MMem → Prop} : At 97 0 ls st μ Q = Rn 97 B97_0 ls st μ Q := rfl
theorem t97_1 {ls st : List MVal} {μ : MMem} {Q : MVal → MMem → Prop} : At 97 1 ls st μ Q = Rn 97 B97_1 ls st μ Q := rfl
theorem t97_2 {ls st : List MVal} {μ : MMem} {Q : MVal → MMem → Prop} : At 97 2 ls st μ Q = Rn 97 B97_2 ls st μ Q := rfl
theorem t97_3 {ls st : List MVal} {μ : MMem} {Q : MVal → MMem → Prop} : At 97 3 ls st μ Q = Rn 97 B97_3 ls st μ Q := rfl
theorem t98_0 {ls st : List MVal} {μ : MMem} {Q : MVal → MMem → Prop} : At 98 0 ls st μ Q = Rn 98 B98_0 ls st μ Q := rfl
theorem t98_1 {ls st : List MVal} {μ : MMem} {Q : MVal → MMem → Prop} : At 98 1 ls st μ Q = Rn 98 B98_1 ls st μ Q := rfl
theorem t98_2 {ls st : List MVal} {μ : MMem} {Q : MVal → MMem → Prop} : At 98 2 ls st μ Q = Rn 98 B98_2 ls st μ Q := rfl
theorem t99_0 {ls st : List MVal} {μ : MMem} {Q : MVal → MMem → Prop} : At 99 0 ls st μ Q = Rn 99 B99_0 ls st μ Q := rfl
theorem t100_0 {ls st : List MVal} {μ : MMem} {Q : MVal → MMem → Prop} : At 100 0 ls st μ Q = Rn 100 B100_0 ls st μ Q := rfl
theorem t101_0 {ls st : List MVal} {μ : MMem} {Q : MVal → MMem → Prop} : At 101 0 ls st μ Q = Rn 101 B101_0 ls st μ Q := rfl
theorem t101_1 {ls st : List MVal} {μ : MMem} {Q : MVal → MMem → Prop} : At 101 1 ls st μ Q = Rn 101 B101_1 ls st μ Q := rfl
theorem t101_2 {ls st : List MVal} {μ : MMem} {Q : MVal → MMem → Prop} : At 101 2 ls st μ Q = Rn 101 B101_2 ls st μ Q := rfl
theorem t101_3 {ls st : List MVal} {μ : MMem} {Q : MVal → MMem → Prop} : At 101 3 ls st μ Q = Rn 101 B101_3 ls st μ Q := rfl
theorem t102_0 {ls st : List MVal} {μ : MMem} {Q : MVal → MMem → Prop} : At 102 0 ls st μ Q = Rn 102 B102_0 ls st μ Q := rfl
theorem t102_1 {ls st : List MVal} {μ : MMem} {Q : MVal → MMem → Prop} : At 102 1 ls st μ Q = Rn 102 B102_1 ls st μ Q := rfl
theorem t102_2 {ls st : List MVal} {μ : MMem} {Q : MVal → MMem → Prop} : At 102 2 ls st μ Q = Rn 102 B102_2 ls st μ Q := rfl
theorem t103_0 {ls st : List MVal} {μ : MMem} {Q : MVal → MMem → Prop} : At 103 0 ls st μ Q = Rn 103 B103_0 ls st μ Q := rfl
theorem t104_0 {ls st : List MVal} {μ : MMem} {Q : MVal → MMem → Prop} : At 104 0 ls st μ Q = Rn 104 B104_0 ls st μ Q := rfl
theorem t105_0 {ls st : List MVal} {μ : MMem} {Q : MVal → MMem → Prop} : At 105 0 ls st μ Q = Rn 105 B105_0 ls st μ Q := rfl
theorem t105_1 {ls st : List MVal} {μ : MMem} {Q : MVal → MMem → Prop} : At 105 1 ls st μ Q = Rn 105 B105_1 ls st μ Q := rfl
theorem t105_2 {ls st : List MVal} {μ : MMem} {Q : MVal → MMem → Prop} : At 105 2 ls st μ Q = Rn 105 B105_2 ls st μ Q := rfl
theorem t106_0 {ls st : List MVal} {μ : MMem} {Q : MVal → MMem → Prop} : At 106 0 ls st μ Q = Rn 106 B106_0 ls st μ Q := rfl
theorem t106_1 {ls st : List MVal} {μ : MMem} {Q : MVal → MMem → Prop} : At 106 1 ls st μ Q = Rn 106 B106_1 ls st μ Q := rfl
theorem t106_2 {ls st : List MVal} {μ : MMem} {Q : MVal → MMem → Prop} : At 106 2 ls st μ Q = Rn 106 B106_2 ls st μ Q := rfl
theorem t107_0 {ls st : List MVal} {μ : MMem} {Q : MVal → MMem → Prop} : At 107 0 ls st μ Q = Rn 107 B107_0 ls st μ Q := rfl
theorem t107_1 {ls st : List MVal} {μ : MMem} {Q : MVal → MMem → Prop} : At 107 1 ls st μ Q = Rn 107 B107_1 ls st μ Q := rfl
theorem t107_2 {ls st : List MVal} {μ : MMem} {Q : MVal → MMem → Prop} : At 107 2 ls st μ Q = Rn 107 B107_2 ls st μ Q := rfl
theorem t108_0 {ls st : List MVal} {μ : MMem} {Q : MVal → MMem → Prop} : At 108 0 ls st μ Q = Rn 108 B108_0 ls st μ Q := rfl
theorem t108_1 {ls st : List MVal} {μ : MMem} {Q : MVal → MMem → Prop} : At 108 1 ls st μ Q = Rn 108 B108_1 ls st μ Q := rfl
theorem t108_2 {ls st : List MVal} {μ : MMem} {Q : MVal → MMem → Prop} : At 108 2 ls st μ Q = Rn 108 B108_2 ls st μ Q := rfl
theorem t109_0 {ls st : List MVal} {μ : MMem} {Q : MVal → MMem → Prop} : At 109 0 ls st μ Q = Rn 109 B109_0 ls st μ Q := rfl
theorem t109_1 {ls st : List MVal} {μ : MMem} {Q : MVal → MMem → Prop} : At 109 1 ls st μ Q = Rn 109 B109_1 ls st μ Q := rfl
theorem t109_2 {ls st : List MVal} {μ : MMem} {Q : MVal → MMem → Prop} : At 109 2 ls st μ Q = Rn 109 B109_2 ls st μ Q := rfl
theorem t109_3 {ls st : List MVal} {μ : MMem} {Q : MVal → MMem → Prop} : At 109 3 ls st μ Q = Rn 109 B109_3 ls st μ Q := rfl
theorem t109_4 {ls st : List MVal} {μ : MMem} {Q : MVal → MMem → Prop} : At 109 4 ls st μ Q = Rn 109 B109_4 ls st μ Q := rfl
theorem t110_0 {ls st : List MVal} {μ : MMem} {Q : MVal → MMem → Prop} : At 110 0 ls st μ Q = Rn 110 B110_0 ls st μ Q := rfl
theorem t111_0 {ls st : List MVal} {μ : MMem} {Q : MVal → MMem → Prop} : At 111 0 ls st μ Q = Rn 111 B111_0 ls st μ Q := rfl
theorem t112_0 {ls st : List MVal} {μ : MMem} {Q : MVal → MMem → Prop} : At 112 0 ls st μ Q = Rn 112 B112_0 ls st μ Q := rfl
theorem t112_1 {ls st : List MVal} {μ : MMem} {Q : MVal → MMem → Prop} : At 112 1 ls st μ Q = Rn 112 B112_1 ls st μ Q := rfl
theorem t112_2 {ls st : List MVal} {μ : MMem} {Q : MVal → MMem → Prop} : At 112 2 ls st μ Q = Rn 112 B112_2 ls st μ Q := rfl
theorem t112_3 {ls st : List MVal} {μ : MMem} {Q : MVal → MMem → Prop} : At 112 3 ls st μ Q = Rn 112 B112_3 ls st μ Q := rfl
theorem t112_4 {ls st : List MVal} {μ : MMem} {Q : MVal → MMem → Prop} : At 112 4 ls st μ Q = Rn 112 B112_4 ls st μ Q := rfl
theorem t112_5 {ls st : List MVal} {μ : MMem} {Q : MVal → MMem → Prop} : At 112 5 ls st μ Q = Rn 112 B112_5 ls st μ Q := rfl
theorem t113_0 {ls st : List MVal} {μ : MMem} {Q : MVal → MMem → Prop} : At 113 0 ls st μ Q = Rn 113 B113_0 ls st μ Q := rfl
theorem t113_1 {ls st : List MVal} {μ : MMem} {Q : MVal → MMem → Prop} : At 113 1 ls st μ Q = Rn 113 B113_1 ls st μ Q := rfl
theorem t113_2 {ls st : List MVal} {μ : MMem} {Q : MVal → MMem → Prop} : At 113 2 ls st μ Q = Rn 113 B113_2 ls st μ Q := rfl
theorem t114_0 {ls st : List MVal} {μ : MMem} {Q : MVal → MMem → Prop} : At 114 0 ls st μ Q = Rn 114 B114_0 ls st μ Q := rfl
theorem t114_1 {ls st : List MVal} {μ : MMem} {Q : MVal → MMem → Prop} : At 114 1 ls st μ Q = Rn 114 B114_1 ls st μ Q := rfl
theorem t114_2 {ls st : List MVal} {μ : MMem} {Q : MVal → MMem → Prop} : At 114 2 ls st μ Q = Rn 114 B114_2 ls st μ Q := rfl
theorem t114_3 {ls st : List MVal} {μ : MMem} {Q : MVal → MMem → Prop} : At 114 3 ls st μ Q = Rn 114 B114_3 ls st μ Q := rfl
theorem t114_4 {ls st : List MVal} {μ : MMem} {Q : MVal → MMem → Prop} : At 114 4 ls st μ Q = Rn 114 B114_4 ls st μ Q := rfl
theorem t115_0 {ls st : List MVal} {μ : MMem} {Q : MVal → MMem → Prop} : At 115 0 ls st μ Q = Rn 115 B115_0 ls st μ Q := rfl
theorem t115_1 {ls st : List MVal} {μ : MMem} {Q : MVal → MMem → Prop} : At 115 1 ls st μ Q = Rn 115 B115_1 ls st μ Q := rfl
theorem t115_2 {ls st : List MVal} {μ : MMem} {Q : MVal → MMem → Prop} : At 115 2 ls st μ Q = Rn 115 B115_2 ls st μ Q := rfl
theorem t115_3 {ls st : List MVal} {μ : MMem} {Q : MVal → MMem → Prop} : At 115 3 ls st μ Q = Rn 115 B115_3 ls st μ Q := rfl
theorem t116_0 {ls st : List MVal} {μ : MMem} {Q : MVal → MMem → Prop} : At 116 0 ls st μ Q = Rn 116 B116_0 ls st μ Q := rfl
theorem t116_1 {ls st : List MVal} {μ : MMem} {Q : MVal → MMem → Prop} : At 116 1 ls st μ Q = Rn 116 B116_1 ls st μ Q := rfl
theorem t116_2 {ls st : List MVal} {μ : MMem} {Q : MVal → MMem → Prop} : At 116 2 ls st μ Q = Rn 116 B116_2 ls st μ Q := rfl
theorem t116_3 {ls st : List MVal} {μ : MMem} {Q : MVal → MMem → Prop} : At 116 3 ls st μ Q = Rn 116 B116_3 ls st μ Q := rfl
theorem t117_0 {ls st : List MVal} {μ : MMem} {Q : MVal → MMem → Prop} : At 117 0 ls st μ Q = Rn 117 B117_0 ls st μ Q := rfl
theorem t117_1 {ls st : List MVal} {μ : MMem} {Q : MVal → MMem → Prop} : At 117 1 ls st μ Q = Rn 117 B117_1 ls st μ Q := rfl
theorem t117_2 {ls st : List MVal} {μ : MMem} {Q : MVal → MMem → Prop} : At 117 2 ls st μ Q = Rn 117 B117_2 ls st μ Q := rfl
theorem t118_0 {ls st : List MVal} {μ : MMem} {Q : MVal → MMem → Prop} : At 118 0 ls st μ Q = Rn 118 B118_0 ls st μ Q := rfl
theorem t118_1 {ls st : List MVal} {μ : MMem} {Q : MVal → MMem → Prop} : At 118 1 ls st μ Q = Rn 118 B118_1 ls st μ Q := rfl
theorem t118_2 {ls st : List MVal} {μ : MMem} {Q : MVal → MMem → Prop} : At 118 2 ls st μ Q = Rn 118 B118_2 ls st μ Q := rfl
theorem t118_3 {ls st : List MVal} {μ : MMem} {Q : MVal → MMem → Prop} : At 118 3 ls st μ Q = Rn 118 B118_3 ls st μ Q := rfl
theorem t118_4 {ls st : List MVal} {μ : MMem} {Q : MVal → MMem → Prop} : At 118 4 ls st μ Q = Rn 118 B118_4 ls st μ Q := rfl
theorem t118_5 {ls st : List MVal} {μ : MMem} {Q : MVal → MMem → Prop} : At 118 5 ls st μ Q = Rn 118 B118_5 ls st μ Q := rfl
theorem t118_6 {ls st : List MVal} {μ : MMem} {Q : MVal → MMem → Prop} : At 118 6 ls st μ Q = Rn 118 B118_6 ls st μ Q := rfl
theorem t118_7 {ls st : List MVal} {μ : MMem} {Q : MVal → MMem → Prop} : At 118 7 ls st μ Q = Rn 118 B118_7 ls st μ Q := rfl
theorem t118_8 {ls st : List MVal} {μ : MMem} {Q : MVal → MMem → Prop} : At 118 8 ls st μ Q = Rn 118 B118_8 ls st μ Q := rfl
theorem t118_9 {ls st : List MVal} {μ : MMem} {Q : MVal → MMem → Prop} : At 118 9 ls st μ Q = Rn 118 B118_9 ls st μ Q := rfl
theorem t118_10 {ls st : List MVal} {μ : MMem} {Q : MVal → MMem → Prop} : At 118 10 ls st μ Q = Rn 118 B118_10 ls st μ Q := rfl
theorem t118_11 {ls st : List MVal} {μ : MMem} {Q : MVal → MMem → Prop} : At 118 11 ls st μ Q = Rn 118 B118_11 ls st μ Q := rfl
theorem t119_0 {ls st : List MVal} {μ : MMem} {Q : MVal → MMem → Prop} : At 119 0 ls st μ Q = Rn 119 B119_0 ls st μ Q := rfl
theorem t119_1 {ls st : List MVal} {μ : MMem} {Q : MVal → MMem → Prop} : At 119 1 ls st μ Q = Rn 119 B119_1 ls st μ Q := rfl
theorem t119_2 {ls st : List MVal} {μ : MMem} {Q : MVal → MMem → Prop} : At 119 2 ls st μ Q = Rn 119 B119_2 ls st μ Q := rfl
theorem t119_3 {ls st : List MVal} {μ : MMem} {Q : MVal → MMem → Prop} : At 119 3 ls st μ Q = Rn 119 B119_3 ls st μ Q := rfl
theorem t119_4 {ls st : List MVal} {μ : MMem} {Q : MVal → MMem → Prop} : At 119 4 ls st μ Q = Rn 119 B119_4 ls st μ Q := rfl
theorem t119_5 {ls st : List MVal} {μ : MMem} {Q : MVal → MMem → Prop} : At 119 5 ls st μ Q = Rn 119 B119_5 ls st μ Q := rfl
theorem t120_0 {ls st : List MVal} {μ : MMem} {Q : MVal → MMem → Prop} : At 120 0 ls st μ Q = Rn 120 B120_0 ls st μ Q := rfl
theorem t120_1 {ls st : List MVal} {μ : MMem} {Q : MVal → MMem → Prop} : At 120 1 ls st μ Q = Rn 120 B120_1 ls st μ Q := rfl
theorem t121_0 {ls st : List MVal} {μ : MMem} {Q : MVal → MMem → Prop} : At 121 0 ls st μ Q = Rn 121 B121_0 ls st μ Q := rfl
theorem t121_1 {ls st : List MVal} {μ : MMem} {Q : MVal → MMem → Prop} : At 121 1 ls st μ Q = Rn 121 B121_1 ls st μ Q := rfl
theorem t121_2 {ls st : List MVal} {μ : MMem} {Q : MVal → MMem → Prop} : At 121 2 ls st μ Q = Rn 121 B121_2 ls st μ Q := rfl
theorem t122_0 {ls st : List MVal} {μ : MMem} {Q : MVal → MMem → Prop} : At 122 0 ls st μ Q = Rn 122 B122_0 ls st μ Q := rfl
theorem t122_1 {ls st : List MVal} {μ : MMem} {Q : MVal → MMem → Prop} : At 122 1 ls st μ Q = Rn 122 B122_1 ls st μ Q := rfl
theorem t122_2 {ls st : List MVal} {μ : MMem} {Q : MVal → MMem → Prop} : At 122 2 ls st μ Q = Rn 122 B122_2 ls st μ Q := rfl
theorem t123_0 {ls st : List MVal} {μ : MMem} {Q : MVal → MMem → Prop} : At 123 0 ls st μ Q = Rn 123 B123_0 ls st μ Q := rfl
theorem t123_1 {ls st : List MVal} {μ : MMem} {Q : MVal → MMem → Prop} : At 123 1 ls st μ Q = Rn 123 B123_1 ls st μ Q := rfl
theorem t123_2 {ls st : List MVal} {μ : MMem} {Q : MVal → MMem → Prop} : At 123 2 ls st μ Q = Rn 123 B123_2 ls st μ Q := rfl
theorem t124_0 {ls st : List MVal} {μ : MMem} {Q : MVal → MMem → Prop} : At 124 0 ls st μ Q = Rn 124 B124_0 ls st μ Q := rfl
theorem t124_1 {ls st : List MVal} {μ : MMem} {Q : MVal → MMem → Prop} : At 124 1 ls st μ Q = Rn 124 B124_1 ls st μ Q := rfl
theorem t124_2 {ls st : List MVal} {μ : MMem} {Q : MVal → MMem → Prop} : At 124 2 ls st μ Q = Rn 124 B124_2 ls st μ Q := rfl
theorem t124_3 {ls st : List MVal} {μ : MMem} {Q : MVal → MMem → Prop} : At 124 3 ls st μ Q = Rn 124 B124_3 ls st μ Q := rfl
theorem t124_4 {ls st : List MVal} {μ : MMem} {Q : MVal → MMem → Prop} : At 124 4 ls st μ Q = Rn 124 B124_4 ls st μ Q := rfl
theorem t124_5 {ls st : List MVal} {μ : MMem} {Q : MVal → MMem → Prop} : At 124 5 ls st μ Q = Rn 124 B124_5 ls st μ Q := rfl
theorem t124_6 {ls st : List MVal} {μ : MMem} {Q : MVal → MMem → Prop} : At 124 6 ls st μ Q = Rn 124 B124_6 ls st μ Q := rfl
theorem t124_7 {ls st : List MVal} {μ : MMem} {Q : MVal → MMem → Prop} : At 124 7 ls st μ Q = Rn 124 B124_7 ls st μ Q := rfl
theorem t124_8 {ls st : List MVal} {μ : MMem} {Q : MVal → MMem → Prop} : At 124 8 ls st μ Q = Rn 124 B124_8 ls st μ Q := rfl
theorem t125_0 {ls st : List MVal} {μ : MMem} {Q : MVal → MMem → Prop} : At 125 0 ls st μ Q = Rn 125 B125_0 ls st μ Q := rfl
theorem t125_1 {ls st : List MVal} {μ : MMem} {Q : MVal → MMem → Prop} : At 125 1 ls st μ Q = Rn 125 B125_1 ls st μ Q := rfl
theorem t125_2 {ls st : List MVal} {μ : MMem} {Q : MVal → MMem → Prop} : At 125 2 ls st μ Q = Rn 125 B125_2 ls st μ Q := rfl
theorem t125_3 {ls st : List MVal} {μ : MMem} {Q : MVal → MMem → Prop} : At 125 3 ls st μ Q = Rn 125 B125_3 ls st μ Q := rfl
theorem t125_4 {ls st : List MVal} {μ : MMem} {Q : MVal → MMem → Prop} : At 125 4 ls st μ Q = Rn 125 B125_4 ls st μ Q := rfl
theorem t125_5 {ls st : List MVal} {μ : MMem} {Q : MVal → MMem → Prop} : At 125 5 ls st μ Q = Rn 125 B125_5 ls st μ Q := rfl
theorem t125_6 {ls st : List MVal} {μ : MMem} {Q : MVal → MMem → Prop} : At 125 6 ls st μ Q = Rn 125 B125_6 ls st μ Q := rfl
theorem t125_7 {ls st : List MVal} {μ : MMem} {Q : MVal → MMem → Prop} : At 125 7 ls st μ Q = Rn 125 B125_7 ls st μ Q := rfl
theorem t126_0 {ls st : List MVal} {μ : MMem} {Q : MVal → MMem → Prop} : At 126 0 ls st μ Q = Rn 126 B126_0 ls st μ Q := rfl
theorem t126_1 {ls st : List MVal} {μ : MMem} {Q : MVal → MMem → Prop} : At 126 1 ls st μ Q = Rn 126 B126_1 ls st μ Q := rfl
theorem t126_2 {ls st : List MVal} {μ : MMem} {Q : MVal → MMem → Prop} : At 126 2 ls st μ Q = Rn 126 B126_2 ls st μ Q := rfl
theorem t127_0 {ls st : List MVal} {μ : MMem} {Q : MVal → MMem → Prop} : At 127 0 ls st μ Q = Rn 127 B127_0 ls st μ Q := rfl
theorem t127_1 {ls st : List MVal} {μ : MMem} {Q : MVal → MMem → Prop} : At 127 1 ls st μ Q = Rn 127 B127_1 ls st μ Q := rfl
theorem t127_2 {ls st : List MVal} {μ : MMem} {Q : MVal → MMem → Prop} : At 127 2 ls st μ Q = Rn 127 B127_2 ls st μ Q := rfl
theorem t127_3 {ls st : List MVal} {μ : MMem} {Q : MVal → MMem → Prop} : At 127 3 ls st μ Q = Rn 127 B127_3 ls st μ Q := rfl
theorem t127_4 {ls st : List MVal} {μ : MMem} {Q : MVal → MMem → Prop} : At 127 4 ls st μ Q = Rn 127 B127_4 ls st μ Q := rfl
theorem t127_5 {ls st : List MVal} {μ : MMem} {Q : MVal → MMem → Prop} : At 127 5 ls st μ Q = Rn 127 B127_5 ls st μ Q := rfl
theorem t127_6 {ls st : List MVal} {μ : MMem} {Q : MVal → MMem → Prop} : At 127 6 ls st μ Q = Rn 127 B127_6 ls st μ Q := rfl
theorem t127_7 {ls st : List MVal} {μ : MMem} {Q : MVal → MMem → Prop} : At 127 7 ls st μ Q = Rn 127 B127_7 ls st μ Q := rfl
theorem t128_0 {ls st : List MVal} {μ : MMem} {Q : MVal → MMem → Prop} : At 128 0 ls st μ Q = Rn 128 B128_0 ls st μ Q := rfl
theorem t128_1 {ls st : List MVal} {μ : MMem} {Q : MVal → MMem → Prop} : At 128 1 ls st μ Q = Rn 128 B128_1 ls st μ Q := rfl
theorem t128_2 {ls st : List MVal} {μ : MMem} {Q : MVal → MMem → Prop} : At 128 2 ls st μ Q = Rn 128 B128_2 ls st μ Q := rfl
theorem t128_3 {ls st : List MVal} {μ : MMem} {Q : MVal → MMem → Prop} : At 128 3 ls st μ Q = Rn 128 B128_3 ls st μ Q := rfl
theorem t128_4 {ls st : List MVal} {μ : MMem} {Q : MVal → MMem → Prop} : At 128 4 ls st μ Q = Rn 128 B128_4 ls st μ Q := rfl
theorem t128_5 {ls st : List MVal} {μ : MMem} {Q : MVal → MMem → Prop} : At 128 5 ls st μ Q = Rn 128 B128_5 ls st μ Q := rfl
theorem t128_6 {ls st : List MVal} {μ : MMem} {Q : MVal → MMem → Prop} : At 128 6 ls st μ Q = Rn 128 B128_6 ls st μ Q := rfl
theorem t128_7 {ls st : List MVal} {μ : MMem} {Q : MVal → MMem → Prop} : At 128 7 ls st μ Q = Rn 128 B128_7 ls st μ Q := rfl
theorem t129_0 {ls st : List MVal} {μ : MMem} {Q : MVal → MMem → Prop} : At 129 0 ls st μ Q = Rn 129 B129_0 ls st μ Q := rfl
theorem t129_1 {ls st : List MVal} {μ : MMem} {Q : MVal → MMem → Prop} : At 129 1 ls st μ Q = Rn 129 B129_1 ls st μ Q := rfl
theorem t129_2 {ls st : List MVal} {μ : MMem} {Q : MVal → MMem → Prop} : At 129 2 ls st μ Q = Rn 129 B129_2 ls st μ Q := rfl
theorem t130_0 {ls st : List MVal} {μ : MMem} {Q : MVal → MMem → Prop} : At 130 0 ls st μ Q = Rn 130 B130_0 ls st μ Q := rfl
theorem t130_1 {ls st : List MVal} {μ : MMem} {Q : MVal → MMem → Prop} : At 130 1 ls st μ Q = Rn 130 B130_1 ls st μ Q := rfl
theorem t130_2 {ls st : List MVal} {μ : MMem} {Q : MVal → MMem → Prop} : At 130 2 ls st μ Q = Rn 130 B130_2 ls st μ Q := rfl
theorem t131_0 {ls st : List MVal} {μ : MMem} {Q : MVal → MMem → Prop} : At 131 0 ls st μ Q = Rn 131 B131_0 ls st μ Q := rfl
theorem t132_0 {ls st : List MVal} {μ : MMem} {Q : MVal → MMem → Prop} : At 132 0 ls st μ Q = Rn 132 B132_0 ls st μ Q := rfl
theorem t133_0 {ls st : List MVal} {μ : MMem} {Q : MVal → MMem → Prop} : At 133 0 ls st μ Q = Rn 133 B133_0 ls st μ Q := rfl
theorem t134_0 {ls st : List MVal} {μ : MMem} {Q : MVal → MMem → Prop} : At 134 0 ls st μ Q = Rn 134 B134_0 ls st μ Q := rfl
theorem t134_1 {ls st : List MVal} {μ : MMem} {Q : MVal → MMem → Prop} : At 134 1 ls st μ Q = Rn 134 B134_1 ls st μ Q := rfl
theorem t134_2 {ls st : List MVal} {μ : MMem} {Q : MVal → MMem → Prop} : At 134 2 ls st μ Q = Rn 134 B134_2 ls st μ Q := rfl
theorem t135_0 {ls st : List MVal} {μ : MMem} {Q : MVal → MMem → Prop} : At 135 0 ls st μ Q = Rn 135 B135_0 ls st μ Q := rfl
theorem t135_1 {ls st : List MVal} {μ : MMem} {Q : MVal → MMem → Prop} : At 135 1 ls st μ Q = Rn 135 B135_1 ls st μ Q := rfl
theorem t135_2 {ls st : List MVal} {μ : MMem} {Q : MVal → MMem → Prop} : At 135 2 ls st μ Q = Rn 135 B135_2 ls st μ Q := rfl
theorem t136_0 {ls st : List MVal} {μ : MMem} {Q : MVal → MMem → Prop} : At 136 0 ls st μ Q = Rn 136 B136_0 ls st μ Q := rfl
theorem t137_0 {ls st : List MVal} {μ : MMem} {Q : MVal → MMem → Prop} : At 137 0 ls st μ Q = Rn 137 B137_0 ls st μ Q := rfl
theorem t137_1 {ls st : List MVal} {μ : MMem} {Q : MVal → MMem → Prop} : At 137 1 ls st μ Q = Rn 137 B137_1 ls st μ Q := rfl
theorem t137_2 {ls st : List MVal} {μ : MMem} {Q : MVal → MMem → Prop} : At 137 2 ls st μ Q = Rn 137 B137_2 ls st μ Q := rfl
theorem t137_3 {ls st : List MVal} {μ : MMem} {Q : MVal → MMem → Prop} : At 137 3 ls st μ Q = Rn 137 B137_3 ls st μ Q := rfl
theorem t138_0 {ls st : List MVal} {μ : MMem} {Q : MVal → MMem → Prop} : At 138 0 ls st μ Q = Rn 138 B138_0 ls st μ Q := rfl
theorem t138_1 {ls st : List MVal} {μ : MMem} {Q : MVal → MMem → Prop} : At 138 1 ls st μ Q = Rn 138 B138_1 ls st μ Q := rfl
theorem t139_0 {ls st : List MVal} {μ : MMem} {Q : MVal → MMem → Prop} : At 139 0 ls st μ Q = Rn 139 B139_0 ls st μ Q := rfl
theorem t139_1 {ls st : List MVal} {μ : MMem} {Q : MVal → MMem → Prop} : At 139 1 ls st μ Q = Rn 139 B139_1 ls st μ Q := rfl
theorem t139_2 {ls st : List MVal} {μ : MMem} {Q : MVal → MMem → Prop} : At 139 2 ls st μ Q = Rn 139 B139_2 ls st μ Q := rfl
theorem t139_3 {ls st : List MVal} {μ : MMem} {Q : MVal → MMem → Prop} : At 139 3 ls st μ Q = Rn 139 B139_3 ls st μ Q := rfl
theorem t139_4 {ls st : List MVal} {μ : MMem} {Q : MVal → MMem → Prop} : At 139 4 ls st μ Q = Rn 139 B139_4 ls st μ Q := rfl
theorem t139_5 {ls st : List MVal} {μ : MMem} {Q : MVal → MMem → Prop} : At 139 5 ls st μ Q = Rn 139 B139_5 ls st μ Q := rfl
theorem t139_6 {ls st : List MVal} {μ : MMem} {Q : MVal → MMem → Prop} : At 139 6 ls st μ Q = Rn 139 B139_6 ls st μ Q := rfl
theorem t139_7 {ls st : List MVal} {μ : MMem} {Q : MVal → MMem → Prop} : At 139 7 ls st μ Q = Rn 139 B139_7 ls st μ Q := rfl
theorem t139_8 {ls st : List MVal} {μ : MMem} {Q : MVal → MMem → Prop} : At 139 8 ls st μ Q = Rn 139 B139_8 ls st μ Q := rfl
theorem t140_0 {ls st : List MVal} {μ : MMem} {Q : MVal → MMem → Prop} : At 140 0 ls st μ Q = Rn 140 B140_0 ls st μ Q := rfl
theorem t140_1 {ls st : List MVal} {μ : MMem} {Q : MVal → MMem → Prop} : At 140 1 ls st μ Q = Rn 140 B140_1 ls st μ Q := rfl
theorem t140_2 {ls st : List MVal} {μ : MMem} {Q : MVal → MMem → Prop} : At 140 2 ls st μ Q = Rn 140 B140_2 ls st μ Q := rfl
theorem t141_0 {ls st : List MVal} {μ : MMem} {Q : MVal → MMem → Prop} : At 141 0 ls st μ Q = Rn 141 B141_0 ls st μ Q := rfl
theorem t141_1 {ls st : List MVal} {μ : MMem} {Q : MVal → MMem → Prop} : At 141 1 ls st μ Q = Rn 141 B141_1 ls st μ Q := rfl
theorem t141_2 {ls st : List MVal} {μ : MMem} {Q : MVal → MMem → Prop} : At 141 2 ls st μ Q = Rn 141 B141_2 ls st μ Q := rfl
theorem t141_3 {ls st : List MVal} {μ : MMem} {Q : MVal → MMem → Prop} : At 141 3 ls st μ Q = Rn 141 B141_3 ls st μ Q := rfl
theorem t141_4 {ls st : List MVal} {μ : MMem} {Q : MVal → MMem → Prop} : At 141 4 ls st μ Q = Rn 141 B141_4 ls st μ Q := rfl
theorem t141_5 {ls st : List MVal} {μ : MMem} {Q : MVal → MMem → Prop} : At 141 5 ls st μ Q = Rn 141 B141_5 ls st μ Q := rfl
theorem t142_0 {ls st : List MVal} {μ : MMem} {Q : MVal → MMem → Prop} : At 142 0 ls st μ Q = Rn 142 B142_0 ls st μ Q := rfl
theorem t142_1 {ls st : List MVal} {μ : MMem} {Q : MVal → MMem → Prop} : At 142 1 ls st μ Q = Rn 142 B142_1 ls st μ Q := rfl
theorem t142_2 {ls st : List MVal} {μ : MMem} {Q : MVal → MMem → Prop} : At 142 2 ls st μ Q = Rn 142 B142_2 ls st μ Q := rfl
theorem t142_3 {ls st : List MVal} {μ : MMem} {Q : MVal → MMem → Prop} : At 142 3 ls st μ Q = Rn 142 B142_3 ls st μ Q := rfl
theorem t142_4 {ls st : List MVal} {μ : MMem} {Q : MVal → MMem → Prop} : At 142 4 ls st μ Q = Rn 142 B142_4 ls st μ Q := rfl
theorem t142_5 {ls st : List MVal} {μ : MMem} {Q : MVal → MMem → Prop} : At 142 5 ls st μ Q = Rn 142 B142_5 ls st μ Q := rfl
theorem t143_0 {ls st : List MVal} {μ : MMem} {Q : MVal → MMem → Prop} : At 143 0 ls st μ Q = Rn 143 B143_0 ls st μ Q := rfl
theorem t144_0 {ls st : List MVal} {μ : MMem} {Q : MVal → MMem → Prop} : At 144 0 ls st μ Q = Rn 144 B144_0 ls st μ Q := rfl
theorem t144_1 {ls st : List MVal} {μ : MMem} {Q : MVal → MMem → Prop} : At 144 1 ls st μ Q = Rn 144 B144_1 ls st μ Q := rfl
theorem t144_2 {ls st : List MVal} {μ : MMem} {Q : MVal → MMem → Prop} : At 144 2 ls st μ Q = Rn 144 B144_2 ls st μ Q := rfl
theorem t144_3 {ls st : List MVal} {μ : MMem} {Q : MVal → MMem → Prop} : At 144 3 ls st μ Q = Rn 144 B144_3 ls st μ Q := rfl
theorem t144_4 {ls st : List MVal} {μ : MMem} {Q : MVal → MMem → Prop} : At 144 4 ls st μ Q = Rn 144 B144_4 ls st μ Q := rfl
theorem t144_5 {ls st : List MVal} {μ : MMem} {Q : MVal → MMem → Prop} : At 144 5 ls st μ Q = Rn 144 B144_5 ls st μ Q := rfl
theorem t144_6 {ls st : List MVal} {μ : MMem} {Q : MVal → MMem → Prop} : At 144 6 ls st μ Q = Rn 144 B144_6 ls st μ Q := rfl
theorem t144_7 {ls st : List MVal} {μ : MMem} {Q : MVal → MMem → Prop} : At 144 7 ls st μ Q = Rn 144 B144_7 ls st μ Q := rfl
theorem t144_8 {ls st : List MVal} {μ : MMem} {Q : MVal → MMem → Prop} : At 144 8 ls st μ Q = Rn 144 B144_8 ls st μ Q := rfl
theorem t144_9 {ls st : List MVal} {μ : MMem} {Q : MVal → MMem → Prop} : At 144 9 ls st μ Q = Rn 144 B144_9 ls st μ Q := rfl
theorem t145_0 {ls st : List MVal} {μ : MMem} {Q : MVal → MMem → Prop} : At 145 0 ls st μ Q = Rn 145 B145_0 ls st μ Q := rfl
theorem t145_1 {ls st : List MVal} {μ : MMem} {Q : MVal → MMem → Prop} : At 145 1 ls st μ Q = Rn 145 B145_1 ls st μ Q := rfl
theorem t145_2 {ls st : List MVal} {μ : MMem} {Q : MVal → MMem → Prop} : At 145 2 ls st μ Q = Rn 145 B145_2 ls st μ Q := rfl
theorem t145_3 {ls st : List MVal} {μ : MMem} {Q : MVal → MMem → Prop} : At 145 3 ls st μ Q = Rn 145 B145_3 ls st μ Q := rfl
theorem t145_4 {ls st : List MVal} {μ : MMem} {Q : MVal → MMem → Prop} : At 145 4 ls st μ Q = Rn 145 B145_4 ls st μ Q := rfl
theorem t145_5 {ls st : List MVal} {μ : MMem} {Q : MVal → MMem → Prop} : At 145 5 ls st μ Q = Rn 145 B145_5 ls st μ Q := rfl
theorem t145_6 {ls st : List MVal} {μ : MMem} {Q : MVal → MMem → Prop} : At 145 6 ls st μ Q = Rn 145 B145_6 ls st μ Q := rfl
theorem t145_7 {ls st : List MVal} {μ : MMem} {Q : MVal → MMem → Prop} : At 145 7 ls st μ Q = Rn 145 B145_7 ls st μ Q := rfl
theorem t145_8 {ls st : List MVal} {μ : MMem} {Q : MVal → MMem → Prop} : At 145 8 ls st μ Q = Rn 145 B145_8 ls st μ Q := rfl
theorem t145_9 {ls st : List MVal} {μ : MMem} {Q : MVal → MMem → Prop} : At 145 9 ls st μ Q = Rn 145 B145_9 ls st μ Q := rfl
theorem t145_10 {ls st : List MVal} {μ : MMem} {Q : MVal → MMem → Prop} : At 145 10 ls st μ Q = Rn 145 B145_10 ls st μ Q := rfl
theorem t146_0 {ls st : List MVal} {μ : MMem} {Q : MVal → MMem → Prop} : At 146 0 ls st μ Q = Rn 146 B146_0 ls st μ Q := rfl
theorem t146_1 {ls st : List MVal} {μ : MMem} {Q : MVal → MMem → Prop} : At 146 1 ls st μ Q = Rn 146 B146_1 ls st μ Q := rfl
theorem t146_2 {ls st : List MVal} {μ : MMem} {Q : MVal → MMem → Prop} : At 146 2 ls st μ Q = Rn 146 B146_2 ls st μ Q := rfl
theorem t146_3 {ls st : List MVal} {μ : MMem} {Q : MVal → MMem → Prop} : At 146 3 ls st μ Q = Rn 146 B146_3 ls st μ Q := rfl
theorem t146_4 {ls st : List MVal} {μ : MMem} {Q : MVal → MMem → Prop} : At 146 4 ls st μ Q = Rn 146 B146_4 ls st μ Q := rfl
theorem t146_5 {ls st : List MVal} {μ : MMem} {Q : MVal → MMem → Prop} : At 146 5 ls st μ Q = Rn 146 B146_5 ls st μ Q := rfl
theorem t146_6 {ls st : List MVal} {μ : MMem} {Q : MVal → MMem → Prop} : At 146 6 ls st μ Q = Rn 146 B146_6 ls st μ Q := rfl
theorem t146_7 {ls st : List MVal} {μ : MMem} {Q : MVal → MMem → Prop} : At 146 7 ls st μ Q = Rn 146 B146_7 ls st μ Q := rfl
theorem t146_8 {ls st : List MVal} {μ : MMem} {Q : MVal → MMem → Prop} : At 146 8 ls st μ Q = Rn 146 B146_8 ls st μ Q := rfl
theorem t146_9 {ls st : List MVal} {μ : MMem} {Q : MVal → MMem → Prop} : At 146 9 ls st μ Q = Rn 146 B146_9 ls st μ Q := rfl
theorem t146_10 {ls st : List MVal} {μ : MMem} {Q : MVal → MMem → Prop} : At 146 10 ls st μ Q = Rn 146 B146_10 ls st μ Q := rfl
theorem t146_11 {ls st : List MVal} {μ : MMem} {Q : MVal → MMem → Prop} : At 146 11 ls st μ Q = Rn 146 B146_11 ls st μ Q := rfl
theorem t146_12 {ls st : List MVal} {μ : MMem} {Q : MVal → MMem → Prop} : At 146 12 ls st μ Q = Rn 146 B146_12 ls st μ Q := rfl
theorem t147_0 {ls st : List MVal} {μ : MMem} {Q : MVal → MMem → Prop} : At 147 0 ls st μ Q = Rn 147 B147_0 ls st μ Q := rfl
theorem t147_1 {ls st : List MVal} {μ : MMem} {Q : MVal → MMem → Prop} : At 147 1 ls st μ Q = Rn 147 B147_1 ls st μ Q := rfl
theorem t147_2 {ls st : List MVal} {μ : MMem} {Q : MVal → MMem → Prop} : At 147 2 ls st μ Q = Rn 147 B147_2 ls st μ Q := rfl
theorem t147_3 {ls st : List MVal} {μ : MMem} {Q : MVal → MMem → Prop} : At 147 3 ls st μ Q = Rn 147 B147_3 ls st μ Q := rfl
theorem t147_4 {ls st : List MVal} {μ : MMem} {Q : MVal → MMem → Prop} : At 147 4 ls st μ Q = Rn 147 B147_4 ls st μ Q := rfl
theorem t147_5 {ls st : List MVal} {μ : MMem} {Q : MVal → MMem → Prop} : At 147 5 ls st μ Q = Rn 147 B147_5 ls st μ Q := rfl
theorem t147_6 {ls st : List MVal} {μ : MMem} {Q : MVal → MMem → Prop} : At 147 6 ls st μ Q = Rn 147 B147_6 ls st μ Q := rfl
theorem t148_0 {ls st : List MVal} {μ : MMem} {Q : MVal → MMem → Prop} : At 148 0 ls st μ Q = Rn 148 B148_0 ls st μ Q := rfl
theorem t148_1 {ls st : List MVal} {μ : MMem} {Q : MVal → MMem → Prop} : At 148 1 ls st μ Q = Rn 148 B148_1 ls st μ Q := rfl
theorem t148_2 {ls st : List MVal} {μ : MMem} {Q : MVal → MMem → Prop} : At 148 2 ls st μ Q = Rn 148 B148_2 ls st μ Q := rfl
theorem t148_3 {ls st : List MVal} {μ : MMem} {Q : MVal → MMem → Prop} : At 148 3 ls st μ Q = Rn 148 B148_3 ls st μ Q := rfl
theorem t148_4 {ls st : List MVal} {μ : MMem} {Q : MVal → MMem → Prop} : At 148 4 ls st μ Q = Rn 148 B148_4 ls st μ Q := rfl
theorem t148_5 {ls st : List MVal} {μ : MMem} {Q : MVal → MMem → Prop} : At 148 5 ls st μ Q = Rn 148 B148_5 ls st μ Q := rfl
theorem t148_6 {ls st : List MVal} {μ : MMem} {Q : MVal → MMem → Prop} : At 148 6 ls st μ Q = Rn 148 B148_6 ls st μ Q := rfl
theorem t149_0 {ls st : List MVal} {μ : MMem} {Q : MVal → MMem → Prop} : At 149 0 ls st μ Q = Rn 149 B149_0 ls st μ Q := rfl
theorem t150_0 {ls st : List MVal} {μ : MMem} {Q : MVal → MMem → Prop} : At 150 0 ls st μ Q = Rn 150 B150_0 ls st μ Q := rfl
theorem t151_0 {ls st : List MVal} {μ : MMem} {Q : MVal → MMem → Prop} : At 151 0 ls st μ Q = Rn 151 B151_0 ls st μ Q := rfl
theorem t151_1 {ls st : List MVal} {μ : MMem} {Q : MVal → MMem → Prop} : At 151 1 ls st μ Q = Rn 151 B151_1 ls st μ Q := rfl
theorem t151_2 {ls st : List MVal} {μ : MMem} {Q : MVal → MMem → Prop} : At 151 2 ls st μ Q = Rn 151 B151_2 ls st μ Q := rfl
theorem t151_3 {ls st : List MVal} {μ : MMem} {Q : MVal → MMem → Prop} : At 151 3 ls st μ Q = Rn 151 B151_3 ls st μ Q := rfl
theorem t151_4 {ls st : List MVal} {μ : MMem} {Q : MVal → MMem → Prop} : At 151 4 ls st μ Q = Rn 151 B151_4 ls st μ Q := rfl
theorem t151_5 {ls st : List MVal} {μ : MMem} {Q : MVal → MMem → Prop} : At 151 5 ls st μ Q = Rn 151 B151_5 ls st μ Q := rfl
theorem t152_0 {ls st : List MVal} {μ : MMem} {Q : MVal → MMem → Prop} : At 152 0 ls st μ Q = Rn 152 B152_0 ls st μ Q := rfl
theorem t152_1 {ls st : List MVal} {μ : MMem} {Q : MVal → MMem → Prop} : At 152 1 ls st μ Q = Rn 152 B152_1 ls st μ Q := rfl
theorem t152_2 {ls st : List MVal} {μ : MMem} {Q : MVal → MMem → Prop} : At 152 2 ls st μ Q = Rn 152 B152_2 ls st μ Q := rfl
theorem t153_0 {ls st : List MVal} {μ : MMem} {Q : MVal → MMem → Prop} : At 153 0 ls st μ Q = Rn 153 B153_0 ls st μ Q := rfl
theorem t153_1 {ls st : List MVal} {μ : MMem} {Q : MVal → MMem → Prop} : At 153 1 ls st μ Q = Rn 153 B153_1 ls st μ Q := rfl
theorem t153_2 {ls st : List MVal} {μ : MMem} {Q : MVal → MMem → Prop} : At 153 2 ls st μ Q = Rn 153 B153_2 ls st μ Q := rfl
theorem t153_3 {ls st : List MVal} {μ : MMem} {Q : MVal → MMem → Prop} : At 153 3 ls st μ Q = Rn 153 B153_3 ls st μ Q := rfl
theorem t154_0 {ls st : List MVal} {μ : MMem} {Q : MVal → MMem → Prop} : At 154 0 ls st μ Q = Rn 154 B154_0 ls st μ Q := rfl
theorem t154_1 {ls st : List MVal} {μ : MMem} {Q : MVal → MMem → Prop} : At 154 1 ls st μ Q = Rn 154 B154_1 ls st μ Q := rfl
theorem t154_2 {ls st : List MVal} {μ : MMem} {Q : MVal → MMem → Prop} : At 154 2 ls st μ Q = Rn 154 B154_2 ls st μ Q := rfl
theorem t155_0 {ls st : List MVal} {μ : MMem} {Q : MVal → MMem → Prop} : At 155 0 ls st μ Q = Rn 155 B155_0 ls st μ Q := rfl
theorem t155_1 {ls st : List MVal} {μ : MMem} {Q : MVal → MMem → Prop} : At 155 1 ls st μ Q = Rn 155 B155_1 ls st μ Q := rfl
theorem t155_2 {ls st : List MVal} {μ : MMem} {Q : MVal → MMem → Prop} : At 155 2 ls st μ Q = Rn 155 B155_2 ls st μ Q := rfl
theorem t156_0 {ls st : List MVal} {μ : MMem} {Q : MVal → MMem → Prop} : At 156 0 ls st μ Q = Rn 156 B156_0 ls st μ Q := rfl
theorem t156_1 {ls st : List MVal} {μ : MMem} {Q : MVal → MMem → Prop} : At 156 1 ls st μ Q = Rn 156 B156_1 ls st μ Q := rfl
theorem t156_2 {ls st : List MVal} {μ : MMem} {Q : MVal → MMem → Prop} : At 156 2 ls st μ Q = Rn 156 B156_2 ls st μ Q := rfl
theorem t157_0 {ls st : List MVal} {μ : MMem} {Q : MVal → MMem → Prop} : At 157 0 ls st μ Q = Rn 157 B157_0 ls st μ Q := rfl
theorem t157_1 {ls st : List MVal} {μ : MMem} {Q : MVal → MMem → Prop} : At 157 1 ls st μ Q = Rn 157 B157_1 ls st μ Q := rfl
theorem t157_2 {ls st : List MVal} {μ : MMem} {Q : MVal → MMem → Prop} : At 157 2 ls st μ Q = Rn 157 B157_2 ls st μ Q := rfl
theorem t157_3 {ls st : List MVal} {μ : MMem} {Q : MVal → MMem → Prop} : At 157 3 ls st μ Q = Rn 157 B157_3 ls st μ Q := rfl
theorem t157_4 {ls st : List MVal} {μ : MMem} {Q : MVal → MMem → Prop} : At 157 4 ls st μ Q = Rn 157 B157_4 ls st μ Q := rfl
theorem t157_5 {ls st : List MVal} {μ : MMem} {Q : MVal → MMem → Prop} : At 157 5 ls st μ Q = Rn 157 B157_5 ls st μ Q := rfl
theorem t157_6 {ls st : List MVal} {μ : MMem} {Q : MVal → MMem → Prop} : At 157 6 ls st μ Q = Rn 157 B157_6 ls st μ Q := rfl
theorem t157_7 {ls st : List MVal} {μ : MMem} {Q : MVal → MMem → Prop} : At 157 7 ls st μ Q = Rn 157 B157_7 ls st μ Q := rfl
theorem t158_0 {ls st : List MVal} {μ : MMem} {Q : MVal → MMem → Prop} : At 158 0 ls st μ Q = Rn 158 B158_0 ls st μ Q := rfl
theorem t158_1 {ls st : List MVal} {μ : MMem} {Q : MVal → MMem → Prop} : At 158 1 ls st μ Q = Rn 158 B158_1 ls st μ Q := rfl
theorem t158_2 {ls st : List MVal} {μ : MMem} {Q : MVal → MMem → Prop} : At 158 2 ls st μ Q = Rn 158 B158_2 ls st μ Q := rfl
theorem t159_0 {ls st : List MVal} {μ : MMem} {Q : MVal → MMem → Prop} : At 159 0 ls st μ Q = Rn 159 B159_0 ls st μ Q := rfl
theorem t159_1 {ls st : List MVal} {μ : MMem} {Q : MVal → MMem → Prop} : At 159 1 ls st μ Q = Rn 159 B159_1 ls st μ Q := rfl
theorem t159_2 {ls st : List MVal} {μ : MMem} {Q : MVal → MMem → Prop} : At 159 2 ls st μ Q = Rn 159 B159_2 ls st μ Q := rfl
theorem t160_0 {ls st : List MVal} {μ : MMem} {Q : MVal → MMem → Prop} : At 160 0 ls st μ Q = Rn 160 B160_0 ls st μ Q := rfl
theorem t160_1 {ls st : List MVal} {μ : MMem} {Q : MVal → MMem → Prop} : At 160 1 ls st μ Q = Rn 160 B160_1 ls st μ Q := rfl
theorem t160_2 {ls st : List MVal} {μ : MMem} {Q : MVal → MMem → Prop} : At 160 2 ls st μ Q = Rn 160 B160_2 ls st μ Q := rfl
theorem t161_0 {ls st : List MVal} {μ : MMem} {Q : MVal → MMem → Prop} : At 161 0 ls st μ Q = Rn 161 B161_0 ls st μ Q := rfl
theorem t161_1 {ls st : List MVal} {μ : MMem} {Q : MVal → MMem → Prop} : At 161 1 ls st μ Q = Rn 161 B161_1 ls st μ Q := rfl
theorem t161_2 {ls st : List MVal} {μ : MMem} {Q : MVal → MMem → Prop} : At 161 2 ls st μ Q = Rn 161 B161_2 ls st μ Q := rfl
theorem t161_3 {ls st : List MVal} {μ : MMem} {Q : MVal → MMem → Prop} : At 161 3 ls st μ Q = Rn 161 B161_3 ls st μ Q := rfl
theorem t161_4 {ls st : List MVal} {μ : MMem} {Q : MVal → MMem → Prop} : At 161 4 ls st μ Q = Rn 161 B161_4 ls st μ Q := rfl
theorem t161_5 {ls st : List MVal} {μ : MMem} {Q : MVal → MMem → Prop} : At 161 5 ls st μ Q = Rn 161 B161_5 ls st μ Q := rfl
theorem t162_0 {ls st : List MVal} {μ : MMem} {Q : MVal → MMem → Prop} : At 162 0 ls st μ Q = Rn 162 B162_0 ls st μ Q := rfl
theorem t163_0 {ls st : List MVal} {μ : MMem} {Q : MVal → MMem → Prop} : At 163 0 ls st μ Q = Rn 163 B163_0 ls st μ Q := rfl
theorem t163_1 {ls st : List MVal} {μ : MMem} {Q : MVal → MMem → Prop} : At 163 1 ls st μ Q = Rn 163 B163_1 ls st μ Q := rfl
theorem t163_2 {ls st : List MVal} {μ : MMem} {Q : MVal → MMem → Prop} : At 163 2 ls st μ Q = Rn 163 B163_2 ls st μ Q := rfl
theorem t163_3 {ls st : List MVal} {μ : MMem} {Q : MVal → MMem → Prop} : At 163 3 ls st μ Q = Rn 163 B163_3 ls st μ Q := rfl
theorem t163_4 {ls st : List MVal} {μ : MMem} {Q : MVal → MMem → Prop} : At 163 4 ls st μ Q = Rn 163 B163_4 ls st μ Q := rfl
theorem t163_5 {ls st : List MVal} {μ : MMem} {Q : MVal → MMem → Prop} : At 163 5 ls st μ Q = Rn 163 B163_5 ls st μ Q := rfl
theorem t163_6 {ls st : List MVal} {μ : MMem} {Q : MVal → MMem → Prop} : At 163 6 ls st μ Q = Rn 163 B163_6 ls st μ Q := rfl
theorem t163_7 {ls st : List MVal} {μ : MMem} {Q : MVal → MMem → Prop} : At 163 7 ls st μ Q = Rn 163 B163_7 ls st μ Q := rfl
theorem t163_8 {ls st : List MVal} {μ : MMem} {Q : MVal → MMem → Prop} : At 163 8 ls st μ Q = Rn 163 B163_8 ls st μ Q := rfl
theorem t164_0 {ls st : List MVal} {μ : MMem} {Q : MVal → MMem → Prop} : At 164 0 ls st μ Q = Rn 164 B164_0 ls st μ Q := rfl
theorem t164_1 {ls st : List MVal} {μ : MMem} {Q : MVal → MMem → Prop} : At 164 1 ls st μ Q = Rn 164 B164_1 ls st μ Q := rfl
theorem t164_2 {ls st : List MVal} {μ : MMem} {Q : MVal → MMem → Prop} : At 164 2 ls st μ Q = Rn 164 B164_2 ls st μ Q := rfl
theorem t165_0 {ls st : List MVal} {μ : MMem} {Q : MVal → MMem → Prop} : At 165 0 ls st μ Q = Rn 165 B165_0 ls st μ Q := rfl
theorem t165_1 {ls st : List MVal} {μ : MMem} {Q : MVal → MMem → Prop} : At 165 1 ls st μ Q = Rn 165 B165_1 ls st μ Q := rfl
theorem t165_2 {ls st : List MVal} {μ : MMem} {Q : MVal → MMem → Prop} : At 165 2 ls st μ Q = Rn 165 B165_2 ls st μ Q := rfl
theorem t165_3 {ls st : List MVal} {μ : MMem} {Q : MVal → MMem → Prop} : At 165 3 ls st μ Q = Rn 165 B165_3 ls st μ Q := rfl
theorem t165_4 {ls st : List MVal} {μ : MMem} {Q : MVal → MMem → Prop} : At 165 4 ls st μ Q = Rn 165 B165_4 ls st μ Q := rfl
theorem t166_0 {ls st : List MVal} {μ : MMem} {Q : MVal → MMem → Prop} : At 166 0 ls st μ Q = Rn 166 B166_0 ls st μ Q := rfl
theorem t166_1 {ls st : List MVal} {μ : MMem} {Q : MVal → MMem → Prop} : At 166 1 ls st μ Q = Rn 166 B166_1 ls st μ Q := rfl
theorem t166_2 {ls st : List MVal} {μ : MMem} {Q : MVal → MMem → Prop} : At 166 2 ls st μ Q = Rn 166 B166_2 ls st μ Q := rfl
theorem t166_3 {ls st : List MVal} {μ : MMem} {Q : MVal → MMem → Prop} : At 166 3 ls st μ Q = Rn 166 B166_3 ls st μ Q := rfl
theorem t166_4 {ls st : List MVal} {μ : MMem} {Q : MVal → MMem → Prop} : At 166 4 ls st μ Q = Rn 166 B166_4 ls st μ Q := rfl
theorem t166_5 {ls st : List MVal} {μ : MMem} {Q : MVal → MMem → Prop} : At 166 5 ls st μ Q = Rn 166 B166_5 ls st μ Q := rfl
theorem t166_6 {ls st : List MVal} {μ : MMem} {Q : MVal → MMem → Prop} : At 166 6 ls st μ Q = Rn 166 B166_6 ls st μ Q := rfl
theorem t166_7 {ls st : List MVal} {μ : MMem} {Q : MVal → MMem → Prop} : At 166 7 ls st μ Q = Rn 166 B166_7 ls st μ Q := rfl
theorem t166_8 {ls st : List MVal} {μ : MMem} {Q : MVal → MMem → Prop} : At 166 8 ls st μ Q = Rn 166 B166_8 ls st μ Q := rfl
theorem t167_0 {ls st : List MVal} {μ : MMem} {Q : MVal → MMem → Prop} : At 167 0 ls st μ Q = Rn 167 B167_0 ls st μ Q := rfl
theorem t167_1 {ls st : List MVal} {μ : MMem} {Q : MVal → MMem → Prop} : At 167 1 ls st μ Q = Rn 167 B167_1 ls st μ Q := rfl
theorem t167_2 {ls st : List MVal} {μ : MMem} {Q : MVal → MMem → Prop} : At 167 2 ls st μ Q = Rn 167 B167_2 ls st μ Q := rfl
theorem t168_0 {ls st : List MVal} {μ : MMem} {Q : MVal → MMem → Prop} : At 168 0 ls st μ Q = Rn 168 B168_0 ls st μ Q := rfl
theorem t168_1 {ls st : List MVal} {μ : MMem} {Q : MVal → MMem → Prop} : At 168 1 ls st μ Q = Rn 168 B168_1 ls st μ Q := rfl
theorem t168_2 {ls st : List MVal} {μ : MMem} {Q : MVal → MMem → Prop} : At 168 2 ls st μ Q = Rn 168 B168_2 ls st μ Q := rfl
theorem t169_0 {ls st : List MVal} {μ : MMem} {Q : MVal → MMem → Prop} : At 169 0 ls st μ Q = Rn 169 B169_0 ls st μ Q := rfl
theorem t169_1 {ls st : List MVal} {μ : MMem} {Q : MVal → MMem → Prop} : At 169 1 ls st μ Q = Rn 169 B169_1 ls st μ Q := rfl
theorem t169_2 {ls st : List MVal} {μ : MMem} {Q : MVal → MMem → Prop} : At 169 2 ls st μ Q = Rn 169 B169_2 ls st μ Q := rfl
theorem t170_0 {ls st : List MVal} {μ : MMem} {Q : MVal → MMem → Prop} : At 170 0 ls st μ Q = Rn 170 B170_0 ls st μ Q := rfl
theorem t170_1 {ls st : List MVal} {μ : MMem} {Q : MVal → MMem → Prop} : At 170 1 ls st μ Q = Rn 170 B170_1 ls st μ Q := rfl
theorem t170_2 {ls st : List MVal} {μ : MMem} {Q : MVal → MMem → Prop} : At 170 2 ls st μ Q = Rn 170 B170_2 ls st μ Q := rfl
theorem t171_0 {ls st : List MVal} {μ : MMem} {Q : MVal → MMem → Prop} : At 171 0 ls st μ Q = Rn 171 B171_0 ls st μ Q := rfl
theorem t171_1 {ls st : List MVal} {μ : MMem} {Q : MVal → MMem → Prop} : At 171 1 ls st μ Q = Rn 171 B171_1 ls st μ Q := rfl
theorem t171_2 {ls st : List MVal} {μ : MMem} {Q : MVal → MMem → Prop} : At 171 2 ls st μ Q = Rn 171 B171_2 ls st μ Q := rfl
theorem t171_3 {ls st : List MVal} {μ : MMem} {Q : MVal → MMem → Prop} : At 171 3 ls st μ Q = Rn 171 B171_3 ls st μ Q := rfl
theorem t171_4 {ls st : List MVal} {μ : MMem} {Q : MVal → MMem → Prop} : At 171 4 ls st μ Q = Rn 171 B171_4 ls st μ Q := rfl
theorem t171_5 {ls st : List MVal} {μ : MMem} {Q : MVal → MMem → Prop} : At 171 5 ls st μ Q = Rn 171 B171_5 ls st μ Q := rfl
theorem t171_6 {ls st : List MVal} {μ : MMem} {Q : MVal → MMem → Prop} : At 171 6 ls st μ Q = Rn 171 B171_6 ls st μ Q := rfl
theorem t171_7 {ls st : List MVal} {μ : MMem} {Q : MVal → MMem → Prop} : At 171 7 ls st μ Q = Rn 171 B171_7 ls st μ Q := rfl
theorem t171_8 {ls st : List MVal} {μ : MMem} {Q : MVal → MMem → Prop} : At 171 8 ls st μ Q = Rn 171 B171_8 ls st μ Q := rfl
theorem t171_9 {ls st : List MVal} {μ : MMem} {Q : MVal → MMem → Prop} : At 171 9 ls st μ Q = Rn 171 B171_9 ls st μ Q := rfl
theorem t171_10 {ls st : List MVal} {μ : MMem} {Q : MVal → MMem → Prop} : At 171 10 ls st μ Q = Rn 171 B171_10 ls st μ Q := rfl
theorem t171_11 {ls st : List MVal} {μ : MMem} {Q : MVal → MMem → Prop} : At 171 11 ls st μ Q = Rn 171 B171_11 ls st μ Q := rfl
theorem t171_12 {ls st : List MVal} {μ : MMem} {Q : MVal → MMem → Prop} : At 171 12 ls st μ Q = Rn 171 B171_12 ls st μ Q := rfl
theorem t171_13 {ls st : List MVal} {μ : MMem} {Q : MVal → MMem → Prop} : At 171 13 ls st μ Q = Rn 171 B171_13 ls st μ Q := rfl
theorem t171_14 {ls st : List MVal} {μ : MMem} {Q : MVal → MMem → Prop} : At 171 14 ls st μ Q = Rn 171 B171_14 ls st μ Q := rfl
theorem t171_15 {ls st : List MVal} {μ : MMem} {Q : MVal → MMem → Prop} : At 171 15 ls st μ Q = Rn 171 B171_15 ls st μ Q := rfl
theorem t171_16 {ls st : List MVal} {μ : MMem} {Q : MVal → MMem → Prop} : At 171 16 ls st μ Q = Rn 171 B171_16 ls st μ Q := rfl
theorem t171_17 {ls st : List MVal} {μ : MMem} {Q : MVal → MMem → Prop} : At 171 17 ls st μ Q = Rn 171 B171_17 ls st μ Q := rfl
theorem t172_0 {ls st : List MVal} {μ : MMem} {Q : MVal → MMem → Prop} : At 172 0 ls st μ Q = Rn 172 B172_0 ls st μ Q := rfl
theorem t172_1 {ls st : List MVal} {μ : MMem} {Q : MVal → MMem → Prop} : At 172 1 ls st μ Q = Rn 172 B172_1 ls st μ Q := rfl
theorem t172_2 {ls st : List MVal} {μ : MMem} {Q : MVal → MMem → Prop} : At 172 2 ls st μ Q = Rn 172 B172_2 ls st μ Q := rfl
theorem t173_0 {ls st : List MVal} {μ : MMem} {Q : MVal → MMem → Prop} : At 173 0 ls st μ Q = Rn 173 B173_0 ls st μ Q := rfl
theorem t173_1 {ls st : List MVal} {μ : MMem} {Q : MVal → MMem → Prop} : At 173 1 ls st μ Q = Rn 173 B173_1 ls st μ Q := rfl
theorem t173_2 {ls st : List MVal} {μ : MMem} {Q : MVal → MMem → Prop} : At 173 2 ls st μ Q = Rn 173 B173_2 ls st μ Q := rfl
theorem t173_3 {ls st : List MVal} {μ : MMem} {Q : MVal → MMem → Prop} : At 173 3 ls st μ Q = Rn 173 B173_3 ls st μ Q := rfl
theorem t174_0 {ls st : List MVal} {μ : MMem} {Q : MVal → MMem → Prop} : At 174 0 ls st μ Q = Rn 174 B174_0 ls st μ Q := rfl
theorem t175_0 {ls st : List MVal} {μ : MMem} {Q : MVal → MMem → Prop} : At 175 0 ls st μ Q = Rn 175 B175_0 ls st μ Q := rfl
theorem t175_1 {ls st : List MVal} {μ : MMem} {Q : MVal → MMem → Prop} : At 175 1 ls st μ Q = Rn 175 B175_1 ls st μ Q := rfl
theorem t175_2 {ls st : List MVal} {μ : MMem} {Q : MVal → MMem → Prop} : At 175 2 ls st μ Q = Rn 175 B175_2 ls st μ Q := rfl
theorem t175_3 {ls st : List MVal} {μ : MMem} {Q : MVal → MMem → Prop} : At 175 3 ls st μ Q = Rn 175 B175_3 ls st μ Q := rfl
theorem t175_4 {ls st : List MVal} {μ : MMem} {Q : MVal → MMem → Prop} : At 175 4 ls st μ Q = Rn 175 B175_4 ls st μ Q := rfl
theorem t176_0 {ls st : List MVal} {μ : MMem} {Q : MVal → MMem → Prop} : At 176 0 ls st μ Q = Rn 176 B176_0 ls st μ Q := rfl
theorem t176_1 {ls st : List MVal} {μ : MMem} {Q : MVal → MMem → Prop} : At 176 1 ls st μ Q = Rn 176 B176_1 ls st μ Q := rfl
theorem t176_2 {ls st : List MVal} {μ : MMem} {Q : MVal → MMem → Prop} : At 176 2 ls st μ Q = Rn 176 B176_2 ls st μ Q := rfl
theorem t176_3 {ls st : List MVal} {μ : MMem} {Q : MVal → MMem → Prop} : At 176 3 ls st μ Q = Rn 176 B176_3 ls st μ Q := rfl
theorem t176_4 {ls st : List MVal} {μ : MMem} {Q : MVal → MMem → Prop} : At 176 4 ls st μ Q = Rn 176 B176_4 ls st μ Q := rfl
theorem t177_0 {ls st : List MVal} {μ : MMem} {Q : MVal → MMem → Prop} : At 177 0 ls st μ Q = Rn 177 B177_0 ls st μ Q := rfl
theorem t178_0 {ls st : List MVal} {μ : MMem} {Q : MVal → MMem → Prop} : At 178 0 ls st μ Q = Rn 178 B178_0 ls st μ Q := rfl
theorem t178_1 {ls st : List MVal} {μ : MMem} {Q : MVal → MMem → Prop} : At 178 1 ls st μ Q = Rn 178 B178_1 ls st μ Q := rfl
theorem t178_2 {ls st : List MVal} {μ : MMem} {Q : MVal → MMem → Prop} : At 178 2 ls st μ Q = Rn 178 B178_2 ls st μ Q := rfl
theorem t178_3 {ls st : List MVal} {μ : MMem} {Q : MVal → MMem → Prop} : At 178 3 ls st μ Q = Rn 178 B178_3 ls st μ Q := rfl
theorem t178_4 {ls st : List MVal} {μ : MMem} {Q : MVal → MMem → Prop} : At 178 4 ls st μ Q = Rn 178 B178_4 ls st μ Q := rfl
theorem t178_5 {ls st : List MVal} {μ : MMem} {Q : MVal → MMem → Prop} : At 178 5 ls st μ Q = Rn 178 B178_5 ls st μ Q := rfl
theorem t178_6 {ls st : List MVal} {μ : MMem} {Q : MVal → MMem → Prop} : At 178 6 ls st μ Q = Rn 178 B178_6 ls st μ Q := rfl
theorem t179_0 {ls st : List MVal} {μ : MMem} {Q : MVal → MMem → Prop} : At 179 0 ls st μ Q = Rn 179 B179_0 ls st μ Q := rfl
theorem t179_1 {ls st : List MVal} {μ : MMem} {Q : MVal → MMem → Prop} : At 179 1 ls st μ Q = Rn 179 B179_1 ls st μ Q := rfl
theorem t179_2 {ls st : List MVal} {μ : MMem} {Q : MVal → MMem → Prop} : At 179 2 ls st μ Q = Rn 179 B179_2 ls st μ Q := rfl
theorem t179_3 {ls st : List MVal} {μ : MMem} {Q : MVal → MMem → Prop} : At 179 3 ls st μ Q = Rn 179 B179_3 ls st μ Q := rfl
theorem t179_4 {ls st : List MVal} {μ : MMem} {Q : MVal → MMem → Prop} : At 179 4 ls st μ Q = Rn 179 B179_4 ls st μ Q := rfl
theorem t180_0 {ls st : List MVal} {μ : MMem} {Q : MVal → MMem → Prop} : At 180 0 ls st μ Q = Rn 180 B180_0 ls st μ Q := rfl
theorem t180_1 {ls st : List MVal} {μ : MMem} {Q : MVal → MMem → Prop} : At 180 1 ls st μ Q = Rn 180 B180_1 ls st μ Q := rfl
theorem t180_2 {ls st : List MVal} {μ : MMem} {Q : MVal → MMem → Prop} : At 180 2 ls st μ Q = Rn 180 B180_2 ls st μ Q := rfl
theorem t181_0 {ls st : List MVal} {μ : MMem} {Q : MVal → MMem → Prop} : At 181 0 ls st μ Q = Rn 181 B181_0 ls st μ Q := rfl
theorem t181_1 {ls st : List MVal} {μ : MMem} {Q : MVal → MMem → Prop} : At 181 1 ls st μ Q = Rn 181 B181_1 ls st μ Q := rfl
theorem t181_2 {ls st : List MVal} {μ : MMem} {Q : MVal → MMem → Prop} : At 181 2 ls st μ Q = Rn 181 B181_2 ls st μ Q := rfl
theorem t182_0 {ls st : List MVal} {μ : MMem} {Q : MVal → MMem → Prop} : At 182 0 ls st μ Q = Rn 182 B182_0 ls st μ Q := rfl
theorem t182_1 {ls st : List MVal} {μ : MMem} {Q : MVal → MMem → Prop} : At 182 1 ls st μ Q = Rn 182 B182_1 ls st μ Q := rfl
theorem t182_2 {ls st : List MVal} {μ : MMem} {Q : MVal → MMem → Prop} : At 182 2 ls st μ Q = Rn 182 B182_2 ls st μ Q := rfl
theorem t182_3 {ls st : List MVal} {μ : MMem} {Q : MVal → MMem → Prop} : At 182 3 ls st μ Q = Rn 182 B182_3 ls st μ Q := rfl
theorem t182_4 {ls st : List MVal} {μ : MMem} {Q : MVal → MMem → Prop} : At 182 4 ls st μ Q = Rn 182 B182_4 ls st μ Q := rfl
theorem t182_5 {ls st : List MVal} {μ : MMem} {Q : MVal → MMem → Prop} : At 182 5 ls st μ Q = Rn 182 B182_5 ls st μ Q := rfl
theorem t182_6 {ls st : List MVal} {μ : MMem} {Q : MVal → MMem → Prop} : At 182 6 ls st μ Q = Rn 182 B182_6 ls st μ Q := rfl
theorem t183_0 {ls st : List MVal} {μ : MMem} {Q : MVal → MMem → Prop} : At 183 0 ls st μ Q = Rn 183 B183_0 ls st μ Q := rfl
theorem t183_1 {ls st : List MVal} {μ : MMem} {Q : MVal → MMem → Prop} : At 183 1 ls st μ Q = Rn 183 B183_1 ls st μ Q := rfl
theorem t183_2 {ls st : List MVal} {μ : MMem} {Q : MVal → MMem → Prop} : At 183 2 ls st μ Q = Rn 183 B183_2 ls st μ Q := rfl
theorem t183_3 {ls st : List MVal} {μ : MMem} {Q : MVal → MMem → Prop} : At 183 3 ls st μ Q = Rn 183 B183_3 ls st μ Q := rfl
theorem t183_4 {ls st : List MVal} {μ : MMem} {Q : MVal → MMem → Prop} : At 183 4 ls st μ Q = Rn 183 B183_4 ls st μ Q := rfl
theorem t184_0 {ls st : List MVal} {μ : MMem} {Q : MVal → MMem → Prop} : At 184 0 ls st μ Q = Rn 184 B184_0 ls st μ Q := rfl
theorem t184_1 {ls st : List MVal} {μ : MMem} {Q : MVal → MMem → Prop} : At 184 1 ls st μ Q = Rn 184 B184_1 ls st μ Q := rfl
theorem t184_2 {ls st : List MVal} {μ : MMem} {Q : MVal → MMem → Prop} : At 184 2 ls st μ Q = Rn 184 B184_2 ls st μ Q := rfl
theorem t185_0 {ls st : List MVal} {μ : MMem} {Q : MVal → MMem → Prop} : At 185 0 ls st μ Q = Rn 185 B185_0 ls st μ Q := rfl
theorem t185_1 {ls st : List MVal} {μ : MMem} {Q : MVal → MMem → Prop} : At 185 1 ls st μ Q = Rn 185 B185_1 ls st μ Q := rfl
theorem t185_2 {ls st : List MVal} {μ : MMem} {Q : MVal → MMem → Prop} : At 185 2 ls st μ Q = Rn 185 B185_2 ls st μ Q := rfl
theorem t185_3 {ls st : List MVal} {μ : MMem} {Q : MVal → MMem → Prop} : At 185 3 ls st μ Q = Rn 185 B185_3 ls st μ Q := rfl
theorem t185_4 {ls st : List MVal} {μ : MMem} {Q : MVal → MMem → Prop} : At 185 4 ls st μ Q = Rn 185 B185_4 ls st μ Q := rfl
theorem t185_5 {ls st : List MVal} {μ : MMem} {Q : MVal → MMem → Prop} : At 185 5 ls st μ Q = Rn 185 B185_5 ls st μ Q := rfl
theorem t185_6 {ls st : List MVal} {μ : MMem} {Q : MVal → MMem → Prop} : At 185 6 ls st μ Q = Rn 185 B185_6 ls st μ Q := rfl
theorem t185_7 {ls st : List MVal} {μ : MMem} {Q : MVal → MMem → Prop} : At 185 7 ls st μ Q = Rn 185 B185_7 ls st μ Q := rfl
theorem t185_8 {ls st : List MVal} {μ : MMem} {Q : MVal → MMem → Prop} : At 185 8 ls st μ Q = Rn 185 B185_8 ls st μ Q := rfl
theorem t186_0 {ls st : List MVal} {μ : MMem} {Q : MVal → MMem → Prop} : At 186 0 ls st μ Q = Rn 186 B186_0 ls st μ Q := rfl
theorem t186_1 {ls st : List MVal} {μ : MMem} {Q : MVal → MMem → Prop} : At 186 1 ls st μ Q = Rn 186 B186_1 ls st μ Q := rfl
theorem t186_2 {ls st : List MVal} {μ : MMem} {Q : MVal → MMem → Prop} : At 186 2 ls st μ Q = Rn 186 B186_2 ls st μ Q := rfl
theorem t187_0 {ls st : List MVal} {μ : MMem} {Q : MVal → MMem → Prop} : At 187 0 ls st μ Q = Rn 187 B187_0 ls st μ Q := rfl
theorem t188_0 {ls st : List MVal} {μ : MMem} {Q : MVal → MMem → Prop} : At 188 0 ls st μ Q = Rn 188 B188_0 ls st μ Q := rfl
theorem t188_1 {ls st : List MVal} {μ : MMem} {Q : MVal → MMem → Prop} : At 188 1 ls st μ Q = Rn 188 B188_1 ls st μ Q := rfl
theorem t188_2 {ls st : List MVal} {μ : MMem} {Q : MVal → MMem → Prop} : At 188 2 ls st μ Q = Rn 188 B188_2 ls st μ Q := rfl
theorem t188_3 {ls st : List MVal} {μ : MMem} {Q : MVal → MMem → Prop} : At 188 3 ls st μ Q = Rn 188 B188_3 ls st μ Q := rfl
theorem t188_4 {ls st : List MVal} {μ : MMem} {Q : MVal → MMem → Prop} : At 188 4 ls st μ Q = Rn 188 B188_4 ls st μ Q := rfl
theorem t188_5 {ls st : List MVal} {μ : MMem} {Q : MVal → MMem → Prop} : At 188 5 ls st μ Q = Rn 188 B188_5 ls st μ Q := rfl
theorem t188_6 {ls st : List MVal} {μ : MMem} {Q : MVal → MMem → Prop} : At 188 6 ls st μ Q = Rn 188 B188_6 ls st μ Q := rfl
theorem t188_7 {ls st : List MVal} {μ : MMem} {Q : MVal → MMem → Prop} : At 188 7 ls st μ Q = Rn 188 B188_7 ls st μ Q := rfl
theorem t188_8 {ls st : List MVal} {μ : MMem} {Q : MVal → MMem → Prop} : At 188 8 ls st μ Q = Rn 188 B188_8 ls st μ Q := rfl
theorem t189_0 {ls st : List MVal} {μ : MMem} {Q : MVal → MMem → Prop} : At 189 0 ls st μ Q = Rn 189 B189_0 ls st μ Q := rfl
theorem t189_1 {ls st : List MVal} {μ : MMem} {Q : MVal → MMem → Prop} : At 189 1 ls st μ Q = Rn 189 B189_1 ls st μ Q := rfl
theorem t189_2 {ls st : List MVal} {μ : MMem} {Q : MVal → MMem → Prop} : At 189 2 ls st μ Q = Rn 189 B189_2 ls st μ Q := rfl
theorem t190_0 {ls st : List MVal} {μ : MMem} {Q : MVal → MMem → Prop} : At 190 0 ls st μ Q = Rn 190 B190_0 ls st μ Q := rfl
theorem t190_1 {ls st : List MVal} {μ : MMem} {Q : MVal → MMem → Prop} : At 190 1 ls st μ Q = Rn 190 B190_1 ls st μ Q := rfl
theorem t190_2 {ls st : List MVal} {μ : MMem} {Q : MVal → MMem → Prop} : At 190 2 ls st μ Q = Rn 190 B190_2 ls st μ Q := rfl
theorem t190_3 {ls st : List MVal} {μ : MMem} {Q : MVal → MMem → Prop} : At 190 3 ls st μ Q = Rn 190 B190_3 ls st μ Q := rfl
theorem t190_4 {ls st : List MVal} {μ : MMem} {Q : MVal → MMem → Prop} : At 190 4 ls st μ Q = Rn 190 B190_4 ls st μ Q := rfl
theorem t190_5 {ls st : List MVal} {μ : MMem} {Q : MVal → MMem → Prop} : At 190 5 ls st μ Q = Rn 190 B190_5 ls st μ Q := rfl
theorem t191_0 {ls st : List MVal} {μ : MMem} {Q : MVal → MMem → Prop} : At 191 0 ls st μ Q = Rn 191 B191_0 ls st μ Q := rfl
theorem t191_1 {ls st : List MVal} {μ : MMem} {Q : MVal → MMem → Prop} : At 191 1 ls st μ Q = Rn 191 B191_1 ls st μ Q := rfl
theorem t191_2 {ls st : List MVal} {μ : MMem} {Q : MVal → MMem → Prop} : At 191 2 ls st μ Q = Rn 191 B191_2 ls st μ Q := rfl
theorem t191_3 {ls st : List MVal} {μ : MMem} {Q : MVal → MMem → Prop} : At 191 3 ls st μ Q = Rn 191 B191_3 ls st μ Q := rfl
theorem t191_4 {ls st : List MVal} {μ : MMem} {Q : MVal → MMem → Prop} : At 191 4 ls st μ Q = Rn 191 B191_4 ls st μ Q := rfl
theorem t191_5 {ls st : List MVal} {μ : MMem} {Q : MVal → MMem → Prop} : At 191 5 ls st μ Q = Rn 191 B191_5 ls st μ Q := rfl
theorem t191_6 {ls st : List MVal} {μ : MMem} {Q : MVal → MMem → Prop} : At 191 6 ls st μ Q = Rn 191 B191_6 ls st μ Q := rfl
theorem t191_7 {ls st : List MVal} {μ : MMem} {Q : MVal → MMem → Prop} : At 191 7 ls st μ Q = Rn 191 B191_7 ls st μ Q := rfl
theorem t191_8 {ls st : List MVal} {μ : MMem} {Q : MVal → MMem → Prop} : At 191 8 ls st μ Q = Rn 191 B191_8 ls st μ Q := rfl
theorem t191_9 {ls st : List MVal} {μ : MMem} {Q : MVal → MMem → Prop} : At 191 9 ls st μ Q = Rn 191 B191_9 ls st μ Q := rfl
theorem t192_0 {ls st : List MVal} {μ : MMem} {Q : MVal → MMem → Prop} : At 192 0 ls st μ Q = Rn 192 B192_0 ls st μ Q := rfl
theorem t192_1 {ls st : List MVal} {μ : MMem} {Q : MVal → MMem → Prop} : At 192 1 ls st μ Q = Rn 192 B192_1 ls st μ Q := rfl
theorem t192_2 {ls st : List MVal} {μ : MMem} {Q : MVal → MMem → Prop} : At 192 2 ls st μ Q = Rn 192 B192_2 ls st μ Q := rfl
theorem t193_0 {ls st : List MVal} {μ : MMem} {Q : MVal → MMem → Prop} : At 193 0 ls st μ Q = Rn 193 B193_0 ls st μ Q := rfl
theorem t194_0 {ls st : List MVal} {μ : MMem} {Q : MVal → MMem → Prop} : At 194 0 ls st μ Q = Rn 194 B194_0 ls st μ Q := rfl
theorem t194_1 {ls st : List MVal} {μ : MMem} {Q : MVal → MMem → Prop} : At 194 1 ls st μ Q = Rn 194 B194_1 ls st μ Q := rfl
theorem t194_2 {ls st : List MVal} {μ : MMem} {Q : MVal → MMem → Prop} : At 194 2 ls st μ Q = Rn 194 B194_2 ls st μ Q := rfl
theorem t195_0 {ls st : List MVal} {μ : MMem} {Q : MVal → MMem → Prop} : At 195 0 ls st μ Q = Rn 195 B195_0 ls st μ Q := rfl
theorem t195_1 {ls st : List MVal} {μ : MMem} {Q : MVal → MMem → Prop} : At 195 1 ls st μ Q = Rn 195 B195_1 ls st μ Q := rfl
theorem t195_2 {ls st : List MVal} {μ : MMem} {Q : MVal → MMem → Prop} : At 195 2 ls st μ Q = Rn 195 B195_2 ls st μ Q := rfl
theorem t195_3 {ls st : List MVal} {μ : MMem} {Q : MVal → MMem → Prop} : At 195 3 ls st μ Q = Rn 195 B195_3 ls st μ Q := rfl
theorem t195_4 {ls st : List MVal} {μ : MMem} {Q : MVal → MMem → Prop} : At 195 4 ls st μ Q = Rn 195 B195_4 ls st μ Q := rfl
theorem t195_5 {ls st : List MVal} {μ : MMem} {Q : MVal → MMem → Prop} : At 195 5 ls st μ Q = Rn 195 B195_5 ls st μ Q := rfl
theorem t195_6 {ls st : List MVal} {μ : MMem} {Q : MVal → MMem → Prop} : At 195 6 ls st μ Q = Rn 195 B195_6 ls st μ Q := rfl
theorem t195_7 {ls st : List MVal} {μ : MMem} {Q : MVal → MMem → Prop} : At 195 7 ls st μ Q = Rn 195 B195_7 ls st μ Q := rfl
theorem t195_8 {ls st : List MVal} {μ : MMem} {Q : MVal → MMem → Prop} : At 195 8 ls st μ Q = Rn 195 B195_8 ls st μ Q := rfl
theorem t196_0 {ls st : List MVal} {μ : MMem} {Q : MVal → MMem → Prop} : At 196 0 ls st μ Q = Rn 196 B196_0 ls st μ Q := rfl
theorem t196_1 {ls st : List MVal} {μ : MMem} {Q : MVal → MMem → Prop} : At 196 1 ls st μ Q = Rn 196 B196_1 ls st μ Q := rfl
theorem t196_2 {ls st : List MVal} {μ : MMem} {Q : MVal → MMem → Prop} : At 196 2 ls st μ Q = Rn 196 B196_2 ls st μ Q := rfl
theorem t196_3 {ls st : List MVal} {μ : MMem} {Q : MVal → MMem → Prop} : At 196 3 ls st μ Q = Rn 196 B196_3 ls st μ Q := rfl
theorem t196_4 {ls st : List MVal} {μ : MMem} {Q : MVal → MMem → Prop} : At 196 4 ls st μ Q = Rn 196 B196_4 ls st μ Q := rfl
theorem t196_5 {ls st : List MVal} {μ : MMem} {Q : MVal → MMem → Prop} : At 196 5 ls st μ Q = Rn 196 B196_5 ls st μ Q := rfl
theorem t196_6 {ls st : List MVal} {μ : MMem} {Q : MVal → MMem → Prop} : At 196 6 ls st μ Q = Rn 196 B196_6 ls st μ Q := rfl
theorem t196_7 {ls st : List MVal} {μ : MMem} {Q : MVal → MMem → Prop} : At 196 7 ls st μ Q = Rn 196 B196_7 ls st μ Q := rfl
theorem t196_8 {ls st : List MVal} {μ : MMem} {Q : MVal → MMem → Prop} : At 196 8 ls st μ Q = Rn 196 B196_8 ls st μ Q := rfl
theorem t196_9 {ls st : List MVal} {μ : MMem} {Q : MVal → MMem → Prop} : At 196 9 ls st μ Q = Rn 196 B196_9 ls st μ Q := rfl
theorem t196_10 {ls st : List MVal} {μ : MMem} {Q : MVal → MMem → Prop} : At 196 10 ls st μ Q = Rn 196 B196_10 ls st μ Q := rfl
theorem t197_0 {ls st : List MVal} {μ : MMem} {Q : MVal → MMem → Prop} : At 197 0 ls st μ Q = Rn 197 B197_0 ls st μ Q := rfl
theorem t197_1 {ls st : List MVal} {μ : MMem} {Q : MVal → MMem → Prop} : At 197 1 ls st μ Q = Rn 197 B197_1 ls st μ Q := rfl
theorem t197_2 {ls st : List MVal} {μ : MMem} {Q : MVal → MMem → Prop} : At 197 2 ls st μ Q = Rn 197 B197_2 ls st μ Q := rfl
theorem t197_3 {ls st : List MVal} {μ : MMem} {Q : MVal → MMem → Prop} : At 197 3 ls st μ Q = Rn 197 B197_3 ls st μ Q := rfl
theorem t197_4 {ls st : List MVal} {μ : MMem} {Q : MVal → MMem → Prop} : At 197 4 ls st μ Q = Rn 197 B197_4 ls st μ Q := rfl
theorem t197_5 {ls st : List MVal} {μ : MMem} {Q : MVal → MMem → Prop} : At 197 5 ls st μ Q = Rn 197 B197_5 ls st μ Q := rfl
theorem t197_6 {ls st : List MVal} {μ : MMem} {Q : MVal → MMem → Prop} : At 197 6 ls st μ Q = Rn 197 B197_6 ls st μ Q := rfl
theorem t197_7 {ls st : List MVal} {μ : MMem} {Q : MVal → MMem → Prop} : At 197 7 ls st μ Q = Rn 197 B197_7 ls st μ Q := rfl
theorem t197_8 {ls st : List MVal} {μ : MMem} {Q : MVal → MMem → Prop} : At 197 8 ls st μ Q = Rn 197 B197_8 ls st μ Q := rfl
theorem t197_9 {ls st : List MVal} {μ : MMem} {Q : MVal → MMem → Prop} : At 197 9 ls st μ Q = Rn 197 B197_9 ls st μ Q := rfl
theorem t197_10 {ls st : List MVal} {μ : MMem} {Q : MVal → MMem → Prop} : At 197 10 ls st μ Q = Rn 197 B197_10 ls st μ Q := rfl
theorem t197_11 {ls st : List MVal} {μ : MMem} {Q : MVal → MMem → Prop} : At 197 11 ls st μ Q = Rn 197 B197_11 ls st μ Q := rfl
theorem t197_12 {ls st : List MVal} {μ : MMem} {Q : MVal → MMem → Prop} : At 197 12 ls st μ Q = Rn 197 B197_12 ls st μ Q := rfl
theorem t197_13 {ls st : List MVal} {μ : MMem} {Q : MVal → MMem → Prop} : At 197 13 ls st μ Q = Rn 197 B197_13 ls st μ Q := rfl
theorem t197_14 {ls st : List MVal} {μ : MMem} {Q : MVal → MMem → Prop} : At 197 14 ls st μ Q = Rn 197 B197_14 ls st μ Q := rfl
theorem t197_15 {ls st : List MVal} {μ : MMem} {Q : MVal → MMem → Prop} : At 197 15 ls st μ Q = Rn 197 B197_15 ls st μ Q := rfl
theorem t197_16 {ls st : List MVal} {μ : MMem} {Q : MVal → MMem → Prop} : At 197 16 ls st μ Q = Rn 197 B197_16 ls st μ Q := rfl
theorem t197_17 {ls st : List MVal} {μ : MMem} {Q : MVal → MMem → Prop} : At 197 17 ls st μ Q = Rn 197 B197_17 ls st μ Q := rfl
theorem t197_18 {ls st : List MVal} {μ : MMem} {Q : MVal → MMem → Prop} : At 197 18 ls st μ Q = Rn 197 B197_18 ls st μ Q := rfl
theorem t197_19 {ls st : List MVal} {μ : MMem} {Q : MVal → MMem → Prop} : At 197 19 ls st μ Q = Rn 197 B197_19 ls st μ Q := rfl
theorem t197_20 {ls st : List MVal} {μ : MMem} {Q : MVal → MMem → Prop} : At 197 20 ls st μ Q = Rn 197 B197_20 ls st μ Q := rfl
theorem t197_21 {ls st : List MVal} {μ : MMem} {Q : MVal → MMem → Prop} : At 197 21 ls st μ Q = Rn 197 B197_21 ls st μ Q := rfl
theorem t197_22 {ls st : List MVal} {μ : MMem} {Q : MVal → MMem → Prop} : At 197 22 ls st μ Q = Rn 197 B197_22 ls st μ Q := rfl
theorem t197_23 {ls st : List MVal} {μ : MMem} {Q : MVal → MMem → Prop} : At 197 23 ls st μ Q = Rn 197 B197_23 ls st μ Q := rfl
theorem t197_24 {ls st : List MVal} {μ : MMem} {Q : MVal → MMem → Prop} : At 197 24 ls st μ Q = Rn 197 B197_24 ls st μ Q := rfl
theorem t197_25 {ls st : List MVal} {μ : MMem} {Q : MVal → MMem → Prop} : At 197 25 ls st μ Q = Rn 197 B197_25 ls st μ Q := rfl
theorem t197_26 {ls st : List MVal} {μ : MMem} {Q : MVal → MMem → Prop} : At 197 26 ls st μ Q = Rn 197 B197_26 ls st μ Q := rfl
theorem t197_27 {ls st : List MVal} {μ : MMem} {Q : MVal → MMem → Prop} : At 197 27 ls st μ Q = Rn 197 B197_27 ls st μ Q := rfl
theorem t197_28 {ls st : List MVal} {μ : MMem} {Q : MVal → MMem → Prop} : At 197 28 ls st μ Q = Rn 197 B197_28 ls st μ Q := rfl
theorem t197_29 {ls st : List MVal} {μ : MMem} {Q : MVal → MMem → Prop} : At 197 29 ls st μ Q = Rn 197 B197_29 ls st μ Q := rfl
theorem t197_30 {ls st : List MVal} {μ : MMem} {Q : MVal → MMem → Prop} : At 197 30 ls st μ Q = Rn 197 B197_30 ls st μ Q := rfl
theorem t197_31 {ls st : List MVal} {μ : MMem} {Q : MVal → MMem → Prop} : At 197 31 ls st μ Q = Rn 197 B197_31 ls st μ Q := rfl
theorem t197_32 {ls st : List MVal} {μ : MMem} {Q : MVal → MMem → Prop} : At 197 32 ls st μ Q = Rn 197 B197_32 ls st μ Q := rfl
theorem t197_33 {ls st : List MVal} {μ : MMem} {Q : MVal → MMem → Prop} : At 197 33 ls st μ Q = Rn 197 B197_33 ls st μ Q := rfl
theorem t197_34 {ls st : List MVal} {μ : MMem} {Q : MVal → MMem → Prop} : At 197 34 ls st μ Q = Rn 197 B197_34 ls st μ Q := rfl
theorem t197_35 {ls st : List MVal} {μ : MMem} {Q : MVal → MMem → Prop} : At 197 35 ls st μ Q = Rn 197 B197_35 ls st μ Q := rfl
theorem t197_36 {ls st : List MVal} {μ : MMem} {Q : MVal → MMem → Prop} : At 197 36 ls st μ Q = Rn 197 B197_36 ls st μ Q := rfl
theorem t197_37 {ls st : List MVal} {μ : MMem} {Q : MVal → MMem → Prop} : At 197 37 ls st μ Q = Rn 197 B197_37 ls st μ Q := rfl
theorem t197_38 {ls st : List MVal} {μ : MMem} {Q : MVal → MMem → Prop} : At 197 38 ls st μ Q = Rn 197 B197_38 ls st μ Q := rfl
theorem al_13 : m_al 13 = 60 := rfl
theorem al_14 : m_al 14 = 60 := rfl
theorem al_15 : m_al 15 = 60 := rfl
theorem al_16 : m_al 16 = 60 := rfl
theorem al_18 : m_al 18 = 256 := rfl
theorem al_19 : m_al 19 = 504 := rfl
theorem al_25 : m_al 25 = 6 := rfl
theorem al_26 : m_al 26 = 6 := rfl
theorem al_27 : m_al 27 = 8 := rfl
theorem al_28 : m_al 28 = 8 := rfl
theorem al_29 : m_al 29 = 8 := rfl
theorem al_30 : m_al 30 = 8 := rfl
theorem al_31 : m_al 31 = 8 := rfl
theorem al_32 : m_al 32 = 8 := rfl
theorem al_33 : m_al 33 = 8 := rfl
theorem al_34 : m_al 34 = 8 := rfl
theorem al_35 : m_al 35 = 8 := rfl
theorem al_36 : m_al 36 = 8 := rfl
theorem al_37 : m_al 37 = 8 := rfl
theorem al_38 : m_al 38 = 8 := rfl
theorem al_39 : m_al 39 = 8 := rfl
theorem al_40 : m_al 40 = 17 := rfl
theorem al_41 : m_al 41 = 39 := rfl
theorem al_42 : m_al 42 = 6 := rfl
theorem al_43 : m_al 43 = 8 := rfl
theorem al_44 : m_al 44 = 8 := rfl
theorem al_45 : m_al 45 = 8 := rfl
theorem al_46 : m_al 46 = 8 := rfl
theorem al_48 : m_al 48 = 4 := rfl
theorem al_49 : m_al 49 = 4 := rfl
theorem al_50 : m_al 50 = 240 := rfl
theorem al_51 : m_al 51 = 60 := rfl
theorem al_52 : m_al 52 = 80 := rfl
theorem al_53 : m_al 53 = 2 := rfl
theorem al_54 : m_al 54 = 12 := rfl
theorem al_55 : m_al 55 = 32 := rfl
theorem al_56 : m_al 56 = 24 := rfl
theorem al_57 : m_al 57 = 6 := rfl
theorem al_58 : m_al 58 = 8 := rfl
theorem al_59 : m_al 59 = 8 := rfl
theorem al_60 : m_al 60 = 8 := rfl
theorem al_61 : m_al 61 = 192 := rfl
theorem al_62 : m_al 62 = 192 := rfl
theorem al_63 : m_al 63 = 192 := rfl
theorem al_64 : m_al 64 = 192 := rfl
theorem al_65 : m_al 65 = 192 := rfl
theorem al_66 : m_al 66 = 192 := rfl
theorem al_67 : m_al 67 = 192 := rfl
theorem al_68 : m_al 68 = 24 := rfl
theorem al_69 : m_al 69 = 504 := rfl
theorem al_70 : m_al 70 = 24 := rfl
theorem rf_0_0 : m_rf 0 0 = 1 := rfl
theorem rf_0_1 : m_rf 0 1 = 2 := rfl
theorem rf_0_2 : m_rf 0 2 = 3 := rfl
theorem rf_0_3 : m_rf 0 3 = 4 := rfl
theorem rf_0_4 : m_rf 0 4 = 5 := rfl
theorem rf_0_5 : m_rf 0 5 = 6 := rfl
theorem rf_0_6 : m_rf 0 6 = 7 := rfl
theorem rf_0_7 : m_rf 0 7 = 8 := rfl
theorem rf_0_8 : m_rf 0 8 = 18 := rfl
theorem rf_0_10 : m_rf 0 10 = 19 := rfl
theorem rf_0_11 : m_rf 0 11 = 17 := rfl
theorem rf_1_0 : m_rf 1 0 = 20 := rfl
theorem rf_1_1 : m_rf 1 1 = 2 := rfl
theorem rf_1_2 : m_rf 1 2 = 6 := rfl
theorem rf_2_0 : m_rf 2 0 = 21 := rfl
theorem rf_2_1 : m_rf 2 1 = 4 := rfl
theorem rf_2_2 : m_rf 2 2 = 8 := rfl
theorem rf_3_0 : m_rf 3 0 = 22 := rfl
theorem rf_3_1 : m_rf 3 1 = 3 := rfl
theorem rf_3_2 : m_rf 3 2 = 8 := rfl
theorem rf_4_0 : m_rf 4 0 = 23 := rfl
theorem rf_4_1 : m_rf 4 1 = 3 := rfl
theorem rf_4_2 : m_rf 4 2 = 8 := rfl
theorem rf_5_0 : m_rf 5 0 = 24 := rfl
theorem rf_5_1 : m_rf 5 1 = 3 := rfl
theorem rf_5_2 : m_rf 5 2 = 8 := rfl
theorem rf_6_0 : m_rf 6 0 = 40 := rfl
theorem rf_6_1 : m_rf 6 1 = 1 := rfl
theorem rf_7_0 : m_rf 7 0 = 41 := rfl
theorem rf_7_1 : m_rf 7 1 = 2 := rfl
theorem rf_8_0 : m_rf 8 0 = 1 := rfl
theorem rf_8_1 : m_rf 8 1 = 2 := rfl
theorem rf_8_5 : m_rf 8 5 = 42 := rfl
theorem rf_8_6 : m_rf 8 6 = 43 := rfl
theorem rf_8_7 : m_rf 8 7 = 44 := rfl
theorem rf_8_8 : m_rf 8 8 = 45 := rfl
theorem rf_8_9 : m_rf 8 9 = 46 := rfl
theorem rf_9_0 : m_rf 9 0 = 13 := rfl
theorem rf_10_0 : m_rf 10 0 = 14 := rfl
theorem rf_11_0 : m_rf 11 0 = 15 := rfl
theorem rf_12_0 : m_rf 12 0 = 16 := rfl
theorem rf_47_0 : m_rf 47 0 = 48 := rfl
theorem rf_47_1 : m_rf 47 1 = 49 := rfl
theorem rf_47_2 : m_rf 47 2 = 50 := rfl
theorem rf_47_3 : m_rf 47 3 = 51 := rfl
theorem rf_47_5 : m_rf 47 5 = 52 := rfl
theorem rf_47_6 : m_rf 47 6 = 53 := rfl
theorem rf_47_8 : m_rf 47 8 = 54 := rfl
theorem rf_47_10 : m_rf 47 10 = 55 := rfl
theorem rf_47_12 : m_rf 47 12 = 56 := rfl
theorem rf_47_14 : m_rf 47 14 = 57 := rfl
theorem rf_47_15 : m_rf 47 15 = 58 := rfl
theorem rf_47_16 : m_rf 47 16 = 59 := rfl
theorem rf_47_17 : m_rf 47 17 = 60 := rfl
theorem rf_47_18 : m_rf 47 18 = 61 := rfl
theorem rf_47_19 : m_rf 47 19 = 62 := rfl
theorem rf_47_20 : m_rf 47 20 = 63 := rfl
theorem rf_47_21 : m_rf 47 21 = 64 := rfl
theorem rf_47_22 : m_rf 47 22 = 65 := rfl
theorem rf_47_23 : m_rf 47 23 = 66 := rfl
theorem rf_47_24 : m_rf 47 24 = 67 := rfl
theorem rf_47_26 : m_rf 47 26 = 68 := rfl
theorem rf_47_27 : m_rf 47 27 = 69 := rfl
theorem rf_47_29 : m_rf 47 29 = 70 := rfl
theorem rf_17 (k : Int) : m_rf 17 k = 9 + k := rfl
theorem rf_20 (k : Int) : m_rf 20 k = 25 + k := rfl
theorem rf_21 (k : Int) : m_rf 21 k = 27 + k := rfl
theorem rf_22 (k : Int) : m_rf 22 k = 31 + k := rfl
theorem rf_23 (k : Int) : m_rf 23 k = 34 + k := rfl
theorem rf_24 (k : Int) : m_rf 24 k = 37 + k := rfl
theorem rl_17 : m_rl 17 = 4 := rfl
theorem rl_20 : m_rl 20 = 2 := rfl
theorem rl_21 : m_rl 21 = 4 := rfl
theorem rl_22 : m_rl 22 = 3 := rfl
theorem rl_23 : m_rl 23 = 3 := rfl
theorem rl_24 : m_rl 24 = 3 := rfl
end
section
theorem wr_id {x : Int} (h1 : -2147483648 ≤ x) (h2 : x < 2147483648) : Int.bmod x Int32.size = x := by
  have e : Int32.size = 4294967296 := rfl
  rw [e]
  exact Int.bmod_eq_of_le (by omega) (by omega)
theorem wl_id {x : Int} (h1 : -9223372036854775808 ≤ x) (h2 : x < 9223372036854775808) : Int.bmod x Int64.size = x := by
  have e : Int64.size = 18446744073709551616 := rfl
  rw [e]
  exact Int.bmod_eq_of_le (by omega) (by omega)
theorem m_i0 {x y : Int} (h1 : -2147483648 ≤ x + y) (h2 : x + y < 2147483648) : m_i 0 x y = x + y := by
  show (Int32.ofInt x + Int32.ofInt y).toInt = x + y
  rw [Int32.toInt_add, Int32.toInt_ofInt, Int32.toInt_ofInt]
  show Int.bmod (Int.bmod x Int32.size + Int.bmod y Int32.size) Int32.size = _
  rw [← Int.add_bmod]
  exact wr_id h1 h2
theorem m_i1 {x y : Int} (h1 : -2147483648 ≤ x - y) (h2 : x - y < 2147483648) : m_i 1 x y = x - y := by
  show (Int32.ofInt x - Int32.ofInt y).toInt = x - y
  rw [Int32.toInt_sub, Int32.toInt_ofInt, Int32.toInt_ofInt]
  show Int.bmod (Int.bmod x Int32.size - Int.bmod y Int32.size) Int32.size = _
  rw [← Int.sub_bmod]
  exact wr_id h1 h2
theorem m_i2 {x y : Int} (h1 : -2147483648 ≤ x * y) (h2 : x * y < 2147483648) : m_i 2 x y = x * y := by
  show (Int32.ofInt x * Int32.ofInt y).toInt = x * y
  rw [Int32.toInt_mul, Int32.toInt_ofInt, Int32.toInt_ofInt]
  show Int.bmod (Int.bmod x Int32.size * Int.bmod y Int32.size) Int32.size = _
  rw [← Int.mul_bmod]
  exact wr_id h1 h2
end
section
def RX0 : String := "BrideDoors$BrideText"
def TX0 : u_T := fun k => match k with
  | 0 => ("BrideDoors$Text", "signs", "[I", true)
  | 1 => ("BrideDoors$Text", "told", "LBrideDoors$Table;", true)
  | 2 => ("BrideDoors$Text", "length", "I", false)
  | _ => ("BrideDoors$Text", "fault", "I", false)
def tyX0 : Nat → FieldType := fun k => match k with
  | 0 => .array .int
  | 1 => .object "BrideDoors$Table"
  | 2 => .int
  | _ => .int
theorem nmX0 : ∀ a, a < 4 → ∀ b, b < 4 → a ≠ b → (TX0 a).2.1 ≠ (TX0 b).2.1 := by decide +kernel
theorem tyX0_ok : ∀ k, k < 4 → parseFieldDescriptor (TX0 k).2.2.1 = some (tyX0 k) := by decide +kernel
def RX1 : String := "BrideDoors$HouseText"
def TX1 : u_T := TX0
def tyX1 : Nat → FieldType := tyX0
theorem nmX1 : ∀ a, a < 4 → ∀ b, b < 4 → a ≠ b → (TX1 a).2.1 ≠ (TX1 b).2.1 := nmX0
theorem tyX1_ok : ∀ k, k < 4 → parseFieldDescriptor (TX1 k).2.2.1 = some (tyX1 k) := tyX0_ok
def RX2 : String := "BrideDoors$Sheet"
def TX2 : u_T := fun k => match k with
  | 0 => ("BrideDoors$Sheet", "items", "[I", true)
  | 1 => ("BrideDoors$Sheet", "lost", "Z", false)
  | 2 => ("BrideDoors$Sheet", "form", "I", false)
  | _ => ("BrideDoors$Sheet", "size", "I", false)
def tyX2 : Nat → FieldType := fun k => match k with
  | 0 => .array .int
  | 1 => .boolean
  | 2 => .int
  | _ => .int
theorem nmX2 : ∀ a, a < 4 → ∀ b, b < 4 → a ≠ b → (TX2 a).2.1 ≠ (TX2 b).2.1 := by decide +kernel
theorem tyX2_ok : ∀ k, k < 4 → parseFieldDescriptor (TX2 k).2.2.1 = some (tyX2 k) := by decide +kernel
def RX3 : String := "BrideDoors$Table"
def TX3 : u_T := fun k => match k with
  | 0 => ("BrideDoors$Table", "cells", "[[I", true)
  | 1 => ("BrideDoors$Table", "columns", "I", true)
  | 2 => ("BrideDoors$Table", "most", "I", true)
  | _ => ("BrideDoors$Table", "size", "I", false)
def tyX3 : Nat → FieldType := fun k => match k with
  | 0 => .array (.array .int)
  | 1 => .int
  | 2 => .int
  | _ => .int
theorem nmX3 : ∀ a, a < 4 → ∀ b, b < 4 → a ≠ b → (TX3 a).2.1 ≠ (TX3 b).2.1 := by decide +kernel
theorem tyX3_ok : ∀ k, k < 4 → parseFieldDescriptor (TX3 k).2.2.1 = some (tyX3 k) := by decide +kernel
def RX5 : String := "BrideDoors$World"
def TX5 : u_T := fun k => match k with
  | 0 => ("BrideDoors$World", "houses", "LBrideDoors$Table;", true)
  | 1 => ("BrideDoors$World", "brides", "LBrideDoors$Table;", true)
  | 2 => ("BrideDoors$World", "events", "LBrideDoors$Table;", false)
  | 3 => ("BrideDoors$World", "missing", "I", false)
  | 4 => ("BrideDoors$World", "busyYears", "I", false)
  | 5 => ("BrideDoors$World", "opens", "[I", true)
  | 6 => ("BrideDoors$World", "state", "[I", true)
  | 7 => ("BrideDoors$World", "height", "[I", true)
  | 8 => ("BrideDoors$World", "sawn", "[I", true)
  | _ => ("BrideDoors$World", "hung", "[I", true)
def tyX5 : Nat → FieldType := fun k => match k with
  | 0 => .object "BrideDoors$Table"
  | 1 => .object "BrideDoors$Table"
  | 2 => .object "BrideDoors$Table"
  | 3 => .int
  | 4 => .int
  | 5 => .array .int
  | 6 => .array .int
  | 7 => .array .int
  | 8 => .array .int
  | _ => .array .int
theorem nmX5 : ∀ a, a < 10 → ∀ b, b < 10 → a ≠ b → (TX5 a).2.1 ≠ (TX5 b).2.1 := by decide +kernel
theorem tyX5_ok : ∀ k, k < 10 → parseFieldDescriptor (TX5 k).2.2.1 = some (tyX5 k) := by decide +kernel
def RX6 : String := "BrideDoors"
def TX6 : u_T := fun k => match k with
  | 0 => ("BrideDoors", "houses", "LBrideDoors$Table;", true)
  | 1 => ("BrideDoors", "brides", "LBrideDoors$Table;", true)
  | 2 => ("BrideDoors", "events", "LBrideDoors$Table;", true)
  | 3 => ("BrideDoors", "drawn", "LBrideDoors$Table;", true)
  | 4 => ("BrideDoors", "sights", "LBrideDoors$Table;", true)
  | 5 => ("BrideDoors", "houseText", "LBrideDoors$Text;", true)
  | 6 => ("BrideDoors", "brideText", "LBrideDoors$Text;", true)
  | 7 => ("BrideDoors", "world", "LBrideDoors$World;", true)
  | 8 => ("BrideDoors", "openMemo", "[I", true)
  | 9 => ("BrideDoors", "memoStale", "Z", false)
  | 10 => ("BrideDoors", "gapTally", "[I", true)
  | 11 => ("BrideDoors", "sheets", "[LBrideDoors$Sheet;", true)
  | _ => ("BrideDoors", "latestFinding", "I", false)
def tyX6 : Nat → FieldType := fun k => match k with
  | 0 => .object "BrideDoors$Table"
  | 1 => .object "BrideDoors$Table"
  | 2 => .object "BrideDoors$Table"
  | 3 => .object "BrideDoors$Table"
  | 4 => .object "BrideDoors$Table"
  | 5 => .object "BrideDoors$Text"
  | 6 => .object "BrideDoors$Text"
  | 7 => .object "BrideDoors$World"
  | 8 => .array .int
  | 9 => .boolean
  | 10 => .array .int
  | 11 => .array (.object "BrideDoors$Sheet")
  | _ => .int
theorem nmX6 : ∀ a, a < 13 → ∀ b, b < 13 → a ≠ b → (TX6 a).2.1 ≠ (TX6 b).2.1 := by decide +kernel
theorem tyX6_ok : ∀ k, k < 13 → parseFieldDescriptor (TX6 k).2.2.1 = some (tyX6 k) := by decide +kernel
def RX7 : String := "BrideDoorsModel"
def TX7 : u_T := fun k => match k with
  | 0 => ("BrideDoorsModel", "forms", "[I", true)
  | 1 => ("BrideDoorsModel", "sizes", "[I", true)
  | 2 => ("BrideDoorsModel", "items", "[I", true)
  | 3 => ("BrideDoorsModel", "moved", "[I", true)
  | 4 => ("BrideDoorsModel", "latest", "I", false)
  | 5 => ("BrideDoorsModel", "bytes", "[I", true)
  | 6 => ("BrideDoorsModel", "typed", "[I", true)
  | 7 => ("BrideDoorsModel", "houses", "I", false)
  | 8 => ("BrideDoorsModel", "house", "[I", true)
  | 9 => ("BrideDoorsModel", "brides", "I", false)
  | 10 => ("BrideDoorsModel", "bride", "[I", true)
  | 11 => ("BrideDoorsModel", "events", "I", false)
  | 12 => ("BrideDoorsModel", "event", "[I", true)
  | 13 => ("BrideDoorsModel", "gone", "I", false)
  | 14 => ("BrideDoorsModel", "opens", "[I", true)
  | 15 => ("BrideDoorsModel", "state", "[I", true)
  | 16 => ("BrideDoorsModel", "high", "[I", true)
  | 17 => ("BrideDoorsModel", "sawn", "[I", true)
  | 18 => ("BrideDoorsModel", "opensBy", "[I", true)
  | 19 => ("BrideDoorsModel", "doorsBy", "[I", true)
  | 20 => ("BrideDoorsModel", "highestBy", "[I", true)
  | 21 => ("BrideDoorsModel", "lowestBy", "[I", true)
  | 22 => ("BrideDoorsModel", "stateBy", "[I", true)
  | 23 => ("BrideDoorsModel", "highBy", "[I", true)
  | 24 => ("BrideDoorsModel", "sawnBy", "[I", true)
  | 25 => ("BrideDoorsModel", "sights", "I", false)
  | 26 => ("BrideDoorsModel", "sight", "[I", true)
  | 27 => ("BrideDoorsModel", "gaps", "[I", true)
  | 28 => ("BrideDoorsModel", "drawn", "I", false)
  | _ => ("BrideDoorsModel", "told", "[I", true)
def tyX7 : Nat → FieldType := fun k => match k with
  | 0 => .array .int
  | 1 => .array .int
  | 2 => .array .int
  | 3 => .array .int
  | 4 => .int
  | 5 => .array .int
  | 6 => .array .int
  | 7 => .int
  | 8 => .array .int
  | 9 => .int
  | 10 => .array .int
  | 11 => .int
  | 12 => .array .int
  | 13 => .int
  | 14 => .array .int
  | 15 => .array .int
  | 16 => .array .int
  | 17 => .array .int
  | 18 => .array .int
  | 19 => .array .int
  | 20 => .array .int
  | 21 => .array .int
  | 22 => .array .int
  | 23 => .array .int
  | 24 => .array .int
  | 25 => .int
  | 26 => .array .int
  | 27 => .array .int
  | 28 => .int
  | _ => .array .int
theorem nmX7 : ∀ a, a < 30 → ∀ b, b < 30 → a ≠ b → (TX7 a).2.1 ≠ (TX7 b).2.1 := by decide +kernel
theorem tyX7_ok : ∀ k, k < 30 → parseFieldDescriptor (TX7 k).2.2.1 = some (tyX7 k) := by decide +kernel
abbrev n_cl : List vw_C := [(RX0, TX0, 4), (RX1, TX1, 4), (RX2, TX2, 4), (RX3, TX3, 4), (RX5, TX5, 10), (RX6, TX6, 13), (RX7, TX7, 30)]
def n_ys : List MethodName := [⟨"java/lang/Integer", "bitCount", "(I)I"⟩, ⟨"java/lang/String", "length", "()I"⟩, ⟨"java/lang/String", "indexOf", "(I)I"⟩, ⟨"java/lang/String", "indexOf", "(II)I"⟩, ⟨"java/lang/String", "coder", "()B"⟩, ⟨"java/lang/String", "isLatin1", "()Z"⟩, ⟨"java/lang/StringLatin1", "canEncode", "(I)Z"⟩, ⟨"java/lang/StringLatin1", "indexOf", "([BIII)I"⟩, ⟨"java/lang/StringLatin1", "indexOfChar", "([BIII)I"⟩, ⟨"java/util/Arrays", "fill", "([II)V"⟩, ⟨"BrideDoors$BrideText", "valueOf", "(II)I"⟩, ⟨"BrideDoors$HouseText", "valueOf", "(II)I"⟩, ⟨"BrideDoors$Sheet", "renew", "(II)V"⟩, ⟨"BrideDoors$Sheet", "flawOf", "(II)I"⟩, ⟨"BrideDoors$Sheet", "hasRange", "(II)Z"⟩, ⟨"BrideDoors$Sheet", "put", "(II)V"⟩, ⟨"BrideDoors$Sheet", "narrowed", "(I)I"⟩, ⟨"BrideDoors$Table", "isFull", "()Z"⟩, ⟨"BrideDoors$Table", "hasRow", "(I)Z"⟩, ⟨"BrideDoors$Table", "has", "(II)Z"⟩, ⟨"BrideDoors$Table", "add", "(III)V"⟩, ⟨"BrideDoors$Text", "isFull", "()Z"⟩, ⟨"BrideDoors$Text", "append", "(I)V"⟩, ⟨"BrideDoors$Text", "cutTo", "(I)V"⟩, ⟨"BrideDoors$Text", "tellAnew", "()V"⟩, ⟨"BrideDoors$World", "begin", "(LBrideDoors$Table;I)V"⟩, ⟨"BrideDoors$World", "pass", "(II)V"⟩, ⟨"BrideDoors$World", "befall", "(II)V"⟩, ⟨"BrideDoors$World", "sawAll", "(I)V"⟩, ⟨"BrideDoors$World", "takeDown", "(II)V"⟩, ⟨"BrideDoors$World", "arrive", "(II)V"⟩, ⟨"BrideDoors$World", "broughtBy", "(I)I"⟩, ⟨"BrideDoors$World", "widened", "(II)I"⟩, ⟨"BrideDoors$World", "highestIn", "(I)I"⟩, ⟨"BrideDoors$World", "lowestIn", "(I)I"⟩, ⟨"BrideDoors$World", "heightOf", "(I)I"⟩, ⟨"BrideDoors$World", "doorsIn", "(I)I"⟩, ⟨"BrideDoors$World", "gapOf", "(I)I"⟩, ⟨"BrideDoors$World", "allGaps", "()I"⟩, ⟨"BrideDoors$World", "openBits", "()I"⟩, ⟨"BrideDoors$World", "bitsOf", "(I)I"⟩, ⟨"BrideDoors", "type", "(II)I"⟩, ⟨"BrideDoors", "wipe", "(I)I"⟩, ⟨"BrideDoors", "undo", "(I)I"⟩, ⟨"BrideDoors", "fault", "(I)I"⟩, ⟨"BrideDoors", "house", "(II)I"⟩, ⟨"BrideDoors", "bride", "(II)I"⟩, ⟨"BrideDoors", "event", "(III)I"⟩, ⟨"BrideDoors", "back", "()I"⟩, ⟨"BrideDoors", "read", "(I)I"⟩, ⟨"BrideDoors", "at", "(III)I"⟩, ⟨"BrideDoors", "door", "(III)I"⟩, ⟨"BrideDoors", "draught", "(I)I"⟩, ⟨"BrideDoors", "dog", "(I)I"⟩, ⟨"BrideDoors", "kin", "(I)I"⟩, ⟨"BrideDoors", "lowest", "()I"⟩, ⟨"BrideDoors", "left", "(I)I"⟩, ⟨"BrideDoors", "wed", "(II)I"⟩, ⟨"BrideDoors", "when", "(II)I"⟩, ⟨"BrideDoors", "from", "(II)I"⟩, ⟨"BrideDoors", "spare", "(I)I"⟩, ⟨"BrideDoors", "bestPlan", "(III)I"⟩, ⟨"BrideDoors", "partOf", "(II)I"⟩, ⟨"BrideDoors", "fewestSpared", "()I"⟩, ⟨"BrideDoors", "placeOfBit", "(II)I"⟩, ⟨"BrideDoors", "seen", "(III)I"⟩, ⟨"BrideDoors", "forget", "()I"⟩, ⟨"BrideDoors", "never", "()I"⟩, ⟨"BrideDoors", "was", "(II)I"⟩, ⟨"BrideDoors", "ask", "(I)I"⟩, ⟨"BrideDoors", "chance", "(III)J"⟩, ⟨"BrideDoors", "ages", "(III)I"⟩, ⟨"BrideDoors", "comesOut", "(I)Z"⟩, ⟨"BrideDoors", "agreesWithSeen", "(I)Z"⟩, ⟨"BrideDoors", "fitting", "(IIII)I"⟩, ⟨"BrideDoors", "tallyGaps", "(II)V"⟩, ⟨"BrideDoors", "greatestTally", "(I)I"⟩, ⟨"BrideDoors", "weightOf", "(II)J"⟩, ⟨"BrideDoors", "drawEvents", "(II)V"⟩, ⟨"BrideDoors", "nextSeed", "(I)I"⟩, ⟨"BrideDoors", "sheet", "(III)I"⟩, ⟨"BrideDoors", "lose", "(I)I"⟩, ⟨"BrideDoors", "lay", "(IIII)I"⟩, ⟨"BrideDoors", "get", "(III)I"⟩, ⟨"BrideDoors", "copy", "(IIIII)I"⟩, ⟨"BrideDoors", "write", "(II)I"⟩, ⟨"BrideDoors", "count", "(I)I"⟩, ⟨"BrideDoors", "digest", "()J"⟩, ⟨"BrideDoors", "mixHouse", "(JI)J"⟩, ⟨"BrideDoors", "mixBride", "(JI)J"⟩, ⟨"BrideDoors", "mixPlan", "(JI)J"⟩, ⟨"BrideDoors", "mix", "(JJ)J"⟩, ⟨"BrideDoors", "isBelow", "(II)Z"⟩, ⟨"BrideDoors", "isSet", "(II)Z"⟩, ⟨"BrideDoors", "placeAmong", "(ICI)I"⟩, ⟨"BrideDoors", "heightOfSign", "(I)I"⟩, ⟨"BrideDoors", "mayBe", "(III)Z"⟩, ⟨"BrideDoors", "textOf", "(I)LBrideDoors$Text;"⟩, ⟨"BrideDoors", "sheetOf", "(I)LBrideDoors$Sheet;"⟩, ⟨"BrideDoors", "finding", "(I)I"⟩, ⟨"BrideDoors", "passTold", "(I)V"⟩, ⟨"BrideDoors", "openWithout", "(I)I"⟩, ⟨"BrideDoorsModel", "in", "(JJJ)Z"⟩, ⟨"BrideDoorsModel", "no", "(I)J"⟩, ⟨"BrideDoorsModel", "isTwo", "(I)Z"⟩, ⟨"BrideDoorsModel", "isIn", "(II)Z"⟩, ⟨"BrideDoorsModel", "ones", "(I)I"⟩, ⟨"BrideDoorsModel", "lesser", "(II)I"⟩, ⟨"BrideDoorsModel", "greater", "(II)I"⟩, ⟨"BrideDoorsModel", "part", "(JJI)J"⟩, ⟨"BrideDoorsModel", "finds", "(I)I"⟩, ⟨"BrideDoorsModel", "isSheet", "(I)Z"⟩, ⟨"BrideDoorsModel", "sheet", "(III)I"⟩, ⟨"BrideDoorsModel", "lose", "(I)I"⟩, ⟨"BrideDoorsModel", "lacks", "(III)I"⟩, ⟨"BrideDoorsModel", "cut", "(II)I"⟩, ⟨"BrideDoorsModel", "lay", "(IIII)I"⟩, ⟨"BrideDoorsModel", "get", "(III)I"⟩, ⟨"BrideDoorsModel", "copy", "(IIIII)I"⟩, ⟨"BrideDoorsModel", "type", "(II)I"⟩, ⟨"BrideDoorsModel", "wipe", "(I)I"⟩, ⟨"BrideDoorsModel", "undo", "(I)I"⟩, ⟨"BrideDoorsModel", "letterOf", "(II)I"⟩, ⟨"BrideDoorsModel", "highOf", "(I)I"⟩, ⟨"BrideDoorsModel", "houseOf", "(II)I"⟩, ⟨"BrideDoorsModel", "readsHouses", "()I"⟩, ⟨"BrideDoorsModel", "figureOf", "(II)I"⟩, ⟨"BrideDoorsModel", "brideOf", "(II)I"⟩, ⟨"BrideDoorsModel", "readsBrides", "()I"⟩, ⟨"BrideDoorsModel", "readsText", "(I)I"⟩, ⟨"BrideDoorsModel", "fault", "(I)I"⟩, ⟨"BrideDoorsModel", "isHouse", "(I)Z"⟩, ⟨"BrideDoorsModel", "isBride", "(I)Z"⟩, ⟨"BrideDoorsModel", "isYear", "(I)Z"⟩, ⟨"BrideDoorsModel", "house", "(II)I"⟩, ⟨"BrideDoorsModel", "bride", "(II)I"⟩, ⟨"BrideDoorsModel", "keeps", "(III)V"⟩, ⟨"BrideDoorsModel", "event", "(III)I"⟩, ⟨"BrideDoorsModel", "back", "()I"⟩, ⟨"BrideDoorsModel", "read", "(I)I"⟩, ⟨"BrideDoorsModel", "hangsIn", "(II)Z"⟩, ⟨"BrideDoorsModel", "highestIn", "(I)I"⟩, ⟨"BrideDoorsModel", "lowestIn", "(I)I"⟩, ⟨"BrideDoorsModel", "saws", "(II)V"⟩, ⟨"BrideDoorsModel", "happens", "(II)V"⟩, ⟨"BrideDoorsModel", "comes", "(I)V"⟩, ⟨"BrideDoorsModel", "notes", "(I)V"⟩, ⟨"BrideDoorsModel", "passes", "(I)V"⟩, ⟨"BrideDoorsModel", "lives", "()V"⟩, ⟨"BrideDoorsModel", "find", "()V"⟩, ⟨"BrideDoorsModel", "gapOf", "(II)I"⟩, ⟨"BrideDoorsModel", "atBy", "(III)I"⟩, ⟨"BrideDoorsModel", "at", "(III)I"⟩, ⟨"BrideDoorsModel", "doorBy", "(III)I"⟩, ⟨"BrideDoorsModel", "door", "(III)I"⟩, ⟨"BrideDoorsModel", "draughtOf", "(I)I"⟩, ⟨"BrideDoorsModel", "draught", "(I)I"⟩, ⟨"BrideDoorsModel", "dogBy", "(I)I"⟩, ⟨"BrideDoorsModel", "dog", "(I)I"⟩, ⟨"BrideDoorsModel", "kinOf", "(I)I"⟩, ⟨"BrideDoorsModel", "kin", "(I)I"⟩, ⟨"BrideDoorsModel", "lowestNow", "()I"⟩, ⟨"BrideDoorsModel", "lowest", "()I"⟩, ⟨"BrideDoorsModel", "leftBy", "(I)I"⟩, ⟨"BrideDoorsModel", "left", "(I)I"⟩, ⟨"BrideDoorsModel", "burntNow", "()I"⟩, ⟨"BrideDoorsModel", "bestOf", "(IIIII)I"⟩, ⟨"BrideDoorsModel", "wed", "(II)I"⟩, ⟨"BrideDoorsModel", "when", "(II)I"⟩, ⟨"BrideDoorsModel", "from", "(II)I"⟩, ⟨"BrideDoorsModel", "isSpared", "(I)Z"⟩, ⟨"BrideDoorsModel", "spareBy", "(I)I"⟩, ⟨"BrideDoorsModel", "spare", "(I)I"⟩, ⟨"BrideDoorsModel", "seen", "(III)I"⟩, ⟨"BrideDoorsModel", "forget", "()I"⟩, ⟨"BrideDoorsModel", "isSeen", "()Z"⟩, ⟨"BrideDoorsModel", "neverNow", "()I"⟩, ⟨"BrideDoorsModel", "never", "()I"⟩, ⟨"BrideDoorsModel", "openedOf", "(I)I"⟩, ⟨"BrideDoorsModel", "sortOf", "(I)I"⟩, ⟨"BrideDoorsModel", "wasOf", "(II)I"⟩, ⟨"BrideDoorsModel", "was", "(II)I"⟩, ⟨"BrideDoorsModel", "alike", "(II)I"⟩, ⟨"BrideDoorsModel", "askOf", "(I)I"⟩, ⟨"BrideDoorsModel", "ask", "(I)I"⟩, ⟨"BrideDoorsModel", "chanceOf", "(III)J"⟩, ⟨"BrideDoorsModel", "chance", "(III)J"⟩, ⟨"BrideDoorsModel", "lot", "(I)I"⟩, ⟨"BrideDoorsModel", "agesOf", "(III)I"⟩, ⟨"BrideDoorsModel", "ages", "(III)I"⟩, ⟨"BrideDoorsModel", "write", "(II)I"⟩, ⟨"BrideDoorsModel", "count", "(I)I"⟩, ⟨"BrideDoorsModel", "tellsYear", "(JII)J"⟩, ⟨"BrideDoorsModel", "tellsHouse", "(JI)J"⟩, ⟨"BrideDoorsModel", "tellsDoor", "(JII)J"⟩, ⟨"BrideDoorsModel", "tellsBride", "(JI)J"⟩, ⟨"BrideDoorsModel", "digest", "()J"⟩, ⟨"BrideDoorsLaw", "law", "([I)Z"⟩]
def n_cs : List ByteArray := [prog_11_method_49_code, prog_13_method_54_code, prog_13_method_79_code, prog_13_method_80_code, prog_13_method_152_code, prog_13_method_154_code, prog_14_method_4_code, prog_14_method_22_code, prog_14_method_23_code, prog_17_method_103_code, prog_2_method_2_code, prog_3_method_2_code, prog_4_method_2_code, prog_4_method_3_code, prog_4_method_4_code, prog_4_method_5_code, prog_4_method_6_code, prog_5_method_2_code, prog_5_method_3_code, prog_5_method_4_code, prog_5_method_5_code, prog_6_method_3_code, prog_6_method_4_code, prog_6_method_5_code, prog_6_method_6_code, prog_7_method_2_code, prog_7_method_3_code, prog_7_method_4_code, prog_7_method_5_code, prog_7_method_6_code, prog_7_method_7_code, prog_7_method_8_code, prog_7_method_9_code, prog_7_method_10_code, prog_7_method_11_code, prog_7_method_12_code, prog_7_method_13_code, prog_7_method_14_code, prog_7_method_15_code, prog_7_method_16_code, prog_7_method_17_code, prog_1_method_2_code, prog_1_method_3_code, prog_1_method_4_code, prog_1_method_5_code, prog_1_method_6_code, prog_1_method_7_code, prog_1_method_8_code, prog_1_method_9_code, prog_1_method_10_code, prog_1_method_11_code, prog_1_method_12_code, prog_1_method_13_code, prog_1_method_14_code, prog_1_method_15_code, prog_1_method_16_code, prog_1_method_17_code, prog_1_method_18_code, prog_1_method_19_code, prog_1_method_20_code, prog_1_method_21_code, prog_1_method_22_code, prog_1_method_23_code, prog_1_method_24_code, prog_1_method_25_code, prog_1_method_26_code, prog_1_method_27_code, prog_1_method_28_code, prog_1_method_29_code, prog_1_method_30_code, prog_1_method_31_code, prog_1_method_32_code, prog_1_method_33_code, prog_1_method_34_code, prog_1_method_35_code, prog_1_method_36_code, prog_1_method_37_code, prog_1_method_38_code, prog_1_method_39_code, prog_1_method_40_code, prog_1_method_41_code, prog_1_method_42_code, prog_1_method_43_code, prog_1_method_44_code, prog_1_method_45_code, prog_1_method_46_code, prog_1_method_47_code, prog_1_method_48_code, prog_1_method_49_code, prog_1_method_50_code, prog_1_method_51_code, prog_1_method_52_code, prog_1_method_53_code, prog_1_method_54_code, prog_1_method_55_code, prog_1_method_56_code, prog_1_method_57_code, prog_1_method_58_code, prog_1_method_59_code, prog_1_method_60_code, prog_1_method_61_code, prog_1_method_62_code, prog_9_method_3_code, prog_9_method_4_code, prog_9_method_5_code, prog_9_method_6_code, prog_9_method_7_code, prog_9_method_8_code, prog_9_method_9_code, prog_9_method_10_code, prog_9_method_11_code, prog_9_method_12_code, prog_9_method_13_code, prog_9_method_14_code, prog_9_method_15_code, prog_9_method_16_code, prog_9_method_17_code, prog_9_method_18_code, prog_9_method_19_code, prog_9_method_20_code, prog_9_method_21_code, prog_9_method_22_code, prog_9_method_23_code, prog_9_method_24_code, prog_9_method_25_code, prog_9_method_26_code, prog_9_method_27_code, prog_9_method_28_code, prog_9_method_29_code, prog_9_method_30_code, prog_9_method_31_code, prog_9_method_32_code, prog_9_method_33_code, prog_9_method_34_code, prog_9_method_35_code, prog_9_method_36_code, prog_9_method_37_code, prog_9_method_38_code, prog_9_method_39_code, prog_9_method_40_code, prog_9_method_41_code, prog_9_method_42_code, prog_9_method_43_code, prog_9_method_44_code, prog_9_method_45_code, prog_9_method_46_code, prog_9_method_47_code, prog_9_method_48_code, prog_9_method_49_code, prog_9_method_50_code, prog_9_method_51_code, prog_9_method_52_code, prog_9_method_53_code, prog_9_method_54_code, prog_9_method_55_code, prog_9_method_56_code, prog_9_method_57_code, prog_9_method_58_code, prog_9_method_59_code, prog_9_method_60_code, prog_9_method_61_code, prog_9_method_62_code, prog_9_method_63_code, prog_9_method_64_code, prog_9_method_65_code, prog_9_method_66_code, prog_9_method_67_code, prog_9_method_68_code, prog_9_method_69_code, prog_9_method_70_code, prog_9_method_71_code, prog_9_method_72_code, prog_9_method_73_code, prog_9_method_74_code, prog_9_method_75_code, prog_9_method_76_code, prog_9_method_77_code, prog_9_method_78_code, prog_9_method_79_code, prog_9_method_80_code, prog_9_method_81_code, prog_9_method_82_code, prog_9_method_83_code, prog_9_method_84_code, prog_9_method_85_code, prog_9_method_86_code, prog_9_method_87_code, prog_9_method_88_code, prog_9_method_89_code, prog_9_method_90_code, prog_9_method_91_code, prog_9_method_92_code, prog_9_method_93_code, prog_9_method_94_code, prog_9_method_95_code, prog_9_method_96_code, prog_9_method_97_code, code]
def n_rs : List (Option FieldType) := [(some .int), (some .int), (some .int), (some .int), (some .byte), (some .boolean), (some .boolean), (some .int), (some .int), none, (some .int), (some .int), none, (some .int), (some .boolean), none, (some .int), (some .boolean), (some .boolean), (some .boolean), none, (some .boolean), none, none, none, none, none, none, none, none, none, (some .int), (some .int), (some .int), (some .int), (some .int), (some .int), (some .int), (some .int), (some .int), (some .int), (some .int), (some .int), (some .int), (some .int), (some .int), (some .int), (some .int), (some .int), (some .int), (some .int), (some .int), (some .int), (some .int), (some .int), (some .int), (some .int), (some .int), (some .int), (some .int), (some .int), (some .int), (some .int), (some .int), (some .int), (some .int), (some .int), (some .int), (some .int), (some .int), (some .long), (some .int), (some .boolean), (some .boolean), (some .int), none, (some .int), (some .long), none, (some .int), (some .int), (some .int), (some .int), (some .int), (some .int), (some .int), (some .int), (some .long), (some .long), (some .long), (some .long), (some .long), (some .boolean), (some .boolean), (some .int), (some .int), (some .boolean), (some (.object "BrideDoors$Text")), (some (.object "BrideDoors$Sheet")), (some .int), none, (some .int), (some .boolean), (some .long), (some .boolean), (some .boolean), (some .int), (some .int), (some .int), (some .long), (some .int), (some .boolean), (some .int), (some .int), (some .int), (some .int), (some .int), (some .int), (some .int), (some .int), (some .int), (some .int), (some .int), (some .int), (some .int), (some .int), (some .int), (some .int), (some .int), (some .int), (some .int), (some .boolean), (some .boolean), (some .boolean), (some .int), (some .int), none, (some .int), (some .int), (some .int), (some .boolean), (some .int), (some .int), none, none, none, none, none, none, none, (some .int), (some .int), (some .int), (some .int), (some .int), (some .int), (some .int), (some .int), (some .int), (some .int), (some .int), (some .int), (some .int), (some .int), (some .int), (some .int), (some .int), (some .int), (some .int), (some .int), (some .boolean), (some .int), (some .int), (some .int), (some .int), (some .boolean), (some .int), (some .int), (some .int), (some .int), (some .int), (some .int), (some .int), (some .int), (some .int), (some .long), (some .long), (some .int), (some .int), (some .int), (some .int), (some .int), (some .long), (some .long), (some .long), (some .long), (some .long), (some .boolean)]
def n_frs : List Nat := [0, 1, 3, 2, 0, 0, 0, 1, 0, 0, 3, 4, 1, 1, 0, 1, 0, 0, 0, 1, 0, 0, 6, 6, 5, 0, 2, 1, 0, 0, 1, 0, 0, 0, 0, 0, 0, 1, 2, 1, 0, 7, 7, 7, 1, 2, 2, 2, 0, 2, 4, 4, 4, 3, 1, 4, 4, 5, 5, 5, 5, 4, 0, 4, 1, 1, 0, 4, 5, 5, 4, 3, 3, 2, 4, 3, 1, 1, 1, 0, 2, 2, 2, 2, 2, 3, 5, 7, 6, 5, 1, 0, 0, 0, 1, 2, 1, 0, 1, 0, 3, 3, 0, 0, 1, 0, 0, 0, 0, 0, 0, 1, 2, 2, 1, 0, 2, 2, 2, 2, 2, 2, 1, 1, 2, 3, 1, 2, 3, 4, 5, 1, 1, 1, 4, 4, 0, 2, 0, 3, 0, 1, 1, 0, 2, 2, 2, 3, 4, 5, 0, 1, 6, 0, 6, 1, 6, 1, 6, 2, 4, 0, 6, 0, 6, 0, 5, 6, 6, 6, 5, 6, 7, 2, 0, 5, 6, 7, 6, 6, 7, 8, 1, 7, 8, 5, 6, 0, 5, 6, 6, 6, 2, 8, 1, 6, 9, 10]
def n_los : List Nat := [0, 20, 70, 48, 0, 0, 0, 25, 0, 0, 64, 91, 23, 21, 0, 21, 0, 0, 0, 21, 0, 0, 138, 138, 113, 0, 46, 23, 0, 0, 23, 0, 0, 0, 0, 0, 0, 23, 44, 23, 0, 159, 159, 159, 21, 43, 43, 43, 0, 43, 91, 91, 91, 70, 21, 91, 91, 118, 118, 118, 114, 91, 0, 91, 21, 23, 0, 92, 119, 119, 91, 70, 70, 44, 92, 70, 21, 21, 23, 0, 45, 42, 43, 43, 100, 70, 112, 169, 142, 118, 23, 0, 0, 0, 21, 43, 21, 0, 21, 0, 70, 70, 0, 0, 25, 0, 0, 0, 0, 0, 0, 25, 45, 45, 25, 0, 48, 48, 45, 45, 45, 45, 25, 25, 45, 66, 25, 46, 67, 91, 112, 25, 25, 25, 90, 91, 0, 45, 0, 68, 0, 22, 22, 0, 45, 46, 45, 72, 94, 115, 0, 22, 135, 0, 135, 22, 135, 22, 135, 46, 91, 0, 135, 0, 135, 0, 115, 146, 146, 146, 115, 136, 159, 45, 0, 115, 138, 160, 138, 138, 163, 185, 21, 163, 187, 115, 144, 0, 115, 142, 135, 135, 46, 187, 24, 146, 212, 235]
def n_lbs : List (List Nat) := [[0], [0], [0], [0, 23, 36], [0, 13, 14], [0, 17, 18], [0, 15, 16], [0, 9, 29], [0, 7, 25, 31], [0, 5, 20], [0, 28, 37, 46, 55], [0, 14, 18], [0], [0, 9, 19, 34, 35], [0, 30, 31], [0, 22], [0, 32, 35, 38], [0, 15, 16], [0, 16, 17], [0, 26, 27], [0, 65], [0, 16, 17], [0, 36], [0], [0, 14, 37, 38, 60, 71, 90, 96, 109, 125, 131, 149, 153, 154, 164, 168, 192, 193], [0, 17, 51, 53, 120, 122, 155], [0, 2, 21, 24, 92, 98, 101, 169, 175, 181], [0, 13, 30, 40], [0, 2, 53, 59], [0, 29], [0, 19, 41], [0, 30, 55, 57, 75, 76], [0, 52, 54, 63, 64, 65], [0, 4, 45, 47, 53], [0, 4, 45, 47, 53], [0, 24, 25], [0, 4, 28, 34], [0, 30, 31], [0, 4, 29], [0, 4, 30, 36], [0, 4, 31, 37], [0, 20, 23, 33], [0, 13], [0, 13, 23], [0, 15, 19], [0, 26, 28], [0, 26, 28], [0, 12, 25], [0, 13], [0, 13, 26, 31, 98, 120], [0, 28, 31, 68, 78, 87, 103, 119], [0, 28, 31, 64, 74, 84], [0, 12], [0, 11, 25, 42, 84, 85, 86, 92, 98], [0, 14, 28, 63], [0, 10, 60, 62, 68], [0, 11, 31, 39], [0, 19, 22], [0, 19, 22], [0, 19, 22], [0, 10, 13, 25, 37, 42], [0, 19, 39, 86, 90, 96], [0, 7, 18, 22], [0, 10, 12, 37, 43, 45, 60, 89, 95, 101], [0, 4, 25, 28, 34], [0, 27, 30, 43], [0], [0, 4, 31, 37], [0, 19, 22, 38, 46], [0, 14, 32, 53, 59], [0, 28, 32, 38, 77, 83, 94, 124, 139, 141], [0, 17, 20, 62, 73], [0, 14, 39, 45], [0, 2, 73, 75, 81], [0, 19, 56, 62], [0, 23, 42, 70, 125, 131, 137], [0, 4, 32], [0, 5, 35, 37, 45], [0, 13, 75], [0], [0, 26, 29, 39], [0, 13, 26], [0, 20, 23, 44], [0, 20, 24, 49], [0, 24, 27, 43, 49, 68, 91, 97], [0, 21, 24, 37, 63, 101], [0, 52, 60, 68, 76, 84, 92, 99, 117, 125, 130], [0, 6, 29, 51, 75, 77, 101, 103, 126], [0, 26, 38, 71, 77], [0, 6, 33, 36, 48, 81, 87], [0], [0], [0, 13, 14], [0, 12, 13], [0, 16, 17], [0, 18, 21], [0, 30, 31], [0, 9, 21, 22], [0, 17, 18], [0], [0], [0, 20, 34, 79], [0, 17, 18], [0], [0], [0, 13, 14], [0, 4, 20], [0, 9, 10], [0, 9, 10], [0, 6, 31, 40, 41], [0], [0], [0, 25, 28, 38, 55, 80], [0, 10, 25], [0, 15, 31, 53, 58], [0, 9, 19, 20], [0, 19, 22, 39], [0, 29, 32], [0, 14, 17, 35, 41, 62, 111, 117, 120, 154, 157, 192], [0, 19, 22, 37, 39, 45], [0, 10], [0, 10, 22], [0, 20, 22], [0, 23, 25], [0, 14, 24, 34, 36, 37, 49, 59, 61], [0, 14, 49, 68, 82, 83, 93, 111], [0, 23, 25], [0, 32, 38, 45, 52, 57, 67, 69], [0, 14, 52, 71, 85, 86, 96, 114], [0, 11, 15], [0, 15, 17], [0], [0], [0], [0, 33, 35], [0, 38, 40], [0], [0, 31, 34, 46], [0, 10], [0, 10, 25, 29, 93, 94, 104, 105, 110], [0, 26, 27], [0, 4, 41, 45, 46, 53], [0, 4, 41, 45, 46, 53], [0], [0, 7, 41, 47, 48, 60, 65, 84, 85, 86], [0, 29, 39, 40, 65, 73, 96, 108, 133, 163, 165], [0, 2, 15, 39, 40, 48, 95, 105, 124, 134, 141, 143, 208], [0, 2, 57, 63, 65, 92, 98], [0, 2, 32, 34, 67, 69, 86], [0], [0], [0, 40, 48, 56, 64, 72], [0, 41, 43], [0, 22, 37, 44], [0, 41, 43], [0, 4, 27], [0, 19, 21], [0, 2, 10, 50, 51, 52, 58, 64], [0, 19, 21], [0, 13, 44], [0, 21, 23], [0, 4, 42, 46, 47, 54], [0], [0, 4, 36, 37, 45, 47, 77, 78, 86], [0, 19, 21], [0, 4, 27, 28, 36], [0, 27, 73, 75, 86, 92, 112, 117, 119], [0, 34, 36], [0, 32, 34], [0, 32, 34], [0, 26, 27], [0, 17, 18, 19, 21, 48, 56, 57, 58, 64, 66, 78, 109, 117, 118, 119, 125, 131], [0, 24, 26], [0, 31, 34, 46], [0], [0, 8, 69, 70, 77], [0, 4, 33, 34, 42], [0], [0, 16, 50, 51, 56, 89, 95], [0, 14, 45, 46, 54], [0, 12, 17], [0, 28, 30], [0, 5, 18, 76, 77, 86, 99], [0, 11, 39, 40, 47], [0, 20, 22], [0, 6, 43, 44, 49, 78, 80, 89, 102], [0, 41, 46], [0], [0, 9, 36, 49, 90, 97, 124, 143, 151], [0, 33, 35], [0, 19, 22, 37, 52, 92], [0, 56, 61, 66, 75, 80, 87, 92, 97, 102], [0, 6, 37], [0], [0, 6, 37], [0, 10, 43, 86, 121, 124, 157, 160, 193], [0, 6, 31, 33, 57, 59, 80, 82, 103, 109, 134], [16, 18, 188, 221, 244, 267, 290, 323, 356, 399, 412, 435, 478, 521, 544, 567, 590, 603, 626, 659, 692, 725, 748, 791, 804, 817, 850, 873, 917, 960, 1003, 1026, 1079, 1122, 1185, 1218, 1241, 1255, 1261]]
def n_pcs : List Nat := [607, 327, 313, 317, 331, 321, 337, 334, 346, 604, 300, 308, 685, 698, 720, 703, 707, 441, 469, 425, 445, 281, 287, 407, 291, 477, 481, 488, 492, 500, 509, 513, 517, 496, 504, 527, 522, 532, 545, 566, 570, 268, 401, 413, 417, 421, 430, 434, 449, 453, 465, 537, 541, 550, 554, 558, 562, 574, 585, 589, 593, 578, 581, 597, 613, 618, 622, 626, 638, 646, 659, 669, 630, 634, 642, 650, 654, 664, 673, 676, 681, 690, 694, 711, 716, 727, 732, 737, 748, 759, 767, 742, 275, 484, 294, 304, 437, 272, 457, 461, 473, 601, 881, 1201, 917, 1017, 1219, 1047, 1028, 1198, 886, 877, 874, 890, 898, 901, 894, 905, 910, 914, 922, 926, 960, 944, 941, 938, 956, 953, 950, 934, 930, 968, 976, 983, 964, 972, 989, 980, 993, 997, 1025, 1036, 1040, 1032, 1021, 1044, 1051, 1014, 1010, 1006, 1060, 1056, 1002, 1068, 1064, 1076, 1072, 1084, 1080, 1092, 1088, 1100, 1096, 1108, 1104, 1231, 1116, 1112, 1120, 1124, 1137, 1133, 1128, 1141, 1146, 1158, 1154, 1150, 1170, 1174, 1166, 1162, 1186, 1182, 1178, 1195, 1190, 1215, 1211, 1206, 1223, 1227, 1246, 1242, 1254, 1250, 1235, 0]
def n_pst : List Nat := [606, 0, 0, 0, 0, 0, 336, 333, 345, 603, 0, 0, 0, 0, 0, 0, 0, 0, 0, 0, 0, 0, 0, 0, 0, 0, 0, 0, 0, 0, 0, 0, 0, 0, 0, 0, 0, 0, 0, 0, 0, 0, 0, 0, 0, 0, 0, 0, 0, 0, 0, 0, 0, 0, 0, 0, 0, 0, 0, 0, 0, 0, 580, 0, 612, 0, 0, 0, 0, 0, 0, 0, 0, 0, 0, 0, 0, 0, 0, 675, 0, 0, 0, 0, 0, 0, 0, 0, 0, 0, 766, 741, 274, 483, 293, 303, 436, 0, 0, 0, 0, 0, 880, 1200, 916, 1016, 1218, 1046, 1027, 1197, 0, 876, 0, 0, 0, 900, 0, 0, 0, 0, 0, 0, 959, 943, 940, 0, 955, 952, 0, 0, 0, 0, 0, 982, 0, 0, 0, 0, 0, 0, 0, 0, 0, 0, 0, 0, 0, 0, 0, 0, 0, 0, 0, 0, 0, 0, 0, 0, 0, 0, 0, 0, 0, 0, 0, 0, 0, 0, 0, 0, 0, 0, 0, 0, 0, 0, 0, 0, 0, 0, 0, 0, 0, 0, 0, 0, 0, 0, 0, 0, 0, 0, 0, 0, 0, 0, 0, 0]
def n_pin : List Nat := [0, 325, 311, 315, 329, 319, 0, 0, 0, 0, 299, 307, 683, 696, 718, 701, 706, 439, 467, 423, 443, 277, 283, 403, 290, 475, 479, 487, 491, 499, 508, 512, 516, 494, 502, 525, 520, 530, 543, 564, 568, 266, 399, 411, 415, 419, 428, 432, 447, 451, 463, 535, 539, 548, 552, 556, 560, 572, 583, 587, 591, 577, 0, 596, 0, 616, 620, 624, 636, 644, 657, 667, 629, 633, 641, 649, 653, 663, 672, 0, 679, 688, 692, 709, 714, 725, 730, 735, 747, 758, 0, 0, 0, 0, 0, 0, 0, 271, 456, 460, 472, 600, 0, 0, 0, 0, 0, 0, 0, 0, 885, 0, 872, 888, 897, 0, 892, 903, 908, 912, 920, 924, 0, 0, 0, 937, 0, 0, 949, 933, 928, 967, 975, 0, 962, 970, 988, 978, 991, 995, 1024, 1035, 1039, 1031, 1020, 1043, 1050, 1013, 1009, 1005, 1059, 1055, 1000, 1067, 1062, 1075, 1070, 1083, 1078, 1091, 1086, 1099, 1094, 1107, 1102, 1230, 1115, 1110, 1118, 1122, 1136, 1132, 1126, 1139, 1144, 1157, 1153, 1148, 1169, 1173, 1165, 1160, 1185, 1181, 1176, 1194, 1188, 1214, 1210, 1204, 1221, 1225, 1245, 1241, 1253, 1249, 1233, 0]
def n_pii : List Nat := [85, 78, 78, 78, 78, 78, 79, 79, 79, 84, 74, 73, 76, 76, 76, 76, 76, 71, 71, 71, 71, 72, 72, 72, 72, 75, 75, 75, 75, 75, 75, 75, 75, 75, 75, 75, 75, 75, 75, 75, 75, 70, 70, 70, 70, 70, 70, 70, 70, 70, 70, 70, 70, 70, 70, 70, 70, 70, 70, 70, 70, 70, 70, 70, 70, 70, 70, 70, 70, 70, 70, 70, 70, 70, 70, 70, 70, 70, 70, 70, 70, 70, 70, 70, 70, 70, 70, 70, 70, 70, 70, 70, 70, 70, 70, 70, 70, 70, 70, 70, 70, 70, 77, 77, 77, 77, 77, 77, 77, 77, 77, 77, 77, 77, 77, 77, 77, 77, 77, 77, 77, 77, 77, 77, 77, 77, 77, 77, 77, 77, 77, 77, 77, 77, 77, 77, 77, 77, 77, 77, 77, 77, 77, 77, 77, 77, 77, 77, 77, 77, 77, 77, 77, 77, 77, 77, 77, 77, 77, 77, 77, 77, 77, 77, 77, 77, 77, 77, 77, 77, 77, 77, 77, 77, 77, 77, 77, 77, 77, 77, 77, 77, 77, 77, 77, 77, 77, 77, 77, 77, 77, 77, 77, 77, 77, 77, 77, 69]
def n_pse : List Nat := [0, 326, 312, 316, 330, 320, 0, 0, 0, 0, 0, 0, 684, 697, 719, 702, 22, 440, 468, 424, 444, 0, 0, 0, 0, 476, 480, 6, 7, 8, 9, 10, 11, 495, 503, 526, 521, 531, 544, 565, 569, 267, 400, 412, 416, 420, 429, 433, 448, 452, 464, 536, 540, 549, 553, 557, 561, 573, 584, 588, 592, 12, 0, 13, 0, 617, 621, 625, 637, 645, 658, 668, 15, 16, 17, 18, 19, 20, 21, 0, 680, 689, 693, 710, 715, 726, 731, 736, 23, 24, 0, 0, 0, 0, 0, 0, 0, 2, 3, 4, 5, 14, 0, 0, 0, 0, 0, 0, 0, 0, 25, 0, 873, 889, 26, 0, 893, 904, 909, 913, 921, 925, 0, 0, 0, 28, 0, 0, 29, 27, 929, 30, 31, 0, 963, 971, 32, 979, 992, 996, 37, 39, 40, 38, 36, 41, 42, 35, 34, 33, 44, 43, 1001, 45, 1063, 46, 1071, 47, 1079, 48, 1087, 49, 1095, 50, 1103, 64, 51, 1111, 1119, 1123, 53, 52, 1127, 1140, 1145, 55, 54, 1149, 57, 58, 56, 1161, 60, 59, 1177, 61, 1189, 63, 62, 1205, 1222, 1226, 66, 65, 68, 67, 1234, 0]
def n_kds : List Nat := [9, 7, 7, 7, 7, 7, 5, 5, 8, 6, 6, 6, 6, 2, 2, 2, 2, 4, 2, 2, 3, 3, 3, 3, 3, 2, 2, 2, 2, 2, 2, 2, 2, 2, 2, 2, 2, 2, 2, 2, 2, 2, 2, 2, 2, 2, 2, 10, 2, 2, 2, 2, 2, 2, 2, 2, 2, 2, 2, 2, 2, 2, 2, 2, 2, 2, 2, 2, 2, 2, 2]
def n_cis : List Nat := [5, 3, 3, 3, 3, 3, 1, 0, 4, 2, 2, 2, 2, 9, 9, 9, 9, 9, 9, 9, 9, 9, 9, 9, 9, 9, 9, 9, 9, 9, 9, 9, 9, 9, 9, 9, 9, 9, 9, 9, 9, 9, 9, 9, 9, 9, 9, 6, 9, 9, 9, 9, 9, 9, 9, 9, 9, 9, 9, 9, 9, 9, 9, 9, 9, 9, 9, 9, 9, 9, 9]
end
section
/-! what each instruction of the small machine is in the real code -/
def n_tell : MethodName := ⟨"BrideDoors$Text", "tellAnew", "()V"⟩
def n_tb : List Cond := Cond.selects "BrideDoors$BrideText" n_tell n_tell :: Cond.selects "BrideDoors$HouseText" n_tell n_tell :: lw_tbl
def n_tg : List Cond := n_tb.filter goodWord
def n_y (m : Nat) : MethodName := n_ys.getD m ⟨"", "", ""⟩
def n_c (m : Nat) : ByteArray := n_cs.getD m ⟨#[]⟩
def n_r (m : Nat) : Option FieldType := n_rs.getD m none
def n_fr (m : Nat) : Nat := n_frs.getD m 0
def n_lo (m : Nat) : Nat := n_los.getD m 0
def n_lb (m l : Nat) : Nat := (n_lbs.getD m []).getD l 0
def n_own (m : Nat) : String := (n_y m).cls
def n_kd (i : Nat) : Nat := n_kds.getD i 0
def n_ci (i : Nat) : Nat := n_cis.getD i 9
/-- by a tag: its fields -/
def n_T (t : Nat) : u_T := if t = 5 then TX0 else if t = 6 then TX2 else if t = 7 then TX3 else if t = 8 then TX5 else if t = 9 then TX6 else TX7
def n_N (t : Nat) : Nat := if t = 8 then 10 else if t = 9 then 13 else if t = 10 then 30 else 4
def n_C (t : Nat) : String := if t = 6 then RX2 else if t = 7 then RX3 else if t = 8 then RX5 else if t = 9 then RX6 else if t = 10 then RX7 else "?"
def n_dt (d : String) : Nat := if d = "I" then 0 else if d = "Z" then 1 else if d = "[I" then 2 else if d = "[[I" then 3 else if d = "[LBrideDoors$Sheet;" then 4 else if d = "LBrideDoors$Text;" then 5 else if d = "LBrideDoors$Sheet;" then 6 else if d = "LBrideDoors$Table;" then 7 else 8
def n_cond (c : Int) : Jvm.ClassFile.Cond := if c = 0 then .eq else if c = 1 then .ne else if c = 2 then .lt else if c = 3 then .ge else if c = 4 then .gt else .le
def n_off (m pc l : Nat) : Int := (n_lb m l : Int) - (pc : Int)
def n_pad (pc : Nat) : Nat := 3 - pc % 4
def n_prs (m pc : Nat) : List Nat → List (Int × Int)
  | k :: l :: r => ((k : Int), n_off m pc l) :: n_prs m pc r
  | _ => []
def n_e0 (e : List Nat) : Nat := e.getD 0 0
def k_enc (m pc : Nat) (i : MIns) : Instr × Nat :=
  match i with
  | (op, n, c, e) => match op with
    | 0 => if n = 0 then (.iconst c, 1) else if n = 1 then (.bipush c, 2) else if n = 2 then (.sipush c, 3) else if n = 3 then (.ldc (n_e0 e), 2) else (.ldc_w (n_e0 e), 3)
    | 1 => if n = 0 then (.lconst (if c = 0 then 0 else 1), 1) else (.ldc2_w (n_e0 e), 3)
    | 2 => if n < 4 then (.iload_n (Fin.ofNat 4 n), 1) else (.iload n, 2)
    | 3 => if n < 4 then (.lload_n (Fin.ofNat 4 n), 1) else (.lload n, 2)
    | 4 => if n < 4 then (.aload_n (Fin.ofNat 4 n), 1) else (.aload n, 2)
    | 5 => if n < 4 then (.istore_n (Fin.ofNat 4 n), 1) else (.istore n, 2)
    | 6 => if n < 4 then (.lstore_n (Fin.ofNat 4 n), 1) else (.lstore n, 2)
    | 7 => if n < 4 then (.astore_n (Fin.ofNat 4 n), 1) else (.astore n, 2)
    | 8 => (.iinc n c, 3)
    | 9 => if n = 0 then (.iadd, 1) else if n = 1 then (.isub, 1) else if n = 2 then (.imul, 1) else if n = 3 then (.iand, 1) else if n = 4 then (.ior, 1) else if n = 5 then (.ishl, 1) else if n = 6 then (.ishr, 1) else (.iushr, 1)
    | 10 => if n = 0 then (.idiv, 1) else (.irem, 1)
    | 11 => if n = 0 then (.ladd, 1) else if n = 1 then (.lsub, 1) else (.lmul, 1)
    | 12 => if n = 0 then (.ldiv, 1) else (.lrem, 1)
    | 13 => (.lshl, 1)
    | 14 => if n = 0 then (.i2b, 1) else if n = 1 then (.i2s, 1) else (.i2c, 1)
    | 15 => (.i2l, 1)
    | 16 => (.lcmp, 1)
    | 17 => (.dup, 1)
    | 18 => (.pop, 1)
    | 19 => (.dup2, 1)
    | 20 => (.ifCond (n_cond c) (n_off m pc n), 3)
    | 21 => (.if_icmp (n_cond c) (n_off m pc n), 3)
    | 22 => if c = 0 then (.ifnull (n_off m pc n), 3) else (.ifnonnull (n_off m pc n), 3)
    | 23 => (.goto (n_off m pc n), 3)
    | 25 => (.tableswitch (n_off m pc n) c (c + e.length - 1) (e.map (n_off m pc)).toArray, 13 + n_pad pc + 4 * e.length)
    | 26 => (.lookupswitch (n_off m pc n) (n_prs m pc e).toArray, 9 + n_pad pc + 8 * (n_prs m pc e).length)
    | 27 => (.getfield (n_e0 e), 3)
    | 28 => (.getfield (n_e0 e), 3)
    | 29 => (.putfield (n_e0 e), 3)
    | 30 => (.getstatic (n_e0 e), 3)
    | 31 => (.iaload, 1)
    | 32 => (.iastore, 1)
    | 33 => (.arraylength, 1)
    | 34 => (.aaload, 1)
    | 35 => (.baload, 1)
    | 36 => (.invokestatic (n_e0 e), 3)
    | 37 => (.invokevirtual (n_e0 e), 3)
    | 38 => (.invokevirtual (n_e0 e), 3)
    | 39 => (.invokevirtual (n_e0 e), 3)
    | 40 => (.invokestatic (n_e0 e), 3)
    | 41 => (.ireturn, 1)
    | 42 => (.lreturn, 1)
    | 43 => (.areturn, 1)
    | 44 => (.return_, 1)
    | 45 => (.aconst_null, 1)
    | 46 => (.ldc (n_e0 e), 2)
    | 47 => (.getfield (n_e0 e), 3)
    | 48 => (.invokevirtual (n_e0 e), 3)
    | 50 => (.invokestatic (n_e0 e), 3)
    | 51 => (.invokestatic (n_e0 e), 3)
    | _ => (.nop, 0)
/-- a word of the tables at its place -/
def n_at (p : Nat) (w : Cond) : Bool := decide (n_tb[p]? = some w) && goodWord w
def n_s32 (c : Int) : Bool := decide (-2147483648 ≤ c) && decide (c < 2147483648)
def n_s64 (c : Int) : Bool := decide (-9223372036854775808 ≤ c) && decide (c < 9223372036854775808)
/-- what a call asks beside its link: the callee's words, its room in the caller's -/
def n_np (z : Nat) (n : Int) : Bool := decide ((parseMethodDescriptor (n_y z).desc).map (fun d => d.parameters.length) = some n.toNat) && decide (0 ≤ n)
def n_cal (m z : Nat) (n : Int) : Bool :=
  n_at (n_pcs.getD z 0) (.code (n_y z) (n_c z) (m_mx z) (n_r z)) && n_at (n_pii.getD z 0) (.initialized (n_y z).cls) && n_np z n
  && decide (n_fr z + 1 ≤ n_fr m) && decide (8 + (m_mx z + 11) + n_lo z ≤ n_lo m) && plainName (n_y z).cls && decide ((n_y z).cls ≠ "java/lang/invoke/MethodHandle") && decide ((n_y z).cls ≠ "java/lang/invoke/VarHandle")
def n_nest (m idx z : Nat) : Bool :=
  decide ((n_own m, idx, n_y z) ∈ ([("BrideDoors$Text", 46, ⟨"BrideDoors", "placeAmong", "(ICI)I"⟩), ("BrideDoors$BrideText", 9, ⟨"BrideDoors", "placeAmong", "(ICI)I"⟩), ("BrideDoors$BrideText", 13, ⟨"BrideDoors", "heightOfSign", "(I)I"⟩), ("BrideDoors$HouseText", 17, ⟨"BrideDoors", "heightOfSign", "(I)I"⟩), ("BrideDoors$Table", 24, ⟨"BrideDoors", "isBelow", "(II)Z"⟩), ("BrideDoors$World", 53, ⟨"BrideDoors", "isSet", "(II)Z"⟩), ("BrideDoors$Sheet", 32, ⟨"BrideDoors", "isBelow", "(II)Z"⟩)] : List (String × Nat × MethodName)))
def n_fld (m : Nat) (c : Int) (t pl idx : Nat) : Bool := decide (0 ≤ c) && decide (c < n_N t) && decide (5 ≤ t) && decide (t ≤ 10) && n_at pl (.fieldLink (n_own m) idx (n_T t c.toNat).1 (n_T t c.toNat).2.1 (n_T t c.toNat).2.2.1)
def n_txt (m z idx pl : Nat) (x : MethodName) : Bool :=
  n_at pl (.methodLink (n_own m) idx x) && n_at (n_pin.getD z 0) (.instanceMethod (n_y z)) && decide (x.cls = "BrideDoors$Text")
def k_sd (m : Nat) (i : MIns) : Bool :=
  match i with
  | (op, n, c, e) => match op with
    | 0 => n_s32 c && (if n = 0 then true else if n = 1 then decide ((Int8.ofInt c).toInt32 = Int32.ofInt c) else if n = 2 then decide ((Int16.ofInt c).toInt32 = Int32.ofInt c) else n_at (e.getD 1 0) (.constant (n_own m) (n_e0 e) (Int32.ofInt c)))
    | 1 => n_s64 c && (if n = 0 then decide (c = 0 ∨ c = 1) else n_at (e.getD 1 0) (.constantLong (n_own m) (n_e0 e) (Int64.ofInt c)))
    | 5 => decide (n < m_mx m)
    | 6 => decide (n + 1 < m_mx m)
    | 7 => decide (n < m_mx m)
    | 8 => decide (n < m_mx m) && n_s32 c
    | 20 => decide (0 ≤ c) && decide (c < 6)
    | 21 => decide (0 ≤ c) && decide (c < 6)
    | 22 => decide (c = 0 ∨ c = 1)
    | 25 => n_s32 c && n_s32 (c + e.length)
    | 26 => (((n_prs m 0 e).zip ((n_prs m 0 e).drop 1)).all (fun (a, next) => a.1 < next.1))
    | 27 => match e with
      | [idx, t, rt, pl] => n_fld m c t pl idx && decide ((n_T t c.toNat).2.2.2 = false) && decide (rt = (if n_dt (n_T t c.toNat).2.2.1 = 1 then 0 else n_dt (n_T t c.toNat).2.2.1))
      | _ => false
    | 28 => match e with
      | [idx, t, rt, pl] => n_fld m c t pl idx && decide ((n_T t c.toNat).2.2.2 = true) && decide (rt = (if n_dt (n_T t c.toNat).2.2.1 = 1 then 0 else n_dt (n_T t c.toNat).2.2.1))
      | _ => false
    | 29 => match e with
      | [idx, t, vt, pl] => n_fld m c t pl idx && decide ((n_T t c.toNat).2.2.2 = false) && decide (vt = n_dt (n_T t c.toNat).2.2.1)
      | _ => false
    | 30 => if n = 0 then n_at (e.getD 1 0) (.fieldLink (n_own m) (n_e0 e) "BrideDoors" "HOUSE_YEARS" "[I") else if n = 1 then n_at (e.getD 1 0) (.fieldLink (n_own m) (n_e0 e) "BrideDoors" "DOOR_YEARS" "[I") else decide (n = 2) && n_at (e.getD 1 0) (.fieldLink (n_own m) (n_e0 e) "java/lang/String" "COMPACT_STRINGS" "Z")
    | 36 => match e with
      | [idx, pl, nest] => n_cal m n c && n_at (n_pst.getD n 0) (.static (n_y n)) && (if nest = 0 then n_at pl (.methodLink (n_own m) idx (n_y n)) else n_nest m idx n)
      | _ => false
    | 37 => match e with
      | [idx, pl, t] => n_cal m n c && n_at (n_pin.getD n 0) (.instanceMethod (n_y n)) && n_at (n_pse.getD n 0) (.selects (n_y n).cls (n_y n) (n_y n)) && n_at pl (.methodLink (n_own m) idx (n_y n)) && decide ((n_y n).cls = n_C t) && decide (6 ≤ t) && decide (t ≤ 10)
      | _ => false
    | 38 => match e with
      | [idx, pl] => n_cal m n c && n_txt m n idx pl (n_y n) && (n_tb.contains (.sameMethod "BrideDoors$Text" "BrideDoors$Text" (n_y n).name (n_y n).desc)) && (n_tb.contains (.selects "BrideDoors$BrideText" (n_y n) (n_y n))) && (n_tb.contains (.selects "BrideDoors$HouseText" (n_y n) (n_y n))) && decide ((n_y n).cls = "BrideDoors$Text")
      | _ => false
    | 39 => match e with
      | [idx, pl, h, b] => n_cal m h 2 && n_cal m b 2 && decide (c = 2) && n_at pl (.methodLink (n_own m) idx ⟨"BrideDoors$Text", "valueOf", "(II)I"⟩) && decide (n_y h = ⟨"BrideDoors$HouseText", "valueOf", "(II)I"⟩) && decide (n_y b = ⟨"BrideDoors$BrideText", "valueOf", "(II)I"⟩)
      | _ => false
    | 40 => match e with
      | [idx, pl] => n_at pl (.methodLink (n_own m) idx ⟨"java/lang/System", "arraycopy", "(Ljava/lang/Object;ILjava/lang/Object;II)V"⟩) && decide (1 ≤ n_fr m) && decide (60 ≤ n_lo m)
      | _ => false
    | 41 => if n = 0 then decide (n_r m = some .int) else decide (n_r m = some .boolean ∨ n_r m = some .byte)
    | 42 => decide (n_r m = some .long)
    | 43 => match n_r m with
      | some (.object _) => true
      | _ => false
    | 44 => decide (n_r m = none)
    | 46 => decide (n_e0 e = 9) && decide (n_own m = "BrideDoors$HouseText")
    | 47 => if n = 0 then n_at (e.getD 1 0) (.fieldLink (n_own m) (n_e0 e) "java/lang/String" "value" "[B") else decide (n = 1) && n_at (e.getD 1 0) (.fieldLink (n_own m) (n_e0 e) "java/lang/String" "coder" "B")
    | 48 => match e with
      | [idx, pl] => n_cal m n c && n_at (n_pin.getD n 0) (.instanceMethod (n_y n)) && n_at (n_pse.getD n 0) (.selects (n_y n).cls (n_y n) (n_y n)) && n_at pl (.methodLink (n_own m) idx (n_y n)) && decide ((n_y n).cls = "java/lang/String")
      | _ => false
    | 49 => false
    | 50 => match e with
      | [idx, pl] => n_at pl (.methodLink (n_own m) idx Lib.Math.max.name) && decide (1 ≤ n_fr m) && decide (21 ≤ n_lo m)
      | _ => false
    | 51 => match e with
      | [idx, pl] => n_at pl (.methodLink (n_own m) idx Lib.Math.min.name) && decide (1 ≤ n_fr m) && decide (21 ≤ n_lo m)
      | _ => false
    | _ => true
def k_chk (m pc : Nat) (i : MIns) : Bool := decide (decode (n_c m) pc = .ok (k_enc m pc i)) && k_sd m i
def k_end (op : Nat) : Bool := op == 23 || op == 25 || op == 26 || (41 ≤ op && op ≤ 44)
/-- an instruction that is never come to: the code goes on unchecked behind it -/
def k_fit (m : Nat) : Nat → List MIns → Bool
  | _, [] => false
  | pc, i :: is => if i.1 = 24 then decide (n_lb m i.2.1 = pc) else if i.1 = 49 then true else k_chk m pc i && (k_end i.1 || k_fit m (pc + (k_enc m pc i).2) is)
def k_all (m : Nat) : Bool := (List.range (m_prog.getD m []).length).all (fun l => k_fit m (n_lb m l) (m_bl m l))
end
section
/-! how the small machine's state stands for the real one's -/
def s_v (φ : Nat → Nat) (v : MVal) : Value := if v.1 = 0 then .int (Int32.ofInt v.2) else if v.1 = 1 then .long (Int64.ofInt v.2) else if v.2 < 0 then .null else .ref (φ v.2.toNat)
def s_R32 (x : Int) : Prop := -2147483648 ≤ x ∧ x < 2147483648
def s_R64 (x : Int) : Prop := -9223372036854775808 ≤ x ∧ x < 9223372036854775808
def s_ok (v : MVal) : Prop :=
  (v.1 = 0 → s_R32 v.2) ∧ (v.1 = 1 → s_R64 v.2) ∧ (2 ≤ v.1 → v.1 ≤ 10 → v.2 < 0 ∨ (v.2 < 71 ∧ n_kd v.2.toNat = v.1)) ∧ (v.1 = 11 → v.2 < 0 ∨ v.2 = 200 ∨ v.2 = 201 ∨ v.2 = 202) ∧ (v.1 = 12 → v.2 < 0 ∨ v.2 = 203) ∧ (v.1 = 13 → v.2 < 0 ∨ v.2 = 204) ∧ v.1 ≤ 14
def s_mo (L : Nat) (xs : Nat → Int32) (μ : MMem) : Prop := (∀ i j, s_R32 (μ i j)) ∧ (1 ≤ μ 8 2 ∧ μ 8 2 ≤ 5) ∧ μ 202 (-1) = (L : Int) ∧ ∀ j : Nat, j < L → μ 202 (j : Int) = (xs j).toInt
def s_fv (φ : Nat → Nat) (μ : MMem) (i k : Nat) : Value :=
  if n_dt (n_T (n_kd i) k).2.2.1 < 2 then .int (Int32.ofInt (if (n_T (n_kd i) k).2.2.2 then m_rf i k else μ i k)) else .ref (φ (if (n_T (n_kd i) k).2.2.2 then m_rf i k else μ i k).toNat)
def s_ce (φ : Nat → Nat) (cI cS cA : ClassId) (μ : MMem) (i : Nat) : va_E :=
  if n_kd i = 2 then .inl (cI, (m_al i).toNat, .inl (fun j => Int32.ofInt (μ i j)))
  else if n_kd i = 3 then .inl (cA, (m_rl i).toNat, .inr (.inr (.inr (.inr (fun j => some (φ (m_rf i j).toNat))))))
  else if n_kd i = 4 then .inl (cS, (m_rl i).toNat, .inr (.inr (.inr (.inr (fun j => some (φ (m_rf i j).toNat))))))
  else .inr (n_ci i, (List.range (n_N (n_kd i))).map (s_fv φ μ i))
def s_ws (φ : Nat → Nat) (cI cS cA : ClassId) (μ : MMem) : va_W := (List.range 71).map (fun i => (φ i, s_ce φ cI cS cA μ i))
def n_nests : List Cond := [.methodLinkNest "BrideDoors$Text" 46 ⟨"BrideDoors", "placeAmong", "(ICI)I"⟩ "BrideDoors", .methodLinkNest "BrideDoors$BrideText" 9 ⟨"BrideDoors", "placeAmong", "(ICI)I"⟩ "BrideDoors", .methodLinkNest "BrideDoors$BrideText" 13 ⟨"BrideDoors", "heightOfSign", "(I)I"⟩ "BrideDoors", .methodLinkNest "BrideDoors$HouseText" 17 ⟨"BrideDoors", "heightOfSign", "(I)I"⟩ "BrideDoors", .methodLinkNest "BrideDoors$Table" 24 ⟨"BrideDoors", "isBelow", "(II)Z"⟩ "BrideDoors", .methodLinkNest "BrideDoors$World" 53 ⟨"BrideDoors", "isSet", "(II)Z"⟩ "BrideDoors", .methodLinkNest "BrideDoors$Sheet" 32 ⟨"BrideDoors", "isBelow", "(II)Z"⟩ "BrideDoors"]
def n_decl : Cond := .declares ⟨"BrideDoors$Text", "valueOf", "(II)I"⟩
abbrev n_tys (cI cS cA : ClassId) : List (ClassId × FieldType) := [(cI, .int), (cS, .object "BrideDoors$Sheet"), (cA, .array .int)]
/-- what stands around the world: the tables, the statics, the constant, the script -/
def s_K (φ : Nat → Nat) (D : va_G) (cI cS cA : ClassId) (L : Nat) (xs : Nat → Int32) (A : Nat → Prop) (U : State) (H : Heap) : Prop :=
  va_K D n_cl (n_tys cI cS cA) U ∧
  va_T .int (φ 200) 4 (fun j => .int (Int32.ofInt (([0, 7, 15, 23] : List Int).getD j 0))) A U H ∧
  va_T .int (φ 201) 3 (fun j => .int (Int32.ofInt (([7, 15, 23] : List Int).getD j 0))) A U H ∧
  va_T .int (φ 202) L (fun j => .int (xs j)) A U H ∧
  va_Z "BrideDoors" "HOUSE_YEARS" "[I" (.ref (φ 200)) A U H ∧ va_Z "BrideDoors" "DOOR_YEARS" "[I" (.ref (φ 201)) A U H ∧ va_Z "java/lang/String" "COMPACT_STRINGS" "Z" (.int 1) A U H ∧
  vk_R "BrideDoors$HouseText" 9 "swt" (φ 203) U ∧
  vk_S 1 [3] [[115, 119, 116]] (fun _ => φ 203) (fun _ => φ 204) A U H ∧
  (∀ w ∈ n_nests, va_Nw w U) ∧ va_Nw n_decl U
theorem s_nest_warm {s U : State} (hW : s.WarmedH U.vm) (h : ∀ w ∈ n_nests, va_Nw w s) : ∀ w ∈ n_nests, va_Nw w U := by
  intro w hw
  have h1 := h w hw
  simp only [n_nests, List.mem_cons, List.not_mem_nil, or_false] at hw
  rcases hw with rfl | rfl | rfl | rfl | rfl | rfl | rfl <;> exact va_Nw.warmM hW h1
theorem s_K.go {φ : Nat → Nat} {D : va_G} {cI cS cA : ClassId} {L : Nat} {xs : Nat → Int32} {A : Nat → Prop} {s U : State} {H0 H : Heap} (h : s_K φ D cI cS cA L xs A s H0) (hW : s.WarmedH U.vm) (hq : ∀ a : Nat, a < H0.size → ¬ A a → H[a]? = H0[a]?) : s_K φ D cI cS cA L xs A U H := by
  obtain ⟨h1, h2, h3, h4, h5, h6, h7, h8, h9, h10, h11⟩ := h
  exact ⟨h1.moved hW.alike, (h2.kept hq).moved hW.alike, (h3.kept hq).moved hW.alike, (h4.kept hq).moved hW.alike, (h5.kept hq).moved hW.alike, (h6.kept hq).moved hW.alike, (h7.kept hq).moved hW.alike, h8.warm hW, (h9.kept hq).moved hW.alike, s_nest_warm hW h10, va_Nw.warmD hW h11⟩
theorem s_K.narrow {φ : Nat → Nat} {D : va_G} {cI cS cA : ClassId} {L : Nat} {xs : Nat → Int32} {A B : Nat → Prop} {U : State} {H : Heap} (h : s_K φ D cI cS cA L xs A U H) (hAB : ∀ q, B q → A q) : s_K φ D cI cS cA L xs B U H := by
  obtain ⟨h1, h2, h3, h4, h5, h6, h7, h8, h9, h10, h11⟩ := h
  exact ⟨h1, h2.narrow hAB, h3.narrow hAB, h4.narrow hAB, h5.narrow hAB, h6.narrow hAB, h7.narrow hAB, h8, h9.narrow hAB, h10, h11⟩
/-- the locals -/
def s_L (φ : Nat → Nat) (lsA : Array Slot) (nL : Nat) (ls : List MVal) : Prop :=
  lsA.size = nL ∧ lv_wf lsA ∧ ∀ i, (m_l ls i).1 ≠ 14 → s_ok (m_l ls i) ∧ lsA[i]? = some (.val (s_v φ (m_l ls i)))
def s_pr (φ : Nat → Nat) (nL : Nat) (ls : List MVal) : List (Nat × Value) := ((List.range nL).filter (fun i => (m_l ls i).1 ≠ 14)).map (fun i => (i, s_v φ (m_l ls i)))
theorem s_L.has {φ : Nat → Nat} {lsA : Array Slot} {nL : Nat} {ls : List MVal} (h : s_L φ lsA nL ls) : lv_has lsA nL (s_pr φ nL ls) := by
  refine ⟨h.1, h.2.1, fun q hq => ?_⟩
  obtain ⟨i, hi, rfl⟩ := List.mem_map.mp hq
  have h1 := (List.mem_filter.mp hi).2
  exact (h.2.2 i (by simpa using h1)).2
theorem m_l_lp (ls : List MVal) : ∀ (n i : Nat) (v : MVal), m_l (m_lp ls n v) i = if n < ls.length then (if i = n then v else if i + 1 = n ∧ (m_l ls i).1 = 1 then (14, 0) else m_l ls i) else (if i + 1 = n ∧ (m_l ls i).1 = 1 then (14, 0) else m_l ls i) := by
  induction ls with
  | nil => intro n i v; simp [m_lp, m_l]
  | cons a r ih =>
    intro n i v
    cases n with
    | zero =>
      cases i with
      | zero => simp [m_lp, m_l]
      | succ i => simp [m_lp, m_l]
    | succ n =>
      cases i with
      | zero =>
        cases n with
        | zero => simp only [m_lp, m_l]; by_cases h : a.1 = 1 <;> simp [h]
        | succ n => simp [m_lp, m_l]
      | succ i =>
        simp only [m_lp, m_l, List.length_cons, Nat.add_lt_add_iff_right, Nat.add_right_cancel_iff]
        rw [ih]
theorem s_cat (φ : Nat → Nat) (v : MVal) : (s_v φ v).category = if v.1 = 1 then 2 else 1 := by
  unfold s_v
  by_cases h0 : v.1 = 0
  · simp [h0, Value.category]
  · by_cases h1 : v.1 = 1
    · simp [h1, Value.category]
    · by_cases h2 : v.2 < 0 <;> simp [h0, h1, h2, Value.category]
theorem s_sum (φ : Nat → Nat) (st : List MVal) : ((st.map (s_v φ)).map fun v => v.category).sum = m_ws st := by
  induction st with
  | nil => rfl
  | cons a r ih => simp only [List.map_cons, List.sum_cons, ih, s_cat, m_ws]
theorem s_L.put {φ : Nat → Nat} {lsA lsB : Array Slot} {nL n : Nat} {ls : List MVal} {v : MVal} (h : s_L φ lsA nL ls) (hv : s_ok v) (h1 : v.1 ≠ 1)
    (hb : lv_has lsB nL ((n, s_v φ v) :: (s_pr φ nL ls).filter (fun q => !(q.1 == n) && !(q.1 + 1 == n && q.2.category == 2)))) (hn : n < nL) : s_L φ lsB nL (m_lp ls n v) := by
  refine ⟨hb.1, hb.2.1, fun i hi => ?_⟩
  have key : ∀ hx : (m_l ls i).1 ≠ 14, i ≠ n → ¬ (i + 1 = n ∧ (m_l ls i).1 = 1) → s_ok (m_l ls i) ∧ lsB[i]? = some (.val (s_v φ (m_l ls i))) := by
    intro hx hin hno
    refine ⟨(h.2.2 i hx).1, ?_⟩
    have hlt : i < nL := by have := lv_lt (h.2.2 i hx).2; rw [h.1] at this; exact this
    refine hb.2.2 (i, s_v φ (m_l ls i)) (List.mem_cons_of_mem _ (List.mem_filter.mpr ⟨List.mem_map.mpr ⟨i, List.mem_filter.mpr ⟨List.mem_range.mpr hlt, by simpa using hx⟩, rfl⟩, ?_⟩))
    simp only [s_cat, Bool.and_eq_true, Bool.not_eq_true', beq_eq_false_iff_ne, Bool.and_eq_false_iff, ne_eq]
    refine ⟨hin, ?_⟩
    by_cases e : i + 1 = n
    · right
      have : (m_l ls i).1 ≠ 1 := fun q => hno ⟨e, q⟩
      simp [this]
    · exact Or.inl e
  rw [m_l_lp] at hi ⊢
  by_cases hl : n < ls.length
  · rw [if_pos hl] at hi ⊢
    by_cases e : i = n
    · rw [if_pos e] at hi ⊢
      subst e
      exact ⟨hv, hb.2.2 _ List.mem_cons_self⟩
    · rw [if_neg e] at hi ⊢
      by_cases e2 : i + 1 = n ∧ (m_l ls i).1 = 1
      · rw [if_pos e2] at hi; exact absurd rfl hi
      · rw [if_neg e2] at hi ⊢; exact key hi e e2
  · rw [if_neg hl] at hi ⊢
    by_cases e2 : i + 1 = n ∧ (m_l ls i).1 = 1
    · rw [if_pos e2] at hi; exact absurd rfl hi
    · rw [if_neg e2] at hi ⊢
      have e : i ≠ n := by
        intro e
        subst e
        have : m_l ls i = (14, 0) := by
          have : ∀ (l : List MVal) (j : Nat), l.length ≤ j → m_l l j = (14, 0) := by
            intro l
            induction l with
            | nil => intro j _; rfl
            | cons a r ih => intro j hj; cases j with
              | zero => simp at hj
              | succ j => exact ih j (by simpa using hj)
          exact this _ _ (Nat.not_lt.mp hl)
        rw [this] at hi
        exact hi rfl
      exact key hi e e2
theorem s_L.put2 {φ : Nat → Nat} {lsA lsB : Array Slot} {nL n : Nat} {ls : List MVal} {v : MVal} (h : s_L φ lsA nL ls) (hv : s_ok v) 
    (hb : lv_has lsB nL ((n, s_v φ v) :: (s_pr φ nL ls).filter (fun q => !(q.1 == n) && (!(q.1 == n + 1) && !(q.1 + 1 == n && q.2.category == 2))))) (hn : n + 1 < nL) : s_L φ lsB nL (m_lq ls n v) := by
  have out : ∀ (l : List MVal) (j : Nat), l.length ≤ j → m_l l j = (14, 0) := by
    intro l
    induction l with
    | nil => intro j _; rfl
    | cons a r ih => intro j hj; cases j with
      | zero => simp at hj
      | succ j => exact ih j (by simpa using hj)
  refine ⟨hb.1, hb.2.1, fun i hi => ?_⟩
  have key : ∀ hx : (m_l ls i).1 ≠ 14, i ≠ n → i ≠ n + 1 → ¬ (i + 1 = n ∧ (m_l ls i).1 = 1) → s_ok (m_l ls i) ∧ lsB[i]? = some (.val (s_v φ (m_l ls i))) := by
    intro hx hin hin2 hno
    refine ⟨(h.2.2 i hx).1, ?_⟩
    have hlt : i < nL := by have := lv_lt (h.2.2 i hx).2; rw [h.1] at this; exact this
    refine hb.2.2 (i, s_v φ (m_l ls i)) (List.mem_cons_of_mem _ (List.mem_filter.mpr ⟨List.mem_map.mpr ⟨i, List.mem_filter.mpr ⟨List.mem_range.mpr hlt, by simpa using hx⟩, rfl⟩, ?_⟩))
    simp only [s_cat, Bool.and_eq_true, Bool.not_eq_true', beq_eq_false_iff_ne, Bool.and_eq_false_iff, ne_eq]
    refine ⟨hin, hin2, ?_⟩
    by_cases e : i + 1 = n
    · right
      have : (m_l ls i).1 ≠ 1 := fun q => hno ⟨e, q⟩
      simp [this]
    · exact Or.inl e
  have len : ∀ (l : List MVal) (j : Nat) (w : MVal), (m_lp l j w).length = l.length := by
    intro l
    induction l with
    | nil => intro j w; simp [m_lp]
    | cons a r ih => intro j w; cases j with
      | zero => simp [m_lp]
      | succ j => simp [m_lp, ih]
  unfold m_lq at hi ⊢
  have e1 := m_l_lp ls (n + 1) i (14, 0)
  rw [m_l_lp, len] at hi ⊢
  by_cases hl : n < ls.length
  · rw [if_pos hl] at hi ⊢
    by_cases e : i = n
    · rw [if_pos e] at hi ⊢
      subst e
      exact ⟨hv, hb.2.2 _ List.mem_cons_self⟩
    · rw [if_neg e] at hi ⊢
      have e1' : m_l (m_lp ls (n + 1) (14, 0)) i = if i = n + 1 then (14, 0) else m_l ls i := by
        rw [e1]
        have hno : ¬ (i + 1 = n + 1 ∧ (m_l ls i).1 = 1) := fun q => e (by omega)
        by_cases hl2 : n + 1 < ls.length
        · rw [if_pos hl2, if_neg hno]
        · rw [if_neg hl2, if_neg hno]
          by_cases e3 : i = n + 1
          · rw [if_pos e3, e3]; exact out _ _ (Nat.not_lt.mp hl2)
          · rw [if_neg e3]
      rw [e1'] at hi ⊢
      by_cases e3 : i = n + 1
      · rw [if_pos e3] at hi
        simp at hi
      · rw [if_neg e3] at hi ⊢
        by_cases e2 : i + 1 = n ∧ (m_l ls i).1 = 1
        · rw [if_pos e2] at hi; exact absurd rfl hi
        · rw [if_neg e2] at hi ⊢; exact key hi e e3 e2
  · rw [if_neg hl] at hi ⊢
    have hno : ¬ (i + 1 = n + 1 ∧ (m_l ls i).1 = 1) := by
      rintro ⟨q, q2⟩
      have : i = n := by omega
      subst this
      rw [out _ _ (Nat.not_lt.mp hl)] at q2
      cases q2
    have e1' : m_l (m_lp ls (n + 1) (14, 0)) i = m_l ls i := by
      rw [e1, if_neg (by omega), if_neg hno]
    rw [e1'] at hi ⊢
    by_cases e2 : i + 1 = n ∧ (m_l ls i).1 = 1
    · rw [if_pos e2] at hi; exact absurd rfl hi
    · rw [if_neg e2] at hi ⊢
      refine key hi (fun e => ?_) (fun e => ?_) e2
      · subst e; rw [out _ _ (Nat.not_lt.mp hl)] at hi; exact hi rfl
      · subst e; rw [out _ _ (by omega)] at hi; exact hi rfl
end
section
theorem s_vI (φ : Nat → Nat) (a : Int32) : s_v φ (0, a.toInt) = .int a := by simp [s_v]
theorem s_vJ (φ : Nat → Nat) (a : Int64) : s_v φ (1, a.toInt) = .long a := by simp [s_v]
theorem s_v0 (φ : Nat → Nat) (x : Int) : s_v φ (0, x) = .int (Int32.ofInt x) := rfl
theorem s_v1 (φ : Nat → Nat) (x : Int) : s_v φ (1, x) = .long (Int64.ofInt x) := rfl
theorem s_vr (φ : Nat → Nat) {t : Nat} {x : Int} (h : 2 ≤ t) (hx : 0 ≤ x) : s_v φ (t, x) = .ref (φ x.toNat) := by
  unfold s_v
  rw [if_neg (by show ¬ t = 0; omega), if_neg (by show ¬ t = 1; omega), if_neg (by show ¬ x < 0; omega)]
theorem s_vn (φ : Nat → Nat) {t : Nat} {x : Int} (h : 2 ≤ t) (hx : x < 0) : s_v φ (t, x) = .null := by
  unfold s_v
  rw [if_neg (by show ¬ t = 0; omega), if_neg (by show ¬ t = 1; omega), if_pos hx]
theorem s_ok0 {x : Int} (h : s_R32 x) : s_ok (0, x) := by simp [s_ok, h]
theorem s_ok1 {x : Int} (h : s_R64 x) : s_ok (1, x) := by simp [s_ok, h]
theorem s_okI (a : Int32) : s_ok (0, a.toInt) := by
  have h1 := Int32.le_toInt a
  have h2 := Int32.toInt_lt a
  exact s_ok0 ⟨by simpa using h1, by simpa using h2⟩
theorem s_okJ (a : Int64) : s_ok (1, a.toInt) := by
  have h1 := Int64.le_toInt a
  have h2 := Int64.toInt_lt a
  exact s_ok1 ⟨by simpa using h1, by simpa using h2⟩
theorem s_toI {x : Int} (h : s_R32 x) : (Int32.ofInt x).toInt = x := by
  rw [Int32.toInt_ofInt]; exact wr_id h.1 h.2
theorem s_toJ {x : Int} (h : s_R64 x) : (Int64.ofInt x).toInt = x := by
  rw [Int64.toInt_ofInt]; exact wl_id h.1 h.2
theorem n_in {p : Nat} {w : Cond} (h : n_at p w = true) : w ∈ n_tg := by
  unfold n_at at h
  simp only [Bool.and_eq_true, decide_eq_true_eq] at h
  exact List.mem_filter.mpr ⟨List.mem_of_getElem? h.1, h.2⟩
theorem k_chk_d {m pc : Nat} {i : MIns} (h : k_chk m pc i = true) : decode (n_c m) pc = .ok (k_enc m pc i) ∧ k_sd m i = true := by
  unfold k_chk at h
  simp only [Bool.and_eq_true, decide_eq_true_eq] at h
  exact h
section SA
variable {p : Program} {l : Launch} {e : Env} {R : Room} {s : State} {m : MethodId} {args : Array Value} {below : List Frame} {meth : Method} {c : Code} {H : Heap} {locs : List Loc} {cells slots : Nat} {Q : State → Prop}
variable {φ : Nat → Nat} {k pc n : Nat} {z : Int} {ex : List Nat} {ls st : List MVal} {μ : MMem} {lsA : Array Slot}
/-- loads of a local of one of three sorts -/
theorem s_load (hx : p.tables.exec = Jvm.exec) (hb : c.code = n_c k) (hL : s_L φ lsA (m_mx k) ls) (h0 : (m_l ls n).1 = 0) (hd : decode (n_c k) pc = .ok (k_enc k pc (2, n, z, ex)))
    (kk : W p l e R s m args below meth c H locs cells slots Q (F0 m (pc + (k_enc k pc (2, n, z, ex)).2) lsA (s_v φ (m_l ls n) :: st.map (s_v φ)))) : W p l e R s m args below meth c H locs cells slots Q (F0 m pc lsA (st.map (s_v φ))) := by
  have hl := (hL.2.2 n (by rw [h0]; decide)).2
  have hv : s_v φ (m_l ls n) = .int (Int32.ofInt (m_l ls n).2) := by
    unfold s_v; rw [if_pos h0]
  rw [hv] at hl kk
  by_cases h4 : n < 4
  · have he : k_enc k pc (2, n, z, ex) = (.iload_n (Fin.ofNat 4 n), 1) := if_pos h4
    rw [he] at hd kk
    exact lv_iload_n hx hb hd (by simp [Fin.ofNat]; omega) hl kk
  · have he : k_enc k pc (2, n, z, ex) = (.iload n, 2) := if_neg h4
    rw [he] at hd kk
    exact lv_iload hx hb hd hl kk
theorem s_loadl (hx : p.tables.exec = Jvm.exec) (hb : c.code = n_c k) (hL : s_L φ lsA (m_mx k) ls) (h0 : (m_l ls n).1 = 1) (hd : decode (n_c k) pc = .ok (k_enc k pc (3, n, z, ex)))
    (kk : W p l e R s m args below meth c H locs cells slots Q (F0 m (pc + (k_enc k pc (3, n, z, ex)).2) lsA (s_v φ (m_l ls n) :: st.map (s_v φ)))) : W p l e R s m args below meth c H locs cells slots Q (F0 m pc lsA (st.map (s_v φ))) := by
  have hl := (hL.2.2 n (by rw [h0]; decide)).2
  have hv : s_v φ (m_l ls n) = .long (Int64.ofInt (m_l ls n).2) := by
    unfold s_v; rw [if_neg (by rw [h0]; decide), if_pos h0]
  rw [hv] at hl kk
  by_cases h4 : n < 4
  · have he : k_enc k pc (3, n, z, ex) = (.lload_n (Fin.ofNat 4 n), 1) := if_pos h4
    rw [he] at hd kk
    exact lv_lload_n hx hb hd (by simp [Fin.ofNat]; omega) hl kk
  · have he : k_enc k pc (3, n, z, ex) = (.lload n, 2) := if_neg h4
    rw [he] at hd kk
    exact lv_lload hx hb hd hl kk
theorem s_loada (hx : p.tables.exec = Jvm.exec) (hb : c.code = n_c k) (hL : s_L φ lsA (m_mx k) ls) (h0 : 2 ≤ (m_l ls n).1 ∧ (m_l ls n).1 ≤ 13) (hd : decode (n_c k) pc = .ok (k_enc k pc (4, n, z, ex)))
    (kk : W p l e R s m args below meth c H locs cells slots Q (F0 m (pc + (k_enc k pc (4, n, z, ex)).2) lsA (s_v φ (m_l ls n) :: st.map (s_v φ)))) : W p l e R s m args below meth c H locs cells slots Q (F0 m pc lsA (st.map (s_v φ))) := by
  have hl := (hL.2.2 n (by omega)).2
  by_cases hneg : (m_l ls n).2 < 0
  · have hv : s_v φ (m_l ls n) = .null := s_vn φ h0.1 hneg
    rw [hv] at hl kk
    by_cases h4 : n < 4
    · have he : k_enc k pc (4, n, z, ex) = (.aload_n (Fin.ofNat 4 n), 1) := if_pos h4
      rw [he] at hd kk
      exact lv_aload_nN hx hb hd (by simp [Fin.ofNat]; omega) hl kk
    · have he : k_enc k pc (4, n, z, ex) = (.aload n, 2) := if_neg h4
      rw [he] at hd kk
      exact lv_aloadN hx hb hd hl kk
  · have hv : s_v φ (m_l ls n) = .ref (φ (m_l ls n).2.toNat) := s_vr φ h0.1 (by omega)
    rw [hv] at hl kk
    by_cases h4 : n < 4
    · have he : k_enc k pc (4, n, z, ex) = (.aload_n (Fin.ofNat 4 n), 1) := if_pos h4
      rw [he] at hd kk
      exact lv_aload_n hx hb hd (by simp [Fin.ofNat]; omega) hl kk
    · have he : k_enc k pc (4, n, z, ex) = (.aload n, 2) := if_neg h4
      rw [he] at hd kk
      exact lv_aload hx hb hd hl kk
theorem s_sti {x : Int} (hx : p.tables.exec = Jvm.exec) (hb : c.code = n_c k) (hL : s_L φ lsA (m_mx k) ls) (hv : s_ok (0, x)) (hn : n < m_mx k) (hd : decode (n_c k) pc = .ok (k_enc k pc (5, n, z, ex)))
    (kk : ∀ lsB, s_L φ lsB (m_mx k) (m_lp ls n (0, x)) → W p l e R s m args below meth c H locs cells slots Q (F0 m (pc + (k_enc k pc (5, n, z, ex)).2) lsB (st.map (s_v φ)))) : W p l e R s m args below meth c H locs cells slots Q (F0 m pc lsA (s_v φ (0, x) :: st.map (s_v φ))) := by
  rw [s_v0]
  by_cases h4 : n < 4
  · have he : k_enc k pc (5, n, z, ex) = (.istore_n (Fin.ofNat 4 n), 1) := if_pos h4
    rw [he] at hd kk
    exact lv_istore_n hx hb hd (by simp [Fin.ofNat]; omega) hL.has hn rfl (fun lsB hB => kk lsB (hL.put hv (fun q => by cases q) hB hn))
  · have he : k_enc k pc (5, n, z, ex) = (.istore n, 2) := if_neg h4
    rw [he] at hd kk
    exact lv_istore hx hb hd hL.has hn rfl (fun lsB hB => kk lsB (hL.put hv (fun q => by cases q) hB hn))
theorem s_stl {x : Int} (hx : p.tables.exec = Jvm.exec) (hb : c.code = n_c k) (hL : s_L φ lsA (m_mx k) ls) (hv : s_ok (1, x)) (hn : n + 1 < m_mx k) (hd : decode (n_c k) pc = .ok (k_enc k pc (6, n, z, ex)))
    (kk : ∀ lsB, s_L φ lsB (m_mx k) (m_lq ls n (1, x)) → W p l e R s m args below meth c H locs cells slots Q (F0 m (pc + (k_enc k pc (6, n, z, ex)).2) lsB (st.map (s_v φ)))) : W p l e R s m args below meth c H locs cells slots Q (F0 m pc lsA (s_v φ (1, x) :: st.map (s_v φ))) := by
  rw [s_v1]
  by_cases h4 : n < 4
  · have he : k_enc k pc (6, n, z, ex) = (.lstore_n (Fin.ofNat 4 n), 1) := if_pos h4
    rw [he] at hd kk
    exact lv_lstore_n hx hb hd (by simp [Fin.ofNat]; omega) hL.has hn rfl (fun lsB hB => kk lsB (hL.put2 hv hB hn))
  · have he : k_enc k pc (6, n, z, ex) = (.lstore n, 2) := if_neg h4
    rw [he] at hd kk
    exact lv_lstore hx hb hd hL.has hn rfl (fun lsB hB => kk lsB (hL.put2 hv hB hn))
theorem s_sta {t : Nat} {x : Int} (hx : p.tables.exec = Jvm.exec) (hb : c.code = n_c k) (hL : s_L φ lsA (m_mx k) ls) (hv : s_ok (t, x)) (ht : 2 ≤ t ∧ t ≤ 13) (hn : n < m_mx k) (hd : decode (n_c k) pc = .ok (k_enc k pc (7, n, z, ex)))
    (kk : ∀ lsB, s_L φ lsB (m_mx k) (m_lp ls n (t, x)) → W p l e R s m args below meth c H locs cells slots Q (F0 m (pc + (k_enc k pc (7, n, z, ex)).2) lsB (st.map (s_v φ)))) : W p l e R s m args below meth c H locs cells slots Q (F0 m pc lsA (s_v φ (t, x) :: st.map (s_v φ))) := by
  have h1 : (t, x).1 ≠ 1 := by show t ≠ 1; omega
  by_cases hneg : x < 0
  · have hv2 := s_vn φ ht.1 hneg
    have hp := fun lsB hB => hL.put (lsB := lsB) (n := n) hv h1 hB hn
    rw [hv2] at hp ⊢
    by_cases h4 : n < 4
    · have he : k_enc k pc (7, n, z, ex) = (.astore_n (Fin.ofNat 4 n), 1) := if_pos h4
      rw [he] at hd kk
      exact lv_astore_nN hx hb hd (by simp [Fin.ofNat]; omega) hL.has hn rfl (fun lsB hB => kk lsB (hp lsB hB))
    · have he : k_enc k pc (7, n, z, ex) = (.astore n, 2) := if_neg h4
      rw [he] at hd kk
      exact lv_astoreN hx hb hd hL.has hn rfl (fun lsB hB => kk lsB (hp lsB hB))
  · have hv2 := s_vr φ (t := t) (x := x) ht.1 (by omega)
    have hp := fun lsB hB => hL.put (lsB := lsB) (n := n) hv h1 hB hn
    rw [hv2] at hp ⊢
    by_cases h4 : n < 4
    · have he : k_enc k pc (7, n, z, ex) = (.astore_n (Fin.ofNat 4 n), 1) := if_pos h4
      rw [he] at hd kk
      exact lv_astore_n hx hb hd (by simp [Fin.ofNat]; omega) hL.has hn rfl (fun lsB hB => kk lsB (hp lsB hB))
    · have he : k_enc k pc (7, n, z, ex) = (.astore n, 2) := if_neg h4
      rw [he] at hd kk
      exact lv_astore hx hb hd hL.has hn rfl (fun lsB hB => kk lsB (hp lsB hB))
end SA
end
section
section SA2
variable {p : Program} {l : Launch} {e : Env} {R : Room} {s : State} {m : MethodId} {args : Array Value} {below : List Frame} {meth : Method} {c : Code} {H : Heap} {locs : List Loc} {cells slots : Nat} {Q : State → Prop}
variable {φ : Nat → Nat} {k pc n : Nat} {z : Int} {ex : List Nat} {ls st : List MVal} {μ : MMem} {lsA : Array Slot}
theorem s_ofI (a : Int32) : Int32.ofInt a.toInt = a := Int32.ofInt_toInt a
theorem s_ofJ (a : Int64) : Int64.ofInt a.toInt = a := Int64.ofInt_toInt a
theorem s_bin {x y : Int} (hx : p.tables.exec = Jvm.exec) (hb : c.code = n_c k) (hd : decode (n_c k) pc = .ok (k_enc k pc (9, n, z, ex)))
    (kk : W p l e R s m args below meth c H locs cells slots Q (F0 m (pc + (k_enc k pc (9, n, z, ex)).2) lsA (s_v φ (0, m_i n x y) :: st.map (s_v φ)))) : W p l e R s m args below meth c H locs cells slots Q (F0 m pc lsA (s_v φ (0, y) :: s_v φ (0, x) :: st.map (s_v φ))) := by
  simp only [s_v0] at kk ⊢
  match n, hd, kk with
  | 0, hd, kk => exact lv_iadd hx hb hd (by rw [show m_i 0 x y = (Int32.ofInt x + Int32.ofInt y).toInt from rfl, s_ofI] at kk; exact kk)
  | 1, hd, kk => exact lv_isub hx hb hd (by rw [show m_i 1 x y = (Int32.ofInt x - Int32.ofInt y).toInt from rfl, s_ofI] at kk; exact kk)
  | 2, hd, kk => exact lv_imul hx hb hd (by rw [show m_i 2 x y = (Int32.ofInt x * Int32.ofInt y).toInt from rfl, s_ofI] at kk; exact kk)
  | 3, hd, kk => exact lv_iand hx hb hd (by rw [show m_i 3 x y = (Int32.ofInt x &&& Int32.ofInt y).toInt from rfl, s_ofI] at kk; exact kk)
  | 4, hd, kk => exact lv_ior hx hb hd (by rw [show m_i 4 x y = (Int32.ofInt x ||| Int32.ofInt y).toInt from rfl, s_ofI] at kk; exact kk)
  | 5, hd, kk => exact lv_ishl hx hb hd (by rw [show m_i 5 x y = (Int32.ofInt x <<< (Int32.ofInt y &&& 31)).toInt from rfl, s_ofI] at kk; exact kk)
  | 6, hd, kk => exact lv_ishr hx hb hd (by rw [show m_i 6 x y = (Int32.ofInt x >>> (Int32.ofInt y &&& 31)).toInt from rfl, s_ofI] at kk; exact kk)
  | n + 7, hd, kk =>
    have he : k_enc k pc (9, n + 7, z, ex) = (.iushr, 1) := by simp [k_enc]
    rw [he] at hd kk
    exact lv_iushr hx hb hd rfl (by rw [show m_i (n + 7) x y = ((Int32.ofInt x).toUInt32 >>> ((Int32.ofInt y).toUInt32 &&& Int32.toUInt32 31)).toInt32.toInt from rfl, s_ofI] at kk; exact kk)
theorem s_ne {y : Int} (h : s_R32 y) (hy : y ≠ 0) : ¬ Int32.ofInt y = 0 := by
  intro q
  have := congrArg Int32.toInt q
  rw [s_toI h] at this
  exact hy this
theorem s_neJ {y : Int} (h : s_R64 y) (hy : y ≠ 0) : ¬ Int64.ofInt y = 0 := by
  intro q
  have := congrArg Int64.toInt q
  rw [s_toJ h] at this
  exact hy this
theorem s_div {x y : Int} (hx : p.tables.exec = Jvm.exec) (hb : c.code = n_c k) (hr : s_R32 y) (hy : y ≠ 0) (hd : decode (n_c k) pc = .ok (k_enc k pc (10, n, z, ex)))
    (kk : W p l e R s m args below meth c H locs cells slots Q (F0 m (pc + (k_enc k pc (10, n, z, ex)).2) lsA (s_v φ (0, m_id n x y) :: st.map (s_v φ)))) : W p l e R s m args below meth c H locs cells slots Q (F0 m pc lsA (s_v φ (0, y) :: s_v φ (0, x) :: st.map (s_v φ))) := by
  simp only [s_v0] at kk ⊢
  match n, hd, kk with
  | 0, hd, kk => exact lv_idiv hx hb hd (s_ne hr hy) (by rw [show m_id 0 x y = (Int32.ofInt x / Int32.ofInt y).toInt from rfl, s_ofI] at kk; exact kk)
  | n + 1, hd, kk => exact lv_irem hx hb hd (s_ne hr hy) (by rw [show m_id (n + 1) x y = (Int32.ofInt x - Int32.ofInt x / Int32.ofInt y * Int32.ofInt y).toInt from rfl, s_ofI] at kk; exact kk)
theorem s_binl {x y : Int} (hx : p.tables.exec = Jvm.exec) (hb : c.code = n_c k) (hd : decode (n_c k) pc = .ok (k_enc k pc (11, n, z, ex)))
    (kk : W p l e R s m args below meth c H locs cells slots Q (F0 m (pc + (k_enc k pc (11, n, z, ex)).2) lsA (s_v φ (1, m_lb n x y) :: st.map (s_v φ)))) : W p l e R s m args below meth c H locs cells slots Q (F0 m pc lsA (s_v φ (1, y) :: s_v φ (1, x) :: st.map (s_v φ))) := by
  simp only [s_v1] at kk ⊢
  match n, hd, kk with
  | 0, hd, kk => exact lv_ladd hx hb hd (by rw [show m_lb 0 x y = (Int64.ofInt x + Int64.ofInt y).toInt from rfl, s_ofJ] at kk; exact kk)
  | 1, hd, kk => exact lv_lsub hx hb hd (by rw [show m_lb 1 x y = (Int64.ofInt x - Int64.ofInt y).toInt from rfl, s_ofJ] at kk; exact kk)
  | n + 2, hd, kk => exact lv_lmul hx hb hd (by rw [show m_lb (n + 2) x y = (Int64.ofInt x * Int64.ofInt y).toInt from rfl, s_ofJ] at kk; exact kk)
theorem s_divl {x y : Int} (hx : p.tables.exec = Jvm.exec) (hb : c.code = n_c k) (hr : s_R64 y) (hy : y ≠ 0) (hd : decode (n_c k) pc = .ok (k_enc k pc (12, n, z, ex)))
    (kk : W p l e R s m args below meth c H locs cells slots Q (F0 m (pc + (k_enc k pc (12, n, z, ex)).2) lsA (s_v φ (1, m_ld n x y) :: st.map (s_v φ)))) : W p l e R s m args below meth c H locs cells slots Q (F0 m pc lsA (s_v φ (1, y) :: s_v φ (1, x) :: st.map (s_v φ))) := by
  simp only [s_v1] at kk ⊢
  match n, hd, kk with
  | 0, hd, kk => exact lv_ldiv hx hb hd (s_neJ hr hy) (by rw [show m_ld 0 x y = (Int64.ofInt x / Int64.ofInt y).toInt from rfl, s_ofJ] at kk; exact kk)
  | n + 1, hd, kk => exact lv_lrem hx hb hd (s_neJ hr hy) (by rw [show m_ld (n + 1) x y = (Int64.ofInt x - Int64.ofInt x / Int64.ofInt y * Int64.ofInt y).toInt from rfl, s_ofJ] at kk; exact kk)
theorem s_conv {x : Int} (hx : p.tables.exec = Jvm.exec) (hb : c.code = n_c k) (hd : decode (n_c k) pc = .ok (k_enc k pc (14, n, z, ex)))
    (kk : W p l e R s m args below meth c H locs cells slots Q (F0 m (pc + (k_enc k pc (14, n, z, ex)).2) lsA (s_v φ (0, m_c n x) :: st.map (s_v φ)))) : W p l e R s m args below meth c H locs cells slots Q (F0 m pc lsA (s_v φ (0, x) :: st.map (s_v φ))) := by
  simp only [s_v0] at kk ⊢
  match n, hd, kk with
  | 0, hd, kk => exact lv_i2b hx hb hd rfl (by rw [show m_c 0 x = (Int32.ofInt x).toInt8.toInt32.toInt from rfl, s_ofI] at kk; exact kk)
  | 1, hd, kk => exact lv_i2s hx hb hd rfl (by rw [show m_c 1 x = (Int32.ofInt x).toInt16.toInt32.toInt from rfl, s_ofI] at kk; exact kk)
  | n + 2, hd, kk => exact lv_i2c hx hb hd rfl (by rw [show m_c (n + 2) x = ((Int32.ofInt x).toUInt32 % 65536).toInt32.toInt from rfl, s_ofI] at kk; exact kk)
theorem s_cst (hx : p.tables.exec = Jvm.exec) (hb : c.code = n_c k) (hown : s.vm.findClass (n_own k) = some m.cls) (hts : ∀ w ∈ n_tg, w.before args s = true) (hd : decode (n_c k) pc = .ok (k_enc k pc (0, n, z, ex))) (hs : k_sd k (0, n, z, ex) = true)
    (kk : W p l e R s m args below meth c H locs cells slots Q (F0 m (pc + (k_enc k pc (0, n, z, ex)).2) lsA (s_v φ (0, z) :: st.map (s_v φ)))) : W p l e R s m args below meth c H locs cells slots Q (F0 m pc lsA (st.map (s_v φ))) := by
  simp only [s_v0] at kk
  have hs2 : (n_s32 z && (if n = 0 then true else if n = 1 then decide ((Int8.ofInt z).toInt32 = Int32.ofInt z) else if n = 2 then decide ((Int16.ofInt z).toInt32 = Int32.ofInt z) else n_at (ex.getD 1 0) (.constant (n_own k) (n_e0 ex) (Int32.ofInt z)))) = true := hs
  rw [Bool.and_eq_true] at hs2
  obtain ⟨-, hs2⟩ := hs2
  match n, hd, kk, hs2 with
  | 0, hd, kk, hs2 => exact lv_iconst hx hb hd rfl kk
  | 1, hd, kk, hs2 => exact lv_bipush hx hb hd (by simpa using hs2) kk
  | 2, hd, kk, hs2 => exact lv_sipush hx hb hd (by simpa using hs2) kk
  | 3, hd, kk, hs2 => exact lv_ldc hx hb hown (hts _ (n_in (by simpa using hs2))) hd kk
  | n + 4, hd, kk, hs2 =>
    have he : k_enc k pc (0, n + 4, z, ex) = (.ldc_w (n_e0 ex), 3) := by simp [k_enc]
    rw [he] at hd kk
    rw [if_neg (by omega), if_neg (by omega), if_neg (by omega)] at hs2
    exact lv_ldcw hx hb hown (hts _ (n_in hs2)) hd kk
theorem s_cstl (hx : p.tables.exec = Jvm.exec) (hb : c.code = n_c k) (hown : s.vm.findClass (n_own k) = some m.cls) (hts : ∀ w ∈ n_tg, w.before args s = true) (hd : decode (n_c k) pc = .ok (k_enc k pc (1, n, z, ex))) (hs : k_sd k (1, n, z, ex) = true)
    (kk : W p l e R s m args below meth c H locs cells slots Q (F0 m (pc + (k_enc k pc (1, n, z, ex)).2) lsA (s_v φ (1, z) :: st.map (s_v φ)))) : W p l e R s m args below meth c H locs cells slots Q (F0 m pc lsA (st.map (s_v φ))) := by
  simp only [s_v1] at kk
  have hs2 : (n_s64 z && (if n = 0 then decide (z = 0 ∨ z = 1) else n_at (ex.getD 1 0) (.constantLong (n_own k) (n_e0 ex) (Int64.ofInt z)))) = true := hs
  rw [Bool.and_eq_true] at hs2
  obtain ⟨-, hs2⟩ := hs2
  match n, hd, kk, hs2 with
  | 0, hd, kk, hs2 =>
    have hz : z = 0 ∨ z = 1 := by simpa using hs2
    rcases hz with rfl | rfl
    · exact lv_lconst hx hb hd rfl kk
    · exact lv_lconst hx hb hd rfl kk
  | n + 1, hd, kk, hs2 =>
    rw [if_neg (by omega)] at hs2
    exact lv_ldc2 hx hb hown (hts _ (n_in hs2)) hd kk
theorem s_lcmp {x y : Int} (h1 : s_R64 x) (h2 : s_R64 y) : (lg_cmp (Int64.ofInt x) (Int64.ofInt y)) = Int32.ofInt (m_cmp x y) := by
  have e1 : (Int64.ofInt y < Int64.ofInt x) ↔ y < x := by rw [Int64.lt_iff_toInt_lt, s_toJ h1, s_toJ h2]
  have e2 : (Int64.ofInt x < Int64.ofInt y) ↔ x < y := by rw [Int64.lt_iff_toInt_lt, s_toJ h1, s_toJ h2]
  have e3 : (Int64.ofInt x = Int64.ofInt y) ↔ x = y := by rw [← Int64.toInt_inj, s_toJ h1, s_toJ h2]
  unfold lg_cmp m_cmp
  simp only [e1, e2, e3]
  by_cases ha : y < x
  · have hn1 : ¬ x < y := by omega
    have hn2 : ¬ x = y := by omega
    simp [ha, hn1, hn2]
  · by_cases hb : x < y
    · have hn2 : ¬ x = y := by omega
      simp [ha, hb, hn2]
    · have hn2 : x = y := by omega
      simp [hn2]
end SA2
end
section
section SA3
variable {p : Program} {l : Launch} {e : Env} {R : Room} {s : State} {m : MethodId} {args : Array Value} {below : List Frame} {meth : Method} {c : Code} {H : Heap} {locs : List Loc} {cells slots : Nat} {Q : State → Prop}
variable {φ : Nat → Nat} {k pc n op : Nat} {z : Int} {ex : List Nat} {ls st : List MVal} {μ : MMem} {lsA : Array Slot} {o : MOut}
theorem s_cons {v : MVal} {st : List MVal} (h : s_ok v) (hs : ∀ w ∈ st, s_ok w) : ∀ w ∈ v :: st, s_ok w := fun w hw => (List.mem_cons.mp hw).elim (fun q => q ▸ h) (hs w)
theorem s_hd {v : MVal} {st : List MVal} (hs : ∀ w ∈ v :: st, s_ok w) : s_ok v := hs v List.mem_cons_self
theorem s_tl {v : MVal} {st : List MVal} (hs : ∀ w ∈ v :: st, s_ok w) : ∀ w ∈ st, s_ok w := fun w hw => hs w (List.mem_cons_of_mem _ hw)
theorem s_ok_mi (n : Nat) (x y : Int) : s_ok (0, m_i n x y) := by unfold m_i; split <;> exact s_okI _
theorem s_ok_mid (n : Nat) (x y : Int) : s_ok (0, m_id n x y) := by unfold m_id; split <;> exact s_okI _
theorem s_ok_mlb (n : Nat) (x y : Int) : s_ok (1, m_lb n x y) := by unfold m_lb; split <;> exact s_okJ _
theorem s_ok_mld (n : Nat) (x y : Int) : s_ok (1, m_ld n x y) := by unfold m_ld; split <;> exact s_okJ _
theorem s_ok_mc (n : Nat) (x : Int) : s_ok (0, m_c n x) := by unfold m_c; split <;> exact s_okI _
theorem s_ok_cmp (x y : Int) : s_ok (0, m_cmp x y) := by
  refine s_ok0 ?_
  unfold m_cmp s_R32
  by_cases h : x < y
  · simp [h]
  · by_cases h2 : x = y <;> simp [h, h2]
def s_kk (p : Program) (l : Launch) (e : Env) (R : Room) (s : State) (m : MethodId) (args : Array Value) (below : List Frame) (meth : Method) (c : Code) (H : Heap) (locs : List Loc) (cells slots : Nat) (Q : State → Prop) (φ : Nat → Nat) (k pc : Nat) (i : MIns) (μ : MMem) (o : MOut) : Prop :=
  ∀ (ls' st' : List MVal) (lsB : Array Slot), o = (0, 0, [], ls', st', μ) → (∀ v ∈ st', s_ok v) → s_L φ lsB (m_mx k) ls' → W p l e R s m args below meth c H locs cells slots Q (F0 m (pc + (k_enc k pc i).2) lsB (st'.map (s_v φ)))
set_option maxHeartbeats 4000000 in
theorem s_opA (hx : p.tables.exec = Jvm.exec) (hb : c.code = n_c k) (hown : s.vm.findClass (n_own k) = some m.cls) (hts : ∀ w ∈ n_tg, w.before args s = true) (hL : s_L φ lsA (m_mx k) ls) (hs : ∀ v ∈ st, s_ok v) (hop : op < 20)
    (hc : k_chk k pc (op, n, z, ex) = true) (ho : m_opA op n z ls st μ = some o) (kk : s_kk p l e R s m args below meth c H locs cells slots Q φ k pc (op, n, z, ex) μ o) :
    W p l e R s m args below meth c H locs cells slots Q (F0 m pc lsA (st.map (s_v φ))) := by
  obtain ⟨hd, hsd⟩ := k_chk_d hc
  unfold m_opA at ho
  split at ho
  · cases ho
    refine s_cst hx hb hown hts hd hsd (kk _ _ _ rfl (s_cons (s_ok0 ?_) hs) hL)
    have hs2 : (n_s32 z && _) = true := hsd
    simp only [n_s32, Bool.and_eq_true, decide_eq_true_eq] at hs2
    exact hs2.1
  · cases ho
    refine s_cstl hx hb hown hts hd hsd (kk _ _ _ rfl (s_cons (s_ok1 ?_) hs) hL)
    have hs2 : (n_s64 z && _) = true := hsd
    simp only [n_s64, Bool.and_eq_true, decide_eq_true_eq] at hs2
    exact hs2.1
  · split at ho
    · rename_i h0
      cases ho
      exact s_load hx hb hL h0 hd (kk _ _ _ rfl (s_cons (hL.2.2 n (by rw [h0]; decide)).1 hs) hL)
    · cases ho
  · split at ho
    · rename_i h0
      cases ho
      exact s_loadl hx hb hL h0 hd (kk _ _ _ rfl (s_cons (hL.2.2 n (by rw [h0]; decide)).1 hs) hL)
    · cases ho
  · split at ho
    · rename_i h0
      cases ho
      exact s_loada hx hb hL h0 hd (kk _ _ _ rfl (s_cons (hL.2.2 n (by omega)).1 hs) hL)
    · cases ho
  · split at ho
    · cases ho
      refine s_sti hx hb hL (s_hd hs) (by simpa [k_sd] using hsd) hd (fun lsB hB => kk _ _ _ rfl (s_tl hs) hB)
    · cases ho
  · split at ho
    · cases ho
      refine s_stl hx hb hL (s_hd hs) (by simpa [k_sd] using hsd) hd (fun lsB hB => kk _ _ _ rfl (s_tl hs) hB)
    · cases ho
  · split at ho
    · split at ho
      · rename_i ht
        cases ho
        exact s_sta hx hb hL (s_hd hs) ht (by simpa [k_sd] using hsd) hd (fun lsB hB => kk _ _ _ rfl (s_tl hs) hB)
      · cases ho
    · cases ho
  · split at ho
    · rename_i x hl
      cases ho
      have h1 : n < m_mx k ∧ n_s32 z = true := by simpa [k_sd] using hsd
      have hlt : n ∈ (List.range (m_mx k)).filter (fun i => (m_l ls i).1 ≠ 14) := List.mem_filter.mpr ⟨List.mem_range.mpr h1.1, by rw [hl]; rfl⟩
      have hmem : (n, Value.int (Int32.ofInt x)) ∈ s_pr φ (m_mx k) ls := List.mem_map.mpr ⟨n, hlt, by rw [hl]; rfl⟩
      obtain ⟨q, hq⟩ := List.getElem?_of_mem hmem
      refine lv_iinc (v := Int32.ofInt (m_i 0 x z)) hx hb hd hL.has hq ?_ h1.1 rfl (fun lsB hB => kk _ _ _ rfl hs (hL.put (s_ok_mi 0 x z) (fun q => by cases q) hB h1.1))
      rw [show m_i 0 x z = (Int32.ofInt x + Int32.ofInt z).toInt from rfl, s_ofI]
    · cases ho
  · split at ho
    · cases ho
      exact s_bin hx hb hd (kk _ _ _ rfl (s_cons (s_ok_mi _ _ _) (s_tl (s_tl hs))) hL)
    · cases ho
  · split at ho
    · split at ho
      · rename_i hy
        cases ho
        exact s_div hx hb ((s_hd hs).1 rfl) hy hd (kk _ _ _ rfl (s_cons (s_ok_mid _ _ _) (s_tl (s_tl hs))) hL)
      · cases ho
    · cases ho
  · split at ho
    · cases ho
      exact s_binl hx hb hd (kk _ _ _ rfl (s_cons (s_ok_mlb _ _ _) (s_tl (s_tl hs))) hL)
    · cases ho
  · split at ho
    · split at ho
      · rename_i hy
        cases ho
        exact s_divl hx hb ((s_hd hs).2.1 rfl) hy hd (kk _ _ _ rfl (s_cons (s_ok_mld _ _ _) (s_tl (s_tl hs))) hL)
      · cases ho
    · cases ho
  · split at ho
    · rename_i y x st
      cases ho
      have k1 := kk _ _ _ rfl (s_cons (s_okJ _) (s_tl (s_tl hs))) hL
      refine lv_lshl hx hb hd rfl ?_
      simp only [List.map_cons, m_ls, s_vJ] at k1
      exact k1
    · cases ho
  · split at ho
    · cases ho
      exact s_conv hx hb hd (kk _ _ _ rfl (s_cons (s_ok_mc _ _) (s_tl hs)) hL)
    · cases ho
  · split at ho
    · rename_i x st
      cases ho
      have hr := (s_hd hs).1 rfl
      have hr' : s_R64 x := ⟨by have := hr.1; omega, by have := hr.2; omega⟩
      have k1 := kk _ _ _ rfl (s_cons (s_ok1 hr') (s_tl hs)) hL
      refine lv_i2l hx hb hd ?_ k1
      rw [← Int64.toInt_inj, Int32.toInt_toInt64, s_toI hr, s_toJ hr']
    · cases ho
  · split at ho
    · rename_i y x st
      cases ho
      have hy := (s_hd hs).2.1 rfl
      have hx2 := (s_hd (s_tl hs)).2.1 rfl
      have k1 := kk _ _ _ rfl (s_cons (s_ok_cmp x y) (s_tl (s_tl hs))) hL
      refine W.lcmp hx hb hd ?_
      rw [s_lcmp hx2 hy]
      exact k1
    · cases ho
  · split at ho
    · split at ho
      · rename_i t x st ht
        cases ho
        exact lv_dup hx hb hd (by rw [s_cat]; simp [ht]) (kk _ _ _ rfl (s_cons (s_hd hs) hs) hL)
      · cases ho
    · cases ho
  · split at ho
    · split at ho
      · rename_i t x st ht
        cases ho
        exact lv_pop hx hb hd (by rw [s_cat]; simp [ht]) (kk _ _ _ rfl (s_tl hs) hL)
      · cases ho
    · cases ho
  · rename_i h0 h1 h2 h3 h4 h5 h6 h7 h8 h9 h10 h11 h12 h13 h14 h15 h16 h17 h18
    have e19 : op = 19 := by
      have : op ≠ 0 := fun q => h0 q
      have : op ≠ 1 := fun q => h1 q
      have : op ≠ 2 := fun q => h2 q
      have : op ≠ 3 := fun q => h3 q
      have : op ≠ 4 := fun q => h4 q
      have : op ≠ 5 := fun q => h5 q
      have : op ≠ 6 := fun q => h6 q
      have : op ≠ 7 := fun q => h7 q
      have : op ≠ 8 := fun q => h8 q
      have : op ≠ 9 := fun q => h9 q
      have : op ≠ 10 := fun q => h10 q
      have : op ≠ 11 := fun q => h11 q
      have : op ≠ 12 := fun q => h12 q
      have : op ≠ 13 := fun q => h13 q
      have : op ≠ 14 := fun q => h14 q
      have : op ≠ 15 := fun q => h15 q
      have : op ≠ 16 := fun q => h16 q
      have : op ≠ 17 := fun q => h17 q
      have : op ≠ 18 := fun q => h18 q
      omega
    subst e19
    split at ho
    · split at ho
      · rename_i t x u y st ht
        cases ho
        exact lv_dup2_11 hx hb hd (by rw [s_cat]; simp [ht.1]) (by rw [s_cat]; simp [ht.2]) (kk _ _ _ rfl (s_cons (s_hd hs) (s_cons (s_hd (s_tl hs)) hs)) hL)
      · cases ho
    · cases ho
end SA3
end
section
section SB
variable {p : Program} {l : Launch} {e : Env} {R : Room} {s : State} {m : MethodId} {args : Array Value} {below : List Frame} {meth : Method} {c : Code} {H : Heap} {locs : List Loc} {cells slots : Nat} {Q : State → Prop}
variable {φ : Nat → Nat} {k pc n op : Nat} {z : Int} {ex : List Nat} {ls st : List MVal} {μ : MMem} {lsA : Array Slot} {o : MOut}
theorem s_eq {x y : Int} (hx : s_R32 x) (hy : s_R32 y) : (Int32.ofInt x = Int32.ofInt y) ↔ x = y := by rw [← Int32.toInt_inj, s_toI hx, s_toI hy]
theorem s_lt {x y : Int} (hx : s_R32 x) (hy : s_R32 y) : (Int32.ofInt x < Int32.ofInt y) ↔ x < y := by rw [Int32.lt_iff_toInt_lt, s_toI hx, s_toI hy]
theorem s_le {x y : Int} (hx : s_R32 x) (hy : s_R32 y) : (Int32.ofInt x ≤ Int32.ofInt y) ↔ x ≤ y := by rw [Int32.le_iff_toInt_le, s_toI hx, s_toI hy]
theorem s_R0 : s_R32 0 := ⟨by decide, by decide⟩
theorem s_z0 : (0 : Int32) = Int32.ofInt 0 := rfl
theorem n_off_eq (k pc n : Nat) : (pc : Int) + n_off k pc n = (n_lb k n : Int) := by unfold n_off; omega
theorem s_icmp {x y : Int} (hx : p.tables.exec = Jvm.exec) (hb : c.code = n_c k) (rx : s_R32 x) (ry : s_R32 y) (hz : 0 ≤ z ∧ z < 6) (hd : decode (n_c k) pc = .ok (.if_icmp (n_cond z) (n_off k pc n), 3))
    (kt : m_cn z x y = true → W p l e R s m args below meth c H locs cells slots Q (F0 m (n_lb k n) lsA (st.map (s_v φ)))) (kf : ¬ m_cn z x y = true → W p l e R s m args below meth c H locs cells slots Q (F0 m (pc + 3) lsA (st.map (s_v φ)))) :
    W p l e R s m args below meth c H locs cells slots Q (F0 m pc lsA (s_v φ (0, y) :: s_v φ (0, x) :: st.map (s_v φ))) := by
  simp only [s_v0]
  have ho := n_off_eq k pc n
  have h6 : z = 0 ∨ z = 1 ∨ z = 2 ∨ z = 3 ∨ z = 4 ∨ z = 5 := by omega
  rcases h6 with rfl | rfl | rfl | rfl | rfl | rfl
  · rw [m_cn0, decide_eq_true_eq] at kt kf
    exact lv_icmp_eq hx hb hd ho (fun q => kt ((s_eq rx ry).mp q)) (fun q => kf (fun w => q ((s_eq rx ry).mpr w)))
  · rw [m_cn1, decide_eq_true_eq] at kt kf
    exact lv_icmp_ne hx hb hd ho (fun q => kt (fun w => q ((s_eq rx ry).mpr w))) (fun q => kf (fun w => w ((s_eq rx ry).mp q)))
  · rw [m_cn2, decide_eq_true_eq] at kt kf
    exact lv_icmp_lt hx hb hd ho (fun q => kt ((s_lt rx ry).mp q)) (fun q => kf (fun w => q ((s_lt rx ry).mpr w)))
  · rw [m_cn3, decide_eq_true_eq] at kt kf
    exact lv_icmp_ge hx hb hd ho (fun q => kt ((s_le ry rx).mp q)) (fun q => kf (fun w => q ((s_le ry rx).mpr w)))
  · rw [m_cn4, decide_eq_true_eq] at kt kf
    exact lv_icmp_gt hx hb hd ho (fun q => kt ((s_lt ry rx).mp q)) (fun q => kf (fun w => q ((s_lt ry rx).mpr w)))
  · rw [m_cn5, decide_eq_true_eq] at kt kf
    exact lv_icmp_le hx hb hd ho (fun q => kt ((s_le rx ry).mp q)) (fun q => kf (fun w => q ((s_le rx ry).mpr w)))
theorem s_if {x : Int} (hx : p.tables.exec = Jvm.exec) (hb : c.code = n_c k) (rx : s_R32 x) (hz : 0 ≤ z ∧ z < 6) (hd : decode (n_c k) pc = .ok (.ifCond (n_cond z) (n_off k pc n), 3))
    (kt : m_cn z x 0 = true → W p l e R s m args below meth c H locs cells slots Q (F0 m (n_lb k n) lsA (st.map (s_v φ)))) (kf : ¬ m_cn z x 0 = true → W p l e R s m args below meth c H locs cells slots Q (F0 m (pc + 3) lsA (st.map (s_v φ)))) :
    W p l e R s m args below meth c H locs cells slots Q (F0 m pc lsA (s_v φ (0, x) :: st.map (s_v φ))) := by
  simp only [s_v0]
  have ho := n_off_eq k pc n
  have ry := s_R0
  have h6 : z = 0 ∨ z = 1 ∨ z = 2 ∨ z = 3 ∨ z = 4 ∨ z = 5 := by omega
  rcases h6 with rfl | rfl | rfl | rfl | rfl | rfl
  · rw [m_cn0, decide_eq_true_eq] at kt kf
    exact lv_if_eq hx hb hd ho (fun q => kt ((s_eq rx ry).mp q)) (fun q => kf (fun w => q ((s_eq rx ry).mpr w)))
  · rw [m_cn1, decide_eq_true_eq] at kt kf
    exact lv_if_ne hx hb hd ho (fun q => kt (fun w => q ((s_eq rx ry).mpr w))) (fun q => kf (fun w => w ((s_eq rx ry).mp q)))
  · rw [m_cn2, decide_eq_true_eq] at kt kf
    exact lv_if_lt hx hb hd ho (fun q => kt ((s_lt rx ry).mp q)) (fun q => kf (fun w => q ((s_lt rx ry).mpr w)))
  · rw [m_cn3, decide_eq_true_eq] at kt kf
    exact lv_if_ge hx hb hd ho (fun q => kt ((s_le ry rx).mp q)) (fun q => kf (fun w => q ((s_le ry rx).mpr w)))
  · rw [m_cn4, decide_eq_true_eq] at kt kf
    exact lv_if_gt hx hb hd ho (fun q => kt ((s_lt ry rx).mp q)) (fun q => kf (fun w => q ((s_lt ry rx).mpr w)))
  · rw [m_cn5, decide_eq_true_eq] at kt kf
    exact lv_if_le hx hb hd ho (fun q => kt ((s_le rx ry).mp q)) (fun q => kf (fun w => q ((s_le rx ry).mpr w)))
theorem m_st_in : ∀ (ex : List Nat) (low x : Int) (d : Nat), low ≤ x → x < low + ex.length → ex[(x - low).toNat]? = some (m_st low ex d x)
  | [], low, x, d, h1, h2 => by simp at h2; omega
  | a :: r, low, x, d, h1, h2 => by
    unfold m_st
    by_cases h : x = low
    · rw [if_pos h]
      subst h
      simp
    · rw [if_neg h]
      have := m_st_in r (low + 1) x d (by omega) (by simp at h2; omega)
      rw [show (x - low).toNat = (x - (low + 1)).toNat + 1 by omega, List.getElem?_cons_succ]
      exact this
theorem m_st_out : ∀ (ex : List Nat) (low x : Int) (d : Nat), (x < low ∨ low + ex.length ≤ x) → m_st low ex d x = d
  | [], low, x, d, h => rfl
  | a :: r, low, x, d, h => by
    unfold m_st
    simp only [List.length_cons] at h
    rw [if_neg (by omega)]
    exact m_st_out r (low + 1) x d (by omega)
theorem m_sl_off : ∀ (ex : List Nat) (x : Int) (d : Nat), Op.lookupswitch.offset (n_prs k pc ex) (n_off k pc d) x = n_off k pc (m_sl ex d x)
  | [], x, d => rfl
  | [a], x, d => rfl
  | a :: b :: r, x, d => by
    unfold n_prs m_sl
    rw [Op.lookupswitch.offset_cons]
    by_cases h : x = (a : Int)
    · rw [if_pos h]
      subst h
      simp
    · rw [if_neg h, if_neg (fun q : (a : Int) = x => h q.symm), m_sl_off r x d]
theorem n_prs_key (k pc pc' : Nat) : ∀ ex : List Nat, (n_prs k pc ex).map Prod.fst = (n_prs k pc' ex).map Prod.fst
  | [] => rfl
  | [_] => rfl
  | a :: b :: r => by
    unfold n_prs
    rw [List.map_cons, List.map_cons, n_prs_key k pc pc' r]
theorem n_all_key (L : List (Int × Int)) : ((L.zip (L.drop 1)).all (fun (a, next) => decide (a.1 < next.1))) = ((L.map Prod.fst).zip ((L.map Prod.fst).drop 1)).all (fun q => decide (q.1 < q.2)) := by
  rw [← List.map_drop, List.zip_map, List.all_map]
  rfl
def s_kn (p : Program) (l : Launch) (e : Env) (R : Room) (s : State) (m : MethodId) (args : Array Value) (below : List Frame) (meth : Method) (c : Code) (H : Heap) (locs : List Loc) (cells slots : Nat) (Q : State → Prop) (φ : Nat → Nat) (lsA : Array Slot) (k : Nat) (ls : List MVal) (μ : MMem) (o : MOut) : Prop :=
  ∀ (t : Nat) (st' : List MVal), o = (1, t, [], ls, st', μ) → (∀ v ∈ st', s_ok v) → W p l e R s m args below meth c H locs cells slots Q (F0 m (n_lb k t) lsA (st'.map (s_v φ)))
set_option maxHeartbeats 4000000 in
theorem s_opB (hx : p.tables.exec = Jvm.exec) (hb : c.code = n_c k) (hL : s_L φ lsA (m_mx k) ls) (hs : ∀ v ∈ st, s_ok v) (hop : 20 ≤ op ∧ op < 27 ∧ op ≠ 24)
    (hc : k_chk k pc (op, n, z, ex) = true) (ho : m_opB op n z ex ls st μ = some o) (kk : s_kk p l e R s m args below meth c H locs cells slots Q φ k pc (op, n, z, ex) μ o) (kj : s_kn p l e R s m args below meth c H locs cells slots Q φ lsA k ls μ o) :
    W p l e R s m args below meth c H locs cells slots Q (F0 m pc lsA (st.map (s_v φ))) := by
  obtain ⟨hd, hsd⟩ := k_chk_d hc
  unfold m_opB at ho
  split at ho
  · split at ho
    · rename_i x st
      refine s_if (z := z) hx hb ((s_hd hs).1 rfl) (by simpa [k_sd] using hsd) hd (fun q => ?_) (fun q => ?_)
      · rw [if_pos q] at ho; cases ho; exact kj _ _ rfl (s_tl hs)
      · rw [if_neg q] at ho; cases ho; exact kk _ _ _ rfl (s_tl hs) hL
    · cases ho
  · split at ho
    · rename_i y x st
      refine s_icmp (z := z) hx hb ((s_hd (s_tl hs)).1 rfl) ((s_hd hs).1 rfl) (by simpa [k_sd] using hsd) hd (fun q => ?_) (fun q => ?_)
      · rw [if_pos q] at ho; cases ho; exact kj _ _ rfl (s_tl (s_tl hs))
      · rw [if_neg q] at ho; cases ho; exact kk _ _ _ rfl (s_tl (s_tl hs)) hL
    · cases ho
  · split at ho
    · rename_i t x st
      split at ho
      · rename_i ht
        have hz : z = 0 ∨ z = 1 := by simpa [k_sd] using hsd
        have hof := n_off_eq k pc n
        rw [List.map_cons]
        rcases hz with rfl | rfl
        · by_cases hn : x < 0
          · rw [if_pos (Or.inl ⟨rfl, hn⟩)] at ho
            cases ho
            rw [s_vn φ ht.1 hn]
            exact lv_ifnullN hx hb hd hof (kj _ _ rfl (s_tl hs))
          · rw [if_neg (fun q => q.elim (fun w => hn w.2) (fun w => by cases w.1))] at ho
            cases ho
            rw [s_vr φ ht.1 (by omega)]
            exact lv_ifnull hx hb hd (kk _ _ _ rfl (s_tl hs) hL)
        · by_cases hn : x < 0
          · rw [if_neg (fun q => q.elim (fun w => by cases w.1) (fun w => by omega))] at ho
            cases ho
            rw [s_vn φ ht.1 hn]
            exact lv_ifnonnullN hx hb hd (kk _ _ _ rfl (s_tl hs) hL)
          · rw [if_pos (Or.inr ⟨rfl, by omega⟩)] at ho
            cases ho
            rw [s_vr φ ht.1 (by omega)]
            exact lv_ifnonnull hx hb hd hof (kj _ _ rfl (s_tl hs))
      · cases ho
    · cases ho
  · cases ho
    exact lv_goto hx hb hd (n_off_eq k pc n) (kj _ _ rfl hs)
  · exact absurd rfl hop.2.2
  · split at ho
    · rename_i x st
      cases ho
      have hr := (s_hd hs).1 rfl
      have hk := kj _ _ rfl (s_tl hs)
      rw [List.map_cons, s_v0]
      have e : (Int32.ofInt x).toInt = x := s_toI hr
      by_cases hin : z ≤ x ∧ x < z + ex.length
      · refine lv_tableIn (off := n_off k pc (m_st z ex n x)) (tgt := n_lb k (m_st z ex n x)) hx hb hd (by rw [e]; omega) (by rw [e]; omega) ?_ (n_off_eq _ _ _) hk
        rw [e]
        have := m_st_in ex z x n hin.1 hin.2
        simp [this]
      · rw [m_st_out ex z x n (by omega)] at hk
        exact lv_tableOut hx hb hd (by rw [e]; omega) (n_off_eq _ _ _) hk
    · cases ho
  · rename_i h0 h1 h2 h3 h4 h5
    have e26 : op = 26 := by
      have : op ≠ 20 := fun q => h0 q
      have : op ≠ 21 := fun q => h1 q
      have : op ≠ 22 := fun q => h2 q
      have : op ≠ 23 := fun q => h3 q
      have : op ≠ 24 := fun q => h4 q
      have : op ≠ 25 := fun q => h5 q
      omega
    subst e26
    split at ho
    · rename_i x st
      cases ho
      have hr := (s_hd hs).1 rfl
      have hk := kj _ _ rfl (s_tl hs)
      rw [List.map_cons, s_v0]
      have e : (Int32.ofInt x).toInt = x := s_toI hr
      refine lv_lookup (off := n_off k pc (m_sl ex n x)) (tgt := n_lb k (m_sl ex n x)) hx hb hd ?_ ?_ (n_off_eq _ _ _) hk
      · have h1 : (((n_prs k 0 ex).zip ((n_prs k 0 ex).drop 1)).all (fun (a, next) => a.1 < next.1)) = true := hsd
        rw [n_all_key, n_prs_key k 0 pc, ← n_all_key] at h1
        exact h1
      · rw [e]
        exact m_sl_off ex x n
    · cases ho
end SB
end
section
/-! the world's cells by their numbers -/
theorem n_objs : ∀ i, i < 71 → 5 ≤ n_kd i → i ∈ [0, 1, 2, 3, 4, 5, 6, 7, 8, 9, 10, 11, 12, 47] := by decide +kernel
set_option maxRecDepth 20000 in
theorem i_X0 : ∀ w ∈ u_ws RX0 TX0 4, w ∈ n_tb ∧ goodWord w = true := by decide +kernel
set_option maxRecDepth 20000 in
theorem i_X1 : ∀ w ∈ u_ws RX1 TX1 4, w ∈ n_tb ∧ goodWord w = true := by decide +kernel
set_option maxRecDepth 20000 in
theorem i_X2 : ∀ w ∈ u_ws RX2 TX2 4, w ∈ n_tb ∧ goodWord w = true := by decide +kernel
set_option maxRecDepth 20000 in
theorem i_X3 : ∀ w ∈ u_ws RX3 TX3 4, w ∈ n_tb ∧ goodWord w = true := by decide +kernel
set_option maxRecDepth 20000 in
theorem i_X5 : ∀ w ∈ u_ws RX5 TX5 10, w ∈ n_tb ∧ goodWord w = true := by decide +kernel
set_option maxRecDepth 20000 in
theorem i_X6 : ∀ w ∈ u_ws RX6 TX6 13, w ∈ n_tb ∧ goodWord w = true := by decide +kernel
set_option maxRecDepth 20000 in
theorem i_X7 : ∀ w ∈ u_ws RX7 TX7 30, w ∈ n_tb ∧ goodWord w = true := by decide +kernel
def n_F (C : String) (T : u_T) (N : Nat) : Prop := (∀ w ∈ u_ws C T N, w ∈ n_tg) ∧ (∃ ty0 : Nat → FieldType, ∀ k, k < N → parseFieldDescriptor (T k).2.2.1 = some (ty0 k)) ∧ ∀ a, a < N → ∀ b, b < N → a ≠ b → (T a).2.1 ≠ (T b).2.1
theorem n_tgm {w : Cond} (h : w ∈ n_tb ∧ goodWord w = true) : w ∈ n_tg := List.mem_filter.mpr h
theorem n_obj {i : Nat} (hi : i < 71) (h5 : 5 ≤ n_kd i) : ∃ C : String, n_cl[n_ci i]? = some (C, n_T (n_kd i), n_N (n_kd i)) ∧ n_F C (n_T (n_kd i)) (n_N (n_kd i)) := by
  have h := n_objs i hi h5
  have F0 : n_F RX0 TX0 4 := ⟨fun w hw => n_tgm (i_X0 w hw), ⟨_, tyX0_ok⟩, nmX0⟩
  have F1 : n_F RX1 TX1 4 := ⟨fun w hw => n_tgm (i_X1 w hw), ⟨_, tyX1_ok⟩, nmX1⟩
  have F2 : n_F RX2 TX2 4 := ⟨fun w hw => n_tgm (i_X2 w hw), ⟨_, tyX2_ok⟩, nmX2⟩
  have F3 : n_F RX3 TX3 4 := ⟨fun w hw => n_tgm (i_X3 w hw), ⟨_, tyX3_ok⟩, nmX3⟩
  have F5 : n_F RX5 TX5 10 := ⟨fun w hw => n_tgm (i_X5 w hw), ⟨_, tyX5_ok⟩, nmX5⟩
  have F6 : n_F RX6 TX6 13 := ⟨fun w hw => n_tgm (i_X6 w hw), ⟨_, tyX6_ok⟩, nmX6⟩
  have F7 : n_F RX7 TX7 30 := ⟨fun w hw => n_tgm (i_X7 w hw), ⟨_, tyX7_ok⟩, nmX7⟩
  simp only [List.mem_cons, List.not_mem_nil, or_false] at h
  rcases h with rfl | rfl | rfl | rfl | rfl | rfl | rfl | rfl | rfl | rfl | rfl | rfl | rfl | rfl
  · exact ⟨RX6, rfl, F6⟩
  · exact ⟨RX3, rfl, F3⟩
  · exact ⟨RX3, rfl, F3⟩
  · exact ⟨RX3, rfl, F3⟩
  · exact ⟨RX3, rfl, F3⟩
  · exact ⟨RX3, rfl, F3⟩
  · exact ⟨RX1, rfl, F1⟩
  · exact ⟨RX0, rfl, F0⟩
  · exact ⟨RX5, rfl, F5⟩
  · exact ⟨RX2, rfl, F2⟩
  · exact ⟨RX2, rfl, F2⟩
  · exact ⟨RX2, rfl, F2⟩
  · exact ⟨RX2, rfl, F2⟩
  · exact ⟨RX7, rfl, F7⟩
/-- final fields: what they hold is of their sort -/
def n_fin1 (i k : Nat) : Bool :=
  let f := n_T (n_kd i) k
  if f.2.2.2 then (if n_dt f.2.2.1 < 2 then decide (n_dt f.2.2.1 = 0) && decide (0 ≤ m_rf i k) && decide (m_rf i k < 100) else decide (n_dt f.2.2.1 ≤ 8) && decide (0 ≤ m_rf i k) && decide (m_rf i k < 71) && decide (n_kd (m_rf i k).toNat = n_dt f.2.2.1))
  else decide (n_dt f.2.2.1 < 2) || (decide (i = 8) && decide (k = 2) && decide (n_dt f.2.2.1 = 7))
theorem n_fins : ∀ i, i < 71 → 5 ≤ n_kd i → ∀ k, k < n_N (n_kd i) → n_fin1 i k = true := by decide +kernel
theorem n_k7 : ∀ i, i < 71 → n_kd i = 7 → 1 ≤ i ∧ i ≤ 5 := by decide +kernel
theorem n_rows : ∀ i, i < 71 → (n_kd i = 3 → ∀ j, j < (m_rl i).toNat → 0 ≤ m_rf i j ∧ m_rf i j < 71 ∧ n_kd (m_rf i j).toNat = 2) ∧ (n_kd i = 4 → ∀ j, j < (m_rl i).toNat → 0 ≤ m_rf i j ∧ m_rf i j < 71 ∧ n_kd (m_rf i j).toNat = 6) := by decide +kernel
theorem n_al : ∀ i, i < 71 → n_kd i = 2 → 0 ≤ m_al i ∧ m_al i < 1000 := by decide +kernel
theorem n_rl (i : Int) : 0 ≤ m_rl i ∧ m_rl i < 1000 := by
  unfold m_rl
  by_cases h1 : i = 17
  · simp [h1]
  · by_cases h2 : i = 20
    · simp [h2]
    · by_cases h3 : i = 21
      · simp [h3]
      · simp [h1, h2, h3]
theorem n_kd_lt : ∀ i, i < 71 → 2 ≤ n_kd i ∧ n_kd i ≤ 10 := by decide +kernel
section SC0
variable {φ : Nat → Nat} {cI cS cA : ClassId} {μ : MMem}
theorem s_ws_at {i : Nat} (hi : i < 71) : (s_ws φ cI cS cA μ)[i]? = some (φ i, s_ce φ cI cS cA μ i) := by
  unfold s_ws
  rw [List.getElem?_map, List.getElem?_range hi]
  rfl
theorem s_ws_D {A : Nat → Prop} (hφ : ∀ i j, i < 71 → j < 71 → φ i = φ j → i = j) (hA : ∀ i, i < 71 → A (φ i)) : va_D A (s_ws φ cI cS cA μ) := by
  have hlt : ∀ (i : Nat) (q : Nat × va_E), (s_ws φ cI cS cA μ)[i]? = some q → i < 71 := fun i q h => by
    have := (List.getElem?_eq_some_iff.mp h).1
    simpa [s_ws] using this
  refine ⟨fun i j x y hx hy hxy => ?_, fun i x hx => ?_⟩
  · have h1 := hlt i x hx
    have h2 := hlt j y hy
    rw [s_ws_at h1] at hx
    rw [s_ws_at h2] at hy
    cases hx; cases hy
    exact hφ i j h1 h2 hxy
  · have h1 := hlt i x hx
    rw [s_ws_at h1] at hx
    cases hx
    exact hA i h1
theorem s_ws_set {μ' : MMem} {i : Nat} {E : va_E} (hi : i < 71) (hE : s_ce φ cI cS cA μ' i = E) (ho : ∀ j, j < 71 → j ≠ i → s_ce φ cI cS cA μ' j = s_ce φ cI cS cA μ j) : (s_ws φ cI cS cA μ).set i (φ i, E) = s_ws φ cI cS cA μ' := by
  apply List.ext_getElem?
  intro j
  by_cases hj : j < 71
  · rw [s_ws_at hj]
    by_cases e : j = i
    · subst e
      rw [List.getElem?_set_self (by simpa [s_ws] using hi), hE]
    · rw [List.getElem?_set_ne (fun q => e q.symm), s_ws_at hj, ho j hj e]
  · rw [List.getElem?_eq_none (by simpa [s_ws] using hj), List.getElem?_eq_none (by simpa [s_ws] using hj)]
theorem m_w_ne {i : Int} {k v : Int} {a : Int} (h : a ≠ i) : m_w μ i k v a = μ a := by
  funext b
  unfold m_w
  rw [if_neg (fun q => h q.1)]
theorem s_ce_ne {j : Nat} {i k v : Int} (h : (j : Int) ≠ i) : s_ce φ cI cS cA (m_w μ i k v) j = s_ce φ cI cS cA μ j := by
  have e := m_w_ne (μ := μ) (k := k) (v := v) h
  unfold s_ce s_fv
  simp only [e]
theorem s_ce2 {i : Nat} (h : n_kd i = 2) : s_ce φ cI cS cA μ i = .inl (cI, (m_al i).toNat, .inl (fun j => Int32.ofInt (μ i j))) := by unfold s_ce; rw [if_pos h]
theorem s_ce3 {i : Nat} (h : n_kd i = 3) : s_ce φ cI cS cA μ i = .inl (cA, (m_rl i).toNat, .inr (.inr (.inr (.inr (fun j => some (φ (m_rf i j).toNat)))))) := by unfold s_ce; rw [if_neg (by omega), if_pos h]
theorem s_ce4 {i : Nat} (h : n_kd i = 4) : s_ce φ cI cS cA μ i = .inl (cS, (m_rl i).toNat, .inr (.inr (.inr (.inr (fun j => some (φ (m_rf i j).toNat)))))) := by unfold s_ce; rw [if_neg (by omega), if_neg (by omega), if_pos h]
theorem s_ce5 {i : Nat} (h : 5 ≤ n_kd i) : s_ce φ cI cS cA μ i = .inr (n_ci i, (List.range (n_N (n_kd i))).map (s_fv φ μ i)) := by unfold s_ce; rw [if_neg (by omega), if_neg (by omega), if_neg (by omega)]
theorem s_clamp {x : Int} (h : s_R32 x) : (Int32.ofInt x).toNatClampNeg = x.toNat := by
  show (Int32.ofInt x).toInt.toNat = x.toNat
  rw [s_toI h]
theorem s_vpin {x : Int} {n : Nat} (h : s_R32 x) (h0 : 0 ≤ x) (h1 : x < n) : vp_in (Int32.ofInt x) n := by
  rw [vp_in_iff, s_toI h]
  exact ⟨h0, h1⟩
end SC0
end
section
section SC
variable {p : Program} {l : Launch} {e : Env} {R : Room} {s : State} {m : MethodId} {args : Array Value} {below : List Frame} {meth : Method} {c : Code} {H : Heap} {locs : List Loc} {cells slots : Nat} {Q : State → Prop}
variable {φ : Nat → Nat} {D : va_G} {cI cS cA : ClassId} {L : Nat} {xs : Nat → Int32} {A : Nat → Prop}
variable {k pc n op : Nat} {z : Int} {ex : List Nat} {ls st : List MVal} {μ : MMem} {lsA : Array Slot} {o : MOut}
theorem s_okr {t : Nat} {id : Int} (h : s_ok (t, id)) (ht : 2 ≤ t ∧ t ≤ 10) (h0 : 0 ≤ id) : id.toNat < 71 ∧ n_kd id.toNat = t ∧ (id.toNat : Int) = id := by
  rcases h.2.2.1 ht.1 ht.2 with q | q
  · have : id < 0 := q
    omega
  · have q1 : id < 71 := q.1
    exact ⟨by omega, q.2, by omega⟩
/-- the value of a field, as the small machine reads it -/
theorem s_fld {i kk : Nat} (hM : s_mo L xs μ) (hi : i < 71) (h5 : 5 ≤ n_kd i) (hk : kk < n_N (n_kd i)) (hf : (n_T (n_kd i) kk).2.2.2 = false) :
    s_fv φ μ i kk = s_v φ ((if n_dt (n_T (n_kd i) kk).2.2.1 = 1 then 0 else n_dt (n_T (n_kd i) kk).2.2.1), μ i kk) ∧ s_ok ((if n_dt (n_T (n_kd i) kk).2.2.1 = 1 then 0 else n_dt (n_T (n_kd i) kk).2.2.1), μ i kk) := by
  have h := n_fins i hi h5 kk hk
  unfold n_fin1 at h
  simp only [hf, if_neg, Bool.false_eq_true, if_false, Bool.or_eq_true, Bool.and_eq_true, decide_eq_true_eq] at h
  unfold s_fv
  simp only [hf, Bool.false_eq_true, if_false]
  generalize hg : n_dt (n_T (n_kd i) kk).2.2.1 = d at h ⊢
  rcases h with h | ⟨⟨rfl, rfl⟩, rfl⟩
  · have e : (if d = 1 then 0 else d) = 0 := by
      by_cases h1 : d = 1
      · rw [if_pos h1]
      · rw [if_neg h1]; omega
    rw [if_pos h, e]
    exact ⟨rfl, s_ok0 (hM.1 _ _)⟩
  · have h2 := hM.2.1
    have c2 : ((8 : Nat) : Int) = 8 := rfl
    have c3 : ((2 : Nat) : Int) = 2 := rfl
    rw [c2, c3]
    generalize μ 8 2 = x at h2 ⊢
    refine ⟨by rw [if_neg (by omega), if_neg (by omega)]; exact (s_vr φ (by omega) (by omega)).symm, ?_⟩
    rw [if_neg (by omega)]
    refine ⟨fun q => by simp at q, fun q => by simp at q, fun _ _ => Or.inr ⟨by show x < 71; omega, ?_⟩, fun q => by simp at q, fun q => by simp at q, fun q => by simp at q, by simp⟩
    show n_kd x.toNat = 7
    have hx : x = 1 ∨ x = 2 ∨ x = 3 ∨ x = 4 ∨ x = 5 := by omega
    rcases hx with rfl | rfl | rfl | rfl | rfl <;> rfl
theorem s_fldF {i kk : Nat} (hi : i < 71) (h5 : 5 ≤ n_kd i) (hk : kk < n_N (n_kd i)) (hf : (n_T (n_kd i) kk).2.2.2 = true) :
    s_fv φ μ i kk = s_v φ ((if n_dt (n_T (n_kd i) kk).2.2.1 = 1 then 0 else n_dt (n_T (n_kd i) kk).2.2.1), m_rf i kk) ∧ s_ok ((if n_dt (n_T (n_kd i) kk).2.2.1 = 1 then 0 else n_dt (n_T (n_kd i) kk).2.2.1), m_rf i kk) := by
  have h := n_fins i hi h5 kk hk
  unfold n_fin1 at h
  simp only [hf, if_true] at h
  unfold s_fv
  simp only [hf, if_true]
  generalize hg : n_dt (n_T (n_kd i) kk).2.2.1 = d at h ⊢
  generalize m_rf i kk = x at h ⊢
  by_cases h2 : d < 2
  · rw [if_pos h2] at h
    simp only [Bool.and_eq_true, decide_eq_true_eq] at h
    have e : (if d = 1 then 0 else d) = 0 := by
      by_cases h1 : d = 1
      · rw [if_pos h1]
      · rw [if_neg h1]; omega
    rw [if_pos h2, e]
    exact ⟨rfl, s_ok0 ⟨by omega, by omega⟩⟩
  · rw [if_neg h2] at h
    simp only [Bool.and_eq_true, decide_eq_true_eq] at h
    have h0 := h.1.1.2
    rw [if_neg h2, if_neg (by omega)]
    refine ⟨(s_vr φ (by omega) h0).symm, fun q => by simp at q; omega, fun q => by simp at q; omega, fun _ _ => Or.inr ⟨h.1.2, h.2⟩, fun q => by simp at q; omega, fun q => by simp at q; omega, fun q => by simp at q; omega, by show d ≤ 14; omega⟩
theorem n_fld_d {t pl idx : Nat} (h : n_fld k z t pl idx = true) : 0 ≤ z ∧ z < n_N t ∧ 5 ≤ t ∧ t ≤ 10 ∧ Cond.fieldLink (n_own k) idx (n_T t z.toNat).1 (n_T t z.toNat).2.1 (n_T t z.toNat).2.2.1 ∈ n_tg := by
  unfold n_fld at h
  simp only [Bool.and_eq_true, decide_eq_true_eq] at h
  exact ⟨h.1.1.1.1, h.1.1.1.2, h.1.1.2, h.1.2, n_in h.2⟩
/-- reading a field of the world -/
theorem s_getf {t idx : Nat} {id : Int} (hx : p.tables.exec = Jvm.exec) (hb : c.code = n_c k) (hown : s.vm.findClass (n_own k) = some m.cls) (hts : ∀ w ∈ n_tg, w.before args s = true) (hK : va_K D n_cl (n_tys cI cS cA) s) (hP : va_P D n_cl (s_ws φ cI cS cA μ) H)
    (hv : s_ok (t, id)) (h0 : 0 ≤ id) {pl : Nat} (hf : n_fld k z t pl idx = true) (hd : decode (n_c k) pc = .ok (.getfield idx, 3))
    (kk : W p l e R s m args below meth c H locs cells slots Q (F0 m (pc + 3) lsA (s_fv φ μ id.toNat z.toNat :: st.map (s_v φ)))) : W p l e R s m args below meth c H locs cells slots Q (F0 m pc lsA (s_v φ (t, id) :: st.map (s_v φ))) := by
  obtain ⟨hz0, hzN, ht5, ht10, hlink⟩ := n_fld_d hf
  obtain ⟨hi, hkd, hid⟩ := s_okr hv ⟨by omega, ht10⟩ h0
  obtain ⟨C, hC, hF, -, -⟩ := n_obj hi (by omega)
  rw [s_vr φ (by omega) h0]
  have hz : z.toNat < n_N (n_kd id.toNat) := by rw [hkd]; omega
  refine va_get (own := n_own k) (ref := (n_T t z.toNat).1) hx hb hts hF hown hK hP id.toNat (by rw [s_ws_at hi, s_ce5 (by omega)]) hC z.toNat hz ?_ (fun _ h => by rw [hkd] at h ⊢; exact h) (v := s_fv φ μ id.toNat z.toNat) (by rw [List.getElem?_map, List.getElem?_range hz]; rfl) hd kk
  rw [hkd]
  exact hts _ hlink
theorem s_mo_w {i k v : Int} (hM : s_mo L xs μ) (hi : i < 71) (hv : s_R32 v) (h7 : i = 8 → k = 2 → 1 ≤ v ∧ v ≤ 5) : s_mo L xs (m_w μ i k v) := by
  obtain ⟨h1, h2, h3, h4⟩ := hM
  refine ⟨fun a b => ?_, ?_, ?_, fun j hj => ?_⟩
  · unfold m_w
    by_cases q : a = i ∧ b = k
    · rw [if_pos q]; exact hv
    · rw [if_neg q]; exact h1 a b
  · unfold m_w
    by_cases q : (8 : Int) = i ∧ (2 : Int) = k
    · rw [if_pos q]; exact h7 q.1.symm q.2.symm
    · rw [if_neg q]; exact h2
  · rw [m_w_ne (by omega)]; exact h3
  · rw [m_w_ne (by omega)]; exact h4 j hj
end SC
end
section
section SC2
variable {p : Program} {l : Launch} {e : Env} {R : Room} {s : State} {m : MethodId} {args : Array Value} {below : List Frame} {meth : Method} {c : Code} {H : Heap} {locs : List Loc} {cells slots : Nat} {Q : State → Prop}
variable {φ : Nat → Nat} {D : va_G} {cI cS cA : ClassId} {L : Nat} {xs : Nat → Int32} {A : Nat → Prop}
variable {k pc n op : Nat} {z : Int} {ex : List Nat} {ls st : List MVal} {μ : MMem} {lsA : Array Slot} {o : MOut}
def s_kc (p : Program) (l : Launch) (e : Env) (R : Room) (s : State) (m : MethodId) (args : Array Value) (below : List Frame) (meth : Method) (c : Code) (cells slots : Nat) (Q : State → Prop) (φ : Nat → Nat) (D : va_G) (cI cS cA : ClassId) (L : Nat) (xs : Nat → Int32) (A : Nat → Prop) (lsA : Array Slot) (k pc : Nat) (i : MIns) (ls : List MVal) (o : MOut) : Prop :=
  ∀ (st' : List MVal) (μ' : MMem) (H' : Heap) (locs' : List Loc), o = (0, 0, [], ls, st', μ') → (∀ v ∈ st', s_ok v) → va_P D n_cl (s_ws φ cI cS cA μ') H' → s_mo L xs μ' → va_S A s.heap H' locs' → W p l e R s m args below meth c H' locs' cells slots Q (F0 m (pc + (k_enc k pc i).2) lsA (st'.map (s_v φ)))
theorem s_putf {t u vt idx pl : Nat} {id v : Int} (hx : p.tables.exec = Jvm.exec) (hb : c.code = n_c k) (hown : s.vm.findClass (n_own k) = some m.cls) (hts : ∀ w ∈ n_tg, w.before args s = true) (hK : va_K D n_cl (n_tys cI cS cA) s)
    (hφ : ∀ i j, i < 71 → j < 71 → φ i = φ j → i = j) (hA : ∀ i, i < 71 → A (φ i)) (hP : va_P D n_cl (s_ws φ cI cS cA μ) H) (hM : s_mo L xs μ) (hS : va_S A s.heap H locs)
    (hv : s_ok (t, id)) (hu : s_ok (u, v)) (h0 : 0 ≤ id) (hc : (u = vt ∧ vt ≠ 1) ∨ (u = 0 ∧ vt = 1 ∧ (v = 0 ∨ v = 1))) (hc2 : u = 0 ∨ 0 ≤ v) (hf : n_fld k z t pl idx = true) (hfin : (n_T t z.toNat).2.2.2 = false) (hvt : vt = n_dt (n_T t z.toNat).2.2.1) (hd : decode (n_c k) pc = .ok (.putfield idx, 3))
    (kk : ∀ (H' : Heap) (locs' : List Loc), va_P D n_cl (s_ws φ cI cS cA (m_w μ id z v)) H' → s_mo L xs (m_w μ id z v) → va_S A s.heap H' locs' → W p l e R s m args below meth c H' locs' cells slots Q (F0 m (pc + 3) lsA (st.map (s_v φ)))) :
    W p l e R s m args below meth c H locs cells slots Q (F0 m pc lsA (s_v φ (u, v) :: s_v φ (t, id) :: st.map (s_v φ))) := by
  obtain ⟨hz0, hzN, ht5, ht10, hlink⟩ := n_fld_d hf
  obtain ⟨hi, hkd, hid⟩ := s_okr hv ⟨by omega, ht10⟩ h0
  obtain ⟨C, hC, hF, ⟨ty0, hty⟩, hnm⟩ := n_obj hi (by omega)
  rw [s_vr φ (t := t) (by omega) h0]
  have hz : z.toNat < n_N (n_kd id.toNat) := by rw [hkd]; omega
  have hzz : (z.toNat : Int) = z := by omega
  have hfs := n_fins id.toNat hi (by omega) z.toNat hz
  unfold n_fin1 at hfs
  rw [hkd] at hfs
  simp only [hfin, Bool.false_eq_true, if_false, Bool.or_eq_true, Bool.and_eq_true, decide_eq_true_eq] at hfs
  have hpd : parseFieldDescriptor (n_T t z.toNat).2.2.1 = some (ty0 z.toNat) := by have := hty z.toNat hz; rw [hkd] at this; exact this
  have hR : s_R32 v := by
    rcases hfs with h | ⟨⟨h8, h2⟩, h7⟩
    · have hu0 : u = 0 := by omega
      exact hu.1 hu0
    · have hu7 : u = 7 := by omega
      subst hu7
      rcases hu.2.2.1 (by show 2 ≤ 7; omega) (by show 7 ≤ 10; omega) with q | q
      · have q1 : v < 0 := q
        omega
      · have q1 : v < 71 := q.1
        exact ⟨by omega, by omega⟩
  have hM' : s_mo L xs (m_w μ id z v) := by
    refine s_mo_w hM (by omega) hR (fun e8 e2 => ?_)
    rcases hfs with h | ⟨⟨h8, h2⟩, h7⟩
    · exfalso
      subst e8; subst e2
      have ht8 : t = 8 := by rw [← hkd]; rfl
      subst ht8
      exact absurd h (by decide)
    · have hu7 : u = 7 := by omega
      subst hu7
      rcases hu.2.2.1 (by show 2 ≤ 7; omega) (by show 7 ≤ 10; omega) with q | q
      · have q1 : v < 0 := q
        omega
      · have q1 : v < 71 := q.1
        have := n_k7 v.toNat (by omega) q.2
        omega
  have hnew : s_v φ (u, v) = s_fv φ (m_w μ id z v) id.toNat z.toNat := by
    have hmw : m_w μ id z v id z = v := by unfold m_w; rw [if_pos ⟨rfl, rfl⟩]
    unfold s_fv
    rw [hkd, hfin]
    simp only [Bool.false_eq_true, if_false]
    rw [hid, hzz, hmw, ← hvt]
    rcases hfs with h | ⟨⟨h8, h2⟩, h7⟩
    · have hu0 : u = 0 := by omega
      rw [if_pos (by omega), hu0]
      rfl
    · rw [if_neg (by omega)]
      exact s_vr φ (by omega) (by omega)
  have hnf : narrow (ty0 z.toNat) (s_v φ (u, v)) = s_v φ (u, v) ∧ fits (ty0 z.toNat) (s_v φ (u, v)) = true := by
    rcases hfs with h | ⟨⟨h8, h2⟩, h7⟩
    · have hu0 : u = 0 := by omega
      subst hu0
      rw [s_v0]
      by_cases hI : (n_T t z.toNat).2.2.1 = "I"
      · rw [hI] at hpd
        have e1 : ty0 z.toNat = .int := by
          have : parseFieldDescriptor "I" = some .int := by decide +kernel
          exact Option.some.inj (hpd.symm.trans this)
        rw [e1]
        exact ⟨rfl, rfl⟩
      · have hZ : (n_T t z.toNat).2.2.1 = "Z" := by
          unfold n_dt at h
          rw [if_neg hI] at h
          by_cases q : (n_T t z.toNat).2.2.1 = "Z"
          · exact q
          · rw [if_neg q] at h
            repeat (first | omega | (split at h))
        rw [hZ] at hpd
        have e1 : ty0 z.toNat = .boolean := by
          have : parseFieldDescriptor "Z" = some .boolean := by decide +kernel
          exact Option.some.inj (hpd.symm.trans this)
        have hv1 : vt = 1 := by rw [hvt, hZ]; rfl
        have h01 : v = 0 ∨ v = 1 := by
          rcases hc with q | q
          · omega
          · exact q.2.2
        rw [e1]
        rcases h01 with rfl | rfl
        · exact ⟨by decide +kernel, by decide +kernel⟩
        · exact ⟨by decide +kernel, by decide +kernel⟩
    · have hu7 : u = 7 := by omega
      subst hu7
      rw [s_vr φ (by omega) (by omega)]
      have e8 : t = 8 := by rw [← hkd, h8]; rfl
      subst e8
      rw [h2] at hpd
      have e1 : ty0 z.toNat = .object "BrideDoors$Table" := by
        have : parseFieldDescriptor (n_T 8 2).2.2.1 = some (.object "BrideDoors$Table") := by decide +kernel
        rw [h2]
        exact Option.some.inj (hpd.symm.trans this)
      rw [e1]
      exact ⟨rfl, rfl⟩
  have he : (s_ws φ cI cS cA μ)[id.toNat]? = some (φ id.toNat, .inr (n_ci id.toNat, (List.range (n_N (n_kd id.toNat))).map (s_fv φ μ id.toNat))) := by rw [s_ws_at hi, s_ce5 (by omega)]
  refine va_put (own := n_own k) (ref := (n_T t z.toNat).1) (ty := ty0 z.toNat) (v := s_v φ (u, v)) hx hb hts hF ty0 hty hnm hown hK hP (s_ws_D hφ hA) hS id.toNat he hC z.toNat hz (by rw [hkd]; exact hts _ hlink) (fun _ h => by rw [hkd] at h ⊢; exact h) (by rw [hkd]; exact hfin) (by rw [hkd]; exact hpd) hnf.1 hnf.2 (by rw [List.length_map, List.length_range]; exact hz) hd (fun H1 locs1 hP1 _ hS1 => kk H1 locs1 ?_ hM' hS1)
  have hset := s_ws_set (φ := φ) (cI := cI) (cS := cS) (cA := cA) (μ := μ) (μ' := m_w μ id z v) (i := id.toNat) (E := .inr (n_ci id.toNat, ((List.range (n_N (n_kd id.toNat))).map (s_fv φ μ id.toNat)).set z.toNat (s_v φ (u, v)))) hi ?_ (fun j _ hj => s_ce_ne (by omega))
  · rw [hset] at hP1
    exact hP1
  · rw [s_ce5 (by omega)]
    congr 2
    apply List.ext_getElem?
    intro j
    by_cases hj : j < n_N (n_kd id.toNat)
    · by_cases ej : j = z.toNat
      · rw [ej, List.getElem?_set_self (by rw [List.length_map, List.length_range]; exact hz), List.getElem?_map, List.getElem?_range hz, hnew]
        rfl
      · rw [List.getElem?_set_ne (fun q => ej q.symm), List.getElem?_map, List.getElem?_map, List.getElem?_range hj]
        show some _ = some _
        congr 1
        have e2 : m_w μ id z v (id.toNat : Int) (j : Int) = μ (id.toNat : Int) (j : Int) := by
          unfold m_w
          rw [if_neg (fun q => ej (by omega))]
        unfold s_fv
        rw [e2]
    · rw [List.getElem?_eq_none (by rw [List.length_map, List.length_range]; omega), List.getElem?_eq_none (by rw [List.length_set, List.length_map, List.length_range]; omega)]
theorem s_ials {id j : Int} (hx : p.tables.exec = Jvm.exec) (hb : c.code = n_c k) (hK : va_K D n_cl (n_tys cI cS cA) s) (hP : va_P D n_cl (s_ws φ cI cS cA μ) H) (hv : s_ok (2, id)) (hj : s_R32 j) (h0 : 0 ≤ id) (h1 : 0 ≤ j) (h2 : j < m_al id) (hd : decode (n_c k) pc = .ok (.iaload, 1))
    (kk : W p l e R s m args below meth c H locs cells slots Q (F0 m (pc + 1) lsA (s_v φ (0, μ id j) :: st.map (s_v φ)))) : W p l e R s m args below meth c H locs cells slots Q (F0 m pc lsA (s_v φ (0, j) :: s_v φ (2, id) :: st.map (s_v φ))) := by
  obtain ⟨hi, hkd, hid⟩ := s_okr hv ⟨by omega, by omega⟩ h0
  rw [s_vr φ (t := 2) (by omega) h0, s_v0]
  have hal := n_al id.toNat hi hkd
  rw [hid] at hal
  refine va_iald (t0 := 0) (q0 := id.toNat) hx hb hK hP (by rw [s_ws_at hi, s_ce2 hkd]) rfl (s_vpin hj h1 (by rw [hid]; omega)) hd ?_
  rw [s_clamp hj, hid, show ((j.toNat : Nat) : Int) = j by omega]
  exact kk
theorem s_iass {id j v : Int} (hx : p.tables.exec = Jvm.exec) (hb : c.code = n_c k) (hK : va_K D n_cl (n_tys cI cS cA) s) (hφ : ∀ i j, i < 71 → j < 71 → φ i = φ j → i = j) (hA : ∀ i, i < 71 → A (φ i)) (hP : va_P D n_cl (s_ws φ cI cS cA μ) H) (hM : s_mo L xs μ) (hS : va_S A s.heap H locs) (hv : s_ok (2, id)) (hj : s_R32 j) (hr : s_R32 v) (h0 : 0 ≤ id) (h1 : 0 ≤ j) (h2 : j < m_al id) (hd : decode (n_c k) pc = .ok (.iastore, 1))
    (kk : ∀ (H' : Heap) (locs' : List Loc), va_P D n_cl (s_ws φ cI cS cA (m_w μ id j v)) H' → s_mo L xs (m_w μ id j v) → va_S A s.heap H' locs' → W p l e R s m args below meth c H' locs' cells slots Q (F0 m (pc + 1) lsA (st.map (s_v φ)))) : W p l e R s m args below meth c H locs cells slots Q (F0 m pc lsA (s_v φ (0, v) :: s_v φ (0, j) :: s_v φ (2, id) :: st.map (s_v φ))) := by
  obtain ⟨hi, hkd, hid⟩ := s_okr hv ⟨by omega, by omega⟩ h0
  rw [s_vr φ (t := 2) (by omega) h0, s_v0, s_v0]
  have hal := n_al id.toNat hi hkd
  rw [hid] at hal
  have hn8 : id ≠ 8 := by
    intro q
    rw [q] at hkd
    exact absurd hkd (by decide)
  refine va_iast (t0 := 0) (q0 := id.toNat) hx hb hK hP (s_ws_D hφ hA) hS (by rw [s_ws_at hi, s_ce2 hkd]) rfl (s_vpin hj h1 (by rw [hid]; omega)) hd (fun H1 locs1 hP1 _ hS1 => kk H1 locs1 ?_ (s_mo_w hM (by omega) hr (fun q => absurd q hn8)) hS1)
  have hset := s_ws_set (φ := φ) (cI := cI) (cS := cS) (cA := cA) (μ := μ) (μ' := m_w μ id j v) (i := id.toNat) (E := .inl (cI, (m_al id.toNat).toNat, .inl (upd (fun q : Nat => Int32.ofInt (μ id.toNat q)) (Int32.ofInt j).toNatClampNeg (Int32.ofInt v)))) hi ?_ (fun a _ ha => s_ce_ne (by omega))
  · rw [hset] at hP1
    exact hP1
  · rw [s_ce2 hkd, s_clamp hj]
    have hfun : (fun q : Nat => Int32.ofInt (m_w μ id j v id.toNat q)) = upd (fun q : Nat => Int32.ofInt (μ id.toNat q)) j.toNat (Int32.ofInt v) := by
      funext q
      unfold upd m_w
      by_cases e : q = j.toNat
      · rw [if_pos ⟨hid, by omega⟩, if_pos e]
      · rw [if_neg (fun w => e (by omega)), if_neg e]
    rw [hfun]
end SC2
end
section
section SC3
variable {p : Program} {l : Launch} {e : Env} {R : Room} {s : State} {m : MethodId} {args : Array Value} {below : List Frame} {meth : Method} {c : Code} {H : Heap} {locs : List Loc} {cells slots : Nat} {Q : State → Prop}
variable {φ : Nat → Nat} {D : va_G} {cI cS cA : ClassId} {L : Nat} {xs : Nat → Int32} {A : Nat → Prop}
variable {k pc n op : Nat} {z : Int} {ex : List Nat} {ls st : List MVal} {μ : MMem} {lsA : Array Slot} {o : MOut}
theorem s_ok11 {x : Int} (h : x = 200 ∨ x = 201 ∨ x = 202) : s_ok (11, x) := by simp [s_ok]; omega
theorem s_gets {C nm d : String} {v : Value} {idx : Nat} (hx : p.tables.exec = Jvm.exec) (hb : c.code = n_c k) (hown : s.vm.findClass (n_own k) = some m.cls) (hts : ∀ w ∈ n_tg, w.before args s = true) (hZ : va_Z C nm d v A s s.heap) (hS : va_S A s.heap H locs) {pl : Nat} (hw : n_at pl (.fieldLink (n_own k) idx C nm d) = true) (hd : decode (n_c k) pc = .ok (.getstatic idx, 3))
    (kk : W p l e R s m args below meth c H locs cells slots Q (F0 m (pc + 3) lsA (v :: st.map (s_v φ)))) : W p l e R s m args below meth c H locs cells slots Q (F0 m pc lsA (st.map (s_v φ))) :=
  va_gets hx hb hZ hS hown (hts _ (n_in hw)) (fun _ h => h) hd kk
theorem s_arow {ty : FieldType} {t0 : Nat} {cX : ClassId} {id j : Int} {t : Nat} (hx : p.tables.exec = Jvm.exec) (hb : c.code = n_c k) (hK : va_K D n_cl (n_tys cI cS cA) s) (hP : va_P D n_cl (s_ws φ cI cS cA μ) H) (hi : id.toNat < 71) (hid : (id.toNat : Int) = id) (ht : 2 ≤ t)
    (hce : s_ce φ cI cS cA μ id.toNat = .inl (cX, (m_rl id.toNat).toNat, .inr (.inr (.inr (.inr (fun j => some (φ (m_rf id.toNat j).toNat))))))) (hty : (n_tys cI cS cA)[t0]? = some (cX, ty)) (href : ty.isReference = true) (hj : s_R32 j) (h1 : 0 ≤ j) (h2 : j < m_rl id) (h3 : 0 ≤ m_rf id j) (h0 : 0 ≤ id) {u : Nat} (hu : 2 ≤ u) (hd : decode (n_c k) pc = .ok (.aaload, 1))
    (kk : W p l e R s m args below meth c H locs cells slots Q (F0 m (pc + 1) lsA (s_v φ (t, m_rf id j) :: st.map (s_v φ)))) : W p l e R s m args below meth c H locs cells slots Q (F0 m pc lsA (s_v φ (0, j) :: s_v φ (u, id) :: st.map (s_v φ))) := by
  rw [s_vr φ (t := u) hu h0, s_v0]
  rw [s_vr φ (t := t) ht h3] at kk
  have hrl := n_rl id
  have hin : vp_in (Int32.ofInt j) (m_rl id.toNat).toNat := s_vpin hj h1 (by rw [hid]; omega)
  have hlt : (Int32.ofInt j).toNatClampNeg < (m_rl id.toNat).toNat := by rw [s_clamp hj, hid]; omega
  have hcell := hP id.toNat _ (by rw [s_ws_at hi, hce])
  refine W.aald (v := va_rf ((fun j : Nat => some (φ (m_rf id.toNat j).toNat)) (Int32.ofInt j).toNatClampNeg)) (ty := ty) hx hb hcell ((hK.2 t0 _ hty).1 _ (fun q => va_rf ((fun j : Nat => some (φ (m_rf id.toNat j).toNat)) q))) href (fun q => by cases q) (by show ¬ (_ ∨ (arrV _ _ _).slots.size ≤ _); rw [arrV_size]; exact hin) (by show (arrV _ _ _).slots[_]? = _; rw [arrV_read _ _ hlt]) rfl rfl hd ?_
  rw [s_clamp hj, show ((fun j : Nat => some (φ (m_rf id.toNat j).toNat)) j.toNat) = some (φ (m_rf id j).toNat) by show some (φ (m_rf (id.toNat : Int) (j.toNat : Int)).toNat) = _; rw [hid, show ((j.toNat : Nat) : Int) = j by omega]]
  exact kk
set_option maxHeartbeats 4000000 in
theorem s_opC (hx : p.tables.exec = Jvm.exec) (hb : c.code = n_c k) (hown : s.vm.findClass (n_own k) = some m.cls) (hts : ∀ w ∈ n_tg, w.before args s = true) (hK : s_K φ D cI cS cA L xs A s s.heap) (hφ : ∀ i j, i < 71 → j < 71 → φ i = φ j → i = j) (hA : ∀ i, i < 71 → A (φ i)) (hP : va_P D n_cl (s_ws φ cI cS cA μ) H) (hM : s_mo L xs μ) (hS : va_S A s.heap H locs) (hLL : L < 2147483648)
    (hs : ∀ v ∈ st, s_ok v) (hop : (27 ≤ op ∧ op < 36) ∨ (45 ≤ op ∧ op < 48)) (hc : k_chk k pc (op, n, z, ex) = true) (ho : m_opC op n z ex ls st μ = some o) (kk : s_kc p l e R s m args below meth c cells slots Q φ D cI cS cA L xs A lsA k pc (op, n, z, ex) ls o) :
    W p l e R s m args below meth c H locs cells slots Q (F0 m pc lsA (st.map (s_v φ))) := by
  obtain ⟨hd, hsd⟩ := k_chk_d hc
  obtain ⟨hK1, hT0, hT1, hT2, hZ0, hZ1, hZ2, hR, hSt, -, -⟩ := hK
  unfold m_opC at ho
  split at ho
  · split at ho
    · split at ho
      · rename_i t id st a ot rt b hh
        cases ho
        obtain ⟨rfl, h0⟩ := hh
        have h1 : (n_fld k z t b a && decide ((n_T t z.toNat).2.2.2 = false) && decide (rt = (if n_dt (n_T t z.toNat).2.2.1 = 1 then 0 else n_dt (n_T t z.toNat).2.2.1))) = true := hsd
        simp only [Bool.and_eq_true, decide_eq_true_eq] at h1
        obtain ⟨⟨hf, hfin⟩, hrt⟩ := h1
        obtain ⟨hz0, hzN, ht5, ht10, -⟩ := n_fld_d hf
        obtain ⟨hi, hkd, hid⟩ := s_okr (s_hd hs) ⟨by omega, ht10⟩ h0
        have hg := s_fld (φ := φ) (kk := z.toNat) hM hi (by omega) (by rw [hkd]; omega) (by rw [hkd]; exact hfin)
        rw [hkd, ← hrt, hid, show ((z.toNat : Nat) : Int) = z by omega] at hg
        refine s_getf hx hb hown hts hK1 hP (s_hd hs) h0 hf hd ?_
        rw [hg.1]
        exact kk _ _ _ _ rfl (s_cons hg.2 (s_tl hs)) hP hM hS
      · cases ho
    · cases ho
  · split at ho
    · split at ho
      · rename_i t id st a ot rt b hh
        cases ho
        obtain ⟨rfl, h0⟩ := hh
        have h1 : (n_fld k z t b a && decide ((n_T t z.toNat).2.2.2 = true) && decide (rt = (if n_dt (n_T t z.toNat).2.2.1 = 1 then 0 else n_dt (n_T t z.toNat).2.2.1))) = true := hsd
        simp only [Bool.and_eq_true, decide_eq_true_eq] at h1
        obtain ⟨⟨hf, hfin⟩, hrt⟩ := h1
        obtain ⟨hz0, hzN, ht5, ht10, -⟩ := n_fld_d hf
        obtain ⟨hi, hkd, hid⟩ := s_okr (s_hd hs) ⟨by omega, ht10⟩ h0
        have hg := s_fldF (φ := φ) (μ := μ) (kk := z.toNat) hi (by omega) (by rw [hkd]; omega) (by rw [hkd]; exact hfin)
        rw [hkd, ← hrt, hid, show ((z.toNat : Nat) : Int) = z by omega] at hg
        refine s_getf hx hb hown hts hK1 hP (s_hd hs) h0 hf hd ?_
        rw [hg.1]
        exact kk _ _ _ _ rfl (s_cons hg.2 (s_tl hs)) hP hM hS
      · cases ho
    · cases ho
  · split at ho
    · split at ho
      · rename_i u v t id st a ot vt b hh
        cases ho
        obtain ⟨rfl, h0, hc1, hc2⟩ := hh
        have h1 : (n_fld k z t b a && decide ((n_T t z.toNat).2.2.2 = false) && decide (vt = n_dt (n_T t z.toNat).2.2.1)) = true := hsd
        simp only [Bool.and_eq_true, decide_eq_true_eq] at h1
        obtain ⟨⟨hf, hfin⟩, hvt⟩ := h1
        exact s_putf hx hb hown hts hK1 hφ hA hP hM hS (s_hd (s_tl hs)) (s_hd hs) h0 hc1 hc2 hf hfin hvt hd (fun H' locs' hP' hM' hS' => kk _ _ _ _ rfl (s_tl (s_tl hs)) hP' hM' hS')
      · cases ho
    · cases ho
  · by_cases h2 : n = 2
    · rw [if_pos h2] at ho
      cases ho
      subst h2
      have h1 : (decide (2 = 2) && n_at (ex.getD 1 0) (.fieldLink (n_own k) (n_e0 ex) "java/lang/String" "COMPACT_STRINGS" "Z")) = true := hsd
      simp only [Bool.and_eq_true] at h1
      exact s_gets hx hb hown hts hZ2 hS h1.2 hd (kk _ _ _ _ rfl (s_cons (s_ok0 ⟨by decide, by decide⟩) hs) hP hM hS)
    · rw [if_neg h2] at ho
      by_cases h1 : n = 1
      · rw [if_pos h1] at ho
        cases ho
        subst h1
        have h1 : n_at (ex.getD 1 0) (.fieldLink (n_own k) (n_e0 ex) "BrideDoors" "DOOR_YEARS" "[I") = true := hsd
        exact s_gets hx hb hown hts hZ1 hS h1 hd (kk _ _ _ _ rfl (s_cons (s_ok11 (Or.inr (Or.inl rfl))) hs) hP hM hS)
      · rw [if_neg h1] at ho
        cases ho
        have h0 : n = 0 := by
          by_cases h0 : n = 0
          · exact h0
          · have h3 : (if n = 0 then n_at (ex.getD 1 0) (.fieldLink (n_own k) (n_e0 ex) "BrideDoors" "HOUSE_YEARS" "[I") else if n = 1 then n_at (ex.getD 1 0) (.fieldLink (n_own k) (n_e0 ex) "BrideDoors" "DOOR_YEARS" "[I") else decide (n = 2) && n_at (ex.getD 1 0) (.fieldLink (n_own k) (n_e0 ex) "java/lang/String" "COMPACT_STRINGS" "Z")) = true := hsd
            rw [if_neg h0, if_neg h1] at h3
            simp only [Bool.and_eq_true, decide_eq_true_eq] at h3
            exact absurd h3.1 h2
        subst h0
        have h1 : n_at (ex.getD 1 0) (.fieldLink (n_own k) (n_e0 ex) "BrideDoors" "HOUSE_YEARS" "[I") = true := hsd
        exact s_gets hx hb hown hts hZ0 hS h1 hd (kk _ _ _ _ rfl (s_cons (s_ok11 (Or.inl rfl)) hs) hP hM hS)
  · split at ho
    · split at ho
      · rename_i j id st hh
        cases ho
        exact s_ials hx hb hK1 hP (s_hd (s_tl hs)) ((s_hd hs).1 rfl) hh.1 hh.2.1 hh.2.2 hd (kk _ _ _ _ rfl (s_cons (s_ok0 (hM.1 _ _)) (s_tl (s_tl hs))) hP hM hS)
      · cases ho
    · split at ho
      · rename_i j id st hh
        cases ho
        have hj := (s_hd hs).1 rfl
        have hj' : s_R32 j := hj
        rw [List.map_cons, List.map_cons, s_vr φ (t := 11) (by omega) hh.1, s_v0]
        have h3 := (s_hd (s_tl hs)).2.2.2.1 rfl
        have h3' : id < 0 ∨ id = 200 ∨ id = 201 ∨ id = 202 := h3
        have hjj : ((j.toNat : Nat) : Int) = j := by omega
        rcases h3' with q | rfl | rfl | rfl
        · omega
        · have hlt : j < 4 := hh.2.2
          refine va_ti hx hb hT0 hS (s_vpin hj' hh.2.1 hlt) (v := s_v φ (0, m_oc μ 200 j)) ?_ hd (kk _ _ _ _ rfl (s_cons (s_ok0 ?_) (s_tl (s_tl hs))) hP hM hS)
          · rw [s_clamp hj']; rfl
          · have : j = 0 ∨ j = 1 ∨ j = 2 ∨ j = 3 := by omega
            rcases this with rfl | rfl | rfl | rfl <;> exact ⟨by simp [m_oc], by simp [m_oc]⟩
        · have hlt : j < 3 := hh.2.2
          refine va_ti hx hb hT1 hS (s_vpin hj' hh.2.1 hlt) (v := s_v φ (0, m_oc μ 201 j)) ?_ hd (kk _ _ _ _ rfl (s_cons (s_ok0 ?_) (s_tl (s_tl hs))) hP hM hS)
          · rw [s_clamp hj']; rfl
          · have : j = 0 ∨ j = 1 ∨ j = 2 := by omega
            rcases this with rfl | rfl | rfl <;> exact ⟨by simp [m_oc], by simp [m_oc]⟩
        · have hlt : j < (L : Int) := by rw [← hM.2.2.1]; exact hh.2.2
          have hv := hM.2.2.2 j.toNat (by omega)
          rw [hjj] at hv
          refine va_ti hx hb hT2 hS (s_vpin hj' hh.2.1 hlt) (v := s_v φ (0, m_oc μ 202 j)) ?_ hd (kk _ _ _ _ rfl (s_cons (s_ok0 ?_) (s_tl (s_tl hs))) hP hM hS)
          · rw [s_clamp hj', show m_oc μ 202 j = μ 202 j from rfl, hv, s_vI]
          · show s_R32 (μ 202 j)
            exact hM.1 _ _
      · cases ho
    · cases ho
  · split at ho
    · split at ho
      · rename_i v j id st hh
        cases ho
        exact s_iass hx hb hK1 hφ hA hP hM hS (s_hd (s_tl (s_tl hs))) ((s_hd (s_tl hs)).1 rfl) ((s_hd hs).1 rfl) hh.1 hh.2.1 hh.2.2 hd (fun H' locs' hP' hM' hS' => kk _ _ _ _ rfl (s_tl (s_tl (s_tl hs))) hP' hM' hS')
      · cases ho
    · cases ho
  · split at ho
    · split at ho
      · rename_i id st hh
        cases ho
        obtain ⟨hi, hkd, hid⟩ := s_okr (s_hd hs) ⟨by omega, by omega⟩ hh
        have hal := n_al id.toNat hi hkd
        rw [hid] at hal
        rw [List.map_cons, s_vr φ (t := 2) (by omega) hh]
        refine va_alen (t0 := 0) (q0 := id.toNat) hx hb hK1 hP (by rw [s_ws_at hi, s_ce2 hkd]) rfl (v := Int32.ofInt (m_al id)) ?_ hd (kk _ _ _ _ rfl (s_cons (s_ok0 ⟨by omega, by omega⟩) (s_tl hs)) hP hM hS)
        show Int32.ofNat (m_al (id.toNat : Int)).toNat = _
        rw [hid, ← Int32.toInt_inj, s_toI ⟨by omega, by omega⟩, Int32.toInt_ofNat_of_lt (by omega)]
        omega
      · cases ho
    · split at ho
      · rename_i id st hh
        cases ho
        rw [List.map_cons, s_vr φ (t := 11) (by omega) hh]
        have h3 := (s_hd hs).2.2.2.1 rfl
        have h3' : id < 0 ∨ id = 200 ∨ id = 201 ∨ id = 202 := h3
        rcases h3' with q | rfl | rfl | rfl
        · omega
        · exact va_tlen hx hb hT0 hS rfl hd (kk _ _ _ _ rfl (s_cons (s_ok0 (show s_R32 4 from ⟨by decide, by decide⟩)) (s_tl hs)) hP hM hS)
        · exact va_tlen hx hb hT1 hS rfl hd (kk _ _ _ _ rfl (s_cons (s_ok0 (show s_R32 3 from ⟨by decide, by decide⟩)) (s_tl hs)) hP hM hS)
        · refine va_tlen hx hb hT2 hS (v := Int32.ofInt (m_ol μ 202)) ?_ hd (kk _ _ _ _ rfl (s_cons (s_ok0 ?_) (s_tl hs)) hP hM hS)
          · rw [show m_ol μ 202 = μ 202 (-1) from rfl, hM.2.2.1]; rfl
          · rw [show m_ol μ 202 = μ 202 (-1) from rfl]; exact hM.1 _ _
      · cases ho
    · split at ho
      · rename_i id st hh
        cases ho
        rw [List.map_cons, s_vr φ (t := 13) (by omega) hh]
        have h3 := (s_hd hs).2.2.2.2.2.1 rfl
        have h3' : id < 0 ∨ id = 204 := h3
        rcases h3' with q | rfl
        · omega
        · exact va_tlen hx hb (hSt.1 0 (by decide)).2.2.2 hS rfl hd (kk _ _ _ _ rfl (s_cons (s_ok0 ⟨by decide, by decide⟩) (s_tl hs)) hP hM hS)
      · cases ho
    · cases ho
  · split at ho
    · split at ho
      · rename_i j id st hh
        cases ho
        obtain ⟨hi, hkd, hid⟩ := s_okr (s_hd (s_tl hs)) ⟨by omega, by omega⟩ hh.1
        have hr := (n_rows id.toNat hi).1 hkd j.toNat (by rw [hid]; omega)
        rw [hid, show ((j.toNat : Nat) : Int) = j by omega] at hr
        refine s_arow (t0 := 2) hx hb hK1 hP hi hid (by omega) (s_ce3 hkd) rfl rfl ((s_hd hs).1 rfl) hh.2.1 hh.2.2 hr.1 hh.1 (by omega) hd (kk _ _ _ _ rfl (s_cons ?_ (s_tl (s_tl hs))) hP hM hS)
        exact ⟨fun q => by simp at q, fun q => by simp at q, fun _ _ => Or.inr ⟨hr.2.1, hr.2.2⟩, fun q => by simp at q, fun q => by simp at q, fun q => by simp at q, by simp⟩
      · cases ho
    · split at ho
      · rename_i j id st hh
        cases ho
        obtain ⟨hi, hkd, hid⟩ := s_okr (s_hd (s_tl hs)) ⟨by omega, by omega⟩ hh.1
        have hr := (n_rows id.toNat hi).2 hkd j.toNat (by rw [hid]; omega)
        rw [hid, show ((j.toNat : Nat) : Int) = j by omega] at hr
        refine s_arow (t0 := 1) hx hb hK1 hP hi hid (by omega) (s_ce4 hkd) rfl rfl ((s_hd hs).1 rfl) hh.2.1 hh.2.2 hr.1 hh.1 (by omega) hd (kk _ _ _ _ rfl (s_cons ?_ (s_tl (s_tl hs))) hP hM hS)
        exact ⟨fun q => by simp at q, fun q => by simp at q, fun _ _ => Or.inr ⟨hr.2.1, hr.2.2⟩, fun q => by simp at q, fun q => by simp at q, fun q => by simp at q, by simp⟩
      · cases ho
    · cases ho
  · split at ho
    · split at ho
      · rename_i j id st hh
        cases ho
        have hj' : s_R32 j := (s_hd hs).1 rfl
        rw [List.map_cons, List.map_cons, s_vr φ (t := 13) (by omega) hh.1, s_v0]
        have h3 := (s_hd (s_tl hs)).2.2.2.2.2.1 rfl
        have h3' : id < 0 ∨ id = 204 := h3
        rcases h3' with q | rfl
        · omega
        · refine va_tb hx hb (hSt.1 0 (by decide)).2.2.2 hS (s_vpin hj' hh.2.1 hh.2.2) (v := s_v φ (0, m_bc j)) ?_ hd (kk _ _ _ _ rfl (s_cons (s_ok0 ?_) (s_tl (s_tl hs))) hP hM hS)
          · rw [s_clamp hj']
            have hlt := hh.2.2
            have : j = 0 ∨ j = 1 ∨ j = 2 := by omega
            rcases this with rfl | rfl | rfl <;> rfl
          · have hlt := hh.2.2
            have : j = 0 ∨ j = 1 ∨ j = 2 := by omega
            rcases this with rfl | rfl | rfl <;> exact ⟨by decide, by decide⟩
      · cases ho
    · cases ho
  · cases ho
    refine lv_null hx hb hd (kk _ _ _ _ rfl (s_cons ?_ hs) hP hM hS)
    exact ⟨fun q => by simp at q, fun q => by simp at q, fun _ _ => Or.inl (by simp), fun q => by simp at q, fun q => by simp at q, fun q => by simp at q, by simp⟩
  · cases ho
    have h1 : (decide (n_e0 ex = 9) && decide (n_own k = "BrideDoors$HouseText")) = true := hsd
    simp only [Bool.and_eq_true, decide_eq_true_eq] at h1
    have hd' : decode (n_c k) pc = .ok (.ldc 9, 2) := by rw [← h1.1]; exact hd
    rw [h1.2] at hown
    refine va_ldcS hx hb hown hR hd' (kk _ _ _ _ rfl (s_cons ?_ hs) hP hM hS)
    exact ⟨fun q => by simp at q, fun q => by simp at q, fun _ q => by simp at q, fun q => by simp at q, fun _ => Or.inr rfl, fun q => by simp at q, by simp⟩
  · rename_i h27 h28 h29 h30 h31 h32 h33 h34 h35 h45 h46
    have e47 : op = 47 := by
      have : op ≠ 27 := fun q => h27 q
      have : op ≠ 28 := fun q => h28 q
      have : op ≠ 29 := fun q => h29 q
      have : op ≠ 30 := fun q => h30 q
      have : op ≠ 31 := fun q => h31 q
      have : op ≠ 32 := fun q => h32 q
      have : op ≠ 33 := fun q => h33 q
      have : op ≠ 34 := fun q => h34 q
      have : op ≠ 35 := fun q => h35 q
      have : op ≠ 45 := fun q => h45 q
      have : op ≠ 46 := fun q => h46 q
      omega
    subst e47
    split at ho
    · split at ho
      · rename_i id st hh
        rw [List.map_cons, s_vr φ (t := 12) (by omega) hh]
        have h3 := (s_hd hs).2.2.2.2.1 rfl
        have h3' : id < 0 ∨ id = 203 := h3
        rcases h3' with q | rfl
        · omega
        · have h1 : (if n = 0 then n_at (ex.getD 1 0) (.fieldLink (n_own k) (n_e0 ex) "java/lang/String" "value" "[B") else decide (n = 1) && n_at (ex.getD 1 0) (.fieldLink (n_own k) (n_e0 ex) "java/lang/String" "coder" "B")) = true := hsd
          by_cases hn : n = 0
          · rw [if_pos hn] at ho h1
            cases ho
            refine vk_getf hx hb (hSt.1 0 (by decide)).2.2.1 hS hown (hts _ (n_in h1)) (fun _ h => h) hd (kk _ _ _ _ rfl (s_cons ?_ (s_tl hs)) hP hM hS)
            exact ⟨fun q => by simp at q, fun q => by simp at q, fun _ q => by simp at q, fun q => by simp at q, fun q => by simp at q, fun _ => Or.inr rfl, by simp⟩
          · rw [if_neg hn] at ho h1
            cases ho
            simp only [Bool.and_eq_true] at h1
            exact vk_getf hx hb (hSt.1 0 (by decide)).2.1 hS hown (hts _ (n_in h1.2)) (fun _ h => h) hd (kk _ _ _ _ rfl (s_cons (s_ok0 ⟨by decide, by decide⟩) (s_tl hs)) hP hM hS)
      · cases ho
    · cases ho
end SC3
end
section
def s_A (φ : Nat → Nat) : Nat → Prop := fun q => ∃ i, i < 71 ∧ q = φ i
def s_rv (φ : Nat → Nat) (r : MVal) : Option Value := if r.1 = 14 then none else some (s_v φ r)
def s_Q (φ : Nat → Nat) (D : va_G) (cI cS cA : ClassId) (L : Nat) (xs : Nat → Int32) (r : MVal) (μ' : MMem) : Array Value → State → Outcome → State → Prop := fun _ st oc t => oc = .returned (s_rv φ r) ∧ va_P D n_cl (s_ws φ cI cS cA μ') t.heap ∧ s_mo L xs μ' ∧ s_ok r ∧ va_F (s_A φ) st t
def s_P (φ : Nat → Nat) (D : va_G) (cI cS cA : ClassId) (L : Nat) (xs : Nat → Int32) (as : List MVal) (μ : MMem) : Array Value → State → Prop := va_Pc (as.map (s_v φ)) (fun U => va_P D n_cl (s_ws φ cI cS cA μ) U.heap ∧ s_K φ D cI cS cA L xs (s_A φ) U U.heap)
def n_rm (z : Nat) : Room := { frames := n_fr z, cells := 0, slots := 0, locals := n_lo z }
def n_ws (z : Nat) : List Cond := .code (n_y z) (n_c z) (m_mx z) (n_r z) :: n_tg
theorem s_K.same {φ : Nat → Nat} {D : va_G} {cI cS cA : ClassId} {L : Nat} {xs : Nat → Int32} {A : Nat → Prop} {s U : State} {H : Heap} (h : s_K φ D cI cS cA L xs A s H) (hv : s.vm = U.vm) : s_K φ D cI cS cA L xs A U H := by
  obtain ⟨h1, h2, h3, h4, h5, h6, h7, h8, h9, h10, h11⟩ := h
  have ha : s.vm.Alike U.vm := hv ▸ Vm.Alike.refl _
  refine ⟨h1.moved ha, h2.moved ha, h3.moved ha, h4.moved ha, h5.moved ha, h6.moved ha, h7.moved ha, h8.same hv.symm, h9.moved ha, fun w hw => ?_, va_Nw.same rfl hv h11⟩
  have hw2 := hw
  simp only [n_nests, List.mem_cons, List.not_mem_nil, or_false] at hw2
  rcases hw2 with rfl | rfl | rfl | rfl | rfl | rfl | rfl <;> exact va_Nw.same rfl hv (h10 _ hw)
theorem s_P_blind {φ : Nat → Nat} {D : va_G} {cI cS cA : ClassId} {L : Nat} {xs : Nat → Int32} {as : List MVal} {μ : MMem} : FrameBlind (s_P φ D cI cS cA L xs as μ) := by
  intro a U g mk h
  exact ⟨h.1, h.2.1, h.2.2.same rfl⟩
theorem n_good {ws : List Cond} (h : ∀ w ∈ ws, w ∈ n_tg) : GoodIn n_tg ws := fun w hw => ⟨h w hw, good_of_word (List.mem_filter.mp (h w hw)).2⟩
theorem m_tk_spec : ∀ (n : Nat) (st acc as rest : List MVal), m_tk n st acc = some (as, rest) → ∃ pre, st = pre ++ rest ∧ as = pre.reverse ++ acc ∧ pre.length = n
  | 0, st, acc, as, rest, h => by
    simp only [m_tk, Option.some.injEq, Prod.mk.injEq] at h
    exact ⟨[], by simp [h.2], by simp [h.1], rfl⟩
  | n + 1, [], acc, as, rest, h => by cases h
  | n + 1, a :: st, acc, as, rest, h => by
    obtain ⟨pre, h1, h2, h3⟩ := m_tk_spec n st (a :: acc) as rest h
    exact ⟨a :: pre, by rw [h1]; rfl, by rw [h2]; simp, by simp [h3]⟩
theorem m_tk_st {n : Nat} {st as rest : List MVal} (h : m_tk n st [] = some (as, rest)) : st = as.reverse ++ rest ∧ as.length = n := by
  obtain ⟨pre, h1, h2, h3⟩ := m_tk_spec n st [] as rest h
  rw [List.append_nil] at h2
  subst h2
  exact ⟨by rw [List.reverse_reverse]; exact h1, by rw [List.length_reverse]; exact h3⟩
theorem n_objC : ∀ i, i < 71 → 6 ≤ n_kd i → (n_cl[n_ci i]?).map (fun q => q.1) = some (n_C (n_kd i)) := by
  intro i hi h6
  have h := n_objs i hi (by omega)
  simp only [List.mem_cons, List.not_mem_nil, or_false] at h
  rcases h with rfl | rfl | rfl | rfl | rfl | rfl | rfl | rfl | rfl | rfl | rfl | rfl | rfl | rfl
  · rfl
  · rfl
  · rfl
  · rfl
  · rfl
  · rfl
  · exact absurd h6 (by decide)
  · exact absurd h6 (by decide)
  · rfl
  · rfl
  · rfl
  · rfl
  · rfl
  · rfl
theorem n_cal_d {k z : Nat} {n : Int} (h : n_cal k z n = true) : Cond.code (n_y z) (n_c z) (m_mx z) (n_r z) ∈ n_tg ∧ Cond.initialized (n_y z).cls ∈ n_tg ∧ ((parseMethodDescriptor (n_y z).desc).map (fun d => d.parameters.length) = some n.toNat ∧ 0 ≤ n) ∧ n_fr z + 1 ≤ n_fr k ∧ 8 + (m_mx z + 11) + n_lo z ≤ n_lo k ∧ plainName (n_y z).cls = true ∧ (n_y z).cls ≠ "java/lang/invoke/MethodHandle" ∧ (n_y z).cls ≠ "java/lang/invoke/VarHandle" := by
  unfold n_cal n_np at h
  simp only [Bool.and_eq_true, decide_eq_true_eq] at h
  obtain ⟨⟨⟨⟨⟨⟨⟨h1, h2⟩, h3⟩, h4⟩, h5⟩, h6⟩, h7⟩, h8⟩ := h
  exact ⟨n_in h1, n_in h2, h3, h4, h5, h6, h7, h8⟩
section SD
variable {p : Program} {l : Launch} {e : Env} {R : Room} {s : State} {m : MethodId} {args : Array Value} {below : List Frame} {meth : Method} {c : Code} {H : Heap} {locs : List Loc} {cells slots : Nat} {Q : State → Prop}
variable {φ : Nat → Nat} {D : va_G} {cI cS cA : ClassId} {L : Nat} {xs : Nat → Int32} {A : Nat → Prop}
variable {k pc n op : Nat} {z : Int} {ex : List Nat} {ls st : List MVal} {μ μ1 : MMem} {lsA : Array Slot} {o : MOut} {r : MVal} {as rest : List MVal}
/-- behind a call -/
theorem s_call {st0 : List Value} {a : Array Value} {rs : List Value} (hr : va_Run p l e R s m args below meth c H locs cells slots 0 0 (F0 m pc lsA st0) rs (s_Q φ D cI cS cA L xs r μ1 a) (s_A φ)) (hS : va_S A s.heap H locs) (hA : ∀ i, i < 71 → A (φ i))
    (kk : ∀ (H1 : Heap) (locs1 : List Loc), va_P D n_cl (s_ws φ cI cS cA μ1) H1 → s_mo L xs μ1 → s_ok r → va_S A s.heap H1 locs1 → W p l e R s m args below meth c H1 locs1 cells slots Q (F0 m (pc + 3) lsA ((s_rv φ r).toList ++ rs))) :
    W p l e R s m args below meth c H locs cells slots Q (F0 m pc lsA st0) := by
  intro T hT X
  obtain ⟨v, st₀, t, T', L', h0, X', hL, e1, e2, ⟨hv, hp, hm, hok, hz, hk⟩, stp⟩ := hr T hT X
  have hv2 : v = s_rv φ r := Outcome.returned.inj hv
  subst hv2
  rw [h0] at hz hk
  have hAA : ∀ q, s_A φ q → A q := fun q hq => by
    obtain ⟨i, hi, rfl⟩ := hq
    exact hA i hi
  obtain ⟨t2, a1, b1⟩ := kk T'.heap (locs ++ L') (by rw [e1]; exact hp) hm hok
    ⟨Nat.le_trans hS.1 (by rw [e1]; exact hz), fun q h1 h2 => by rw [e1, hk q (Nat.lt_of_lt_of_le h1 hS.1) (fun w => h2 (hAA q w))]; exact hS.2.1 q h1 h2, fun q hq => by
      rcases List.mem_append.mp hq with h | h
      · exact hS.2.2 q h
      · exact hAA _ (hL q h)⟩ T' rfl X'
  exact ⟨t2, stp t2 a1, b1⟩
/-- what a callee's start asks -/
theorem s_pre (hK : s_K φ D cI cS cA L xs A s s.heap) (hA : ∀ i, i < 71 → A (φ i)) (hP : va_P D n_cl (s_ws φ cI cS cA μ) H) (hS : va_S A s.heap H locs) (U : State) (hU : U.heap = H) (hW : s.WarmedH U.vm) : s_P φ D cI cS cA L xs as μ (as.map (s_v φ)).toArray U := by
  refine ⟨rfl, by rw [hU]; exact hP, ?_⟩
  have h1 : s_K φ D cI cS cA L xs A U U.heap := hK.go hW (fun a h1 h2 => by rw [hU]; exact hS.2.1 a h1 h2)
  exact h1.narrow (fun q hq => by
    obtain ⟨i, hi, rfl⟩ := hq
    exact hA i hi)
theorem s_recv {t : Nat} {id : Int} (hK : va_K D n_cl (n_tys cI cS cA) s) (hP : va_P D n_cl (s_ws φ cI cS cA μ) H) (hv : s_ok (t, id)) (ht : 6 ≤ t ∧ t ≤ 10) (h0 : 0 ≤ id) : ∃ cellB : Cell, H[φ id.toNat]? = some cellB ∧ cellB.vm.isStatics = false ∧ s.vm.findClass (n_C t) = some cellB.cls := by
  obtain ⟨hi, hkd, hid⟩ := s_okr hv ⟨by omega, ht.2⟩ h0
  have hc := n_objC id.toNat hi (by omega)
  cases hq : n_cl[n_ci id.toNat]? with
  | none => rw [hq] at hc; cases hc
  | some q =>
    rw [hq] at hc
    have hq1 : q.1 = n_C t := by rw [← hkd]; exact Option.some.inj hc
    rw [← hq1]
    exact va_recv hK hP (q0 := id.toNat) (ci := n_ci id.toNat) hq (by rw [s_ws_at hi, s_ce5 (by omega)])
theorem s_recvT {id : Int} (hK : va_K D n_cl (n_tys cI cS cA) s) (hP : va_P D n_cl (s_ws φ cI cS cA μ) H) (h : id = 6 ∨ id = 7) : ∃ cellB : Cell, H[φ id.toNat]? = some cellB ∧ cellB.vm.isStatics = false ∧ s.vm.findClass (if id = 6 then "BrideDoors$HouseText" else "BrideDoors$BrideText") = some cellB.cls := by
  rcases h with rfl | rfl
  · exact va_recv hK hP (q0 := 6) (ci := 1) (q := (RX1, TX1, 4)) rfl (by rw [s_ws_at (by decide), s_ce5 (by decide)]; rfl)
  · exact va_recv hK hP (q0 := 7) (ci := 0) (q := (RX0, TX0, 4)) rfl (by rw [s_ws_at (by decide), s_ce5 (by decide)]; rfl)
end SD
end
section
section SD2
variable {p : Program} {l : Launch} {e : Env} {R : Room} {s : State} {m : MethodId} {args : Array Value} {below : List Frame} {meth : Method} {c : Code} {H : Heap} {locs : List Loc} {cells slots : Nat} {Q : State → Prop}
variable {φ : Nat → Nat} {D : va_G} {cI cS cA : ClassId} {L : Nat} {xs : Nat → Int32} {A : Nat → Prop}
variable {k pc n op z : Nat} {nn : Int} {ls st : List MVal} {μ μ1 : MMem} {lsA : Array Slot} {r : MVal} {as rest : List MVal}
/-- what a method's walk may use -/
def s_C (φ : Nat → Nat) (D : va_G) (cI cS cA : ClassId) (L : Nat) (xs : Nat → Int32) (p : Program) (R : Room) (s : State) (m : MethodId) (args : Array Value) (meth : Method) (c : Code) (k : Nat) (A : Nat → Prop) (cells slots : Nat) : Prop :=
  p.tables.exec = Jvm.exec ∧ c.code = n_c k ∧ c.maxLocals = m_mx k ∧ s.vm.findClass (n_own k) = some m.cls ∧ (∀ w ∈ n_tg, w.before args s = true) ∧ meth.sig.returnType = n_r k ∧ meth.locks = false ∧ n_fr k ≤ R.frames ∧ n_lo k ≤ R.locals ∧ cells ≤ R.cells ∧ slots ≤ R.slots ∧ s_K φ D cI cS cA L xs A s s.heap
def s_Met (l : Launch) (φ : Nat → Nat) (D : va_G) (cI cS cA : ClassId) (L : Nat) (xs : Nat → Int32) (z : Nat) (as : List MVal) (μ : MMem) (r : MVal) (μ1 : MMem) : Prop :=
  Met l (n_y z) (n_ws z) (n_rm z) (s_P φ D cI cS cA L xs as μ) (s_Q φ D cI cS cA L xs r μ1) 0 0 (s_A φ)
theorem s_stk (φ : Nat → Nat) (as rest : List MVal) : (as.reverse ++ rest).map (s_v φ) = (as.map (s_v φ)).reverse ++ rest.map (s_v φ) := by
  rw [List.map_append, List.map_reverse]
theorem s_w8 (φ : Nat → Nat) {rest : List MVal} (h : m_ws rest ≤ 8) {pc : Nat} {lsA : Array Slot} {st0 : List Value} : 2 * (F0 m pc lsA st0).monitorRoom + ((rest.map (s_v φ)).map fun v => v.category).sum ≤ 8 := by
  rw [s_sum]
  show 2 * 0 + _ ≤ 8
  omega
theorem s_runS {idx pl nest : Nat} (C0 : s_C φ D cI cS cA L xs p R s m args meth c k A cells slots) (hA : ∀ i, i < 71 → A (φ i)) (hP : va_P D n_cl (s_ws φ cI cS cA μ) H) (hS : va_S A s.heap H locs) (hsz : lsA.size = m_mx k) (hM : s_Met l φ D cI cS cA L xs z as μ r μ1) (hcal : n_cal k z nn = true) (hlen : as.length = nn.toNat)
    (hst : n_at (n_pst.getD z 0) (.static (n_y z)) = true) (hl : (if nest = 0 then n_at pl (.methodLink (n_own k) idx (n_y z)) else n_nest k idx z) = true) (hw : m_ws rest ≤ 8) (hd : decode (n_c k) pc = .ok (.invokestatic idx, 3)) :
    va_Run p l e R s m args below meth c H locs cells slots 0 0 (F0 m pc lsA ((as.reverse ++ rest).map (s_v φ))) (rest.map (s_v φ)) (s_Q φ D cI cS cA L xs r μ1 (as.map (s_v φ)).toArray) (s_A φ) := by
  obtain ⟨hx, hb, hml, hown, hts, hr, hlk, hfr, hlo, hcl, hsl, hK⟩ := C0
  obtain ⟨c1, c2, c3, c4, c5, c6, c7, c8⟩ := n_cal_d hcal
  have hws : ∀ w ∈ n_ws z, w ∈ n_tg := fun w hw => (List.mem_cons.mp hw).elim (fun q => q ▸ c1) (fun q => q)
  have hR : (n_rm z).frames + 1 ≤ R.frames ∧ 8 + (m_mx z + 11) + (n_rm z).locals ≤ R.locals := ⟨Nat.le_trans c4 hfr, Nat.le_trans c5 hlo⟩
  have hpre : PreS s H (s_P φ D cI cS cA L xs as μ) (as.map (s_v φ)) := ⟨s_P_blind, fun U hU hW => s_pre hK hA hP hS U hU hW⟩
  have hn : (as.map (s_v φ)).length = nn.toNat := by rw [List.length_map]; exact hlen
  rw [s_stk]
  by_cases h0 : nest = 0
  · rw [if_pos h0] at hl
    have hG : GoodIn n_tg (va_wsS (n_own k) idx (n_y z) (n_ws z)) := n_good (fun w hw => by
      unfold va_wsS at hw
      simp only [List.cons_append, List.nil_append, List.mem_cons] at hw
      rcases hw with rfl | rfl | rfl | hw
      · exact n_in hl
      · exact n_in hst
      · exact c2
      · exact hws w hw)
    exact va_runS (nL := m_mx k) (Ts := n_tg) (own := n_own k) ⟨hx, hb, hml, hown, hts⟩ hM (va_cwS nn.toNat hts hG rfl rfl rfl ⟨c7, c8, c3.1⟩ hR) hpre rfl hn hsz rfl (s_w8 φ hw) hd ⟨hcl, hsl⟩
  · rw [if_neg h0] at hl
    have hnest : va_Nw (.methodLinkNest (n_own k) idx (n_y z) "BrideDoors") s := by
      unfold n_nest at hl
      have h1 := of_decide_eq_true hl
      simp only [List.mem_cons, List.not_mem_nil, or_false] at h1
      refine hK.2.2.2.2.2.2.2.2.2.1 _ ?_
      rcases h1 with h1 | h1 | h1 | h1 | h1 | h1 | h1 <;>
        (simp only [Prod.mk.injEq] at h1
         rw [h1.1, h1.2.1, h1.2.2]
         simp [n_nests])
    exact va_runSN (nL := m_mx k) (Ts := n_tg) (own := n_own k) ⟨hx, hb, hml, hown, hts⟩ hM ⟨va_cnB nn.toNat hts (n_good hws) rfl rfl rfl hnest (hts _ c2) ⟨c7, c8, c3.1⟩ hR, hts _ (n_in hst), trivial⟩ hpre rfl hn hsz rfl (s_w8 φ hw) hd ⟨hcl, hsl⟩
theorem s_runV {idx pl t : Nat} {id : Int} (C0 : s_C φ D cI cS cA L xs p R s m args meth c k A cells slots) (hA : ∀ i, i < 71 → A (φ i)) (hP : va_P D n_cl (s_ws φ cI cS cA μ) H) (hS : va_S A s.heap H locs) (hsz : lsA.size = m_mx k) (hM : s_Met l φ D cI cS cA L xs z ((t, id) :: as) μ r μ1) (hcal : n_cal k z nn = true) (hlen : as.length = nn.toNat)
    (hin : n_at (n_pin.getD z 0) (.instanceMethod (n_y z)) = true) (hse : n_at (n_pse.getD z 0) (.selects (n_y z).cls (n_y z) (n_y z)) = true) (hl : n_at pl (.methodLink (n_own k) idx (n_y z)) = true)
    (hrc : ∃ cellB : Cell, H[φ id.toNat]? = some cellB ∧ cellB.vm.isStatics = false ∧ s.vm.findClass (n_y z).cls = some cellB.cls) (ht : 2 ≤ t) (h0 : 0 ≤ id) (hw : m_ws rest ≤ 8) (hd : decode (n_c k) pc = .ok (.invokevirtual idx, 3)) :
    va_Run p l e R s m args below meth c H locs cells slots 0 0 (F0 m pc lsA ((as.reverse ++ (t, id) :: rest).map (s_v φ))) (rest.map (s_v φ)) (s_Q φ D cI cS cA L xs r μ1 (((t, id) :: as).map (s_v φ)).toArray) (s_A φ) := by
  obtain ⟨hx, hb, hml, hown, hts, hr, hlk, hfr, hlo, hcl, hsl, hK⟩ := C0
  obtain ⟨c1, c2, c3, c4, c5, c6, c7, c8⟩ := n_cal_d hcal
  have hws : ∀ w ∈ n_ws z, w ∈ n_tg := fun w hw => (List.mem_cons.mp hw).elim (fun q => q ▸ c1) (fun q => q)
  have hR : (n_rm z).frames + 1 ≤ R.frames ∧ 8 + (m_mx z + 11) + (n_rm z).locals ≤ R.locals := ⟨Nat.le_trans c4 hfr, Nat.le_trans c5 hlo⟩
  have hn : (as.map (s_v φ)).length = nn.toNat := by rw [List.length_map]; exact hlen
  have hv := s_vr φ (t := t) (x := id) ht h0
  have hpre : PreV s H (n_y z).cls (φ id.toNat) (s_P φ D cI cS cA L xs ((t, id) :: as) μ) (as.map (s_v φ)) := ⟨s_P_blind, hrc, fun U hU hW => by
    have := s_pre (as := (t, id) :: as) hK hA hP hS U hU hW
    rw [List.map_cons, hv] at this
    exact this⟩
  rw [s_stk, List.map_cons, List.map_cons, hv]
  have hG : GoodIn n_tg (wsV (n_own k) idx (n_y z).cls (n_y z) (n_ws z)) := n_good (fun w hw => by
    unfold wsV at hw
    simp only [List.cons_append, List.nil_append, List.mem_cons] at hw
    rcases hw with rfl | rfl | rfl | rfl | hw
    · exact n_in hl
    · exact n_in hin
    · exact n_in hse
    · exact c2
    · exact hws w hw)
  exact va_runV (nL := m_mx k) (Ts := n_tg) (own := n_own k) ⟨hx, hb, hml, hown, hts⟩ hM (cwV nn.toNat hts hG rfl rfl rfl ⟨rfl, c7, c8, c3.1⟩ hR) hpre rfl hn hsz rfl (s_w8 φ hw) hd ⟨hcl, hsl⟩
/-- inherited methods of the two texts -/
theorem s_runU {idx pl : Nat} {id : Int} {x : MethodName} (C0 : s_C φ D cI cS cA L xs p R s m args meth c k A cells slots) (hA : ∀ i, i < 71 → A (φ i)) (hP : va_P D n_cl (s_ws φ cI cS cA μ) H) (hS : va_S A s.heap H locs) (hsz : lsA.size = m_mx k) (hM : s_Met l φ D cI cS cA L xs z ((5, id) :: as) μ r μ1) (hcal : n_cal k z nn = true) (hlen : as.length = nn.toNat)
    (hin : Cond.instanceMethod (n_y z) ∈ n_tg) (hse : Cond.selects (if id = 6 then "BrideDoors$HouseText" else "BrideDoors$BrideText") x (n_y z) ∈ n_tg) (hl : n_at pl (.methodLink (n_own k) idx x) = true) (hsm : Cond.sameMethod x.cls "BrideDoors$Text" x.name x.desc ∈ n_tg)
    (hdc : va_Decl s ⟨"BrideDoors$Text", x.name, x.desc⟩) (hds : x.desc = (n_y z).desc) (hid : id = 6 ∨ id = 7) (hw : m_ws rest ≤ 8) (hd : decode (n_c k) pc = .ok (.invokevirtual idx, 3)) :
    va_Run p l e R s m args below meth c H locs cells slots 0 0 (F0 m pc lsA ((as.reverse ++ (5, id) :: rest).map (s_v φ))) (rest.map (s_v φ)) (s_Q φ D cI cS cA L xs r μ1 (((5, id) :: as).map (s_v φ)).toArray) (s_A φ) := by
  obtain ⟨hx, hb, hml, hown, hts, hr, hlk, hfr, hlo, hcl, hsl, hK⟩ := C0
  obtain ⟨c1, c2, c3, c4, c5, c6, c7, c8⟩ := n_cal_d hcal
  have hws : ∀ w ∈ n_ws z, w ∈ n_tg := fun w hw => (List.mem_cons.mp hw).elim (fun q => q ▸ c1) (fun q => q)
  have hR : (n_rm z).frames + 1 ≤ R.frames ∧ 8 + (m_mx z + 11) + (n_rm z).locals ≤ R.locals := ⟨Nat.le_trans c4 hfr, Nat.le_trans c5 hlo⟩
  have hn : (as.map (s_v φ)).length = nn.toNat := by rw [List.length_map]; exact hlen
  have h0 : 0 ≤ id := by omega
  have hv := s_vr φ (t := 5) (x := id) (by decide) h0
  have hpre : PreV s H (if id = 6 then "BrideDoors$HouseText" else "BrideDoors$BrideText") (φ id.toNat) (s_P φ D cI cS cA L xs ((5, id) :: as) μ) (as.map (s_v φ)) := ⟨s_P_blind, s_recvT hK.1 hP hid, fun U hU hW => by
    have := s_pre (as := (5, id) :: as) hK hA hP hS U hU hW
    rw [List.map_cons, hv] at this
    exact this⟩
  rw [s_stk, List.map_cons, List.map_cons, hv]
  have cw : va_CU R s args (n_own k) (if id = 6 then "BrideDoors$HouseText" else "BrideDoors$BrideText") "BrideDoors$Text" idx x (n_y z) (n_c z) (m_mx z) (n_r z) (n_ws z) (n_rm z) 0 0 nn.toNat := by
    refine ⟨⟨rfl, rfl, hR.1, hR.2, pay_in hts (n_good hws), List.mem_cons_self⟩, hts _ c1, hts _ c2, ⟨by decide, by decide⟩, fun sig h => ?_, hts _ (n_in hl), hts _ hsm, hdc, hts _ hse, hts _ hin⟩
    have h2 := c3.1
    rw [← hds, h] at h2
    exact (Option.some.inj h2).symm
  exact va_runU (nL := m_mx k) (Ts := n_tg) (own := n_own k) ⟨hx, hb, hml, hown, hts⟩ hM cw hpre rfl hn hsz rfl (s_w8 φ hw) hd ⟨hcl, hsl⟩
end SD2
end
section
section SE
variable {l : Launch} {φ : Nat → Nat} {D : va_G} {cI cS cA : ClassId} {L : Nat} {xs : Nat → Int32}
def k_ret (k : Nat) (r : MVal) (pc : Nat) : Prop :=
  (r.1 = 0 ∧ decode (n_c k) pc = .ok (.ireturn, 1) ∧ (n_r k = some .int ∨ ((n_r k = some .boolean ∨ n_r k = some .byte) ∧ (r.2 = 0 ∨ r.2 = 1)))) ∨ (r.1 = 1 ∧ decode (n_c k) pc = .ok (.lreturn, 1) ∧ n_r k = some .long) ∨ (2 ≤ r.1 ∧ r.1 ≤ 13 ∧ decode (n_c k) pc = .ok (.areturn, 1) ∧ ∃ C, n_r k = some (.object C)) ∨ (r.1 = 14 ∧ decode (n_c k) pc = .ok (.return_, 1) ∧ n_r k = none)
def s_E (l : Launch) (φ : Nat → Nat) (D : va_G) (cI cS cA : ClassId) (L : Nat) (xs : Nat → Int32) (p : Program) (e : Env) (R : Room) (s : State) (m : MethodId) (args : Array Value) (below : List Frame) (meth : Method) (c : Code) (A : Nat → Prop) (cells slots : Nat) (Q : State → Prop) (k : Nat) (r : MVal) (μ' : MMem) : Prop :=
  ∀ (H' : Heap) (locs' : List Loc) (pc' : Nat) (lsB : Array Slot), va_P D n_cl (s_ws φ cI cS cA μ') H' → s_mo L xs μ' → va_S A s.heap H' locs' → s_ok r → k_ret k r pc' → W p l e R s m args below meth c H' locs' cells slots Q (F0 m pc' lsB (s_rv φ r).toList)
def s_G (l : Launch) (φ : Nat → Nat) (D : va_G) (cI cS cA : ClassId) (L : Nat) (xs : Nat → Int32) (f : Nat) : Prop :=
  ∀ (k : Nat) (is : List MIns) (ls st : List MVal) (μ : MMem) (r : MVal) (μ' : MMem), m_ex f k is ls st μ = some (r, μ') → ∀ (p : Program) (e : Env) (R : Room) (s : State) (m : MethodId) (args : Array Value) (below : List Frame) (meth : Method) (c : Code) (A : Nat → Prop) (cells slots : Nat) (Q : State → Prop) (pc : Nat) (H : Heap) (locs : List Loc) (lsA : Array Slot),
    s_C φ D cI cS cA L xs p R s m args meth c k A cells slots → (∀ i, i < 71 → A (φ i)) → k_fit k pc is = true → va_P D n_cl (s_ws φ cI cS cA μ) H → s_mo L xs μ → va_S A s.heap H locs → s_L φ lsA (m_mx k) ls → (∀ v ∈ st, s_ok v) → s_E l φ D cI cS cA L xs p e R s m args below meth c A cells slots Q k r μ' → W p l e R s m args below meth c H locs cells slots Q (F0 m pc lsA (st.map (s_v φ)))
theorem s_slots (φ : Nat → Nat) (as : List MVal) : (lg_sl (as.map (s_v φ))).length = m_ws as := by
  unfold lg_sl
  induction as with
  | nil => rfl
  | cons a r ih =>
    rw [List.map_cons, List.flatMap_cons, List.length_append, ih, s_cat]
    show _ = (if a.1 = 1 then 2 else 1) + m_ws r
    by_cases h : a.1 = 1 <;> simp [h]
theorem s_ent (φ : Nat → Nat) : ∀ (as : List MVal) (n j i : Nat), (m_l (m_en n as) i).1 ≠ 14 → (∃ a ∈ as, m_l (m_en n as) i = a) ∧ (j + i, s_v φ (m_l (m_en n as) i)) ∈ lv_args j (as.map (s_v φ))
  | [], n, j, i, h => by
    exfalso
    apply h
    unfold m_en
    have : ∀ (n i : Nat), m_l (List.replicate n ((14, 0) : MVal)) i = (14, 0) := by
      intro n
      induction n with
      | zero => intro i; rfl
      | succ n ih => intro i; cases i with
        | zero => rfl
        | succ i => exact ih i
    rw [this]
  | a :: r, n, j, i, h => by
    unfold m_en at h ⊢
    rw [List.map_cons]
    unfold lv_args
    rw [s_cat]
    by_cases h1 : a.1 = 1
    · rw [if_pos h1] at h ⊢
      cases i with
      | zero => exact ⟨⟨a, List.mem_cons_self, rfl⟩, List.mem_cons_self⟩
      | succ i =>
        cases i with
        | zero => exact absurd rfl h
        | succ i =>
          obtain ⟨⟨b, hb1, hb2⟩, h3⟩ := s_ent φ r (n - 2) (j + 2) i h
          refine ⟨⟨b, List.mem_cons_of_mem _ hb1, hb2⟩, List.mem_cons_of_mem _ ?_⟩
          rw [if_pos h1, if_pos rfl]
          rw [show j + (i + 1 + 1) = j + 2 + i by omega]
          exact h3
    · rw [if_neg h1] at h ⊢
      cases i with
      | zero => exact ⟨⟨a, List.mem_cons_self, rfl⟩, List.mem_cons_self⟩
      | succ i =>
        obtain ⟨⟨b, hb1, hb2⟩, h3⟩ := s_ent φ r (n - 1) (j + 1) i h
        refine ⟨⟨b, List.mem_cons_of_mem _ hb1, hb2⟩, List.mem_cons_of_mem _ ?_⟩
        rw [if_neg h1, if_neg (by decide)]
        rw [show j + (i + 1) = j + 1 + i by omega]
        exact h3
/-- a method's contract, out of its run in the small machine -/
theorem s_met (hφ : ∀ i j, i < 71 → j < 71 → φ i = φ j → i = j) (hfit : ∀ k t, m_bl k t ≠ [] → k_fit k (n_lb k t) (m_bl k t) = true) {f z : Nat} {as : List MVal} {μ μ1 : MMem} {r : MVal} (ih : s_G l φ D cI cS cA L xs f) (hr : m_ex f z (m_bl z 0) (m_en (m_mx z) as) [] μ = some (r, μ1)) (hw : m_ws as ≤ m_mx z) (has : ∀ v ∈ as, s_ok v) (hM : s_mo L xs μ) (hpl : plainName (n_y z).cls = true) (hlb : n_lb z 0 = 0) : s_Met l φ D cI cS cA L xs z as μ r μ1 := by
  refine Met.ofW (cc := n_c z) (maxL := m_mx z) (ret := n_r z) hpl rfl ?_
  intro p e s m args below meth c s₁ B hml hv
  obtain ⟨rfl, hP, hK⟩ := hv
  have hts0 := atoms_spec (ws := n_ws z) B.pre
  have hts : ∀ w ∈ n_tg, w.before (as.map (s_v φ)).toArray s = true := fun w hw => hts0 w (List.mem_cons_of_mem _ hw)
  have hown : s.vm.findClass (n_own z) = some m.cls := findClass_of_methodNamed B.named
  have hne : m_bl z 0 ≠ [] := by
    intro q
    rw [q] at hr
    cases f with
    | zero => simp [m_ex] at hr
    | succ f => simp [m_ex] at hr
  have hf := hfit z 0 hne
  rw [hlb] at hf
  have hl := lv_entry (as.map (s_v φ)) (n := m_mx z) (by rw [s_slots]; exact hw)
  rw [lg_entry_eq]
  generalize (lg_sl (as.map (s_v φ)) ++ List.replicate (m_mx z - (lg_sl (as.map (s_v φ))).length) Slot.unset).toArray = lsA at hl ⊢
  have hL : s_L φ lsA (m_mx z) (m_en (m_mx z) as) := by
    refine ⟨hl.1, hl.2.1, fun i hi => ?_⟩
    obtain ⟨⟨a, ha1, ha2⟩, h3⟩ := s_ent φ as (m_mx z) 0 i hi
    refine ⟨by rw [ha2]; exact has a ha1, ?_⟩
    rw [Nat.zero_add] at h3
    exact hl.2.2 _ h3
  have hA1 : ∀ i, i < 71 → s_A φ (φ i) := fun i hi => ⟨i, hi, rfl⟩
  refine ih z (m_bl z 0) (m_en (m_mx z) as) [] μ r μ1 hr p e _ s m _ below meth c (s_A φ) 0 0 _ 0 s.heap [] lsA ⟨B.exec, B.bytes, hml, hown, hts, B.returns, B.notSynchronized, Nat.le_refl _, Nat.le_refl _, Nat.zero_le _, Nat.zero_le _, hK⟩ hA1 hf hP hM va_S.rf hL (fun v hv => by cases hv) ?_
  intro H' locs' pc' lsB hP' hM' hS' hok hret
  have hlocks := B.notSynchronized
  rcases hret with ⟨h0, hd, hty⟩ | ⟨h1, hd, hty⟩ | ⟨h2, h3, hd, C, hty⟩ | ⟨h14, hd, hty⟩
  · have hrv : s_rv φ r = some (.int (Int32.ofInt r.2)) := by
      unfold s_rv s_v; rw [if_neg (by omega), if_pos h0]
    have hpost : ∀ t : State, t.heap = H' → s.WarmedH t.vm → s_Q φ D cI cS cA L xs r μ1 (as.map (s_v φ)).toArray s (.returned (some (.int (Int32.ofInt r.2)))) t := fun t ht _ => ⟨by rw [hrv], by rw [ht]; exact hP', hM', hok, hS'.F ht⟩
    rw [hrv]
    rcases hty with hty | ⟨hty, h01⟩
    · exact W.iret B.exec B.bytes (B.returns.trans hty) hpost hS'.2.2 hd
    · rcases hty with hty | hty
      · exact W.zret (ty := .boolean) B.exec B.bytes (B.returns.trans hty) (by rcases h01 with q | q <;> (rw [q]; decide +kernel)) hpost hS'.2.2 hd
      · exact W.zret (ty := .byte) B.exec B.bytes (B.returns.trans hty) (by rcases h01 with q | q <;> (rw [q]; decide +kernel)) hpost hS'.2.2 hd
  · have hrv : s_rv φ r = some (.long (Int64.ofInt r.2)) := by
      unfold s_rv s_v; rw [if_neg (by omega), if_neg (by omega), if_pos h1]
    rw [hrv]
    exact W.lret B.exec B.bytes (B.returns.trans hty) (fun t ht _ => ⟨by rw [hrv], by rw [ht]; exact hP', hM', hok, hS'.F ht⟩) hS'.2.2 hd
  · have hrv : s_rv φ r = some (s_v φ r) := by unfold s_rv; rw [if_neg (by omega)]
    rw [hrv]
    refine W.aret (rt := .object C) B.exec B.bytes (B.returns.trans hty) (Or.inl ⟨C, rfl⟩) ?_ (fun t ht _ => ⟨by rw [hrv], by rw [ht]; exact hP', hM', hok, hS'.F ht⟩) hS'.2.2 hd
    by_cases hneg : r.2 < 0
    · exact Or.inl (s_vn φ (t := r.1) (x := r.2) h2 hneg)
    · exact Or.inr ⟨_, s_vr φ (t := r.1) (x := r.2) h2 (by omega)⟩
  · have hrv : s_rv φ r = none := by unfold s_rv; rw [if_pos h14]
    rw [hrv]
    exact W.vret B.exec B.bytes (B.returns.trans hty) (fun t ht _ => ⟨by rw [hrv], by rw [ht]; exact hP', hM', hok, hS'.F ht⟩) hS'.2.2 hd
end SE
end
section
theorem n_txtz : ∀ z, z < 198 → (n_y z).cls = "BrideDoors$Text" → z ∈ [21, 22, 23, 24] := by decide +kernel
theorem n_ylen : n_ys.length = 198 := by decide +kernel
theorem n_y_out {z : Nat} (h : 198 ≤ z) : n_y z = ⟨"", "", ""⟩ := by
  unfold n_y
  rw [List.getD_eq_getElem?_getD, List.getElem?_eq_none (by rw [n_ylen]; exact h)]
  rfl
def n_txtw (z ps ph pb : Nat) : Bool := n_at ps (.sameMethod "BrideDoors$Text" "BrideDoors$Text" (n_y z).name (n_y z).desc) && n_at ph (.selects "BrideDoors$HouseText" (n_y z) (n_y z)) && n_at pb (.selects "BrideDoors$BrideText" (n_y z) (n_y z))
theorem n_txt21 : n_txtw 21 278 280 279 = true := by decide +kernel
theorem n_txt22 : n_txtw 22 284 286 285 = true := by decide +kernel
theorem n_txt23 : n_txtw 23 404 406 405 = true := by decide +kernel
theorem n_txt24 : n_txtw 24 1255 1 0 = true := by decide +kernel
theorem n_txts {z : Nat} (h : (n_y z).cls = "BrideDoors$Text") : Cond.sameMethod "BrideDoors$Text" "BrideDoors$Text" (n_y z).name (n_y z).desc ∈ n_tg ∧ Cond.selects "BrideDoors$HouseText" (n_y z) (n_y z) ∈ n_tg ∧ Cond.selects "BrideDoors$BrideText" (n_y z) (n_y z) ∈ n_tg := by
  have hz : z < 198 := by
    by_cases q : z < 198
    · exact q
    · rw [n_y_out (by omega)] at h
      exact absurd h (by decide)
  have fin : ∀ ps ph pb, n_txtw z ps ph pb = true → _ := fun ps ph pb (q : n_txtw z ps ph pb = true) => by
    unfold n_txtw at q
    simp only [Bool.and_eq_true] at q
    exact (⟨n_in q.1.1, n_in q.1.2, n_in q.2⟩ : Cond.sameMethod "BrideDoors$Text" "BrideDoors$Text" (n_y z).name (n_y z).desc ∈ n_tg ∧ Cond.selects "BrideDoors$HouseText" (n_y z) (n_y z) ∈ n_tg ∧ Cond.selects "BrideDoors$BrideText" (n_y z) (n_y z) ∈ n_tg)
  have h1 := n_txtz z hz h
  simp only [List.mem_cons, List.not_mem_nil, or_false] at h1
  rcases h1 with rfl | rfl | rfl | rfl
  · exact fin _ _ _ n_txt21
  · exact fin _ _ _ n_txt22
  · exact fin _ _ _ n_txt23
  · exact fin _ _ _ n_txt24
theorem n_wac : n_at 723 (.native arraycopyName) = true ∧ n_at 722 (.static arraycopyName) = true ∧ n_at 86 (.initialized "java/lang/System") = true := by decide +kernel
theorem n_wmax : n_at 339 (.static Lib.Math.max.name) = true ∧ n_at 80 (.initialized "java/lang/Math") = true ∧ n_at 340 (.code Lib.Math.max.name Lib.Math.max.code 2 (some .int)) = true := by decide +kernel
theorem n_wmin : n_at 342 (.static Lib.Math.min.name) = true ∧ n_at 343 (.code Lib.Math.min.name Lib.Math.min.code 2 (some .int)) = true := by decide +kernel
theorem n_wval : n_at 306 (.selects "BrideDoors$HouseText" ⟨"BrideDoors$Text", "valueOf", "(II)I"⟩ ⟨"BrideDoors$HouseText", "valueOf", "(II)I"⟩) = true ∧ n_at 307 (.instanceMethod ⟨"BrideDoors$HouseText", "valueOf", "(II)I"⟩) = true ∧ n_at 298 (.selects "BrideDoors$BrideText" ⟨"BrideDoors$Text", "valueOf", "(II)I"⟩ ⟨"BrideDoors$BrideText", "valueOf", "(II)I"⟩) = true ∧ n_at 299 (.instanceMethod ⟨"BrideDoors$BrideText", "valueOf", "(II)I"⟩) = true ∧ n_at 297 (.sameMethod "BrideDoors$Text" "BrideDoors$Text" "valueOf" "(II)I") = true := by decide +kernel
section SF
variable {p : Program} {l : Launch} {e : Env} {R : Room} {s : State} {m : MethodId} {args : Array Value} {below : List Frame} {meth : Method} {c : Code} {H : Heap} {locs : List Loc} {cells slots : Nat} {Q : State → Prop}
variable {φ : Nat → Nat} {D : va_G} {cI cS cA : ClassId} {L : Nat} {xs : Nat → Int32} {A : Nat → Prop}
variable {k pc n op : Nat} {z : Int} {ls st : List MVal} {μ μ1 : MMem} {lsA : Array Slot} {r : MVal} {as rest : List MVal}
theorem s_ps (φ : Nat → Nat) (r : MVal) (st : List MVal) : (s_rv φ r).toList ++ st.map (s_v φ) = (m_ps r st).map (s_v φ) := by
  unfold s_rv m_ps
  by_cases h : r.1 = 14
  · rw [if_pos h, if_pos h]; rfl
  · rw [if_neg h, if_neg h]; rfl
theorem s_copy {a i b j nn : Int} {idx pl : Nat} (C0 : s_C φ D cI cS cA L xs p R s m args meth c k A cells slots) (hφ : ∀ i j, i < 71 → j < 71 → φ i = φ j → i = j) (hA : ∀ i, i < 71 → A (φ i)) (hP : va_P D n_cl (s_ws φ cI cS cA μ) H) (hM : s_mo L xs μ) (hS : va_S A s.heap H locs) (hsz : lsA.size = m_mx k)
    (hva : s_ok (2, a)) (hvb : s_ok (2, b)) (ri : s_R32 i) (rj : s_R32 j) (rn : s_R32 nn) (ha0 : 0 ≤ a) (hb0 : 0 ≤ b) (hi0 : 0 ≤ i) (hj0 : 0 ≤ j) (hn0 : 0 ≤ nn) (h1 : i + nn ≤ m_al a) (h2 : j + nn ≤ m_al b) (hw : m_ws rest ≤ 8)
    (hl : n_at pl (.methodLink (n_own k) idx ⟨"java/lang/System", "arraycopy", "(Ljava/lang/Object;ILjava/lang/Object;II)V"⟩) = true) (hf1 : 1 ≤ n_fr k) (hl60 : 60 ≤ n_lo k) (hd : decode (n_c k) pc = .ok (.invokestatic idx, 3))
    (kk : ∀ (H' : Heap) (locs' : List Loc), va_P D n_cl (s_ws φ cI cS cA (m_cp μ a i b j nn)) H' → s_mo L xs (m_cp μ a i b j nn) → va_S A s.heap H' locs' → W p l e R s m args below meth c H' locs' cells slots Q (F0 m (pc + 3) lsA (rest.map (s_v φ)))) :
    W p l e R s m args below meth c H locs cells slots Q (F0 m pc lsA (s_v φ (0, nn) :: s_v φ (0, j) :: s_v φ (2, b) :: s_v φ (0, i) :: s_v φ (2, a) :: rest.map (s_v φ))) := by
  obtain ⟨hx, hb, hml, hown, hts, hr, hlk, hfr, hlo, hcl, hsl, hK⟩ := C0
  obtain ⟨ia, ka, ea⟩ := s_okr hva ⟨by omega, by omega⟩ ha0
  obtain ⟨ib, kb, eb⟩ := s_okr hvb ⟨by omega, by omega⟩ hb0
  have ala := n_al a.toNat ia ka
  have alb := n_al b.toNat ib kb
  rw [ea] at ala
  rw [eb] at alb
  have nneg : ∀ {q : Int}, s_R32 q → 0 ≤ q → ¬ Int32.ofInt q < 0 := fun rq hq => by
    rw [s_z0, s_lt rq s_R0]; omega
  rw [s_vr φ (t := 2) (x := b) (by omega) hb0, s_vr φ (t := 2) (x := a) (by omega) ha0, s_v0, s_v0, s_v0]
  have hn8 : b ≠ 8 := by
    intro q
    rw [q] at kb
    exact absurd kb (by decide)
  have hM' : s_mo L xs (m_cp μ a i b j nn) := by
    obtain ⟨m1, m2, m3, m4⟩ := hM
    have hne : ∀ u, u ≠ b → m_cp μ a i b j nn u = μ u := fun u hu => by
      funext v
      unfold m_cp
      rw [if_neg (fun q => hu q.1)]
    refine ⟨fun u v => ?_, ?_, ?_, fun q hq => ?_⟩
    · unfold m_cp
      by_cases q : u = b ∧ j ≤ v ∧ v < j + nn
      · rw [if_pos q]; exact m1 _ _
      · rw [if_neg q]; exact m1 _ _
    · rw [hne 8 (fun q => hn8 q.symm)]; exact m2
    · rw [hne 202 (by omega)]; exact m3
    · rw [hne 202 (by omega)]; exact m4 q hq
  refine va_copyi (t0 := 0) (t1 := 0) (q0 := a.toNat) (q1 := b.toNat) (ty := .int) hx hb (by rw [hml, hsz]) hown (hts _ (n_in hl)) (hts _ (n_in n_wac.1)) (hts _ (n_in n_wac.2.1)) (hts _ (n_in n_wac.2.2)) hK.1 hP (s_ws_D hφ hA) hS (by rw [s_ws_at ia, s_ce2 ka]) (by rw [s_ws_at ib, s_ce2 kb]) rfl rfl rfl (nneg ri hi0) (nneg rj hj0) (nneg rn hn0) (by rw [s_clamp ri, s_clamp rn, ea]; omega) (by rw [s_clamp rj, s_clamp rn, eb]; omega) (fun q _ => rfl) (Nat.le_trans hf1 hfr) ?_ hd (fun H1 locs1 hP1 _ hS1 => kk H1 locs1 ?_ hM' hS1)
  · rw [s_sum]
    have : nativeFrameWords "java/lang/System" "arraycopy" 5 = 7 := by decide +kernel
    rw [this]
    omega
  · have hset := s_ws_set (φ := φ) (cI := cI) (cS := cS) (cA := cA) (μ := μ) (μ' := m_cp μ a i b j nn) (i := b.toNat) (E := .inl (cI, (m_al b.toNat).toNat, .inl (va_cpy (fun q : Nat => Int32.ofInt (μ a.toNat q)) (fun q : Nat => Int32.ofInt (μ b.toNat q)) (Int32.ofInt i).toNatClampNeg (Int32.ofInt j).toNatClampNeg (Int32.ofInt nn).toNatClampNeg))) ib ?_ (fun u _ hu => ?_)
    · rw [hset] at hP1
      exact hP1
    · rw [s_ce2 kb, s_clamp ri, s_clamp rj, s_clamp rn]
      have hfun : (fun q : Nat => Int32.ofInt (m_cp μ a i b j nn b.toNat q)) = va_cpy (fun q : Nat => Int32.ofInt (μ a.toNat q)) (fun q : Nat => Int32.ofInt (μ b.toNat q)) i.toNat j.toNat nn.toNat := by
        funext q
        unfold m_cp
        by_cases hq : j ≤ (q : Int) ∧ (q : Int) < j + nn
        · rw [if_pos ⟨eb, hq⟩, pk_cpy_in (by omega) (by omega)]
          rw [ea, show ((i.toNat + (q - j.toNat) : Nat) : Int) = i + ((q : Int) - j) by omega]
        · rw [if_neg (fun w => hq w.2), pk_cpy_out (by omega)]
      rw [hfun]
    · have hne : m_cp μ a i b j nn (u : Int) = μ (u : Int) := by
        funext v
        unfold m_cp
        rw [if_neg (fun q => hu (by omega))]
      unfold s_ce s_fv
      simp only [hne]
end SF
end
section
section SM
variable {l : Launch} {φ : Nat → Nat} {D : va_G} {cI cS cA : ClassId} {L : Nat} {xs : Nat → Int32}
theorem n_no197 : n_at (n_pcs.getD 197 0) (.code (n_y 197) (n_c 197) (m_mx 197) (n_r 197)) = false := by decide +kernel
theorem k_sd36 {k n : Nat} {z : Int} {ex : List Nat} (h : k_sd k (36, n, z, ex) = true) : ∃ idx pl nest, ex = [idx, pl, nest] ∧ n_cal k n z = true ∧ n_at (n_pst.getD n 0) (.static (n_y n)) = true ∧ (if nest = 0 then n_at pl (.methodLink (n_own k) idx (n_y n)) else n_nest k idx n) = true := by
  match ex, h with
  | [idx, pl, nest], h =>
    have h2 : (n_cal k n z && n_at (n_pst.getD n 0) (.static (n_y n)) && (if nest = 0 then n_at pl (.methodLink (n_own k) idx (n_y n)) else n_nest k idx n)) = true := h
    rw [Bool.and_eq_true, Bool.and_eq_true] at h2
    exact ⟨idx, pl, nest, rfl, h2.1.1, h2.1.2, h2.2⟩
theorem k_sd37 {k n : Nat} {z : Int} {ex : List Nat} (h : k_sd k (37, n, z, ex) = true) : ∃ idx pl t, ex = [idx, pl, t] ∧ n_cal k n z = true ∧ n_at (n_pin.getD n 0) (.instanceMethod (n_y n)) = true ∧ n_at (n_pse.getD n 0) (.selects (n_y n).cls (n_y n) (n_y n)) = true ∧ n_at pl (.methodLink (n_own k) idx (n_y n)) = true ∧ (n_y n).cls = n_C t ∧ 6 ≤ t ∧ t ≤ 10 := by
  match ex, h with
  | [idx, pl, t], h =>
    have h2 : (n_cal k n z && n_at (n_pin.getD n 0) (.instanceMethod (n_y n)) && n_at (n_pse.getD n 0) (.selects (n_y n).cls (n_y n) (n_y n)) && n_at pl (.methodLink (n_own k) idx (n_y n)) && decide ((n_y n).cls = n_C t) && decide (6 ≤ t) && decide (t ≤ 10)) = true := h
    simp only [Bool.and_eq_true, decide_eq_true_eq] at h2
    obtain ⟨⟨⟨⟨⟨⟨a1, a2⟩, a3⟩, a4⟩, a5⟩, a6⟩, a7⟩ := h2
    exact ⟨idx, pl, t, rfl, a1, a2, a3, a4, a5, a6, a7⟩
theorem k_sd38 {k n : Nat} {z : Int} {ex : List Nat} (h : k_sd k (38, n, z, ex) = true) : ∃ idx pl, ex = [idx, pl] ∧ n_cal k n z = true ∧ n_at pl (.methodLink (n_own k) idx (n_y n)) = true ∧ n_at (n_pin.getD n 0) (.instanceMethod (n_y n)) = true ∧ (n_y n).cls = "BrideDoors$Text" := by
  match ex, h with
  | [idx, pl], h =>
    have h2 : (n_cal k n z && n_txt k n idx pl (n_y n) && (n_tb.contains (.sameMethod "BrideDoors$Text" "BrideDoors$Text" (n_y n).name (n_y n).desc)) && (n_tb.contains (.selects "BrideDoors$BrideText" (n_y n) (n_y n))) && (n_tb.contains (.selects "BrideDoors$HouseText" (n_y n) (n_y n))) && decide ((n_y n).cls = "BrideDoors$Text")) = true := h
    simp only [n_txt, Bool.and_eq_true, decide_eq_true_eq] at h2
    obtain ⟨⟨⟨⟨⟨a1, ⟨⟨a2, a3⟩, a4⟩⟩, -⟩, -⟩, -⟩, a5⟩ := h2
    exact ⟨idx, pl, rfl, a1, a2, a3, a5⟩
theorem k_sd39 {k n : Nat} {z : Int} {ex : List Nat} (h : k_sd k (39, n, z, ex) = true) : ∃ idx pl h b, ex = [idx, pl, h, b] ∧ n_cal k h 2 = true ∧ n_cal k b 2 = true ∧ z = 2 ∧ n_at pl (.methodLink (n_own k) idx ⟨"BrideDoors$Text", "valueOf", "(II)I"⟩) = true ∧ n_y h = ⟨"BrideDoors$HouseText", "valueOf", "(II)I"⟩ ∧ n_y b = ⟨"BrideDoors$BrideText", "valueOf", "(II)I"⟩ := by
  match ex, h with
  | [idx, pl, hh, b], h =>
    have h2 : (n_cal k hh 2 && n_cal k b 2 && decide (z = 2) && n_at pl (.methodLink (n_own k) idx ⟨"BrideDoors$Text", "valueOf", "(II)I"⟩) && decide (n_y hh = ⟨"BrideDoors$HouseText", "valueOf", "(II)I"⟩) && decide (n_y b = ⟨"BrideDoors$BrideText", "valueOf", "(II)I"⟩)) = true := h
    simp only [Bool.and_eq_true, decide_eq_true_eq] at h2
    obtain ⟨⟨⟨⟨⟨a1, a2⟩, a3⟩, a4⟩, a5⟩, a6⟩ := h2
    exact ⟨idx, pl, hh, b, rfl, a1, a2, a3, a4, a5, a6⟩
theorem k_sd40 {k n : Nat} {z : Int} {ex : List Nat} (h : k_sd k (40, n, z, ex) = true) : ∃ idx pl, ex = [idx, pl] ∧ n_at pl (.methodLink (n_own k) idx ⟨"java/lang/System", "arraycopy", "(Ljava/lang/Object;ILjava/lang/Object;II)V"⟩) = true ∧ 1 ≤ n_fr k ∧ 60 ≤ n_lo k := by
  match ex, h with
  | [idx, pl], h =>
    have h2 : (n_at pl (.methodLink (n_own k) idx ⟨"java/lang/System", "arraycopy", "(Ljava/lang/Object;ILjava/lang/Object;II)V"⟩) && decide (1 ≤ n_fr k) && decide (60 ≤ n_lo k)) = true := h
    simp only [Bool.and_eq_true, decide_eq_true_eq] at h2
    exact ⟨idx, pl, rfl, h2.1.1, h2.1.2, h2.2⟩
theorem k_sd48 {k n : Nat} {z : Int} {ex : List Nat} (h : k_sd k (48, n, z, ex) = true) : ∃ idx pl, ex = [idx, pl] ∧ n_cal k n z = true ∧ n_at (n_pin.getD n 0) (.instanceMethod (n_y n)) = true ∧ n_at (n_pse.getD n 0) (.selects (n_y n).cls (n_y n) (n_y n)) = true ∧ n_at pl (.methodLink (n_own k) idx (n_y n)) = true ∧ (n_y n).cls = "java/lang/String" := by
  match ex, h with
  | [idx, pl], h =>
    have h2 : (n_cal k n z && n_at (n_pin.getD n 0) (.instanceMethod (n_y n)) && n_at (n_pse.getD n 0) (.selects (n_y n).cls (n_y n) (n_y n)) && n_at pl (.methodLink (n_own k) idx (n_y n)) && decide ((n_y n).cls = "java/lang/String")) = true := h
    simp only [Bool.and_eq_true, decide_eq_true_eq] at h2
    obtain ⟨⟨⟨⟨a1, a2⟩, a3⟩, a4⟩, a5⟩ := h2
    exact ⟨idx, pl, rfl, a1, a2, a3, a4, a5⟩
theorem k_sd50 {k n : Nat} {z : Int} {ex : List Nat} (h : k_sd k (50, n, z, ex) = true) : ∃ idx pl, ex = [idx, pl] ∧ n_at pl (.methodLink (n_own k) idx Lib.Math.max.name) = true ∧ 1 ≤ n_fr k ∧ 21 ≤ n_lo k := by
  match ex, h with
  | [idx, pl], h =>
    have h2 : (n_at pl (.methodLink (n_own k) idx Lib.Math.max.name) && decide (1 ≤ n_fr k) && decide (21 ≤ n_lo k)) = true := h
    simp only [Bool.and_eq_true, decide_eq_true_eq] at h2
    exact ⟨idx, pl, rfl, h2.1.1, h2.1.2, h2.2⟩
theorem k_sd51 {k n : Nat} {z : Int} {ex : List Nat} (h : k_sd k (51, n, z, ex) = true) : ∃ idx pl, ex = [idx, pl] ∧ n_at pl (.methodLink (n_own k) idx Lib.Math.min.name) = true ∧ 1 ≤ n_fr k ∧ 21 ≤ n_lo k := by
  match ex, h with
  | [idx, pl], h =>
    have h2 : (n_at pl (.methodLink (n_own k) idx Lib.Math.min.name) && decide (1 ≤ n_fr k) && decide (21 ≤ n_lo k)) = true := h
    simp only [Bool.and_eq_true, decide_eq_true_eq] at h2
    exact ⟨idx, pl, rfl, h2.1.1, h2.1.2, h2.2⟩
theorem s_ok_ps {r : MVal} {st : List MVal} (h : s_ok r) (hs : ∀ v ∈ st, s_ok v) : ∀ v ∈ m_ps r st, s_ok v := by
  intro v hv
  unfold m_ps at hv
  by_cases q : r.1 = 14
  · rw [if_pos q] at hv; exact hs v hv
  · rw [if_neg q] at hv; exact s_cons h hs v hv
/-- what an outcome means for the run -/
theorem m_ex_nx {f k : Nat} {i : MIns} {is : List MIns} {ls st ls' st' : List MVal} {μ μ' : MMem} {r : MRes} (h : m_ex (f + 1) k (i :: is) ls st μ = some r) (ho : m_op i ls st μ = some (0, 0, [], ls', st', μ')) : m_ex f k is ls' st' μ' = some r := by
  rw [m_ex, ho] at h
  exact h
theorem m_ex_ju {f k t : Nat} {i : MIns} {is : List MIns} {ls st ls' st' : List MVal} {μ μ' : MMem} {r : MRes} (h : m_ex (f + 1) k (i :: is) ls st μ = some r) (ho : m_op i ls st μ = some (1, t, [], ls', st', μ')) : m_ex f k (m_bl k t) ls' st' μ' = some r := by
  rw [m_ex, ho] at h
  exact h
theorem m_ex_ca {f k z : Nat} {i : MIns} {is : List MIns} {as ls st ls' st' : List MVal} {μ μ' : MMem} {r : MRes} (h : m_ex (f + 1) k (i :: is) ls st μ = some r) (ho : m_op i ls st μ = m_ca z as ls' st' μ') : m_ws st' ≤ 8 ∧ m_ws as ≤ m_mx z ∧ ∃ q : MRes, m_ex f z (m_bl z 0) (m_en (m_mx z) as) [] μ' = some q ∧ m_ex f k is ls' (m_ps q.1 st') q.2 = some r := by
  by_cases hw : m_ws st' ≤ 8
  · by_cases ha : m_ws as ≤ m_mx z
    · refine ⟨hw, ha, ?_⟩
      rw [m_ex, ho, m_ca, if_pos hw] at h
      have h2 : (if m_ws as ≤ m_mx z then (match m_ex f z (m_bl z 0) (m_en (m_mx z) as) [] μ' with
          | none => none
          | some r => m_ex f k is ls' (m_ps r.1 st') r.2) else none) = some r := h
      rw [if_pos ha] at h2
      cases hc : m_ex f z (m_bl z 0) (m_en (m_mx z) as) [] μ' with
      | none => rw [hc] at h2; cases h2
      | some q => rw [hc] at h2; exact ⟨q, rfl, h2⟩
    · rw [m_ex, ho, m_ca, if_pos hw] at h
      have h2 : (if m_ws as ≤ m_mx z then (match m_ex f z (m_bl z 0) (m_en (m_mx z) as) [] μ' with
          | none => none
          | some r => m_ex f k is ls' (m_ps r.1 st') r.2) else none) = some r := h
      rw [if_neg ha] at h2
      cases h2
  · rw [m_ex, ho, m_ca, if_neg hw] at h
    cases h
theorem m_ex_re {f k : Nat} {i : MIns} {is : List MIns} {ls st : List MVal} {μ μ' : MMem} {r : MRes} {v : MVal} (h : m_ex (f + 1) k (i :: is) ls st μ = some r) (ho : m_op i ls st μ = m_re v μ') : r = (v, μ') := by
  rw [m_ex, ho] at h
  exact (Option.some.inj h).symm
theorem m_ex_no {f k : Nat} {i : MIns} {is : List MIns} {ls st : List MVal} {μ : MMem} {r : MRes} (h : m_ex (f + 1) k (i :: is) ls st μ = some r) (ho : m_op i ls st μ = none) : False := by
  rw [m_ex, ho] at h
  cases h
theorem m_ex_ne {f k t : Nat} {ls st : List MVal} {μ : MMem} {r : MRes} (h : m_ex f k (m_bl k t) ls st μ = some r) : m_bl k t ≠ [] := by
  intro q
  rw [q] at h
  cases f with
  | zero => simp [m_ex] at h
  | succ f => simp [m_ex] at h
set_option maxHeartbeats 8000000 in
theorem s_main (hφ : ∀ i j, i < 71 → j < 71 → φ i = φ j → i = j) (hfit : ∀ k t, m_bl k t ≠ [] → k_fit k (n_lb k t) (m_bl k t) = true) (hlb : ∀ z, n_lb z 0 = 0 ∨ z = 197) (hLL : L < 2147483648) : ∀ f, s_G l φ D cI cS cA L xs f := by
  intro f
  induction f with
  | zero =>
    intro k is ls st μ r μ' h
    simp [m_ex] at h
  | succ f ih =>
    intro k is ls st μ r μ' h p e R s m args below meth c A cells slots Q pc H locs lsA C0 hA hf hP hM hS hL hs hE
    cases is with
    | nil => simp [m_ex] at h
    | cons i is =>
      obtain ⟨op, n, z, ex⟩ := i
      obtain ⟨hx, hb, hml, hown, hts, hrt, hlk, hfr, hlo, hcl, hsl, hK⟩ := id C0
      have metz : ∀ {zz : Nat} {as : List MVal} {μ0 : MMem} {q : MRes} {nn : Int}, n_cal k zz nn = true → m_ex f zz (m_bl zz 0) (m_en (m_mx zz) as) [] μ0 = some q → m_ws as ≤ m_mx zz → (∀ v ∈ as, s_ok v) → s_mo L xs μ0 → s_Met l φ D cI cS cA L xs zz as μ0 q.1 q.2 := by
        intro zz as μ0 q nn hcal hq hw has hM0
        refine s_met hφ hfit ih (by rw [hq]) hw has hM0 (n_cal_d hcal).2.2.2.2.2.1 ?_
        rcases hlb zz with q0 | q0
        · exact q0
        · exfalso
          subst q0
          unfold n_cal at hcal
          rw [n_no197] at hcal
          simp at hcal
      unfold k_fit at hf
      by_cases h24 : op = 24
      · subst h24
        rw [if_pos rfl] at hf
        have hpc : n_lb k n = pc := by simpa using hf
        have h2 := m_ex_ju h (t := n) (ls' := ls) (st' := st) (μ' := μ) rfl
        rw [← hpc]
        exact ih _ _ _ _ _ _ _ h2 _ _ _ _ _ _ _ _ _ _ _ _ _ _ _ _ _ C0 hA (hfit k n (m_ex_ne h2)) hP hM hS hL hs hE
      rw [if_neg h24] at hf
      by_cases h49 : op = 49
      · subst h49
        exact (m_ex_no h rfl).elim
      rw [if_neg h49] at hf
      rw [Bool.and_eq_true] at hf
      obtain ⟨hc, hf2⟩ := hf
      obtain ⟨hd, hsd⟩ := k_chk_d hc
      have go : k_end op = false → ∀ {pc2 : Nat}, pc2 = pc + (k_enc k pc (op, n, z, ex)).2 → k_fit k pc2 is = true := fun hke pc2 hq => by
        have hke2 : k_end (op, n, z, ex).1 = false := hke
        rw [hke2, Bool.false_or] at hf2
        rw [hq]
        exact hf2
      by_cases hA20 : op < 20
      · have ho : m_op (op, n, z, ex) ls st μ = m_opA op n z ls st μ := if_pos hA20
        cases hoo : m_opA op n z ls st μ with
        | none => exact (m_ex_no h (ho.trans hoo)).elim
        | some o =>
          refine s_opA hx hb hown hts hL hs hA20 hc hoo (fun ls' st' lsB eo hs' hL' => ?_)
          subst eo
          have h2 := m_ex_nx h (ho.trans hoo)
          refine ih _ _ _ _ _ _ _ h2 _ _ _ _ _ _ _ _ _ _ _ _ _ _ _ _ _ C0 hA (go ?_ rfl) hP hM hS hL' hs' hE
          unfold k_end
          simp only [Bool.or_eq_false_iff, beq_eq_false_iff_ne, Bool.and_eq_false_iff, decide_eq_false_iff_not]
          omega
      by_cases hB27 : op < 27
      · have ho : m_op (op, n, z, ex) ls st μ = m_opB op n z ex ls st μ := by
          unfold m_op
          rw [if_neg hA20, if_pos hB27]
        cases hoo : m_opB op n z ex ls st μ with
        | none => exact (m_ex_no h (ho.trans hoo)).elim
        | some o =>
          refine s_opB hx hb hL hs ⟨by omega, hB27, h24⟩ hc hoo (fun ls' st' lsB eo hs' hL' => ?_) (fun t st' eo hs' => ?_)
          · subst eo
            have h2 := m_ex_nx h (ho.trans hoo)
            refine ih _ _ _ _ _ _ _ h2 _ _ _ _ _ _ _ _ _ _ _ _ _ _ _ _ _ C0 hA (go ?_ rfl) hP hM hS hL' hs' hE
            have hno : op ≠ 23 ∧ op ≠ 25 ∧ op ≠ 26 := by
              refine ⟨fun q => ?_, fun q => ?_, fun q => ?_⟩
              · subst q
                simp [m_opB, m_ju] at hoo
              · subst q
                have hoo2 : (match st with | (0, x) :: st => m_ju (m_st z ex n x) ls st μ | _ => none) = some (0, 0, [], ls', st', μ) := hoo
                split at hoo2 <;> cases hoo2
              · subst q
                have hoo2 : (match st with | (0, x) :: st => m_ju (m_sl ex n x) ls st μ | _ => none) = some (0, 0, [], ls', st', μ) := hoo
                split at hoo2 <;> cases hoo2
            unfold k_end
            simp only [Bool.or_eq_false_iff, beq_eq_false_iff_ne, Bool.and_eq_false_iff, decide_eq_false_iff_not]
            omega
          · subst eo
            have h2 := m_ex_ju h (ho.trans hoo)
            exact ih _ _ _ _ _ _ _ h2 _ _ _ _ _ _ _ _ _ _ _ _ _ _ _ _ _ C0 hA (hfit k t (m_ex_ne h2)) hP hM hS hL hs' hE
      by_cases hC : op < 36 ∨ (45 ≤ op ∧ op < 48)
      · have ho : m_op (op, n, z, ex) ls st μ = m_opC op n z ex ls st μ := by
          unfold m_op
          rw [if_neg hA20, if_neg hB27, if_pos hC]
        cases hoo : m_opC op n z ex ls st μ with
        | none => exact (m_ex_no h (ho.trans hoo)).elim
        | some o =>
          refine s_opC hx hb hown hts hK hφ hA hP hM hS hLL hs (by omega) hc hoo (fun st' μ2 H' locs' eo hs' hP' hM' hS' => ?_)
          subst eo
          have h2 := m_ex_nx h (ho.trans hoo)
          refine ih _ _ _ _ _ _ _ h2 _ _ _ _ _ _ _ _ _ _ _ _ _ _ _ _ _ C0 hA (go ?_ rfl) hP' hM' hS' hL hs' hE
          unfold k_end
          simp only [Bool.or_eq_false_iff, beq_eq_false_iff_ne, Bool.and_eq_false_iff, decide_eq_false_iff_not]
          omega
      have ho : m_op (op, n, z, ex) ls st μ = m_opD op n z ex ls st μ := by
        unfold m_op
        rw [if_neg hA20, if_neg hB27, if_neg hC]
      have hgo : ¬ (41 ≤ op ∧ op ≤ 44) → k_fit k (pc + (k_enc k pc (op, n, z, ex)).2) is = true := fun hq => by
        refine go ?_ rfl
        unfold k_end
        simp only [Bool.or_eq_false_iff, beq_eq_false_iff_ne, Bool.and_eq_false_iff, decide_eq_false_iff_not]
        omega
      cases hoo : m_opD op n z ex ls st μ with
      | none => exact (m_ex_no h (ho.trans hoo)).elim
      | some o =>
        have hoo' := hoo
        have after : ∀ {q : MRes} {rest : List MVal} {pc2 : Nat}, pc2 = pc + 3 → (k_enc k pc (op, n, z, ex)).2 = 3 → ¬ (41 ≤ op ∧ op ≤ 44) → m_ex f k is ls (m_ps q.1 rest) q.2 = some (r, μ') → (∀ v ∈ rest, s_ok v) → ∀ (H1 : Heap) (locs1 : List Loc), va_P D n_cl (s_ws φ cI cS cA q.2) H1 → s_mo L xs q.2 → s_ok q.1 → va_S A s.heap H1 locs1 → W p l e R s m args below meth c H1 locs1 cells slots Q (F0 m pc2 lsA ((s_rv φ q.1).toList ++ rest.map (s_v φ))) := by
          intro q rest pc2 hpc2 hlen3 hop hq hsr H1 locs1 hP1 hM1 hok hS1
          rw [s_ps]
          refine ih _ _ _ _ _ _ _ hq _ _ _ _ _ _ _ _ _ _ _ _ _ _ _ _ _ C0 hA ?_ hP1 hM1 hS1 hL (s_ok_ps hok hsr) hE
          have := hgo hop
          rw [hlen3] at this
          rw [hpc2]
          exact this
        unfold m_opD at hoo
        split at hoo
        · split at hoo
          · rename_i as rest htk
            obtain ⟨est, hlen⟩ := m_tk_st htk
            have ho2 : m_op (36, n, z, ex) ls st μ = m_ca n as ls rest μ := ho.trans (by show (match m_tk z.toNat st [] with | some (as, st) => m_ca n as ls st μ | none => none) = _; rw [htk])
            obtain ⟨hw8, hwa, q, hq1, hq2⟩ := m_ex_ca h ho2
            subst est
            have hsa : ∀ v ∈ as, s_ok v := fun v hv => hs v (List.mem_append_left _ (List.mem_reverse.mpr hv))
            have hsr : ∀ v ∈ rest, s_ok v := fun v hv => hs v (List.mem_append_right _ hv)
            obtain ⟨idx, pl, nest, rfl, hcal, hst, hl⟩ := k_sd36 hsd
            exact s_call (s_runS C0 hA hP hS hL.1 (metz hcal hq1 hwa hsa hM) hcal hlen hst hl hw8 hd) hS hA (after rfl rfl (by omega) hq2 hsr)
          · cases hoo
        · split at hoo
          · rename_i nn j b i a rest
            split at hoo
            · rename_i hh
              cases hoo
              obtain ⟨⟨ha0, hb0, hi0, hj0, hn0, h1, h2⟩, hw8⟩ := hh
              have ho2 := ho.trans hoo'
              have h2' := m_ex_nx h ho2
              obtain ⟨idx, pl, rfl, hl, hf1, hl60⟩ := k_sd40 hsd
              have s1 := s_tl hs
              have s2 := s_tl s1
              have s3 := s_tl s2
              have s4 := s_tl s3
              exact s_copy C0 hφ hA hP hM hS hL.1 (s_hd s4) (s_hd s2) ((s_hd s3).1 rfl) ((s_hd s1).1 rfl) ((s_hd hs).1 rfl) ha0 hb0 hi0 hj0 hn0 h1 h2 hw8 hl hf1 hl60 hd (fun H' locs' hP' hM' hS' => ih _ _ _ _ _ _ _ h2' _ _ _ _ _ _ _ _ _ _ _ _ _ _ _ _ _ C0 hA (hgo (by omega)) hP' hM' hS' hL (s_tl s4) hE)
            · cases hoo
          · cases hoo
        · split at hoo
          · rename_i x
            split at hoo
            · rename_i hh
              cases hoo
              have hr2 := m_ex_re (v := (0, x)) (μ' := μ) h (ho.trans hoo')
              cases hr2
              refine hE H locs pc lsA hP hM hS (s_hd hs) (Or.inl ⟨rfl, hd, ?_⟩)
              have h1 : (if n = 0 then decide (n_r k = some .int) else decide (n_r k = some .boolean ∨ n_r k = some .byte)) = true := hsd
              by_cases hn : n = 0
              · rw [if_pos hn] at h1
                exact Or.inl (of_decide_eq_true h1)
              · rw [if_neg hn] at h1
                exact Or.inr ⟨of_decide_eq_true h1, hh.resolve_left hn⟩
            · cases hoo
          · cases hoo
        · split at hoo
          · rename_i x
            cases hoo
            have hr2 := m_ex_re (v := (1, x)) (μ' := μ) h (ho.trans hoo')
            cases hr2
            have h1 : decide (n_r k = some .long) = true := hsd
            exact hE H locs pc lsA hP hM hS (s_hd hs) (Or.inr (Or.inl ⟨rfl, hd, of_decide_eq_true h1⟩))
          · cases hoo
        · split at hoo
          · rename_i t x
            split at hoo
            · rename_i hh
              cases hoo
              have hr2 := m_ex_re (v := (t, x)) (μ' := μ) h (ho.trans hoo')
              cases hr2
              have hrv : (s_rv φ (t, x)).toList = [s_v φ (t, x)] := by
                unfold s_rv
                rw [if_neg (by show ¬ t = 14; omega)]
                rfl
              have h1 : (match n_r k with | some (.object _) => true | _ => false) = true := hsd
              have h2 := hE H locs pc lsA hP hM hS (s_hd hs) (Or.inr (Or.inr (Or.inl ⟨hh.1, hh.2, hd, by
                split at h1
                · rename_i C hC; exact ⟨C, hC⟩
                · cases h1⟩)))
              rw [hrv] at h2
              exact h2
            · cases hoo
          · cases hoo
        · split at hoo
          · cases hoo
            have hr2 := m_ex_re (v := (14, 0)) (μ' := μ) h (ho.trans hoo')
            cases hr2
            have h1 : decide (n_r k = none) = true := hsd
            have hok : s_ok (14, 0) := by simp [s_ok]
            exact hE H locs pc lsA hP hM hS hok (Or.inr (Or.inr (Or.inr ⟨rfl, hd, of_decide_eq_true h1⟩)))
          · cases hoo
        · split at hoo
          · rename_i y x rest
            split at hoo
            · rename_i hh
              cases hoo
              have h2' := m_ex_nx h (ho.trans hoo')
              obtain ⟨idx, pl, rfl, hl, hf1, hl21⟩ := k_sd50 hsd
              have ry := (s_hd hs).1 rfl
              have rx := (s_hd (s_tl hs)).1 rfl
              have ry' : s_R32 y := ry
              have rx' : s_R32 x := rx
              have hnew : s_ok (0, if x < y then y else x) := by
                by_cases q : x < y
                · rw [if_pos q]; exact s_ok0 ry'
                · rw [if_neg q]; exact s_ok0 rx'
              have hk := ih _ _ _ _ _ _ _ h2' _ e _ _ _ _ below _ _ _ _ _ Q _ _ _ _ C0 hA (hgo (by omega)) hP hM hS hL (s_cons hnew (s_tl (s_tl hs))) hE
              refine va_mmax (x := Int32.ofInt x) (y := Int32.ofInt y) hx hb (by rw [hml, hL.1]) hown (hts _ (n_in hl)) (hts _ (n_in n_wmax.1)) (hts _ (n_in n_wmax.2.1)) (hts _ (n_in n_wmax.2.2)) (Nat.le_trans hf1 hfr) (by rw [s_sum]; omega) hcl hsl hd ?_
              have hv : Value.int (if Int32.ofInt x < Int32.ofInt y then Int32.ofInt y else Int32.ofInt x) = s_v φ (0, if x < y then y else x) := by
                rw [s_v0]
                by_cases q : x < y
                · rw [if_pos ((s_lt rx' ry').mpr q), if_pos q]
                · rw [if_neg (fun w => q ((s_lt rx' ry').mp w)), if_neg q]
              rw [hv]
              exact hk
            · cases hoo
          · cases hoo
        · split at hoo
          · rename_i y x rest
            split at hoo
            · rename_i hh
              cases hoo
              have h2' := m_ex_nx h (ho.trans hoo')
              obtain ⟨idx, pl, rfl, hl, hf1, hl21⟩ := k_sd51 hsd
              have ry := (s_hd hs).1 rfl
              have rx := (s_hd (s_tl hs)).1 rfl
              have ry' : s_R32 y := ry
              have rx' : s_R32 x := rx
              have hnew : s_ok (0, if y < x then y else x) := by
                by_cases q : y < x
                · rw [if_pos q]; exact s_ok0 ry'
                · rw [if_neg q]; exact s_ok0 rx'
              have hk := ih _ _ _ _ _ _ _ h2' _ e _ _ _ _ below _ _ _ _ _ Q _ _ _ _ C0 hA (hgo (by omega)) hP hM hS hL (s_cons hnew (s_tl (s_tl hs))) hE
              refine va_mmin (x := Int32.ofInt x) (y := Int32.ofInt y) hx hb (by rw [hml, hL.1]) hown (hts _ (n_in hl)) (hts _ (n_in n_wmin.1)) (hts _ (n_in n_wmax.2.1)) (hts _ (n_in n_wmin.2)) (Nat.le_trans hf1 hfr) (by rw [s_sum]; omega) hcl hsl hd ?_
              have hv : Value.int (if Int32.ofInt y < Int32.ofInt x then Int32.ofInt y else Int32.ofInt x) = s_v φ (0, if y < x then y else x) := by
                rw [s_v0]
                by_cases q : y < x
                · rw [if_pos ((s_lt ry' rx').mpr q), if_pos q]
                · rw [if_neg (fun w => q ((s_lt ry' rx').mp w)), if_neg q]
              rw [hv]
              exact hk
            · cases hoo
          · cases hoo
        · split at hoo
          · rename_i as id rest a1 a2 hh bb htk
            obtain ⟨est, hlen⟩ := m_tk_st htk
            subst est
            have hsa : ∀ v ∈ as, s_ok v := fun v hv => hs v (List.mem_append_left _ (List.mem_reverse.mpr hv))
            have hs1 : ∀ v ∈ (5, id) :: rest, s_ok v := fun v hv => hs v (List.mem_append_right _ hv)
            obtain ⟨idx, pl, hh', bb', hex, hc1, hc2, hz2, hl, hyh, hyb⟩ := k_sd39 hsd
            cases hex
            have hdc : va_Decl s ⟨"BrideDoors$Text", "valueOf", "(II)I"⟩ := va_Decl.abs hK.2.2.2.2.2.2.2.2.2.2
            have hm : m_op (39, n, z, [a1, a2, hh, bb]) ls (as.reverse ++ (5, id) :: rest) μ = (if id = 6 then m_ca hh ((5, id) :: as) ls rest μ else if id = 7 then m_ca bb ((5, id) :: as) ls rest μ else none) := ho.trans (by
              show (match m_tk z.toNat (as.reverse ++ (5, id) :: rest) [], [a1, a2, hh, bb] with | some (as, (5, id) :: st), [_, _, h, b] => if id = 6 then m_ca h ((5, id) :: as) ls st μ else if id = 7 then m_ca b ((5, id) :: as) ls st μ else none | _, _ => none) = _
              rw [htk]
              rfl)
            by_cases h6 : id = 6
            · rw [if_pos h6] at hm
              obtain ⟨hw8, hwa, q, hq1, hq2⟩ := m_ex_ca h hm
              subst h6
              refine s_call (s_runU (x := ⟨"BrideDoors$Text", "valueOf", "(II)I"⟩) (nn := 2) C0 hA hP hS hL.1 (metz hc1 hq1 hwa (s_cons (s_hd hs1) hsa) hM) hc1 (by rw [hlen, hz2]) (by rw [hyh]; exact n_in n_wval.2.1) (by rw [hyh]; exact n_in n_wval.1) hl (n_in n_wval.2.2.2.2) hdc (by rw [hyh]) (Or.inl rfl) hw8 hd) hS hA (after rfl rfl (by omega) hq2 (s_tl hs1))
            · rw [if_neg h6] at hm
              by_cases h7 : id = 7
              · rw [if_pos h7] at hm
                obtain ⟨hw8, hwa, q, hq1, hq2⟩ := m_ex_ca h hm
                subst h7
                refine s_call (s_runU (x := ⟨"BrideDoors$Text", "valueOf", "(II)I"⟩) (nn := 2) C0 hA hP hS hL.1 (metz hc2 hq1 hwa (s_cons (s_hd hs1) hsa) hM) hc2 (by rw [hlen, hz2]) (by rw [hyb]; exact n_in n_wval.2.2.2.1) (by rw [hyb]; exact n_in n_wval.2.2.1) hl (n_in n_wval.2.2.2.2) hdc (by rw [hyb]) (Or.inr rfl) hw8 hd) hS hA (after rfl rfl (by omega) hq2 (s_tl hs1))
              · rw [if_neg h7] at hm
                exact (m_ex_no h hm).elim
          · cases hoo
        · split at hoo
          · rename_i as t id rest a1 a2 tg htk
            obtain ⟨est, hlen⟩ := m_tk_st htk
            subst est
            have hsa : ∀ v ∈ as, s_ok v := fun v hv => hs v (List.mem_append_left _ (List.mem_reverse.mpr hv))
            have hs1 : ∀ v ∈ (t, id) :: rest, s_ok v := fun v hv => hs v (List.mem_append_right _ hv)
            obtain ⟨idx, pl, tt, hex, hcal, hin, hse, hl, hcls, ht6, ht10⟩ := k_sd37 hsd
            cases hex
            have hm : m_op (37, n, z, [a1, a2, tg]) ls (as.reverse ++ (t, id) :: rest) μ = (if t = tg ∧ 0 ≤ id then m_ca n ((t, id) :: as) ls rest μ else none) := ho.trans (by
              show (match m_tk z.toNat (as.reverse ++ (t, id) :: rest) [], [a1, a2, tg] with | some (as, (t, id) :: st), [_, _, tg] => if t = tg ∧ 0 ≤ id then m_ca n ((t, id) :: as) ls st μ else none | _, _ => none) = _
              rw [htk])
            by_cases hh : t = tg ∧ 0 ≤ id
            · rw [if_pos hh] at hm
              obtain ⟨hw8, hwa, q, hq1, hq2⟩ := m_ex_ca h hm
              obtain ⟨rfl, h0⟩ := hh
              refine s_call (s_runV C0 hA hP hS hL.1 (metz hcal hq1 hwa (s_cons (s_hd hs1) hsa) hM) hcal hlen hin hse hl ?_ (by omega) h0 hw8 hd) hS hA (after rfl rfl (by omega) hq2 (s_tl hs1))
              rw [hcls]
              exact s_recv hK.1 hP (s_hd hs1) ⟨ht6, ht10⟩ h0
            · rw [if_neg hh] at hm
              exact (m_ex_no h hm).elim
          · cases hoo
        · split at hoo
          · rename_i as t id rest htk
            obtain ⟨est, hlen⟩ := m_tk_st htk
            subst est
            have hsa : ∀ v ∈ as, s_ok v := fun v hv => hs v (List.mem_append_left _ (List.mem_reverse.mpr hv))
            have hs1 : ∀ v ∈ (t, id) :: rest, s_ok v := fun v hv => hs v (List.mem_append_right _ hv)
            obtain ⟨idx, pl, rfl, hcal, hl, hin, hcls⟩ := k_sd38 hsd
            have hm : m_op (38, n, z, [idx, pl]) ls (as.reverse ++ (t, id) :: rest) μ = (if t = 5 ∧ 0 ≤ id then m_ca n ((t, id) :: as) ls rest μ else none) := ho.trans (by
              show (match m_tk z.toNat (as.reverse ++ (t, id) :: rest) [] with | some (as, (t, id) :: st) => if t = 5 ∧ 0 ≤ id then m_ca n ((t, id) :: as) ls st μ else none | _ => none) = _
              rw [htk])
            by_cases hh : t = 5 ∧ 0 ≤ id
            · rw [if_pos hh] at hm
              obtain ⟨hw8, hwa, q, hq1, hq2⟩ := m_ex_ca h hm
              obtain ⟨rfl, h0⟩ := hh
              have hid : id = 6 ∨ id = 7 := by
                obtain ⟨hi, hkd, hid⟩ := s_okr (s_hd hs1) ⟨by omega, by omega⟩ h0
                have : ∀ i, i < 71 → n_kd i = 5 → i = 6 ∨ i = 7 := by decide +kernel
                have := this id.toNat hi hkd
                omega
              obtain ⟨w1, w2, w3⟩ := n_txts hcls
              have hdc : va_Decl s ⟨"BrideDoors$Text", (n_y n).name, (n_y n).desc⟩ := by
                have hy : (⟨"BrideDoors$Text", (n_y n).name, (n_y n).desc⟩ : MethodName) = n_y n := by rw [← hcls]
                rw [hy]
                exact va_Decl.of (hts _ (n_in hin)) (hts _ (n_cal_d hcal).1)
              refine s_call (s_runU (x := n_y n) C0 hA hP hS hL.1 (metz hcal hq1 hwa (s_cons (s_hd hs1) hsa) hM) hcal hlen (n_in hin) ?_ hl (by rw [hcls]; exact w1) hdc rfl hid hw8 hd) hS hA (after rfl rfl (by omega) hq2 (s_tl hs1))
              rcases hid with rfl | rfl
              · exact w2
              · exact w3
            · rw [if_neg hh] at hm
              exact (m_ex_no h hm).elim
          · cases hoo
        · split at hoo
          · rename_i as t id rest htk
            obtain ⟨est, hlen⟩ := m_tk_st htk
            subst est
            have hsa : ∀ v ∈ as, s_ok v := fun v hv => hs v (List.mem_append_left _ (List.mem_reverse.mpr hv))
            have hs1 : ∀ v ∈ (t, id) :: rest, s_ok v := fun v hv => hs v (List.mem_append_right _ hv)
            obtain ⟨idx, pl, rfl, hcal, hin, hse, hl, hcls⟩ := k_sd48 hsd
            have hm : m_op (48, n, z, [idx, pl]) ls (as.reverse ++ (t, id) :: rest) μ = (if t = 12 ∧ id = 203 then m_ca n ((t, id) :: as) ls rest μ else none) := ho.trans (by
              show (match m_tk z.toNat (as.reverse ++ (t, id) :: rest) [] with | some (as, (t, id) :: st) => if t = 12 ∧ id = 203 then m_ca n ((t, id) :: as) ls st μ else none | _ => none) = _
              rw [htk])
            by_cases hh : t = 12 ∧ id = 203
            · rw [if_pos hh] at hm
              obtain ⟨hw8, hwa, q, hq1, hq2⟩ := m_ex_ca h hm
              obtain ⟨rfl, rfl⟩ := hh
              refine s_call (s_runV C0 hA hP hS hL.1 (metz hcal hq1 hwa (s_cons (s_hd hs1) hsa) hM) hcal hlen hin hse hl ?_ (by omega) (by omega) hw8 hd) hS hA (after rfl rfl (by omega) hq2 (s_tl hs1))
              rw [hcls]
              exact vk_recv hK.2.2.2.2.2.2.2.2.1 (i := 0) (by decide) hS
            · rw [if_neg hh] at hm
              exact (m_ex_no h hm).elim
          · cases hoo
        · cases hoo
end SM
end
