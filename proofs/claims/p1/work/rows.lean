section
-- ===== PART A: goes FIRST, ahead of the names: the tables' words, and 'selects' of the private methods out of them =====
/-- a private method of a class that the tables say can be made, by its rows of tables_1 -/
def lw_okq (q : MethodName × Nat) : Prop := (q.1.cls ≠ "java/lang/invoke/MethodHandle" ∧ q.1.cls ≠ "java/lang/invoke/VarHandle") ∧ Cond.instantiable q.1.cls q.2 ∈ tables_1 ∧ Cond.privateMethod q.1 ∈ tables_1 ∧ Cond.instanceMethod q.1 ∈ tables_1
theorem lw_p0 : lw_okq (⟨"SnippetStops", "refuse", "(I)I"⟩, 9) := ⟨⟨by decide +kernel, by decide +kernel⟩, List.mem_of_getElem? (i := 12) (by decide +kernel), List.mem_of_getElem? (i := 170) (by decide +kernel), List.mem_of_getElem? (i := 171) (by decide +kernel)⟩
theorem lw_p1 : lw_okq (⟨"SnippetStops$Row", "widen", "(I)V"⟩, 3) := ⟨⟨by decide +kernel, by decide +kernel⟩, List.mem_of_getElem? (i := 20) (by decide +kernel), List.mem_of_getElem? (i := 182) (by decide +kernel), List.mem_of_getElem? (i := 183) (by decide +kernel)⟩
theorem lw_p2 : lw_okq (⟨"SnippetStops", "lands", "()Z"⟩, 9) := ⟨⟨by decide +kernel, by decide +kernel⟩, List.mem_of_getElem? (i := 12) (by decide +kernel), List.mem_of_getElem? (i := 239) (by decide +kernel), List.mem_of_getElem? (i := 240) (by decide +kernel)⟩
theorem lw_p3 : lw_okq (⟨"SnippetStops$Session", "putItems", "(LSnippetStops$Row;LSnippetStops$Occurrence;IIZ)V"⟩, 8) := ⟨⟨by decide +kernel, by decide +kernel⟩, List.mem_of_getElem? (i := 74) (by decide +kernel), List.mem_of_getElem? (i := 253) (by decide +kernel), List.mem_of_getElem? (i := 254) (by decide +kernel)⟩
theorem lw_p4 : lw_okq (⟨"SnippetStops$Session", "putOccurrence", "(LSnippetStops$Row;LSnippetStops$Occurrence;IIZ)V"⟩, 8) := ⟨⟨by decide +kernel, by decide +kernel⟩, List.mem_of_getElem? (i := 74) (by decide +kernel), List.mem_of_getElem? (i := 268) (by decide +kernel), List.mem_of_getElem? (i := 269) (by decide +kernel)⟩
theorem lw_p5 : lw_okq (⟨"SnippetStops$Session", "putHeldWhile", "(LSnippetStops$Row;IIIZ)V"⟩, 8) := ⟨⟨by decide +kernel, by decide +kernel⟩, List.mem_of_getElem? (i := 74) (by decide +kernel), List.mem_of_getElem? (i := 279) (by decide +kernel), List.mem_of_getElem? (i := 280) (by decide +kernel)⟩
theorem lw_p6 : lw_okq (⟨"SnippetStops$Occurrence", "changed", "(I)I"⟩, 10) := ⟨⟨by decide +kernel, by decide +kernel⟩, List.mem_of_getElem? (i := 309) (by decide +kernel), List.mem_of_getElem? (i := 307) (by decide +kernel), List.mem_of_getElem? (i := 308) (by decide +kernel)⟩
theorem lw_p7 : lw_okq (⟨"SnippetStops$Session", "makeEmpty", "(I)V"⟩, 8) := ⟨⟨by decide +kernel, by decide +kernel⟩, List.mem_of_getElem? (i := 74) (by decide +kernel), List.mem_of_getElem? (i := 333) (by decide +kernel), List.mem_of_getElem? (i := 334) (by decide +kernel)⟩
theorem lw_p8 : lw_okq (⟨"SnippetStops$Reader", "take", "(I)V"⟩, 10) := ⟨⟨by decide +kernel, by decide +kernel⟩, List.mem_of_getElem? (i := 349) (by decide +kernel), List.mem_of_getElem? (i := 395) (by decide +kernel), List.mem_of_getElem? (i := 396) (by decide +kernel)⟩
theorem lw_p9 : lw_okq (⟨"SnippetStops$Reader", "takeItem", "(I)V"⟩, 10) := ⟨⟨by decide +kernel, by decide +kernel⟩, List.mem_of_getElem? (i := 349) (by decide +kernel), List.mem_of_getElem? (i := 400) (by decide +kernel), List.mem_of_getElem? (i := 401) (by decide +kernel)⟩
theorem lw_p10 : lw_okq (⟨"SnippetStops$Reader", "takeBehindDollar", "(I)V"⟩, 10) := ⟨⟨by decide +kernel, by decide +kernel⟩, List.mem_of_getElem? (i := 349) (by decide +kernel), List.mem_of_getElem? (i := 405) (by decide +kernel), List.mem_of_getElem? (i := 406) (by decide +kernel)⟩
theorem lw_p11 : lw_okq (⟨"SnippetStops$Reader", "takeNumber", "(I)V"⟩, 10) := ⟨⟨by decide +kernel, by decide +kernel⟩, List.mem_of_getElem? (i := 349) (by decide +kernel), List.mem_of_getElem? (i := 479) (by decide +kernel), List.mem_of_getElem? (i := 480) (by decide +kernel)⟩
theorem lw_p12 : lw_okq (⟨"SnippetStops$Reader", "takeKind", "(I)V"⟩, 10) := ⟨⟨by decide +kernel, by decide +kernel⟩, List.mem_of_getElem? (i := 349) (by decide +kernel), List.mem_of_getElem? (i := 483) (by decide +kernel), List.mem_of_getElem? (i := 484) (by decide +kernel)⟩
theorem lw_p13 : lw_okq (⟨"SnippetStops$Reader", "takeInChoice", "(I)V"⟩, 10) := ⟨⟨by decide +kernel, by decide +kernel⟩, List.mem_of_getElem? (i := 349) (by decide +kernel), List.mem_of_getElem? (i := 487) (by decide +kernel), List.mem_of_getElem? (i := 488) (by decide +kernel)⟩
theorem lw_p14 : lw_okq (⟨"SnippetStops$Reader", "takeRule", "(I)V"⟩, 10) := ⟨⟨by decide +kernel, by decide +kernel⟩, List.mem_of_getElem? (i := 349) (by decide +kernel), List.mem_of_getElem? (i := 491) (by decide +kernel), List.mem_of_getElem? (i := 492) (by decide +kernel)⟩
theorem lw_p15 : lw_okq (⟨"SnippetStops$Reader", "takeBehindRule", "(I)V"⟩, 10) := ⟨⟨by decide +kernel, by decide +kernel⟩, List.mem_of_getElem? (i := 349) (by decide +kernel), List.mem_of_getElem? (i := 498) (by decide +kernel), List.mem_of_getElem? (i := 499) (by decide +kernel)⟩
def lw_privs_1 : List (MethodName × Nat) := [(⟨"SnippetStops", "refuse", "(I)I"⟩, 9), (⟨"SnippetStops$Row", "widen", "(I)V"⟩, 3), (⟨"SnippetStops", "lands", "()Z"⟩, 9), (⟨"SnippetStops$Session", "putItems", "(LSnippetStops$Row;LSnippetStops$Occurrence;IIZ)V"⟩, 8), (⟨"SnippetStops$Session", "putOccurrence", "(LSnippetStops$Row;LSnippetStops$Occurrence;IIZ)V"⟩, 8), (⟨"SnippetStops$Session", "putHeldWhile", "(LSnippetStops$Row;IIIZ)V"⟩, 8), (⟨"SnippetStops$Occurrence", "changed", "(I)I"⟩, 10), (⟨"SnippetStops$Session", "makeEmpty", "(I)V"⟩, 8), (⟨"SnippetStops$Reader", "take", "(I)V"⟩, 10), (⟨"SnippetStops$Reader", "takeItem", "(I)V"⟩, 10), (⟨"SnippetStops$Reader", "takeBehindDollar", "(I)V"⟩, 10), (⟨"SnippetStops$Reader", "takeNumber", "(I)V"⟩, 10), (⟨"SnippetStops$Reader", "takeKind", "(I)V"⟩, 10), (⟨"SnippetStops$Reader", "takeInChoice", "(I)V"⟩, 10), (⟨"SnippetStops$Reader", "takeRule", "(I)V"⟩, 10), (⟨"SnippetStops$Reader", "takeBehindRule", "(I)V"⟩, 10)]
theorem lw_r1 : ∀ q ∈ lw_privs_1, lw_okq q := List.forall_mem_cons.mpr ⟨lw_p0, List.forall_mem_cons.mpr ⟨lw_p1, List.forall_mem_cons.mpr ⟨lw_p2, List.forall_mem_cons.mpr ⟨lw_p3, List.forall_mem_cons.mpr ⟨lw_p4, List.forall_mem_cons.mpr ⟨lw_p5, List.forall_mem_cons.mpr ⟨lw_p6, List.forall_mem_cons.mpr ⟨lw_p7, List.forall_mem_cons.mpr ⟨lw_p8, List.forall_mem_cons.mpr ⟨lw_p9, List.forall_mem_cons.mpr ⟨lw_p10, List.forall_mem_cons.mpr ⟨lw_p11, List.forall_mem_cons.mpr ⟨lw_p12, List.forall_mem_cons.mpr ⟨lw_p13, List.forall_mem_cons.mpr ⟨lw_p14, List.forall_mem_cons.mpr ⟨lw_p15, fun _ h => absurd h List.not_mem_nil⟩⟩⟩⟩⟩⟩⟩⟩⟩⟩⟩⟩⟩⟩⟩⟩
theorem lw_p16 : lw_okq (⟨"SnippetStops$Reader", "takeClosing", "(I)V"⟩, 10) := ⟨⟨by decide +kernel, by decide +kernel⟩, List.mem_of_getElem? (i := 349) (by decide +kernel), List.mem_of_getElem? (i := 505) (by decide +kernel), List.mem_of_getElem? (i := 506) (by decide +kernel)⟩
theorem lw_p17 : lw_okq (⟨"SnippetStops$Template", "offerMaster", "(LSnippetStops$Occurrence;)V"⟩, 4) := ⟨⟨by decide +kernel, by decide +kernel⟩, List.mem_of_getElem? (i := 40) (by decide +kernel), List.mem_of_getElem? (i := 513) (by decide +kernel), List.mem_of_getElem? (i := 514) (by decide +kernel)⟩
theorem lw_p18 : lw_okq (⟨"SnippetStops$Template", "isThereAtFirst", "(LSnippetStops$Occurrence;)Z"⟩, 4) := ⟨⟨by decide +kernel, by decide +kernel⟩, List.mem_of_getElem? (i := 40) (by decide +kernel), List.mem_of_getElem? (i := 517) (by decide +kernel), List.mem_of_getElem? (i := 518) (by decide +kernel)⟩
theorem lw_p19 : lw_okq (⟨"SnippetStops$Session", "setBeforeEdit", "()V"⟩, 8) := ⟨⟨by decide +kernel, by decide +kernel⟩, List.mem_of_getElem? (i := 74) (by decide +kernel), List.mem_of_getElem? (i := 582) (by decide +kernel), List.mem_of_getElem? (i := 583) (by decide +kernel)⟩
theorem lw_p20 : lw_okq (⟨"SnippetStops", "heldBy", "(LSnippetStops$Session;I)LSnippetStops$Row;"⟩, 9) := ⟨⟨by decide +kernel, by decide +kernel⟩, List.mem_of_getElem? (i := 12) (by decide +kernel), List.mem_of_getElem? (i := 591) (by decide +kernel), List.mem_of_getElem? (i := 592) (by decide +kernel)⟩
theorem lw_p21 : lw_okq (⟨"SnippetStops$Session", "hasLikeAhead", "(LSnippetStops$Occurrence;)Z"⟩, 8) := ⟨⟨by decide +kernel, by decide +kernel⟩, List.mem_of_getElem? (i := 74) (by decide +kernel), List.mem_of_getElem? (i := 712) (by decide +kernel), List.mem_of_getElem? (i := 713) (by decide +kernel)⟩
theorem lw_p22 : lw_okq (⟨"SnippetStopsModel", "no", "()I"⟩, 45) := ⟨⟨by decide +kernel, by decide +kernel⟩, List.mem_of_getElem? (i := 738) (by decide +kernel), List.mem_of_getElem? (i := 886) (by decide +kernel), List.mem_of_getElem? (i := 887) (by decide +kernel)⟩
theorem lw_p23 : lw_okq (⟨"SnippetStopsModel", "restores", "(I)V"⟩, 45) := ⟨⟨by decide +kernel, by decide +kernel⟩, List.mem_of_getElem? (i := 738) (by decide +kernel), List.mem_of_getElem? (i := 890) (by decide +kernel), List.mem_of_getElem? (i := 891) (by decide +kernel)⟩
theorem lw_p24 : lw_okq (⟨"SnippetStopsModel", "take", "()I"⟩, 45) := ⟨⟨by decide +kernel, by decide +kernel⟩, List.mem_of_getElem? (i := 738) (by decide +kernel), List.mem_of_getElem? (i := 895) (by decide +kernel), List.mem_of_getElem? (i := 896) (by decide +kernel)⟩
theorem lw_p25 : lw_okq (⟨"SnippetStopsModel", "takesSession", "(I)V"⟩, 45) := ⟨⟨by decide +kernel, by decide +kernel⟩, List.mem_of_getElem? (i := 738) (by decide +kernel), List.mem_of_getElem? (i := 899) (by decide +kernel), List.mem_of_getElem? (i := 900) (by decide +kernel)⟩
theorem lw_p26 : lw_okq (⟨"SnippetStopsModel", "bad", "()I"⟩, 45) := ⟨⟨by decide +kernel, by decide +kernel⟩, List.mem_of_getElem? (i := 738) (by decide +kernel), List.mem_of_getElem? (i := 910) (by decide +kernel), List.mem_of_getElem? (i := 911) (by decide +kernel)⟩
theorem lw_p27 : lw_okq (⟨"SnippetStopsModel", "full", "()I"⟩, 45) := ⟨⟨by decide +kernel, by decide +kernel⟩, List.mem_of_getElem? (i := 738) (by decide +kernel), List.mem_of_getElem? (i := 914) (by decide +kernel), List.mem_of_getElem? (i := 915) (by decide +kernel)⟩
theorem lw_p28 : lw_okq (⟨"SnippetStopsModel", "writes", "(I)V"⟩, 45) := ⟨⟨by decide +kernel, by decide +kernel⟩, List.mem_of_getElem? (i := 738) (by decide +kernel), List.mem_of_getElem? (i := 926) (by decide +kernel), List.mem_of_getElem? (i := 927) (by decide +kernel)⟩
theorem lw_p29 : lw_okq (⟨"SnippetStopsModel", "put", "(I)V"⟩, 45) := ⟨⟨by decide +kernel, by decide +kernel⟩, List.mem_of_getElem? (i := 738) (by decide +kernel), List.mem_of_getElem? (i := 930) (by decide +kernel), List.mem_of_getElem? (i := 931) (by decide +kernel)⟩
theorem lw_p30 : lw_okq (⟨"SnippetStopsModel", "putsSession", "(I)V"⟩, 45) := ⟨⟨by decide +kernel, by decide +kernel⟩, List.mem_of_getElem? (i := 738) (by decide +kernel), List.mem_of_getElem? (i := 934) (by decide +kernel), List.mem_of_getElem? (i := 935) (by decide +kernel)⟩
theorem lw_p31 : lw_okq (⟨"SnippetStopsModel", "leavesState", "()V"⟩, 45) := ⟨⟨by decide +kernel, by decide +kernel⟩, List.mem_of_getElem? (i := 738) (by decide +kernel), List.mem_of_getElem? (i := 938) (by decide +kernel), List.mem_of_getElem? (i := 939) (by decide +kernel)⟩
def lw_privs_2 : List (MethodName × Nat) := [(⟨"SnippetStops$Reader", "takeClosing", "(I)V"⟩, 10), (⟨"SnippetStops$Template", "offerMaster", "(LSnippetStops$Occurrence;)V"⟩, 4), (⟨"SnippetStops$Template", "isThereAtFirst", "(LSnippetStops$Occurrence;)Z"⟩, 4), (⟨"SnippetStops$Session", "setBeforeEdit", "()V"⟩, 8), (⟨"SnippetStops", "heldBy", "(LSnippetStops$Session;I)LSnippetStops$Row;"⟩, 9), (⟨"SnippetStops$Session", "hasLikeAhead", "(LSnippetStops$Occurrence;)Z"⟩, 8), (⟨"SnippetStopsModel", "no", "()I"⟩, 45), (⟨"SnippetStopsModel", "restores", "(I)V"⟩, 45), (⟨"SnippetStopsModel", "take", "()I"⟩, 45), (⟨"SnippetStopsModel", "takesSession", "(I)V"⟩, 45), (⟨"SnippetStopsModel", "bad", "()I"⟩, 45), (⟨"SnippetStopsModel", "full", "()I"⟩, 45), (⟨"SnippetStopsModel", "writes", "(I)V"⟩, 45), (⟨"SnippetStopsModel", "put", "(I)V"⟩, 45), (⟨"SnippetStopsModel", "putsSession", "(I)V"⟩, 45), (⟨"SnippetStopsModel", "leavesState", "()V"⟩, 45)]
theorem lw_r2 : ∀ q ∈ lw_privs_2, lw_okq q := List.forall_mem_cons.mpr ⟨lw_p16, List.forall_mem_cons.mpr ⟨lw_p17, List.forall_mem_cons.mpr ⟨lw_p18, List.forall_mem_cons.mpr ⟨lw_p19, List.forall_mem_cons.mpr ⟨lw_p20, List.forall_mem_cons.mpr ⟨lw_p21, List.forall_mem_cons.mpr ⟨lw_p22, List.forall_mem_cons.mpr ⟨lw_p23, List.forall_mem_cons.mpr ⟨lw_p24, List.forall_mem_cons.mpr ⟨lw_p25, List.forall_mem_cons.mpr ⟨lw_p26, List.forall_mem_cons.mpr ⟨lw_p27, List.forall_mem_cons.mpr ⟨lw_p28, List.forall_mem_cons.mpr ⟨lw_p29, List.forall_mem_cons.mpr ⟨lw_p30, List.forall_mem_cons.mpr ⟨lw_p31, fun _ h => absurd h List.not_mem_nil⟩⟩⟩⟩⟩⟩⟩⟩⟩⟩⟩⟩⟩⟩⟩⟩
theorem lw_p32 : lw_okq (⟨"SnippetStopsModel", "copiesState", "(II)V"⟩, 45) := ⟨⟨by decide +kernel, by decide +kernel⟩, List.mem_of_getElem? (i := 738) (by decide +kernel), List.mem_of_getElem? (i := 942) (by decide +kernel), List.mem_of_getElem? (i := 943) (by decide +kernel)⟩
theorem lw_p33 : lw_okq (⟨"SnippetStopsModel", "reads", "(I)Z"⟩, 45) := ⟨⟨by decide +kernel, by decide +kernel⟩, List.mem_of_getElem? (i := 738) (by decide +kernel), List.mem_of_getElem? (i := 950) (by decide +kernel), List.mem_of_getElem? (i := 951) (by decide +kernel)⟩
theorem lw_p34 : lw_okq (⟨"SnippetStopsModel", "here", "()I"⟩, 45) := ⟨⟨by decide +kernel, by decide +kernel⟩, List.mem_of_getElem? (i := 738) (by decide +kernel), List.mem_of_getElem? (i := 954) (by decide +kernel), List.mem_of_getElem? (i := 955) (by decide +kernel)⟩
theorem lw_p35 : lw_okq (⟨"SnippetStopsModel", "readsDollar", "(I)V"⟩, 45) := ⟨⟨by decide +kernel, by decide +kernel⟩, List.mem_of_getElem? (i := 738) (by decide +kernel), List.mem_of_getElem? (i := 958) (by decide +kernel), List.mem_of_getElem? (i := 959) (by decide +kernel)⟩
theorem lw_p36 : lw_okq (⟨"SnippetStopsModel", "comes", "(III)I"⟩, 45) := ⟨⟨by decide +kernel, by decide +kernel⟩, List.mem_of_getElem? (i := 738) (by decide +kernel), List.mem_of_getElem? (i := 962) (by decide +kernel), List.mem_of_getElem? (i := 963) (by decide +kernel)⟩
theorem lw_p37 : lw_okq (⟨"SnippetStopsModel", "readsStop", "(I)V"⟩, 45) := ⟨⟨by decide +kernel, by decide +kernel⟩, List.mem_of_getElem? (i := 738) (by decide +kernel), List.mem_of_getElem? (i := 969) (by decide +kernel), List.mem_of_getElem? (i := 970) (by decide +kernel)⟩
theorem lw_p38 : lw_okq (⟨"SnippetStopsModel", "takes", "(II)I"⟩, 45) := ⟨⟨by decide +kernel, by decide +kernel⟩, List.mem_of_getElem? (i := 738) (by decide +kernel), List.mem_of_getElem? (i := 973) (by decide +kernel), List.mem_of_getElem? (i := 974) (by decide +kernel)⟩
theorem lw_p39 : lw_okq (⟨"SnippetStopsModel", "readsChoices", "(II)V"⟩, 45) := ⟨⟨by decide +kernel, by decide +kernel⟩, List.mem_of_getElem? (i := 738) (by decide +kernel), List.mem_of_getElem? (i := 977) (by decide +kernel), List.mem_of_getElem? (i := 978) (by decide +kernel)⟩
theorem lw_p40 : lw_okq (⟨"SnippetStopsModel", "beginsChoice", "(I)V"⟩, 45) := ⟨⟨by decide +kernel, by decide +kernel⟩, List.mem_of_getElem? (i := 738) (by decide +kernel), List.mem_of_getElem? (i := 981) (by decide +kernel), List.mem_of_getElem? (i := 982) (by decide +kernel)⟩
theorem lw_p41 : lw_okq (⟨"SnippetStopsModel", "plain", "()I"⟩, 45) := ⟨⟨by decide +kernel, by decide +kernel⟩, List.mem_of_getElem? (i := 738) (by decide +kernel), List.mem_of_getElem? (i := 985) (by decide +kernel), List.mem_of_getElem? (i := 986) (by decide +kernel)⟩
theorem lw_p42 : lw_okq (⟨"SnippetStopsModel", "choiceByte", "(II)V"⟩, 45) := ⟨⟨by decide +kernel, by decide +kernel⟩, List.mem_of_getElem? (i := 738) (by decide +kernel), List.mem_of_getElem? (i := 989) (by decide +kernel), List.mem_of_getElem? (i := 990) (by decide +kernel)⟩
theorem lw_p43 : lw_okq (⟨"SnippetStopsModel", "readsRule", "(II)V"⟩, 45) := ⟨⟨by decide +kernel, by decide +kernel⟩, List.mem_of_getElem? (i := 738) (by decide +kernel), List.mem_of_getElem? (i := 993) (by decide +kernel), List.mem_of_getElem? (i := 994) (by decide +kernel)⟩
theorem lw_p44 : lw_okq (⟨"SnippetStopsModel", "begun", "(I)V"⟩, 45) := ⟨⟨by decide +kernel, by decide +kernel⟩, List.mem_of_getElem? (i := 738) (by decide +kernel), List.mem_of_getElem? (i := 1003) (by decide +kernel), List.mem_of_getElem? (i := 1004) (by decide +kernel)⟩
theorem lw_p45 : lw_okq (⟨"SnippetStopsModel", "settles", "(I)V"⟩, 45) := ⟨⟨by decide +kernel, by decide +kernel⟩, List.mem_of_getElem? (i := 738) (by decide +kernel), List.mem_of_getElem? (i := 1007) (by decide +kernel), List.mem_of_getElem? (i := 1008) (by decide +kernel)⟩
theorem lw_p46 : lw_okq (⟨"SnippetStopsModel", "isOccurrence", "(II)Z"⟩, 45) := ⟨⟨by decide +kernel, by decide +kernel⟩, List.mem_of_getElem? (i := 738) (by decide +kernel), List.mem_of_getElem? (i := 1011) (by decide +kernel), List.mem_of_getElem? (i := 1012) (by decide +kernel)⟩
theorem lw_p47 : lw_okq (⟨"SnippetStopsModel", "kind", "(II)I"⟩, 45) := ⟨⟨by decide +kernel, by decide +kernel⟩, List.mem_of_getElem? (i := 738) (by decide +kernel), List.mem_of_getElem? (i := 1015) (by decide +kernel), List.mem_of_getElem? (i := 1016) (by decide +kernel)⟩
def lw_privs_3 : List (MethodName × Nat) := [(⟨"SnippetStopsModel", "copiesState", "(II)V"⟩, 45), (⟨"SnippetStopsModel", "reads", "(I)Z"⟩, 45), (⟨"SnippetStopsModel", "here", "()I"⟩, 45), (⟨"SnippetStopsModel", "readsDollar", "(I)V"⟩, 45), (⟨"SnippetStopsModel", "comes", "(III)I"⟩, 45), (⟨"SnippetStopsModel", "readsStop", "(I)V"⟩, 45), (⟨"SnippetStopsModel", "takes", "(II)I"⟩, 45), (⟨"SnippetStopsModel", "readsChoices", "(II)V"⟩, 45), (⟨"SnippetStopsModel", "beginsChoice", "(I)V"⟩, 45), (⟨"SnippetStopsModel", "plain", "()I"⟩, 45), (⟨"SnippetStopsModel", "choiceByte", "(II)V"⟩, 45), (⟨"SnippetStopsModel", "readsRule", "(II)V"⟩, 45), (⟨"SnippetStopsModel", "begun", "(I)V"⟩, 45), (⟨"SnippetStopsModel", "settles", "(I)V"⟩, 45), (⟨"SnippetStopsModel", "isOccurrence", "(II)Z"⟩, 45), (⟨"SnippetStopsModel", "kind", "(II)I"⟩, 45)]
theorem lw_r3 : ∀ q ∈ lw_privs_3, lw_okq q := List.forall_mem_cons.mpr ⟨lw_p32, List.forall_mem_cons.mpr ⟨lw_p33, List.forall_mem_cons.mpr ⟨lw_p34, List.forall_mem_cons.mpr ⟨lw_p35, List.forall_mem_cons.mpr ⟨lw_p36, List.forall_mem_cons.mpr ⟨lw_p37, List.forall_mem_cons.mpr ⟨lw_p38, List.forall_mem_cons.mpr ⟨lw_p39, List.forall_mem_cons.mpr ⟨lw_p40, List.forall_mem_cons.mpr ⟨lw_p41, List.forall_mem_cons.mpr ⟨lw_p42, List.forall_mem_cons.mpr ⟨lw_p43, List.forall_mem_cons.mpr ⟨lw_p44, List.forall_mem_cons.mpr ⟨lw_p45, List.forall_mem_cons.mpr ⟨lw_p46, List.forall_mem_cons.mpr ⟨lw_p47, fun _ h => absurd h List.not_mem_nil⟩⟩⟩⟩⟩⟩⟩⟩⟩⟩⟩⟩⟩⟩⟩⟩
theorem lw_p48 : lw_okq (⟨"SnippetStopsModel", "value", "(II)I"⟩, 45) := ⟨⟨by decide +kernel, by decide +kernel⟩, List.mem_of_getElem? (i := 738) (by decide +kernel), List.mem_of_getElem? (i := 1019) (by decide +kernel), List.mem_of_getElem? (i := 1020) (by decide +kernel)⟩
theorem lw_p49 : lw_okq (⟨"SnippetStopsModel", "isFull", "(II)Z"⟩, 45) := ⟨⟨by decide +kernel, by decide +kernel⟩, List.mem_of_getElem? (i := 738) (by decide +kernel), List.mem_of_getElem? (i := 1023) (by decide +kernel), List.mem_of_getElem? (i := 1024) (by decide +kernel)⟩
theorem lw_p50 : lw_okq (⟨"SnippetStopsModel", "masterOf", "(II)I"⟩, 45) := ⟨⟨by decide +kernel, by decide +kernel⟩, List.mem_of_getElem? (i := 738) (by decide +kernel), List.mem_of_getElem? (i := 1027) (by decide +kernel), List.mem_of_getElem? (i := 1028) (by decide +kernel)⟩
theorem lw_p51 : lw_okq (⟨"SnippetStopsModel", "behind", "(II)I"⟩, 45) := ⟨⟨by decide +kernel, by decide +kernel⟩, List.mem_of_getElem? (i := 738) (by decide +kernel), List.mem_of_getElem? (i := 1031) (by decide +kernel), List.mem_of_getElem? (i := 1032) (by decide +kernel)⟩
theorem lw_p52 : lw_okq (⟨"SnippetStopsModel", "isThere", "(II)Z"⟩, 45) := ⟨⟨by decide +kernel, by decide +kernel⟩, List.mem_of_getElem? (i := 738) (by decide +kernel), List.mem_of_getElem? (i := 1035) (by decide +kernel), List.mem_of_getElem? (i := 1036) (by decide +kernel)⟩
theorem lw_p53 : lw_okq (⟨"SnippetStopsModel", "nextStop", "(III)I"⟩, 45) := ⟨⟨by decide +kernel, by decide +kernel⟩, List.mem_of_getElem? (i := 738) (by decide +kernel), List.mem_of_getElem? (i := 1039) (by decide +kernel), List.mem_of_getElem? (i := 1040) (by decide +kernel)⟩
theorem lw_p54 : lw_okq (⟨"SnippetStopsModel", "isStopThere", "(II)Z"⟩, 45) := ⟨⟨by decide +kernel, by decide +kernel⟩, List.mem_of_getElem? (i := 738) (by decide +kernel), List.mem_of_getElem? (i := 1043) (by decide +kernel), List.mem_of_getElem? (i := 1044) (by decide +kernel)⟩
theorem lw_p55 : lw_okq (⟨"SnippetStopsModel", "passesDown", "()V"⟩, 45) := ⟨⟨by decide +kernel, by decide +kernel⟩, List.mem_of_getElem? (i := 738) (by decide +kernel), List.mem_of_getElem? (i := 1047) (by decide +kernel), List.mem_of_getElem? (i := 1048) (by decide +kernel)⟩
theorem lw_p56 : lw_okq (⟨"SnippetStopsModel", "showsAll", "(I)V"⟩, 45) := ⟨⟨by decide +kernel, by decide +kernel⟩, List.mem_of_getElem? (i := 738) (by decide +kernel), List.mem_of_getElem? (i := 1051) (by decide +kernel), List.mem_of_getElem? (i := 1052) (by decide +kernel)⟩
theorem lw_p57 : lw_okq (⟨"SnippetStopsModel", "opens", "(IIIII)V"⟩, 45) := ⟨⟨by decide +kernel, by decide +kernel⟩, List.mem_of_getElem? (i := 738) (by decide +kernel), List.mem_of_getElem? (i := 1055) (by decide +kernel), List.mem_of_getElem? (i := 1056) (by decide +kernel)⟩
theorem lw_p58 : lw_okq (⟨"SnippetStopsModel", "step", "(I)V"⟩, 45) := ⟨⟨by decide +kernel, by decide +kernel⟩, List.mem_of_getElem? (i := 738) (by decide +kernel), List.mem_of_getElem? (i := 1059) (by decide +kernel), List.mem_of_getElem? (i := 1060) (by decide +kernel)⟩
theorem lw_p59 : lw_okq (⟨"SnippetStopsModel", "closes", "(IIII)V"⟩, 45) := ⟨⟨by decide +kernel, by decide +kernel⟩, List.mem_of_getElem? (i := 738) (by decide +kernel), List.mem_of_getElem? (i := 1063) (by decide +kernel), List.mem_of_getElem? (i := 1064) (by decide +kernel)⟩
theorem lw_p60 : lw_okq (⟨"SnippetStopsModel", "rules", "(III)V"⟩, 45) := ⟨⟨by decide +kernel, by decide +kernel⟩, List.mem_of_getElem? (i := 738) (by decide +kernel), List.mem_of_getElem? (i := 1067) (by decide +kernel), List.mem_of_getElem? (i := 1068) (by decide +kernel)⟩
theorem lw_p61 : lw_okq (⟨"SnippetStopsModel", "ruled", "(IIIZ)I"⟩, 45) := ⟨⟨by decide +kernel, by decide +kernel⟩, List.mem_of_getElem? (i := 738) (by decide +kernel), List.mem_of_getElem? (i := 1071) (by decide +kernel), List.mem_of_getElem? (i := 1072) (by decide +kernel)⟩
theorem lw_p62 : lw_okq (⟨"SnippetStopsModel", "shows", "(I)V"⟩, 45) := ⟨⟨by decide +kernel, by decide +kernel⟩, List.mem_of_getElem? (i := 738) (by decide +kernel), List.mem_of_getElem? (i := 1081) (by decide +kernel), List.mem_of_getElem? (i := 1082) (by decide +kernel)⟩
theorem lw_p63 : lw_okq (⟨"SnippetStopsModel", "showsVariable", "(II)V"⟩, 45) := ⟨⟨by decide +kernel, by decide +kernel⟩, List.mem_of_getElem? (i := 738) (by decide +kernel), List.mem_of_getElem? (i := 1085) (by decide +kernel), List.mem_of_getElem? (i := 1086) (by decide +kernel)⟩
def lw_privs_4 : List (MethodName × Nat) := [(⟨"SnippetStopsModel", "value", "(II)I"⟩, 45), (⟨"SnippetStopsModel", "isFull", "(II)Z"⟩, 45), (⟨"SnippetStopsModel", "masterOf", "(II)I"⟩, 45), (⟨"SnippetStopsModel", "behind", "(II)I"⟩, 45), (⟨"SnippetStopsModel", "isThere", "(II)Z"⟩, 45), (⟨"SnippetStopsModel", "nextStop", "(III)I"⟩, 45), (⟨"SnippetStopsModel", "isStopThere", "(II)Z"⟩, 45), (⟨"SnippetStopsModel", "passesDown", "()V"⟩, 45), (⟨"SnippetStopsModel", "showsAll", "(I)V"⟩, 45), (⟨"SnippetStopsModel", "opens", "(IIIII)V"⟩, 45), (⟨"SnippetStopsModel", "step", "(I)V"⟩, 45), (⟨"SnippetStopsModel", "closes", "(IIII)V"⟩, 45), (⟨"SnippetStopsModel", "rules", "(III)V"⟩, 45), (⟨"SnippetStopsModel", "ruled", "(IIIZ)I"⟩, 45), (⟨"SnippetStopsModel", "shows", "(I)V"⟩, 45), (⟨"SnippetStopsModel", "showsVariable", "(II)V"⟩, 45)]
theorem lw_r4 : ∀ q ∈ lw_privs_4, lw_okq q := List.forall_mem_cons.mpr ⟨lw_p48, List.forall_mem_cons.mpr ⟨lw_p49, List.forall_mem_cons.mpr ⟨lw_p50, List.forall_mem_cons.mpr ⟨lw_p51, List.forall_mem_cons.mpr ⟨lw_p52, List.forall_mem_cons.mpr ⟨lw_p53, List.forall_mem_cons.mpr ⟨lw_p54, List.forall_mem_cons.mpr ⟨lw_p55, List.forall_mem_cons.mpr ⟨lw_p56, List.forall_mem_cons.mpr ⟨lw_p57, List.forall_mem_cons.mpr ⟨lw_p58, List.forall_mem_cons.mpr ⟨lw_p59, List.forall_mem_cons.mpr ⟨lw_p60, List.forall_mem_cons.mpr ⟨lw_p61, List.forall_mem_cons.mpr ⟨lw_p62, List.forall_mem_cons.mpr ⟨lw_p63, fun _ h => absurd h List.not_mem_nil⟩⟩⟩⟩⟩⟩⟩⟩⟩⟩⟩⟩⟩⟩⟩⟩
theorem lw_p64 : lw_okq (⟨"SnippetStopsModel", "meets", "(IIII)V"⟩, 45) := ⟨⟨by decide +kernel, by decide +kernel⟩, List.mem_of_getElem? (i := 738) (by decide +kernel), List.mem_of_getElem? (i := 1089) (by decide +kernel), List.mem_of_getElem? (i := 1090) (by decide +kernel)⟩
theorem lw_p65 : lw_okq (⟨"SnippetStopsModel", "isSet", "(II)Z"⟩, 45) := ⟨⟨by decide +kernel, by decide +kernel⟩, List.mem_of_getElem? (i := 738) (by decide +kernel), List.mem_of_getElem? (i := 1093) (by decide +kernel), List.mem_of_getElem? (i := 1094) (by decide +kernel)⟩
theorem lw_p66 : lw_okq (⟨"SnippetStopsModel", "showsSet", "(II)V"⟩, 45) := ⟨⟨by decide +kernel, by decide +kernel⟩, List.mem_of_getElem? (i := 738) (by decide +kernel), List.mem_of_getElem? (i := 1097) (by decide +kernel), List.mem_of_getElem? (i := 1098) (by decide +kernel)⟩
theorem lw_p67 : lw_okq (⟨"SnippetStopsModel", "showsChoice", "(II)V"⟩, 45) := ⟨⟨by decide +kernel, by decide +kernel⟩, List.mem_of_getElem? (i := 738) (by decide +kernel), List.mem_of_getElem? (i := 1101) (by decide +kernel), List.mem_of_getElem? (i := 1102) (by decide +kernel)⟩
theorem lw_p68 : lw_okq (⟨"SnippetStopsModel", "holdsAside", "()I"⟩, 45) := ⟨⟨by decide +kernel, by decide +kernel⟩, List.mem_of_getElem? (i := 738) (by decide +kernel), List.mem_of_getElem? (i := 1105) (by decide +kernel), List.mem_of_getElem? (i := 1106) (by decide +kernel)⟩
theorem lw_p69 : lw_okq (⟨"SnippetStopsModel", "sets", "(III)V"⟩, 45) := ⟨⟨by decide +kernel, by decide +kernel⟩, List.mem_of_getElem? (i := 738) (by decide +kernel), List.mem_of_getElem? (i := 1109) (by decide +kernel), List.mem_of_getElem? (i := 1110) (by decide +kernel)⟩
theorem lw_p70 : lw_okq (⟨"SnippetStopsModel", "loses", "(II)V"⟩, 45) := ⟨⟨by decide +kernel, by decide +kernel⟩, List.mem_of_getElem? (i := 738) (by decide +kernel), List.mem_of_getElem? (i := 1113) (by decide +kernel), List.mem_of_getElem? (i := 1114) (by decide +kernel)⟩
theorem lw_p71 : lw_okq (⟨"SnippetStopsModel", "holds", "(II)V"⟩, 45) := ⟨⟨by decide +kernel, by decide +kernel⟩, List.mem_of_getElem? (i := 738) (by decide +kernel), List.mem_of_getElem? (i := 1117) (by decide +kernel), List.mem_of_getElem? (i := 1118) (by decide +kernel)⟩
theorem lw_p72 : lw_okq (⟨"SnippetStopsModel", "keeps", "(II)V"⟩, 45) := ⟨⟨by decide +kernel, by decide +kernel⟩, List.mem_of_getElem? (i := 738) (by decide +kernel), List.mem_of_getElem? (i := 1121) (by decide +kernel), List.mem_of_getElem? (i := 1122) (by decide +kernel)⟩
theorem lw_p73 : lw_okq (⟨"SnippetStopsModel", "room", "(III)I"⟩, 45) := ⟨⟨by decide +kernel, by decide +kernel⟩, List.mem_of_getElem? (i := 738) (by decide +kernel), List.mem_of_getElem? (i := 1125) (by decide +kernel), List.mem_of_getElem? (i := 1126) (by decide +kernel)⟩
theorem lw_p74 : lw_okq (⟨"SnippetStopsModel", "isTooLong", "()Z"⟩, 45) := ⟨⟨by decide +kernel, by decide +kernel⟩, List.mem_of_getElem? (i := 738) (by decide +kernel), List.mem_of_getElem? (i := 1129) (by decide +kernel), List.mem_of_getElem? (i := 1130) (by decide +kernel)⟩
theorem lw_p75 : lw_okq (⟨"SnippetStopsModel", "documentBytes", "()I"⟩, 45) := ⟨⟨by decide +kernel, by decide +kernel⟩, List.mem_of_getElem? (i := 738) (by decide +kernel), List.mem_of_getElem? (i := 1133) (by decide +kernel), List.mem_of_getElem? (i := 1134) (by decide +kernel)⟩
theorem lw_p76 : lw_okq (⟨"SnippetStopsModel", "finishes", "()V"⟩, 45) := ⟨⟨by decide +kernel, by decide +kernel⟩, List.mem_of_getElem? (i := 738) (by decide +kernel), List.mem_of_getElem? (i := 1137) (by decide +kernel), List.mem_of_getElem? (i := 1138) (by decide +kernel)⟩
theorem lw_p77 : lw_okq (⟨"SnippetStopsModel", "first", "(II)I"⟩, 45) := ⟨⟨by decide +kernel, by decide +kernel⟩, List.mem_of_getElem? (i := 738) (by decide +kernel), List.mem_of_getElem? (i := 1141) (by decide +kernel), List.mem_of_getElem? (i := 1142) (by decide +kernel)⟩
theorem lw_p78 : lw_okq (⟨"SnippetStopsModel", "comesIn", "(II)V"⟩, 45) := ⟨⟨by decide +kernel, by decide +kernel⟩, List.mem_of_getElem? (i := 738) (by decide +kernel), List.mem_of_getElem? (i := 1145) (by decide +kernel), List.mem_of_getElem? (i := 1146) (by decide +kernel)⟩
theorem lw_p79 : lw_okq (⟨"SnippetStopsModel", "typed", "(I)I"⟩, 45) := ⟨⟨by decide +kernel, by decide +kernel⟩, List.mem_of_getElem? (i := 738) (by decide +kernel), List.mem_of_getElem? (i := 1153) (by decide +kernel), List.mem_of_getElem? (i := 1154) (by decide +kernel)⟩
def lw_privs_5 : List (MethodName × Nat) := [(⟨"SnippetStopsModel", "meets", "(IIII)V"⟩, 45), (⟨"SnippetStopsModel", "isSet", "(II)Z"⟩, 45), (⟨"SnippetStopsModel", "showsSet", "(II)V"⟩, 45), (⟨"SnippetStopsModel", "showsChoice", "(II)V"⟩, 45), (⟨"SnippetStopsModel", "holdsAside", "()I"⟩, 45), (⟨"SnippetStopsModel", "sets", "(III)V"⟩, 45), (⟨"SnippetStopsModel", "loses", "(II)V"⟩, 45), (⟨"SnippetStopsModel", "holds", "(II)V"⟩, 45), (⟨"SnippetStopsModel", "keeps", "(II)V"⟩, 45), (⟨"SnippetStopsModel", "room", "(III)I"⟩, 45), (⟨"SnippetStopsModel", "isTooLong", "()Z"⟩, 45), (⟨"SnippetStopsModel", "documentBytes", "()I"⟩, 45), (⟨"SnippetStopsModel", "finishes", "()V"⟩, 45), (⟨"SnippetStopsModel", "first", "(II)I"⟩, 45), (⟨"SnippetStopsModel", "comesIn", "(II)V"⟩, 45), (⟨"SnippetStopsModel", "typed", "(I)I"⟩, 45)]
theorem lw_r5 : ∀ q ∈ lw_privs_5, lw_okq q := List.forall_mem_cons.mpr ⟨lw_p64, List.forall_mem_cons.mpr ⟨lw_p65, List.forall_mem_cons.mpr ⟨lw_p66, List.forall_mem_cons.mpr ⟨lw_p67, List.forall_mem_cons.mpr ⟨lw_p68, List.forall_mem_cons.mpr ⟨lw_p69, List.forall_mem_cons.mpr ⟨lw_p70, List.forall_mem_cons.mpr ⟨lw_p71, List.forall_mem_cons.mpr ⟨lw_p72, List.forall_mem_cons.mpr ⟨lw_p73, List.forall_mem_cons.mpr ⟨lw_p74, List.forall_mem_cons.mpr ⟨lw_p75, List.forall_mem_cons.mpr ⟨lw_p76, List.forall_mem_cons.mpr ⟨lw_p77, List.forall_mem_cons.mpr ⟨lw_p78, List.forall_mem_cons.mpr ⟨lw_p79, fun _ h => absurd h List.not_mem_nil⟩⟩⟩⟩⟩⟩⟩⟩⟩⟩⟩⟩⟩⟩⟩⟩
theorem lw_p80 : lw_okq (⟨"SnippetStopsModel", "doneBytes", "()I"⟩, 45) := ⟨⟨by decide +kernel, by decide +kernel⟩, List.mem_of_getElem? (i := 738) (by decide +kernel), List.mem_of_getElem? (i := 1157) (by decide +kernel), List.mem_of_getElem? (i := 1158) (by decide +kernel)⟩
theorem lw_p81 : lw_okq (⟨"SnippetStopsModel", "done", "(I)I"⟩, 45) := ⟨⟨by decide +kernel, by decide +kernel⟩, List.mem_of_getElem? (i := 738) (by decide +kernel), List.mem_of_getElem? (i := 1161) (by decide +kernel), List.mem_of_getElem? (i := 1162) (by decide +kernel)⟩
theorem lw_p82 : lw_okq (⟨"SnippetStopsModel", "rubbed", "()I"⟩, 45) := ⟨⟨by decide +kernel, by decide +kernel⟩, List.mem_of_getElem? (i := 738) (by decide +kernel), List.mem_of_getElem? (i := 1169) (by decide +kernel), List.mem_of_getElem? (i := 1170) (by decide +kernel)⟩
theorem lw_p83 : lw_okq (⟨"SnippetStopsModel", "goesOut", "(II)V"⟩, 45) := ⟨⟨by decide +kernel, by decide +kernel⟩, List.mem_of_getElem? (i := 738) (by decide +kernel), List.mem_of_getElem? (i := 1173) (by decide +kernel), List.mem_of_getElem? (i := 1174) (by decide +kernel)⟩
theorem lw_p84 : lw_okq (⟨"SnippetStopsModel", "goesTo", "(I)V"⟩, 45) := ⟨⟨by decide +kernel, by decide +kernel⟩, List.mem_of_getElem? (i := 738) (by decide +kernel), List.mem_of_getElem? (i := 1181) (by decide +kernel), List.mem_of_getElem? (i := 1182) (by decide +kernel)⟩
theorem lw_p85 : lw_okq (⟨"SnippetStopsModel", "choicesOf", "(II)I"⟩, 45) := ⟨⟨by decide +kernel, by decide +kernel⟩, List.mem_of_getElem? (i := 738) (by decide +kernel), List.mem_of_getElem? (i := 1193) (by decide +kernel), List.mem_of_getElem? (i := 1194) (by decide +kernel)⟩
theorem lw_p86 : lw_okq (⟨"SnippetStopsModel", "choiceOf", "(III)I"⟩, 45) := ⟨⟨by decide +kernel, by decide +kernel⟩, List.mem_of_getElem? (i := 738) (by decide +kernel), List.mem_of_getElem? (i := 1197) (by decide +kernel), List.mem_of_getElem? (i := 1198) (by decide +kernel)⟩
theorem lw_p87 : lw_okq (⟨"SnippetStopsModel", "documentAt", "(I)I"⟩, 45) := ⟨⟨by decide +kernel, by decide +kernel⟩, List.mem_of_getElem? (i := 738) (by decide +kernel), List.mem_of_getElem? (i := 1217) (by decide +kernel), List.mem_of_getElem? (i := 1218) (by decide +kernel)⟩
theorem lw_p88 : lw_okq (⟨"SnippetStopsModel", "countOf", "(I)I"⟩, 45) := ⟨⟨by decide +kernel, by decide +kernel⟩, List.mem_of_getElem? (i := 738) (by decide +kernel), List.mem_of_getElem? (i := 1225) (by decide +kernel), List.mem_of_getElem? (i := 1226) (by decide +kernel)⟩
theorem lw_p89 : lw_okq (⟨"SnippetStopsModel", "stopsThere", "(I)I"⟩, 45) := ⟨⟨by decide +kernel, by decide +kernel⟩, List.mem_of_getElem? (i := 738) (by decide +kernel), List.mem_of_getElem? (i := 1229) (by decide +kernel), List.mem_of_getElem? (i := 1230) (by decide +kernel)⟩
theorem lw_p90 : lw_okq (⟨"SnippetStopsModel", "stopIs", "(III)I"⟩, 45) := ⟨⟨by decide +kernel, by decide +kernel⟩, List.mem_of_getElem? (i := 738) (by decide +kernel), List.mem_of_getElem? (i := 1237) (by decide +kernel), List.mem_of_getElem? (i := 1238) (by decide +kernel)⟩
theorem lw_p91 : lw_okq (⟨"SnippetStopsModel", "heldBytes", "(II)I"⟩, 45) := ⟨⟨by decide +kernel, by decide +kernel⟩, List.mem_of_getElem? (i := 738) (by decide +kernel), List.mem_of_getElem? (i := 1241) (by decide +kernel), List.mem_of_getElem? (i := 1242) (by decide +kernel)⟩
theorem lw_p92 : lw_okq (⟨"SnippetStopsModel", "occurrencesOf", "(II)I"⟩, 45) := ⟨⟨by decide +kernel, by decide +kernel⟩, List.mem_of_getElem? (i := 738) (by decide +kernel), List.mem_of_getElem? (i := 1245) (by decide +kernel), List.mem_of_getElem? (i := 1246) (by decide +kernel)⟩
theorem lw_p93 : lw_okq (⟨"SnippetStopsModel", "occurrenceIs", "(III)I"⟩, 45) := ⟨⟨by decide +kernel, by decide +kernel⟩, List.mem_of_getElem? (i := 738) (by decide +kernel), List.mem_of_getElem? (i := 1261) (by decide +kernel), List.mem_of_getElem? (i := 1262) (by decide +kernel)⟩
theorem lw_p94 : lw_okq (⟨"SnippetStopsModel", "base", "()I"⟩, 45) := ⟨⟨by decide +kernel, by decide +kernel⟩, List.mem_of_getElem? (i := 738) (by decide +kernel), List.mem_of_getElem? (i := 1265) (by decide +kernel), List.mem_of_getElem? (i := 1266) (by decide +kernel)⟩
theorem lw_p95 : lw_okq (⟨"SnippetStopsModel", "areLike", "(III)Z"⟩, 45) := ⟨⟨by decide +kernel, by decide +kernel⟩, List.mem_of_getElem? (i := 738) (by decide +kernel), List.mem_of_getElem? (i := 1273) (by decide +kernel), List.mem_of_getElem? (i := 1274) (by decide +kernel)⟩
def lw_privs_6 : List (MethodName × Nat) := [(⟨"SnippetStopsModel", "doneBytes", "()I"⟩, 45), (⟨"SnippetStopsModel", "done", "(I)I"⟩, 45), (⟨"SnippetStopsModel", "rubbed", "()I"⟩, 45), (⟨"SnippetStopsModel", "goesOut", "(II)V"⟩, 45), (⟨"SnippetStopsModel", "goesTo", "(I)V"⟩, 45), (⟨"SnippetStopsModel", "choicesOf", "(II)I"⟩, 45), (⟨"SnippetStopsModel", "choiceOf", "(III)I"⟩, 45), (⟨"SnippetStopsModel", "documentAt", "(I)I"⟩, 45), (⟨"SnippetStopsModel", "countOf", "(I)I"⟩, 45), (⟨"SnippetStopsModel", "stopsThere", "(I)I"⟩, 45), (⟨"SnippetStopsModel", "stopIs", "(III)I"⟩, 45), (⟨"SnippetStopsModel", "heldBytes", "(II)I"⟩, 45), (⟨"SnippetStopsModel", "occurrencesOf", "(II)I"⟩, 45), (⟨"SnippetStopsModel", "occurrenceIs", "(III)I"⟩, 45), (⟨"SnippetStopsModel", "base", "()I"⟩, 45), (⟨"SnippetStopsModel", "areLike", "(III)Z"⟩, 45)]
theorem lw_r6 : ∀ q ∈ lw_privs_6, lw_okq q := List.forall_mem_cons.mpr ⟨lw_p80, List.forall_mem_cons.mpr ⟨lw_p81, List.forall_mem_cons.mpr ⟨lw_p82, List.forall_mem_cons.mpr ⟨lw_p83, List.forall_mem_cons.mpr ⟨lw_p84, List.forall_mem_cons.mpr ⟨lw_p85, List.forall_mem_cons.mpr ⟨lw_p86, List.forall_mem_cons.mpr ⟨lw_p87, List.forall_mem_cons.mpr ⟨lw_p88, List.forall_mem_cons.mpr ⟨lw_p89, List.forall_mem_cons.mpr ⟨lw_p90, List.forall_mem_cons.mpr ⟨lw_p91, List.forall_mem_cons.mpr ⟨lw_p92, List.forall_mem_cons.mpr ⟨lw_p93, List.forall_mem_cons.mpr ⟨lw_p94, List.forall_mem_cons.mpr ⟨lw_p95, fun _ h => absurd h List.not_mem_nil⟩⟩⟩⟩⟩⟩⟩⟩⟩⟩⟩⟩⟩⟩⟩⟩
theorem lw_p96 : lw_okq (⟨"SnippetStopsModel", "toldOf", "(I)I"⟩, 45) := ⟨⟨by decide +kernel, by decide +kernel⟩, List.mem_of_getElem? (i := 738) (by decide +kernel), List.mem_of_getElem? (i := 1285) (by decide +kernel), List.mem_of_getElem? (i := 1286) (by decide +kernel)⟩
def lw_privs_7 : List (MethodName × Nat) := [(⟨"SnippetStopsModel", "toldOf", "(I)I"⟩, 45)]
theorem lw_r7 : ∀ q ∈ lw_privs_7, lw_okq q := List.forall_mem_cons.mpr ⟨lw_p96, fun _ h => absurd h List.not_mem_nil⟩
def lw_privs : List (MethodName × Nat) := lw_privs_1 ++ (lw_privs_2 ++ (lw_privs_3 ++ (lw_privs_4 ++ (lw_privs_5 ++ (lw_privs_6 ++ (lw_privs_7))))))
def lw_tbl : List Cond := k2_sels lw_privs ++ tables_1
theorem lw_privs_ok : ∀ q ∈ lw_privs, lw_okq q := by
  show ∀ q ∈ lw_privs_1 ++ (lw_privs_2 ++ (lw_privs_3 ++ (lw_privs_4 ++ (lw_privs_5 ++ (lw_privs_6 ++ (lw_privs_7)))))), lw_okq q
  exact List.forall_mem_append.mpr ⟨lw_r1, List.forall_mem_append.mpr ⟨lw_r2, List.forall_mem_append.mpr ⟨lw_r3, List.forall_mem_append.mpr ⟨lw_r4, List.forall_mem_append.mpr ⟨lw_r5, List.forall_mem_append.mpr ⟨lw_r6, lw_r7⟩⟩⟩⟩⟩⟩
end
section
/-! ===== BEGIN words of one list among another's, by their places ===== -/
theorem goodIn_r {big : List Cond} (ws : List Cond) (ps : List Nat) (hp : ws = ps.filterMap (fun i => big[i]?)) (h : ws.all goodWord = true) : GoodIn big ws := by
  intro w hw
  have h1 := List.all_eq_true.mp h w hw
  rw [hp] at hw
  obtain ⟨i, -, hi⟩ := List.mem_filterMap.mp hw
  have hm : w ∈ big := by first | exact List.mem_of_getElem? hi | exact List.getElem?_mem hi
  exact ⟨hm, good_of_word h1⟩
theorem goodIn_app {big a b : List Cond} (ha : GoodIn big a) (hb : GoodIn big b) : GoodIn big (a ++ b) := fun w h => (List.mem_append.mp h).elim (ha w) (hb w)
theorem goodIn_ca {big a b : List Cond} {c : Cond} (ha : GoodIn big (c :: a)) (hb : GoodIn big b) : GoodIn big (c :: (a ++ b)) := fun w h => (List.mem_cons.mp h).elim (fun e => ha w (List.mem_cons.mpr (Or.inl e))) (fun h => (List.mem_append.mp h).elim (fun h => ha w (List.mem_cons.mpr (Or.inr h))) (hb w))
theorem goodIn_sub {big ws : List Cond} (hm : ∀ w ∈ ws, w ∈ big) (h : ws.all goodWord = true) : GoodIn big ws := fun w hw => ⟨hm w hw, good_of_word (List.all_eq_true.mp h w hw)⟩
/-! ===== END ===== -/

/-! ===== BEGIN printed: names, fields, word lists, decode rows ===== -/
def RX0 : String := "SnippetStops$Occurrence"
def TX0 : u_T := fun k => match k with
  | 0 => ("SnippetStops$Occurrence", "index", "I", true)
  | 1 => ("SnippetStops$Occurrence", "stop", "I", true)
  | 2 => ("SnippetStops$Occurrence", "outer", "LSnippetStops$Occurrence;", true)
  | 3 => ("SnippetStops$Occurrence", "hasDefault", "Z", false)
  | 4 => ("SnippetStops$Occurrence", "choices", "I", false)
  | 5 => ("SnippetStops$Occurrence", "begin", "I", false)
  | 6 => ("SnippetStops$Occurrence", "end", "I", false)
  | 7 => ("SnippetStops$Occurrence", "rule", "I", false)
  | 8 => ("SnippetStops$Occurrence", "swapped", "I", false)
  | _ => ("SnippetStops$Occurrence", "swappedTo", "I", false)
def tyX0 : Nat → FieldType := fun k => match k with
  | 0 => .int
  | 1 => .int
  | 2 => .object "SnippetStops$Occurrence"
  | 3 => .boolean
  | 4 => .int
  | 5 => .int
  | 6 => .int
  | 7 => .int
  | 8 => .int
  | _ => .int
abbrev wsX00 : List Cond := u_ws RX0 TX0 10
theorem nmX0 : ∀ a, a < 10 → ∀ b, b < 10 → a ≠ b → (TX0 a).2.1 ≠ (TX0 b).2.1 := by decide +kernel
theorem tyX0_ok : ∀ k, k < 10 → parseFieldDescriptor (TX0 k).2.2.1 = some (tyX0 k) := by decide +kernel
abbrev cX0_init : ByteArray := prog_2_method_1_code
def yX0_init : MethodName := ⟨RX0, "<init>", "(IILSnippetStops$Occurrence;I)V"⟩
abbrev cX0_isWithin : ByteArray := prog_2_method_2_code
def yX0_isWithin : MethodName := ⟨RX0, "isWithin", "(LSnippetStops$Occurrence;)Z"⟩
abbrev cX0_changeByRule : ByteArray := prog_2_method_3_code
def yX0_changeByRule : MethodName := ⟨RX0, "changeByRule", "(LSnippetStops$Row;I)V"⟩
abbrev cX0_changed : ByteArray := prog_2_method_4_code
def yX0_changed : MethodName := ⟨RX0, "changed", "(I)I"⟩
def RX1 : String := "SnippetStops$Reader"
def TX1 : u_T := fun k => match k with
  | 0 => ("SnippetStops$Reader", "template", "LSnippetStops$Template;", true)
  | 1 => ("SnippetStops$Reader", "text", "LSnippetStops$Row;", true)
  | 2 => ("SnippetStops$Reader", "variables", "[LSnippetStops$Row;", true)
  | 3 => ("SnippetStops$Reader", "mode", "I", false)
  | 4 => ("SnippetStops$Reader", "place", "I", false)
  | 5 => ("SnippetStops$Reader", "fault", "I", false)
  | 6 => ("SnippetStops$Reader", "number", "I", false)
  | 7 => ("SnippetStops$Reader", "latest", "LSnippetStops$Occurrence;", false)
  | 8 => ("SnippetStops$Reader", "within", "LSnippetStops$Occurrence;", false)
  | _ => ("SnippetStops$Reader", "deep", "I", false)
def tyX1 : Nat → FieldType := fun k => match k with
  | 0 => .object "SnippetStops$Template"
  | 1 => .object "SnippetStops$Row"
  | 2 => .array (.object "SnippetStops$Row")
  | 3 => .int
  | 4 => .int
  | 5 => .int
  | 6 => .int
  | 7 => .object "SnippetStops$Occurrence"
  | 8 => .object "SnippetStops$Occurrence"
  | _ => .int
abbrev wsX10 : List Cond := u_ws RX1 TX1 10
theorem nmX1 : ∀ a, a < 10 → ∀ b, b < 10 → a ≠ b → (TX1 a).2.1 ≠ (TX1 b).2.1 := by decide +kernel
theorem tyX1_ok : ∀ k, k < 10 → parseFieldDescriptor (TX1 k).2.2.1 = some (tyX1 k) := by decide +kernel
abbrev cX1_init : ByteArray := prog_3_method_1_code
def yX1_init : MethodName := ⟨RX1, "<init>", "(LSnippetStops$Row;[LSnippetStops$Row;)V"⟩
abbrev cX1_read : ByteArray := prog_3_method_2_code
def yX1_read : MethodName := ⟨RX1, "read", "()I"⟩
abbrev cX1_take : ByteArray := prog_3_method_3_code
def yX1_take : MethodName := ⟨RX1, "take", "(I)V"⟩
abbrev cX1_takeItem : ByteArray := prog_3_method_4_code
def yX1_takeItem : MethodName := ⟨RX1, "takeItem", "(I)V"⟩
abbrev cX1_takeBehindDollar : ByteArray := prog_3_method_5_code
def yX1_takeBehindDollar : MethodName := ⟨RX1, "takeBehindDollar", "(I)V"⟩
abbrev cX1_takeNumber : ByteArray := prog_3_method_6_code
def yX1_takeNumber : MethodName := ⟨RX1, "takeNumber", "(I)V"⟩
abbrev cX1_takeKind : ByteArray := prog_3_method_7_code
def yX1_takeKind : MethodName := ⟨RX1, "takeKind", "(I)V"⟩
abbrev cX1_takeInChoice : ByteArray := prog_3_method_8_code
def yX1_takeInChoice : MethodName := ⟨RX1, "takeInChoice", "(I)V"⟩
abbrev cX1_takeRule : ByteArray := prog_3_method_9_code
def yX1_takeRule : MethodName := ⟨RX1, "takeRule", "(I)V"⟩
abbrev cX1_takeBehindRule : ByteArray := prog_3_method_10_code
def yX1_takeBehindRule : MethodName := ⟨RX1, "takeBehindRule", "(I)V"⟩
abbrev cX1_takeClosing : ByteArray := prog_3_method_11_code
def yX1_takeClosing : MethodName := ⟨RX1, "takeClosing", "(I)V"⟩
abbrev cX1_canBeInRule : ByteArray := prog_3_method_12_code
def yX1_canBeInRule : MethodName := ⟨RX1, "canBeInRule", "(I)Z"⟩
abbrev cX1_namedRule : ByteArray := prog_3_method_13_code
def yX1_namedRule : MethodName := ⟨RX1, "namedRule", "(I)I"⟩
def RX2 : String := "SnippetStops$Row"
def TX2 : u_T := fun k => match k with
  | 0 => ("SnippetStops$Row", "room", "I", true)
  | 1 => ("SnippetStops$Row", "bytes", "[B", false)
  | _ => ("SnippetStops$Row", "size", "I", false)
def tyX2 : Nat → FieldType := fun k => match k with
  | 0 => .int
  | 1 => .array .byte
  | _ => .int
abbrev wsX20 : List Cond := u_ws RX2 TX2 3
theorem nmX2 : ∀ a, a < 3 → ∀ b, b < 3 → a ≠ b → (TX2 a).2.1 ≠ (TX2 b).2.1 := by decide +kernel
theorem tyX2_ok : ∀ k, k < 3 → parseFieldDescriptor (TX2 k).2.2.1 = some (tyX2 k) := by decide +kernel
abbrev cX2_init : ByteArray := prog_4_method_1_code
def yX2_init : MethodName := ⟨RX2, "<init>", "(I)V"⟩
abbrev cX2_size : ByteArray := prog_4_method_2_code
def yX2_size : MethodName := ⟨RX2, "size", "()I"⟩
abbrev cX2_get : ByteArray := prog_4_method_3_code
def yX2_get : MethodName := ⟨RX2, "get", "(I)I"⟩
abbrev cX2_put : ByteArray := prog_4_method_4_code
def yX2_put : MethodName := ⟨RX2, "put", "(II)V"⟩
abbrev cX2_empty : ByteArray := prog_4_method_5_code
def yX2_empty : MethodName := ⟨RX2, "empty", "()V"⟩
abbrev cX2_add : ByteArray := prog_4_method_6_code
def yX2_add : MethodName := ⟨RX2, "add", "(I)V"⟩
abbrev cX2_addPart : ByteArray := prog_4_method_7_code
def yX2_addPart : MethodName := ⟨RX2, "addPart", "(LSnippetStops$Row;II)V"⟩
abbrev cX2_copyOf : ByteArray := prog_4_method_8_code
def yX2_copyOf : MethodName := ⟨RX2, "copyOf", "(LSnippetStops$Row;)V"⟩
abbrev cX2_insert : ByteArray := prog_4_method_9_code
def yX2_insert : MethodName := ⟨RX2, "insert", "(II)V"⟩
abbrev cX2_remove : ByteArray := prog_4_method_10_code
def yX2_remove : MethodName := ⟨RX2, "remove", "(II)V"⟩
abbrev cX2_reverseFrom : ByteArray := prog_4_method_11_code
def yX2_reverseFrom : MethodName := ⟨RX2, "reverseFrom", "(I)V"⟩
abbrev cX2_widen : ByteArray := prog_4_method_12_code
def yX2_widen : MethodName := ⟨RX2, "widen", "(I)V"⟩
def RX3 : String := "SnippetStops$Session"
def TX3 : u_T := fun k => match k with
  | 0 => ("SnippetStops$Session", "template", "LSnippetStops$Template;", false)
  | 1 => ("SnippetStops$Session", "stop", "I", false)
  | 2 => ("SnippetStops$Session", "fresh", "Z", false)
  | 3 => ("SnippetStops$Session", "set", "[Z", true)
  | 4 => ("SnippetStops$Session", "setTo", "[LSnippetStops$Row;", true)
  | 5 => ("SnippetStops$Session", "before", "[LSnippetStops$Session;", true)
  | 6 => ("SnippetStops$Session", "begins", "[I", true)
  | _ => ("SnippetStops$Session", "lengths", "[I", true)
def tyX3 : Nat → FieldType := fun k => match k with
  | 0 => .object "SnippetStops$Template"
  | 1 => .int
  | 2 => .boolean
  | 3 => .array .boolean
  | 4 => .array (.object "SnippetStops$Row")
  | 5 => .array (.object "SnippetStops$Session")
  | 6 => .array .int
  | _ => .array .int
abbrev wsX30 : List Cond := u_ws RX3 TX3 8
theorem nmX3 : ∀ a, a < 8 → ∀ b, b < 8 → a ≠ b → (TX3 a).2.1 ≠ (TX3 b).2.1 := by decide +kernel
theorem tyX3_ok : ∀ k, k < 8 → parseFieldDescriptor (TX3 k).2.2.1 = some (tyX3 k) := by decide +kernel
abbrev cX3_init : ByteArray := prog_5_method_1_code
def yX3_init : MethodName := ⟨RX3, "<init>", "(LSnippetStops$Template;)V"⟩
abbrev cX3_copyOf : ByteArray := prog_5_method_2_code
def yX3_copyOf : MethodName := ⟨RX3, "copyOf", "(LSnippetStops$Session;)V"⟩
abbrev cX3_begin : ByteArray := prog_5_method_3_code
def yX3_begin : MethodName := ⟨RX3, "begin", "(LSnippetStops$Template;)V"⟩
abbrev cX3_comeTo : ByteArray := prog_5_method_4_code
def yX3_comeTo : MethodName := ⟨RX3, "comeTo", "(I)V"⟩
abbrev cX3_isSet : ByteArray := prog_5_method_5_code
def yX3_isSet : MethodName := ⟨RX3, "isSet", "(I)Z"⟩
abbrev cX3_isThere : ByteArray := prog_5_method_6_code
def yX3_isThere : MethodName := ⟨RX3, "isThere", "(LSnippetStops$Occurrence;)Z"⟩
abbrev cX3_findThere : ByteArray := prog_5_method_7_code
def yX3_findThere : MethodName := ⟨RX3, "findThere", "(II)LSnippetStops$Occurrence;"⟩
abbrev cX3_occurrencesThere : ByteArray := prog_5_method_8_code
def yX3_occurrencesThere : MethodName := ⟨RX3, "occurrencesThere", "(I)I"⟩
abbrev cX3_stopsThere : ByteArray := prog_5_method_9_code
def yX3_stopsThere : MethodName := ⟨RX3, "stopsThere", "()I"⟩
abbrev cX3_leastAbove : ByteArray := prog_5_method_10_code
def yX3_leastAbove : MethodName := ⟨RX3, "leastAbove", "(I)I"⟩
abbrev cX3_greatestBelow : ByteArray := prog_5_method_11_code
def yX3_greatestBelow : MethodName := ⟨RX3, "greatestBelow", "(I)I"⟩
abbrev cX3_choicesThere : ByteArray := prog_5_method_12_code
def yX3_choicesThere : MethodName := ⟨RX3, "choicesThere", "(I)I"⟩
abbrev cX3_addTyped : ByteArray := prog_5_method_13_code
def yX3_addTyped : MethodName := ⟨RX3, "addTyped", "(I)V"⟩
abbrev cX3_rubOut : ByteArray := prog_5_method_14_code
def yX3_rubOut : MethodName := ⟨RX3, "rubOut", "()V"⟩
abbrev cX3_setBeforeEdit : ByteArray := prog_5_method_15_code
def yX3_setBeforeEdit : MethodName := ⟨RX3, "setBeforeEdit", "()V"⟩
abbrev cX3_pick : ByteArray := prog_5_method_16_code
def yX3_pick : MethodName := ⟨RX3, "pick", "(I)V"⟩
abbrev cX3_markSet : ByteArray := prog_5_method_17_code
def yX3_markSet : MethodName := ⟨RX3, "markSet", "(I)V"⟩
abbrev cX3_makeEmpty : ByteArray := prog_5_method_18_code
def yX3_makeEmpty : MethodName := ⟨RX3, "makeEmpty", "(I)V"⟩
abbrev cX3_replaceSet : ByteArray := prog_5_method_19_code
def yX3_replaceSet : MethodName := ⟨RX3, "replaceSet", "(ILSnippetStops$Row;)V"⟩
abbrev cX3_putHeld : ByteArray := prog_5_method_20_code
def yX3_putHeld : MethodName := ⟨RX3, "putHeld", "(ILSnippetStops$Row;)V"⟩
abbrev cX3_layOut : ByteArray := prog_5_method_21_code
def yX3_layOut : MethodName := ⟨RX3, "layOut", "(LSnippetStops$Row;)V"⟩
abbrev cX3_putHeldWhile : ByteArray := prog_5_method_22_code
def yX3_putHeldWhile : MethodName := ⟨RX3, "putHeldWhile", "(LSnippetStops$Row;IIIZ)V"⟩
abbrev cX3_putItems : ByteArray := prog_5_method_23_code
def yX3_putItems : MethodName := ⟨RX3, "putItems", "(LSnippetStops$Row;LSnippetStops$Occurrence;IIZ)V"⟩
abbrev cX3_putOccurrence : ByteArray := prog_5_method_24_code
def yX3_putOccurrence : MethodName := ⟨RX3, "putOccurrence", "(LSnippetStops$Row;LSnippetStops$Occurrence;IIZ)V"⟩
abbrev cX3_beginOf : ByteArray := prog_5_method_25_code
def yX3_beginOf : MethodName := ⟨RX3, "beginOf", "(LSnippetStops$Occurrence;)I"⟩
abbrev cX3_lengthOf : ByteArray := prog_5_method_26_code
def yX3_lengthOf : MethodName := ⟨RX3, "lengthOf", "(LSnippetStops$Occurrence;)I"⟩
abbrev cX3_beginOfUpper : ByteArray := prog_5_method_27_code
def yX3_beginOfUpper : MethodName := ⟨RX3, "beginOfUpper", "()I"⟩
abbrev cX3_unlikePlaces : ByteArray := prog_5_method_28_code
def yX3_unlikePlaces : MethodName := ⟨RX3, "unlikePlaces", "()I"⟩
abbrev cX3_hasLikeAhead : ByteArray := prog_5_method_29_code
def yX3_hasLikeAhead : MethodName := ⟨RX3, "hasLikeAhead", "(LSnippetStops$Occurrence;)Z"⟩
def RX4 : String := "SnippetStops$State"
def TX4 : u_T := fun k => match k with
  | 0 => ("SnippetStops$State", "plain", "LSnippetStops$Row;", true)
  | 1 => ("SnippetStops$State", "caret", "I", false)
  | 2 => ("SnippetStops$State", "variables", "[LSnippetStops$Row;", true)
  | 3 => ("SnippetStops$State", "sessions", "[LSnippetStops$Session;", true)
  | 4 => ("SnippetStops$State", "open", "I", false)
  | _ => ("SnippetStops$State", "shown", "LSnippetStops$Row;", true)
def tyX4 : Nat → FieldType := fun k => match k with
  | 0 => .object "SnippetStops$Row"
  | 1 => .int
  | 2 => .array (.object "SnippetStops$Row")
  | 3 => .array (.object "SnippetStops$Session")
  | 4 => .int
  | _ => .object "SnippetStops$Row"
abbrev wsX40 : List Cond := u_ws RX4 TX4 6
theorem nmX4 : ∀ a, a < 6 → ∀ b, b < 6 → a ≠ b → (TX4 a).2.1 ≠ (TX4 b).2.1 := by decide +kernel
theorem tyX4_ok : ∀ k, k < 6 → parseFieldDescriptor (TX4 k).2.2.1 = some (tyX4 k) := by decide +kernel
abbrev cX4_init : ByteArray := prog_6_method_1_code
def yX4_init : MethodName := ⟨RX4, "<init>", "(LSnippetStops$Template;)V"⟩
abbrev cX4_copyOf : ByteArray := prog_6_method_2_code
def yX4_copyOf : MethodName := ⟨RX4, "copyOf", "(LSnippetStops$State;)V"⟩
abbrev cX4_uppermost : ByteArray := prog_6_method_3_code
def yX4_uppermost : MethodName := ⟨RX4, "uppermost", "()LSnippetStops$Session;"⟩
abbrev cX4_openSession : ByteArray := prog_6_method_4_code
def yX4_openSession : MethodName := ⟨RX4, "openSession", "(LSnippetStops$Template;)I"⟩
abbrev cX4_comeTo : ByteArray := prog_6_method_5_code
def yX4_comeTo : MethodName := ⟨RX4, "comeTo", "(I)V"⟩
abbrev cX4_endUppermost : ByteArray := prog_6_method_6_code
def yX4_endUppermost : MethodName := ⟨RX4, "endUppermost", "()V"⟩
abbrev cX4_insertAtCaret : ByteArray := prog_6_method_7_code
def yX4_insertAtCaret : MethodName := ⟨RX4, "insertAtCaret", "(I)V"⟩
abbrev cX4_removeBytes : ByteArray := prog_6_method_8_code
def yX4_removeBytes : MethodName := ⟨RX4, "removeBytes", "(II)V"⟩
abbrev cX4_settle : ByteArray := prog_6_method_9_code
def yX4_settle : MethodName := ⟨RX4, "settle", "()Z"⟩
abbrev cX4_beginOfUppermost : ByteArray := prog_6_method_10_code
def yX4_beginOfUppermost : MethodName := ⟨RX4, "beginOfUppermost", "()I"⟩
def RX5 : String := "SnippetStops$Template"
def TX5 : u_T := fun k => match k with
  | 0 => ("SnippetStops$Template", "codes", "LSnippetStops$Row;", true)
  | 1 => ("SnippetStops$Template", "occurrences", "[LSnippetStops$Occurrence;", true)
  | 2 => ("SnippetStops$Template", "occurrenceCount", "I", false)
  | _ => ("SnippetStops$Template", "masters", "[LSnippetStops$Occurrence;", true)
def tyX5 : Nat → FieldType := fun k => match k with
  | 0 => .object "SnippetStops$Row"
  | 1 => .array (.object "SnippetStops$Occurrence")
  | 2 => .int
  | _ => .array (.object "SnippetStops$Occurrence")
abbrev wsX50 : List Cond := u_ws RX5 TX5 4
theorem nmX5 : ∀ a, a < 4 → ∀ b, b < 4 → a ≠ b → (TX5 a).2.1 ≠ (TX5 b).2.1 := by decide +kernel
theorem tyX5_ok : ∀ k, k < 4 → parseFieldDescriptor (TX5 k).2.2.1 = some (tyX5 k) := by decide +kernel
abbrev cX5_init : ByteArray := prog_7_method_1_code
def yX5_init : MethodName := ⟨RX5, "<init>", "()V"⟩
abbrev cX5_size : ByteArray := prog_7_method_2_code
def yX5_size : MethodName := ⟨RX5, "size", "()I"⟩
abbrev cX5_isFull : ByteArray := prog_7_method_3_code
def yX5_isFull : MethodName := ⟨RX5, "isFull", "()Z"⟩
abbrev cX5_get : ByteArray := prog_7_method_4_code
def yX5_get : MethodName := ⟨RX5, "get", "(I)LSnippetStops$Occurrence;"⟩
abbrev cX5_fromCode : ByteArray := prog_7_method_5_code
def yX5_fromCode : MethodName := ⟨RX5, "fromCode", "(I)LSnippetStops$Occurrence;"⟩
abbrev cX5_masterOf : ByteArray := prog_7_method_6_code
def yX5_masterOf : MethodName := ⟨RX5, "masterOf", "(I)LSnippetStops$Occurrence;"⟩
abbrev cX5_isMaster : ByteArray := prog_7_method_7_code
def yX5_isMaster : MethodName := ⟨RX5, "isMaster", "(LSnippetStops$Occurrence;)Z"⟩
abbrev cX5_addOccurrence : ByteArray := prog_7_method_8_code
def yX5_addOccurrence : MethodName := ⟨RX5, "addOccurrence", "(ILSnippetStops$Occurrence;)LSnippetStops$Occurrence;"⟩
abbrev cX5_settleMasters : ByteArray := prog_7_method_9_code
def yX5_settleMasters : MethodName := ⟨RX5, "settleMasters", "()V"⟩
abbrev cX5_offerMaster : ByteArray := prog_7_method_10_code
def yX5_offerMaster : MethodName := ⟨RX5, "offerMaster", "(LSnippetStops$Occurrence;)V"⟩
abbrev cX5_isThereAtFirst : ByteArray := prog_7_method_11_code
def yX5_isThereAtFirst : MethodName := ⟨RX5, "isThereAtFirst", "(LSnippetStops$Occurrence;)Z"⟩
abbrev cX5_putChoice : ByteArray := prog_7_method_12_code
def yX5_putChoice : MethodName := ⟨RX5, "putChoice", "(IILSnippetStops$Row;)V"⟩
def RX6 : String := "SnippetStops"
def TX6 : u_T := fun k => match k with
  | 0 => ("SnippetStops", "text", "LSnippetStops$Row;", true)
  | 1 => ("SnippetStops", "looked", "LSnippetStops$Row;", true)
  | 2 => ("SnippetStops", "past", "[LSnippetStops$State;", true)
  | 3 => ("SnippetStops", "pastCount", "I", false)
  | 4 => ("SnippetStops", "now", "LSnippetStops$State;", false)
  | 5 => ("SnippetStops", "draft", "LSnippetStops$State;", false)
  | 6 => ("SnippetStops", "badCount", "I", false)
  | 7 => ("SnippetStops", "noCount", "I", false)
  | _ => ("SnippetStops", "fullCount", "I", false)
def tyX6 : Nat → FieldType := fun k => match k with
  | 0 => .object "SnippetStops$Row"
  | 1 => .object "SnippetStops$Row"
  | 2 => .array (.object "SnippetStops$State")
  | 3 => .int
  | 4 => .object "SnippetStops$State"
  | 5 => .object "SnippetStops$State"
  | 6 => .int
  | 7 => .int
  | _ => .int
abbrev wsX60 : List Cond := u_ws RX6 TX6 9
theorem nmX6 : ∀ a, a < 9 → ∀ b, b < 9 → a ≠ b → (TX6 a).2.1 ≠ (TX6 b).2.1 := by decide +kernel
theorem tyX6_ok : ∀ k, k < 9 → parseFieldDescriptor (TX6 k).2.2.1 = some (tyX6 k) := by decide +kernel
abbrev cX6_init : ByteArray := prog_1_method_1_code
def yX6_init : MethodName := ⟨RX6, "<init>", "()V"⟩
abbrev cX6_type : ByteArray := prog_1_method_2_code
def yX6_type : MethodName := ⟨RX6, "type", "(I)I"⟩
abbrev cX6_clear : ByteArray := prog_1_method_3_code
def yX6_clear : MethodName := ⟨RX6, "clear", "()I"⟩
abbrev cX6_variable : ByteArray := prog_1_method_4_code
def yX6_variable : MethodName := ⟨RX6, "variable", "(I)I"⟩
abbrev cX6_begins : ByteArray := prog_1_method_5_code
def yX6_begins : MethodName := ⟨RX6, "begins", "()I"⟩
abbrev cX6_key : ByteArray := prog_1_method_6_code
def yX6_key : MethodName := ⟨RX6, "key", "(I)I"⟩
abbrev cX6_rubs : ByteArray := prog_1_method_7_code
def yX6_rubs : MethodName := ⟨RX6, "rubs", "()I"⟩
abbrev cX6_nexts : ByteArray := prog_1_method_8_code
def yX6_nexts : MethodName := ⟨RX6, "nexts", "()I"⟩
abbrev cX6_prevs : ByteArray := prog_1_method_9_code
def yX6_prevs : MethodName := ⟨RX6, "prevs", "()I"⟩
abbrev cX6_picks : ByteArray := prog_1_method_10_code
def yX6_picks : MethodName := ⟨RX6, "picks", "(I)I"⟩
abbrev cX6_ends : ByteArray := prog_1_method_11_code
def yX6_ends : MethodName := ⟨RX6, "ends", "()I"⟩
abbrev cX6_caret : ByteArray := prog_1_method_12_code
def yX6_caret : MethodName := ⟨RX6, "caret", "(I)I"⟩
abbrev cX6_cuts : ByteArray := prog_1_method_13_code
def yX6_cuts : MethodName := ⟨RX6, "cuts", "(II)I"⟩
abbrev cX6_at : ByteArray := prog_1_method_14_code
def yX6_at : MethodName := ⟨RX6, "at", "(I)I"⟩
abbrev cX6_count : ByteArray := prog_1_method_15_code
def yX6_count : MethodName := ⟨RX6, "count", "(I)I"⟩
abbrev cX6_stop : ByteArray := prog_1_method_16_code
def yX6_stop : MethodName := ⟨RX6, "stop", "(II)I"⟩
abbrev cX6_held : ByteArray := prog_1_method_17_code
def yX6_held : MethodName := ⟨RX6, "held", "(II)I"⟩
abbrev cX6_choice : ByteArray := prog_1_method_18_code
def yX6_choice : MethodName := ⟨RX6, "choice", "(III)I"⟩
abbrev cX6_occurrence : ByteArray := prog_1_method_19_code
def yX6_occurrence : MethodName := ⟨RX6, "occurrence", "(III)I"⟩
abbrev cX6_unlike : ByteArray := prog_1_method_20_code
def yX6_unlike : MethodName := ⟨RX6, "unlike", "()I"⟩
abbrev cX6_variableAt : ByteArray := prog_1_method_21_code
def yX6_variableAt : MethodName := ⟨RX6, "variableAt", "(II)I"⟩
abbrev cX6_back : ByteArray := prog_1_method_22_code
def yX6_back : MethodName := ⟨RX6, "back", "()I"⟩
abbrev cX6_told : ByteArray := prog_1_method_23_code
def yX6_told : MethodName := ⟨RX6, "told", "(I)I"⟩
abbrev cX6_digest : ByteArray := prog_1_method_24_code
def yX6_digest : MethodName := ⟨RX6, "digest", "()J"⟩
abbrev cX6_refuse : ByteArray := prog_1_method_25_code
def yX6_refuse : MethodName := ⟨RX6, "refuse", "(I)I"⟩
abbrev cX6_lands : ByteArray := prog_1_method_26_code
def yX6_lands : MethodName := ⟨RX6, "lands", "()Z"⟩
abbrev cX6_heldBy : ByteArray := prog_1_method_27_code
def yX6_heldBy : MethodName := ⟨RX6, "heldBy", "(LSnippetStops$Session;I)LSnippetStops$Row;"⟩
abbrev cX6_isShown : ByteArray := prog_1_method_28_code
def yX6_isShown : MethodName := ⟨RX6, "isShown", "(I)Z"⟩
abbrev cX6_isDigit : ByteArray := prog_1_method_29_code
def yX6_isDigit : MethodName := ⟨RX6, "isDigit", "(I)Z"⟩
abbrev cX6_isStop : ByteArray := prog_1_method_30_code
def yX6_isStop : MethodName := ⟨RX6, "isStop", "(I)Z"⟩
abbrev cX6_isVariable : ByteArray := prog_1_method_31_code
def yX6_isVariable : MethodName := ⟨RX6, "isVariable", "(I)Z"⟩
abbrev cX6_canBeVariable : ByteArray := prog_1_method_32_code
def yX6_canBeVariable : MethodName := ⟨RX6, "canBeVariable", "(LSnippetStops$Row;)Z"⟩
def RX7 : String := "SnippetStopsModel"
def TX7 : u_T := fun k => match k with
  | 0 => ("SnippetStopsModel", "refused", "[I", true)
  | 1 => ("SnippetStopsModel", "document", "[I", true)
  | 2 => ("SnippetStopsModel", "bytes", "I", false)
  | 3 => ("SnippetStopsModel", "caret", "I", false)
  | 4 => ("SnippetStopsModel", "variables", "[I", true)
  | 5 => ("SnippetStopsModel", "sessions", "I", false)
  | 6 => ("SnippetStopsModel", "nodes", "[I", true)
  | 7 => ("SnippetStopsModel", "node", "[I", true)
  | 8 => ("SnippetStopsModel", "master", "[I", true)
  | 9 => ("SnippetStopsModel", "isSet", "[I", true)
  | 10 => ("SnippetStopsModel", "setMany", "[I", true)
  | 11 => ("SnippetStopsModel", "setFrom", "[I", true)
  | 12 => ("SnippetStopsModel", "setUsed", "[I", true)
  | 13 => ("SnippetStopsModel", "setText", "[I", true)
  | 14 => ("SnippetStopsModel", "atStop", "[I", true)
  | 15 => ("SnippetStopsModel", "isFresh", "[I", true)
  | 16 => ("SnippetStopsModel", "then", "[I", true)
  | 17 => ("SnippetStopsModel", "choiceMany", "[I", true)
  | 18 => ("SnippetStopsModel", "choiceFrom", "[I", true)
  | 19 => ("SnippetStopsModel", "choiceLong", "[I", true)
  | 20 => ("SnippetStopsModel", "choiceBytes", "[I", true)
  | 21 => ("SnippetStopsModel", "ahead", "I", false)
  | 22 => ("SnippetStopsModel", "text", "[I", true)
  | 23 => ("SnippetStopsModel", "length", "I", false)
  | 24 => ("SnippetStopsModel", "readAt", "I", false)
  | 25 => ("SnippetStopsModel", "isFaulty", "Z", false)
  | 26 => ("SnippetStopsModel", "occurrences", "I", false)
  | 27 => ("SnippetStopsModel", "open", "[I", true)
  | 28 => ("SnippetStopsModel", "deep", "I", false)
  | 29 => ("SnippetStopsModel", "shown", "[I", true)
  | 30 => ("SnippetStopsModel", "many", "I", false)
  | 31 => ("SnippetStopsModel", "isTooMuch", "Z", false)
  | 32 => ("SnippetStopsModel", "nextNode", "[I", true)
  | 33 => ("SnippetStopsModel", "endNode", "[I", true)
  | 34 => ("SnippetStopsModel", "made", "[I", true)
  | 35 => ("SnippetStopsModel", "beganAt", "[I", true)
  | 36 => ("SnippetStopsModel", "ofNode", "[I", true)
  | 37 => ("SnippetStopsModel", "isOwn", "[I", true)
  | 38 => ("SnippetStopsModel", "levels", "I", false)
  | 39 => ("SnippetStopsModel", "begin", "[I", true)
  | 40 => ("SnippetStopsModel", "size", "[I", true)
  | 41 => ("SnippetStopsModel", "holding", "[I", true)
  | 42 => ("SnippetStopsModel", "states", "I", false)
  | 43 => ("SnippetStopsModel", "kept", "[I", true)
  | _ => ("SnippetStopsModel", "keptAt", "I", false)
def tyX7 : Nat → FieldType := fun k => match k with
  | 0 => .array .int
  | 1 => .array .int
  | 2 => .int
  | 3 => .int
  | 4 => .array .int
  | 5 => .int
  | 6 => .array .int
  | 7 => .array .int
  | 8 => .array .int
  | 9 => .array .int
  | 10 => .array .int
  | 11 => .array .int
  | 12 => .array .int
  | 13 => .array .int
  | 14 => .array .int
  | 15 => .array .int
  | 16 => .array .int
  | 17 => .array .int
  | 18 => .array .int
  | 19 => .array .int
  | 20 => .array .int
  | 21 => .int
  | 22 => .array .int
  | 23 => .int
  | 24 => .int
  | 25 => .boolean
  | 26 => .int
  | 27 => .array .int
  | 28 => .int
  | 29 => .array .int
  | 30 => .int
  | 31 => .boolean
  | 32 => .array .int
  | 33 => .array .int
  | 34 => .array .int
  | 35 => .array .int
  | 36 => .array .int
  | 37 => .array .int
  | 38 => .int
  | 39 => .array .int
  | 40 => .array .int
  | 41 => .array .int
  | 42 => .int
  | 43 => .array .int
  | _ => .int
abbrev wsX70 : List Cond := u_ws RX7 TX7 45
theorem nmX7 : ∀ a, a < 45 → ∀ b, b < 45 → a ≠ b → (TX7 a).2.1 ≠ (TX7 b).2.1 := by decide +kernel
theorem tyX7_ok : ∀ k, k < 45 → parseFieldDescriptor (TX7 k).2.2.1 = some (tyX7 k) := by decide +kernel
abbrev cX7_init : ByteArray := prog_9_method_1_code
def yX7_init : MethodName := ⟨RX7, "<init>", "()V"⟩
abbrev cX7_bad : ByteArray := prog_9_method_2_code
def yX7_bad : MethodName := ⟨RX7, "bad", "()I"⟩
abbrev cX7_no : ByteArray := prog_9_method_3_code
def yX7_no : MethodName := ⟨RX7, "no", "()I"⟩
abbrev cX7_full : ByteArray := prog_9_method_4_code
def yX7_full : MethodName := ⟨RX7, "full", "()I"⟩
abbrev cX7_in : ByteArray := prog_9_method_5_code
def yX7_in : MethodName := ⟨RX7, "in", "(III)Z"⟩
abbrev cX7_cell : ByteArray := prog_9_method_6_code
def yX7_cell : MethodName := ⟨RX7, "cell", "(III)I"⟩
abbrev cX7_kind : ByteArray := prog_9_method_7_code
def yX7_kind : MethodName := ⟨RX7, "kind", "(II)I"⟩
abbrev cX7_value : ByteArray := prog_9_method_8_code
def yX7_value : MethodName := ⟨RX7, "value", "(II)I"⟩
abbrev cX7_behind : ByteArray := prog_9_method_9_code
def yX7_behind : MethodName := ⟨RX7, "behind", "(II)I"⟩
abbrev cX7_isThere : ByteArray := prog_9_method_10_code
def yX7_isThere : MethodName := ⟨RX7, "isThere", "(II)Z"⟩
abbrev cX7_isOccurrence : ByteArray := prog_9_method_11_code
def yX7_isOccurrence : MethodName := ⟨RX7, "isOccurrence", "(II)Z"⟩
abbrev cX7_masterOf : ByteArray := prog_9_method_12_code
def yX7_masterOf : MethodName := ⟨RX7, "masterOf", "(II)I"⟩
abbrev cX7_isSet : ByteArray := prog_9_method_13_code
def yX7_isSet : MethodName := ⟨RX7, "isSet", "(II)Z"⟩
abbrev cX7_isStopThere : ByteArray := prog_9_method_14_code
def yX7_isStopThere : MethodName := ⟨RX7, "isStopThere", "(II)Z"⟩
abbrev cX7_here : ByteArray := prog_9_method_15_code
def yX7_here : MethodName := ⟨RX7, "here", "()I"⟩
abbrev cX7_takes : ByteArray := prog_9_method_16_code
def yX7_takes : MethodName := ⟨RX7, "takes", "(II)I"⟩
abbrev cX7_comes : ByteArray := prog_9_method_17_code
def yX7_comes : MethodName := ⟨RX7, "comes", "(III)I"⟩
abbrev cX7_plain : ByteArray := prog_9_method_18_code
def yX7_plain : MethodName := ⟨RX7, "plain", "()I"⟩
abbrev cX7_ruleOf : ByteArray := prog_9_method_19_code
def yX7_ruleOf : MethodName := ⟨RX7, "ruleOf", "(I)I"⟩
abbrev cX7_canBeRuled : ByteArray := prog_9_method_20_code
def yX7_canBeRuled : MethodName := ⟨RX7, "canBeRuled", "(I)Z"⟩
abbrev cX7_readsRule : ByteArray := prog_9_method_21_code
def yX7_readsRule : MethodName := ⟨RX7, "readsRule", "(II)V"⟩
abbrev cX7_beginsChoice : ByteArray := prog_9_method_22_code
def yX7_beginsChoice : MethodName := ⟨RX7, "beginsChoice", "(I)V"⟩
abbrev cX7_choiceByte : ByteArray := prog_9_method_23_code
def yX7_choiceByte : MethodName := ⟨RX7, "choiceByte", "(II)V"⟩
abbrev cX7_readsChoices : ByteArray := prog_9_method_24_code
def yX7_readsChoices : MethodName := ⟨RX7, "readsChoices", "(II)V"⟩
abbrev cX7_readsStop : ByteArray := prog_9_method_25_code
def yX7_readsStop : MethodName := ⟨RX7, "readsStop", "(I)V"⟩
abbrev cX7_readsDollar : ByteArray := prog_9_method_26_code
def yX7_readsDollar : MethodName := ⟨RX7, "readsDollar", "(I)V"⟩
abbrev cX7_reads : ByteArray := prog_9_method_27_code
def yX7_reads : MethodName := ⟨RX7, "reads", "(I)Z"⟩
abbrev cX7_isFull : ByteArray := prog_9_method_28_code
def yX7_isFull : MethodName := ⟨RX7, "isFull", "(II)Z"⟩
abbrev cX7_settles : ByteArray := prog_9_method_29_code
def yX7_settles : MethodName := ⟨RX7, "settles", "(I)V"⟩
abbrev cX7_shows : ByteArray := prog_9_method_30_code
def yX7_shows : MethodName := ⟨RX7, "shows", "(I)V"⟩
abbrev cX7_upper : ByteArray := prog_9_method_31_code
def yX7_upper : MethodName := ⟨RX7, "upper", "(I)I"⟩
abbrev cX7_lower : ByteArray := prog_9_method_32_code
def yX7_lower : MethodName := ⟨RX7, "lower", "(I)I"⟩
abbrev cX7_ruled : ByteArray := prog_9_method_33_code
def yX7_ruled : MethodName := ⟨RX7, "ruled", "(IIIZ)I"⟩
abbrev cX7_rules : ByteArray := prog_9_method_34_code
def yX7_rules : MethodName := ⟨RX7, "rules", "(III)V"⟩
abbrev cX7_opens : ByteArray := prog_9_method_35_code
def yX7_opens : MethodName := ⟨RX7, "opens", "(IIIII)V"⟩
abbrev cX7_showsSet : ByteArray := prog_9_method_36_code
def yX7_showsSet : MethodName := ⟨RX7, "showsSet", "(II)V"⟩
abbrev cX7_showsChoice : ByteArray := prog_9_method_37_code
def yX7_showsChoice : MethodName := ⟨RX7, "showsChoice", "(II)V"⟩
abbrev cX7_showsVariable : ByteArray := prog_9_method_38_code
def yX7_showsVariable : MethodName := ⟨RX7, "showsVariable", "(II)V"⟩
abbrev cX7_closes : ByteArray := prog_9_method_39_code
def yX7_closes : MethodName := ⟨RX7, "closes", "(IIII)V"⟩
abbrev cX7_meets : ByteArray := prog_9_method_40_code
def yX7_meets : MethodName := ⟨RX7, "meets", "(IIII)V"⟩
abbrev cX7_step : ByteArray := prog_9_method_41_code
def yX7_step : MethodName := ⟨RX7, "step", "(I)V"⟩
abbrev cX7_showsAll : ByteArray := prog_9_method_42_code
def yX7_showsAll : MethodName := ⟨RX7, "showsAll", "(I)V"⟩
abbrev cX7_holds : ByteArray := prog_9_method_43_code
def yX7_holds : MethodName := ⟨RX7, "holds", "(II)V"⟩
abbrev cX7_room : ByteArray := prog_9_method_44_code
def yX7_room : MethodName := ⟨RX7, "room", "(III)I"⟩
abbrev cX7_keeps : ByteArray := prog_9_method_45_code
def yX7_keeps : MethodName := ⟨RX7, "keeps", "(II)V"⟩
abbrev cX7_loses : ByteArray := prog_9_method_46_code
def yX7_loses : MethodName := ⟨RX7, "loses", "(II)V"⟩
abbrev cX7_sets : ByteArray := prog_9_method_47_code
def yX7_sets : MethodName := ⟨RX7, "sets", "(III)V"⟩
abbrev cX7_holdsAside : ByteArray := prog_9_method_48_code
def yX7_holdsAside : MethodName := ⟨RX7, "holdsAside", "()I"⟩
abbrev cX7_passesDown : ByteArray := prog_9_method_49_code
def yX7_passesDown : MethodName := ⟨RX7, "passesDown", "()V"⟩
abbrev cX7_put : ByteArray := prog_9_method_50_code
def yX7_put : MethodName := ⟨RX7, "put", "(I)V"⟩
abbrev cX7_take : ByteArray := prog_9_method_51_code
def yX7_take : MethodName := ⟨RX7, "take", "()I"⟩
abbrev cX7_putsSession : ByteArray := prog_9_method_52_code
def yX7_putsSession : MethodName := ⟨RX7, "putsSession", "(I)V"⟩
abbrev cX7_takesSession : ByteArray := prog_9_method_53_code
def yX7_takesSession : MethodName := ⟨RX7, "takesSession", "(I)V"⟩
abbrev cX7_writes : ByteArray := prog_9_method_54_code
def yX7_writes : MethodName := ⟨RX7, "writes", "(I)V"⟩
abbrev cX7_restores : ByteArray := prog_9_method_55_code
def yX7_restores : MethodName := ⟨RX7, "restores", "(I)V"⟩
abbrev cX7_copiesState : ByteArray := prog_9_method_56_code
def yX7_copiesState : MethodName := ⟨RX7, "copiesState", "(II)V"⟩
abbrev cX7_leavesState : ByteArray := prog_9_method_57_code
def yX7_leavesState : MethodName := ⟨RX7, "leavesState", "()V"⟩
abbrev cX7_back : ByteArray := prog_9_method_58_code
def yX7_back : MethodName := ⟨RX7, "back", "()I"⟩
abbrev cX7_documentBytes : ByteArray := prog_9_method_59_code
def yX7_documentBytes : MethodName := ⟨RX7, "documentBytes", "()I"⟩
abbrev cX7_isTooLong : ByteArray := prog_9_method_60_code
def yX7_isTooLong : MethodName := ⟨RX7, "isTooLong", "()Z"⟩
abbrev cX7_documentAt : ByteArray := prog_9_method_61_code
def yX7_documentAt : MethodName := ⟨RX7, "documentAt", "(I)I"⟩
abbrev cX7_done : ByteArray := prog_9_method_62_code
def yX7_done : MethodName := ⟨RX7, "done", "(I)I"⟩
abbrev cX7_doneBytes : ByteArray := prog_9_method_63_code
def yX7_doneBytes : MethodName := ⟨RX7, "doneBytes", "()I"⟩
abbrev cX7_comesIn : ByteArray := prog_9_method_64_code
def yX7_comesIn : MethodName := ⟨RX7, "comesIn", "(II)V"⟩
abbrev cX7_goesOut : ByteArray := prog_9_method_65_code
def yX7_goesOut : MethodName := ⟨RX7, "goesOut", "(II)V"⟩
abbrev cX7_first : ByteArray := prog_9_method_66_code
def yX7_first : MethodName := ⟨RX7, "first", "(II)I"⟩
abbrev cX7_finishes : ByteArray := prog_9_method_67_code
def yX7_finishes : MethodName := ⟨RX7, "finishes", "()V"⟩
abbrev cX7_nextStop : ByteArray := prog_9_method_68_code
def yX7_nextStop : MethodName := ⟨RX7, "nextStop", "(III)I"⟩
abbrev cX7_type : ByteArray := prog_9_method_69_code
def yX7_type : MethodName := ⟨RX7, "type", "(I)I"⟩
abbrev cX7_clear : ByteArray := prog_9_method_70_code
def yX7_clear : MethodName := ⟨RX7, "clear", "()I"⟩
abbrev cX7_variable : ByteArray := prog_9_method_71_code
def yX7_variable : MethodName := ⟨RX7, "variable", "(I)I"⟩
abbrev cX7_begun : ByteArray := prog_9_method_72_code
def yX7_begun : MethodName := ⟨RX7, "begun", "(I)V"⟩
abbrev cX7_begins : ByteArray := prog_9_method_73_code
def yX7_begins : MethodName := ⟨RX7, "begins", "()I"⟩
abbrev cX7_typed : ByteArray := prog_9_method_74_code
def yX7_typed : MethodName := ⟨RX7, "typed", "(I)I"⟩
abbrev cX7_key : ByteArray := prog_9_method_75_code
def yX7_key : MethodName := ⟨RX7, "key", "(I)I"⟩
abbrev cX7_rubbed : ByteArray := prog_9_method_76_code
def yX7_rubbed : MethodName := ⟨RX7, "rubbed", "()I"⟩
abbrev cX7_rubs : ByteArray := prog_9_method_77_code
def yX7_rubs : MethodName := ⟨RX7, "rubs", "()I"⟩
abbrev cX7_goesTo : ByteArray := prog_9_method_78_code
def yX7_goesTo : MethodName := ⟨RX7, "goesTo", "(I)V"⟩
abbrev cX7_nexts : ByteArray := prog_9_method_79_code
def yX7_nexts : MethodName := ⟨RX7, "nexts", "()I"⟩
abbrev cX7_prevs : ByteArray := prog_9_method_80_code
def yX7_prevs : MethodName := ⟨RX7, "prevs", "()I"⟩
abbrev cX7_choicesOf : ByteArray := prog_9_method_81_code
def yX7_choicesOf : MethodName := ⟨RX7, "choicesOf", "(II)I"⟩
abbrev cX7_choiceOf : ByteArray := prog_9_method_82_code
def yX7_choiceOf : MethodName := ⟨RX7, "choiceOf", "(III)I"⟩
abbrev cX7_picks : ByteArray := prog_9_method_83_code
def yX7_picks : MethodName := ⟨RX7, "picks", "(I)I"⟩
abbrev cX7_ends : ByteArray := prog_9_method_84_code
def yX7_ends : MethodName := ⟨RX7, "ends", "()I"⟩
abbrev cX7_caret : ByteArray := prog_9_method_85_code
def yX7_caret : MethodName := ⟨RX7, "caret", "(I)I"⟩
abbrev cX7_cuts : ByteArray := prog_9_method_86_code
def yX7_cuts : MethodName := ⟨RX7, "cuts", "(II)I"⟩
abbrev cX7_at : ByteArray := prog_9_method_87_code
def yX7_at : MethodName := ⟨RX7, "at", "(I)I"⟩
abbrev cX7_stopsThere : ByteArray := prog_9_method_88_code
def yX7_stopsThere : MethodName := ⟨RX7, "stopsThere", "(I)I"⟩
abbrev cX7_countOf : ByteArray := prog_9_method_89_code
def yX7_countOf : MethodName := ⟨RX7, "countOf", "(I)I"⟩
abbrev cX7_count : ByteArray := prog_9_method_90_code
def yX7_count : MethodName := ⟨RX7, "count", "(I)I"⟩
abbrev cX7_heldBytes : ByteArray := prog_9_method_91_code
def yX7_heldBytes : MethodName := ⟨RX7, "heldBytes", "(II)I"⟩
abbrev cX7_occurrencesOf : ByteArray := prog_9_method_92_code
def yX7_occurrencesOf : MethodName := ⟨RX7, "occurrencesOf", "(II)I"⟩
abbrev cX7_stopIs : ByteArray := prog_9_method_93_code
def yX7_stopIs : MethodName := ⟨RX7, "stopIs", "(III)I"⟩
abbrev cX7_stop : ByteArray := prog_9_method_94_code
def yX7_stop : MethodName := ⟨RX7, "stop", "(II)I"⟩
abbrev cX7_held : ByteArray := prog_9_method_95_code
def yX7_held : MethodName := ⟨RX7, "held", "(II)I"⟩
abbrev cX7_choice : ByteArray := prog_9_method_96_code
def yX7_choice : MethodName := ⟨RX7, "choice", "(III)I"⟩
abbrev cX7_base : ByteArray := prog_9_method_97_code
def yX7_base : MethodName := ⟨RX7, "base", "()I"⟩
abbrev cX7_occurrenceIs : ByteArray := prog_9_method_98_code
def yX7_occurrenceIs : MethodName := ⟨RX7, "occurrenceIs", "(III)I"⟩
abbrev cX7_occurrence : ByteArray := prog_9_method_99_code
def yX7_occurrence : MethodName := ⟨RX7, "occurrence", "(III)I"⟩
abbrev cX7_areLike : ByteArray := prog_9_method_100_code
def yX7_areLike : MethodName := ⟨RX7, "areLike", "(III)Z"⟩
abbrev cX7_unlike : ByteArray := prog_9_method_101_code
def yX7_unlike : MethodName := ⟨RX7, "unlike", "()I"⟩
abbrev cX7_variableAt : ByteArray := prog_9_method_102_code
def yX7_variableAt : MethodName := ⟨RX7, "variableAt", "(II)I"⟩
abbrev cX7_toldOf : ByteArray := prog_9_method_103_code
def yX7_toldOf : MethodName := ⟨RX7, "toldOf", "(I)I"⟩
abbrev cX7_told : ByteArray := prog_9_method_104_code
def yX7_told : MethodName := ⟨RX7, "told", "(I)I"⟩
abbrev cX7_digest : ByteArray := prog_9_method_105_code
def yX7_digest : MethodName := ⟨RX7, "digest", "()J"⟩
def RJ9 : String := "java/lang/Math"
def TJ9 : u_T := fun k => match k with
  | _ => ("", "", "", false)
def tyJ9 : Nat → FieldType := fun k => match k with
  | _ => .int
abbrev wsJ90 : List Cond := u_ws RJ9 TJ9 0
theorem nmJ9 : ∀ a, a < 0 → ∀ b, b < 0 → a ≠ b → (TJ9 a).2.1 ≠ (TJ9 b).2.1 := by decide +kernel
theorem tyJ9_ok : ∀ k, k < 0 → parseFieldDescriptor (TJ9 k).2.2.1 = some (tyJ9 k) := by decide +kernel
abbrev cJ9_max_7cf53 : ByteArray := prog_10_method_65_code
def yJ9_max_7cf53 : MethodName := ⟨RJ9, "max", "(II)I"⟩
abbrev cJ9_min_7cf53 : ByteArray := prog_10_method_69_code
def yJ9_min_7cf53 : MethodName := ⟨RJ9, "min", "(II)I"⟩
def RJ10 : String := "java/lang/System"
def TJ10 : u_T := fun k => match k with
  | _ => ("", "", "", false)
def tyJ10 : Nat → FieldType := fun k => match k with
  | _ => .int
abbrev wsJ100 : List Cond := u_ws RJ10 TJ10 0
theorem nmJ10 : ∀ a, a < 0 → ∀ b, b < 0 → a ≠ b → (TJ10 a).2.1 ≠ (TJ10 b).2.1 := by decide +kernel
theorem tyJ10_ok : ∀ k, k < 0 → parseFieldDescriptor (TJ10 k).2.2.1 = some (tyJ10 k) := by decide +kernel
def RL : String := "SnippetStopsLaw"
abbrev cL_law : ByteArray := code
def yL_law : MethodName := ⟨RL, "law", "([I)Z"⟩
abbrev vwCl : List vw_C := [(RX0, TX0, 10), (RX1, TX1, 10), (RX2, TX2, 3), (RX3, TX3, 8), (RX4, TX4, 6), (RX5, TX5, 4), (RX6, TX6, 9), (RX7, TX7, 45)]
end
section
theorem dX1_init_0 : decode cX1_init 0 = .ok (.aload_n 0, 1) := by decide +kernel
theorem dX1_init_1 : decode cX1_init 1 = .ok (.invokespecial 3, 3) := by decide +kernel
theorem dX1_init_4 : decode cX1_init 4 = .ok (.aload_n 0, 1) := by decide +kernel
theorem dX1_init_5 : decode cX1_init 5 = .ok (.new 9, 3) := by decide +kernel
theorem dX1_init_8 : decode cX1_init 8 = .ok (.dup, 1) := by decide +kernel
theorem dX1_init_9 : decode cX1_init 9 = .ok (.invokespecial 11, 3) := by decide +kernel
theorem dX1_init_12 : decode cX1_init 12 = .ok (.putfield 12, 3) := by decide +kernel
theorem dX1_init_15 : decode cX1_init 15 = .ok (.aload_n 0, 1) := by decide +kernel
theorem dX1_init_16 : decode cX1_init 16 = .ok (.iconst 0, 1) := by decide +kernel
theorem dX1_init_17 : decode cX1_init 17 = .ok (.putfield 18, 3) := by decide +kernel
theorem dX1_init_20 : decode cX1_init 20 = .ok (.aload_n 0, 1) := by decide +kernel
theorem dX1_init_21 : decode cX1_init 21 = .ok (.iconst 0, 1) := by decide +kernel
theorem dX1_init_22 : decode cX1_init 22 = .ok (.putfield 22, 3) := by decide +kernel
theorem dX1_init_25 : decode cX1_init 25 = .ok (.aload_n 0, 1) := by decide +kernel
theorem dX1_init_26 : decode cX1_init 26 = .ok (.iconst (-1), 1) := by decide +kernel
theorem dX1_init_27 : decode cX1_init 27 = .ok (.putfield 25, 3) := by decide +kernel
theorem dX1_init_30 : decode cX1_init 30 = .ok (.aload_n 0, 1) := by decide +kernel
theorem dX1_init_31 : decode cX1_init 31 = .ok (.iconst 0, 1) := by decide +kernel
theorem dX1_init_32 : decode cX1_init 32 = .ok (.putfield 28, 3) := by decide +kernel
theorem dX1_init_35 : decode cX1_init 35 = .ok (.aload_n 0, 1) := by decide +kernel
theorem dX1_init_36 : decode cX1_init 36 = .ok (.aconst_null, 1) := by decide +kernel
theorem dX1_init_37 : decode cX1_init 37 = .ok (.putfield 31, 3) := by decide +kernel
theorem dX1_init_40 : decode cX1_init 40 = .ok (.aload_n 0, 1) := by decide +kernel
theorem dX1_init_41 : decode cX1_init 41 = .ok (.aconst_null, 1) := by decide +kernel
theorem dX1_init_42 : decode cX1_init 42 = .ok (.putfield 35, 3) := by decide +kernel
theorem dX1_init_45 : decode cX1_init 45 = .ok (.aload_n 0, 1) := by decide +kernel
theorem dX1_init_46 : decode cX1_init 46 = .ok (.iconst 0, 1) := by decide +kernel
theorem dX1_init_47 : decode cX1_init 47 = .ok (.putfield 38, 3) := by decide +kernel
theorem dX1_init_50 : decode cX1_init 50 = .ok (.aload_n 0, 1) := by decide +kernel
theorem dX1_init_51 : decode cX1_init 51 = .ok (.aload_n 1, 1) := by decide +kernel
theorem dX1_init_52 : decode cX1_init 52 = .ok (.putfield 41, 3) := by decide +kernel
theorem dX1_init_55 : decode cX1_init 55 = .ok (.aload_n 0, 1) := by decide +kernel
theorem dX1_init_56 : decode cX1_init 56 = .ok (.aload_n 2, 1) := by decide +kernel
theorem dX1_init_57 : decode cX1_init 57 = .ok (.putfield 45, 3) := by decide +kernel
theorem dX1_init_60 : decode cX1_init 60 = .ok (.return_, 1) := by decide +kernel
theorem dX1_read_0 : decode cX1_read 0 = .ok (.iconst 0, 1) := by decide +kernel
theorem dX1_read_1 : decode cX1_read 1 = .ok (.istore_n 1, 1) := by decide +kernel
theorem dX1_read_2 : decode cX1_read 2 = .ok (.iload_n 1, 1) := by decide +kernel
theorem dX1_read_3 : decode cX1_read 3 = .ok (.aload_n 0, 1) := by decide +kernel
theorem dX1_read_4 : decode cX1_read 4 = .ok (.getfield 41, 3) := by decide +kernel
theorem dX1_read_7 : decode cX1_read 7 = .ok (.invokevirtual 49, 3) := by decide +kernel
theorem dX1_read_10 : decode cX1_read 10 = .ok (.if_icmp .ge 34, 3) := by decide +kernel
theorem dX1_read_13 : decode cX1_read 13 = .ok (.aload_n 0, 1) := by decide +kernel
theorem dX1_read_14 : decode cX1_read 14 = .ok (.getfield 25, 3) := by decide +kernel
theorem dX1_read_17 : decode cX1_read 17 = .ok (.iconst (-1), 1) := by decide +kernel
theorem dX1_read_18 : decode cX1_read 18 = .ok (.if_icmp .ne 26, 3) := by decide +kernel
theorem dX1_read_21 : decode cX1_read 21 = .ok (.aload_n 0, 1) := by decide +kernel
theorem dX1_read_22 : decode cX1_read 22 = .ok (.iload_n 1, 1) := by decide +kernel
theorem dX1_read_23 : decode cX1_read 23 = .ok (.putfield 22, 3) := by decide +kernel
theorem dX1_read_26 : decode cX1_read 26 = .ok (.aload_n 0, 1) := by decide +kernel
theorem dX1_read_27 : decode cX1_read 27 = .ok (.aload_n 0, 1) := by decide +kernel
theorem dX1_read_28 : decode cX1_read 28 = .ok (.getfield 41, 3) := by decide +kernel
theorem dX1_read_31 : decode cX1_read 31 = .ok (.iload_n 1, 1) := by decide +kernel
theorem dX1_read_32 : decode cX1_read 32 = .ok (.invokevirtual 55, 3) := by decide +kernel
theorem dX1_read_35 : decode cX1_read 35 = .ok (.invokevirtual 59, 3) := by decide +kernel
theorem dX1_read_38 : decode cX1_read 38 = .ok (.iinc 1 1, 3) := by decide +kernel
theorem dX1_read_41 : decode cX1_read 41 = .ok (.goto (-39), 3) := by decide +kernel
theorem dX1_read_44 : decode cX1_read 44 = .ok (.aload_n 0, 1) := by decide +kernel
theorem dX1_read_45 : decode cX1_read 45 = .ok (.getfield 25, 3) := by decide +kernel
theorem dX1_read_48 : decode cX1_read 48 = .ok (.iconst (-1), 1) := by decide +kernel
theorem dX1_read_49 : decode cX1_read 49 = .ok (.if_icmp .ne 28, 3) := by decide +kernel
theorem dX1_read_52 : decode cX1_read 52 = .ok (.aload_n 0, 1) := by decide +kernel
theorem dX1_read_53 : decode cX1_read 53 = .ok (.getfield 18, 3) := by decide +kernel
theorem dX1_read_56 : decode cX1_read 56 = .ok (.ifCond .ne 10, 3) := by decide +kernel
theorem dX1_read_59 : decode cX1_read 59 = .ok (.aload_n 0, 1) := by decide +kernel
theorem dX1_read_60 : decode cX1_read 60 = .ok (.getfield 35, 3) := by decide +kernel
theorem dX1_read_63 : decode cX1_read 63 = .ok (.ifnull 14, 3) := by decide +kernel
theorem dX1_read_66 : decode cX1_read 66 = .ok (.aload_n 0, 1) := by decide +kernel
theorem dX1_read_67 : decode cX1_read 67 = .ok (.aload_n 0, 1) := by decide +kernel
theorem dX1_read_68 : decode cX1_read 68 = .ok (.getfield 41, 3) := by decide +kernel
theorem dX1_read_71 : decode cX1_read 71 = .ok (.invokevirtual 49, 3) := by decide +kernel
theorem dX1_read_74 : decode cX1_read 74 = .ok (.putfield 25, 3) := by decide +kernel
theorem dX1_read_77 : decode cX1_read 77 = .ok (.aload_n 0, 1) := by decide +kernel
theorem dX1_read_78 : decode cX1_read 78 = .ok (.getfield 25, 3) := by decide +kernel
theorem dX1_read_81 : decode cX1_read 81 = .ok (.iconst (-1), 1) := by decide +kernel
theorem dX1_read_82 : decode cX1_read 82 = .ok (.if_icmp .ne 10, 3) := by decide +kernel
theorem dX1_read_85 : decode cX1_read 85 = .ok (.aload_n 0, 1) := by decide +kernel
theorem dX1_read_86 : decode cX1_read 86 = .ok (.getfield 12, 3) := by decide +kernel
theorem dX1_read_89 : decode cX1_read 89 = .ok (.invokevirtual 63, 3) := by decide +kernel
theorem dX1_read_92 : decode cX1_read 92 = .ok (.aload_n 0, 1) := by decide +kernel
theorem dX1_read_93 : decode cX1_read 93 = .ok (.getfield 25, 3) := by decide +kernel
theorem dX1_read_96 : decode cX1_read 96 = .ok (.ireturn, 1) := by decide +kernel
theorem dX2_init_0 : decode cX2_init 0 = .ok (.aload_n 0, 1) := by decide +kernel
theorem dX2_init_1 : decode cX2_init 1 = .ok (.invokespecial 3, 3) := by decide +kernel
theorem dX2_init_4 : decode cX2_init 4 = .ok (.aload_n 0, 1) := by decide +kernel
theorem dX2_init_5 : decode cX2_init 5 = .ok (.iconst 0, 1) := by decide +kernel
theorem dX2_init_6 : decode cX2_init 6 = .ok (.newarray .byte, 2) := by decide +kernel
theorem dX2_init_8 : decode cX2_init 8 = .ok (.putfield 9, 3) := by decide +kernel
theorem dX2_init_11 : decode cX2_init 11 = .ok (.aload_n 0, 1) := by decide +kernel
theorem dX2_init_12 : decode cX2_init 12 = .ok (.iconst 0, 1) := by decide +kernel
theorem dX2_init_13 : decode cX2_init 13 = .ok (.putfield 15, 3) := by decide +kernel
theorem dX2_init_16 : decode cX2_init 16 = .ok (.aload_n 0, 1) := by decide +kernel
theorem dX2_init_17 : decode cX2_init 17 = .ok (.iload_n 1, 1) := by decide +kernel
theorem dX2_init_18 : decode cX2_init 18 = .ok (.putfield 19, 3) := by decide +kernel
theorem dX2_init_21 : decode cX2_init 21 = .ok (.return_, 1) := by decide +kernel
theorem dX2_size_0 : decode cX2_size 0 = .ok (.aload_n 0, 1) := by decide +kernel
theorem dX2_size_1 : decode cX2_size 1 = .ok (.getfield 15, 3) := by decide +kernel
theorem dX2_size_4 : decode cX2_size 4 = .ok (.ireturn, 1) := by decide +kernel
theorem dX2_get_0 : decode cX2_get 0 = .ok (.iload_n 1, 1) := by decide +kernel
theorem dX2_get_1 : decode cX2_get 1 = .ok (.ifCond .lt 11, 3) := by decide +kernel
theorem dX2_get_4 : decode cX2_get 4 = .ok (.iload_n 1, 1) := by decide +kernel
theorem dX2_get_5 : decode cX2_get 5 = .ok (.aload_n 0, 1) := by decide +kernel
theorem dX2_get_6 : decode cX2_get 6 = .ok (.getfield 15, 3) := by decide +kernel
theorem dX2_get_9 : decode cX2_get 9 = .ok (.if_icmp .lt 7, 3) := by decide +kernel
theorem dX2_get_12 : decode cX2_get 12 = .ok (.iconst (-1), 1) := by decide +kernel
theorem dX2_get_13 : decode cX2_get 13 = .ok (.goto 13, 3) := by decide +kernel
theorem dX2_get_16 : decode cX2_get 16 = .ok (.aload_n 0, 1) := by decide +kernel
theorem dX2_get_17 : decode cX2_get 17 = .ok (.getfield 9, 3) := by decide +kernel
theorem dX2_get_20 : decode cX2_get 20 = .ok (.iload_n 1, 1) := by decide +kernel
theorem dX2_get_21 : decode cX2_get 21 = .ok (.baload, 1) := by decide +kernel
theorem dX2_get_22 : decode cX2_get 22 = .ok (.sipush 255, 3) := by decide +kernel
theorem dX2_get_25 : decode cX2_get 25 = .ok (.iand, 1) := by decide +kernel
theorem dX2_get_26 : decode cX2_get 26 = .ok (.ireturn, 1) := by decide +kernel
theorem dX2_put_0 : decode cX2_put 0 = .ok (.iload_n 1, 1) := by decide +kernel
theorem dX2_put_1 : decode cX2_put 1 = .ok (.ifCond .lt 19, 3) := by decide +kernel
theorem dX2_put_4 : decode cX2_put 4 = .ok (.iload_n 1, 1) := by decide +kernel
theorem dX2_put_5 : decode cX2_put 5 = .ok (.aload_n 0, 1) := by decide +kernel
theorem dX2_put_6 : decode cX2_put 6 = .ok (.getfield 15, 3) := by decide +kernel
theorem dX2_put_9 : decode cX2_put 9 = .ok (.if_icmp .ge 11, 3) := by decide +kernel
theorem dX2_put_12 : decode cX2_put 12 = .ok (.aload_n 0, 1) := by decide +kernel
theorem dX2_put_13 : decode cX2_put 13 = .ok (.getfield 9, 3) := by decide +kernel
theorem dX2_put_16 : decode cX2_put 16 = .ok (.iload_n 1, 1) := by decide +kernel
theorem dX2_put_17 : decode cX2_put 17 = .ok (.iload_n 2, 1) := by decide +kernel
theorem dX2_put_18 : decode cX2_put 18 = .ok (.i2b, 1) := by decide +kernel
theorem dX2_put_19 : decode cX2_put 19 = .ok (.bastore, 1) := by decide +kernel
theorem dX2_put_20 : decode cX2_put 20 = .ok (.return_, 1) := by decide +kernel
theorem dX2_empty_0 : decode cX2_empty 0 = .ok (.aload_n 0, 1) := by decide +kernel
theorem dX2_empty_1 : decode cX2_empty 1 = .ok (.iconst 0, 1) := by decide +kernel
theorem dX2_empty_2 : decode cX2_empty 2 = .ok (.putfield 15, 3) := by decide +kernel
theorem dX2_empty_5 : decode cX2_empty 5 = .ok (.return_, 1) := by decide +kernel
theorem dX2_add_0 : decode cX2_add 0 = .ok (.aload_n 0, 1) := by decide +kernel
theorem dX2_add_1 : decode cX2_add 1 = .ok (.getfield 15, 3) := by decide +kernel
theorem dX2_add_4 : decode cX2_add 4 = .ok (.aload_n 0, 1) := by decide +kernel
theorem dX2_add_5 : decode cX2_add 5 = .ok (.getfield 19, 3) := by decide +kernel
theorem dX2_add_8 : decode cX2_add 8 = .ok (.if_icmp .ge 34, 3) := by decide +kernel
theorem dX2_add_11 : decode cX2_add 11 = .ok (.aload_n 0, 1) := by decide +kernel
theorem dX2_add_12 : decode cX2_add 12 = .ok (.aload_n 0, 1) := by decide +kernel
theorem dX2_add_13 : decode cX2_add 13 = .ok (.getfield 15, 3) := by decide +kernel
theorem dX2_add_16 : decode cX2_add 16 = .ok (.iconst 1, 1) := by decide +kernel
theorem dX2_add_17 : decode cX2_add 17 = .ok (.iadd, 1) := by decide +kernel
theorem dX2_add_18 : decode cX2_add 18 = .ok (.invokevirtual 22, 3) := by decide +kernel
theorem dX2_add_21 : decode cX2_add 21 = .ok (.aload_n 0, 1) := by decide +kernel
theorem dX2_add_22 : decode cX2_add 22 = .ok (.dup, 1) := by decide +kernel
theorem dX2_add_23 : decode cX2_add 23 = .ok (.getfield 15, 3) := by decide +kernel
theorem dX2_add_26 : decode cX2_add 26 = .ok (.iconst 1, 1) := by decide +kernel
theorem dX2_add_27 : decode cX2_add 27 = .ok (.iadd, 1) := by decide +kernel
theorem dX2_add_28 : decode cX2_add 28 = .ok (.putfield 15, 3) := by decide +kernel
theorem dX2_add_31 : decode cX2_add 31 = .ok (.aload_n 0, 1) := by decide +kernel
theorem dX2_add_32 : decode cX2_add 32 = .ok (.aload_n 0, 1) := by decide +kernel
theorem dX2_add_33 : decode cX2_add 33 = .ok (.getfield 15, 3) := by decide +kernel
theorem dX2_add_36 : decode cX2_add 36 = .ok (.iconst 1, 1) := by decide +kernel
theorem dX2_add_37 : decode cX2_add 37 = .ok (.isub, 1) := by decide +kernel
theorem dX2_add_38 : decode cX2_add 38 = .ok (.iload_n 1, 1) := by decide +kernel
theorem dX2_add_39 : decode cX2_add 39 = .ok (.invokevirtual 26, 3) := by decide +kernel
theorem dX2_add_42 : decode cX2_add 42 = .ok (.return_, 1) := by decide +kernel
theorem dX2_addPart_0 : decode cX2_addPart 0 = .ok (.iload_n 3, 1) := by decide +kernel
theorem dX2_addPart_1 : decode cX2_addPart 1 = .ok (.iload_n 2, 1) := by decide +kernel
theorem dX2_addPart_2 : decode cX2_addPart 2 = .ok (.isub, 1) := by decide +kernel
theorem dX2_addPart_3 : decode cX2_addPart 3 = .ok (.aload_n 0, 1) := by decide +kernel
theorem dX2_addPart_4 : decode cX2_addPart 4 = .ok (.getfield 19, 3) := by decide +kernel
theorem dX2_addPart_7 : decode cX2_addPart 7 = .ok (.aload_n 0, 1) := by decide +kernel
theorem dX2_addPart_8 : decode cX2_addPart 8 = .ok (.getfield 15, 3) := by decide +kernel
theorem dX2_addPart_11 : decode cX2_addPart 11 = .ok (.isub, 1) := by decide +kernel
theorem dX2_addPart_12 : decode cX2_addPart 12 = .ok (.invokestatic 30, 3) := by decide +kernel
theorem dX2_addPart_15 : decode cX2_addPart 15 = .ok (.istore 4, 2) := by decide +kernel
theorem dX2_addPart_17 : decode cX2_addPart 17 = .ok (.iload 4, 2) := by decide +kernel
theorem dX2_addPart_19 : decode cX2_addPart 19 = .ok (.ifCond .le 15, 3) := by decide +kernel
theorem dX2_addPart_22 : decode cX2_addPart 22 = .ok (.iload_n 2, 1) := by decide +kernel
theorem dX2_addPart_23 : decode cX2_addPart 23 = .ok (.ifCond .lt 11, 3) := by decide +kernel
theorem dX2_addPart_26 : decode cX2_addPart 26 = .ok (.iload_n 3, 1) := by decide +kernel
theorem dX2_addPart_27 : decode cX2_addPart 27 = .ok (.aload_n 1, 1) := by decide +kernel
theorem dX2_addPart_28 : decode cX2_addPart 28 = .ok (.getfield 15, 3) := by decide +kernel
theorem dX2_addPart_31 : decode cX2_addPart 31 = .ok (.if_icmp .le 4, 3) := by decide +kernel
theorem dX2_addPart_34 : decode cX2_addPart 34 = .ok (.return_, 1) := by decide +kernel
theorem dX2_addPart_35 : decode cX2_addPart 35 = .ok (.aload_n 0, 1) := by decide +kernel
theorem dX2_addPart_36 : decode cX2_addPart 36 = .ok (.aload_n 0, 1) := by decide +kernel
theorem dX2_addPart_37 : decode cX2_addPart 37 = .ok (.getfield 15, 3) := by decide +kernel
theorem dX2_addPart_40 : decode cX2_addPart 40 = .ok (.iload 4, 2) := by decide +kernel
theorem dX2_addPart_42 : decode cX2_addPart 42 = .ok (.iadd, 1) := by decide +kernel
theorem dX2_addPart_43 : decode cX2_addPart 43 = .ok (.invokevirtual 22, 3) := by decide +kernel
theorem dX2_addPart_46 : decode cX2_addPart 46 = .ok (.aload_n 1, 1) := by decide +kernel
theorem dX2_addPart_47 : decode cX2_addPart 47 = .ok (.getfield 9, 3) := by decide +kernel
theorem dX2_addPart_50 : decode cX2_addPart 50 = .ok (.iload_n 2, 1) := by decide +kernel
theorem dX2_addPart_51 : decode cX2_addPart 51 = .ok (.aload_n 0, 1) := by decide +kernel
theorem dX2_addPart_52 : decode cX2_addPart 52 = .ok (.getfield 9, 3) := by decide +kernel
theorem dX2_addPart_55 : decode cX2_addPart 55 = .ok (.aload_n 0, 1) := by decide +kernel
theorem dX2_addPart_56 : decode cX2_addPart 56 = .ok (.getfield 15, 3) := by decide +kernel
theorem dX2_addPart_59 : decode cX2_addPart 59 = .ok (.iload 4, 2) := by decide +kernel
theorem dX2_addPart_61 : decode cX2_addPart 61 = .ok (.invokestatic 36, 3) := by decide +kernel
theorem dX2_addPart_64 : decode cX2_addPart 64 = .ok (.aload_n 0, 1) := by decide +kernel
theorem dX2_addPart_65 : decode cX2_addPart 65 = .ok (.dup, 1) := by decide +kernel
theorem dX2_addPart_66 : decode cX2_addPart 66 = .ok (.getfield 15, 3) := by decide +kernel
theorem dX2_addPart_69 : decode cX2_addPart 69 = .ok (.iload 4, 2) := by decide +kernel
theorem dX2_addPart_71 : decode cX2_addPart 71 = .ok (.iadd, 1) := by decide +kernel
theorem dX2_addPart_72 : decode cX2_addPart 72 = .ok (.putfield 15, 3) := by decide +kernel
theorem dX2_addPart_75 : decode cX2_addPart 75 = .ok (.return_, 1) := by decide +kernel
theorem dX2_copyOf_0 : decode cX2_copyOf 0 = .ok (.aload_n 0, 1) := by decide +kernel
theorem dX2_copyOf_1 : decode cX2_copyOf 1 = .ok (.iconst 0, 1) := by decide +kernel
theorem dX2_copyOf_2 : decode cX2_copyOf 2 = .ok (.putfield 15, 3) := by decide +kernel
theorem dX2_copyOf_5 : decode cX2_copyOf 5 = .ok (.aload_n 0, 1) := by decide +kernel
theorem dX2_copyOf_6 : decode cX2_copyOf 6 = .ok (.aload_n 1, 1) := by decide +kernel
theorem dX2_copyOf_7 : decode cX2_copyOf 7 = .ok (.iconst 0, 1) := by decide +kernel
theorem dX2_copyOf_8 : decode cX2_copyOf 8 = .ok (.aload_n 1, 1) := by decide +kernel
theorem dX2_copyOf_9 : decode cX2_copyOf 9 = .ok (.getfield 15, 3) := by decide +kernel
theorem dX2_copyOf_12 : decode cX2_copyOf 12 = .ok (.invokevirtual 42, 3) := by decide +kernel
theorem dX2_copyOf_15 : decode cX2_copyOf 15 = .ok (.return_, 1) := by decide +kernel
theorem dX2_insert_0 : decode cX2_insert 0 = .ok (.iload_n 1, 1) := by decide +kernel
theorem dX2_insert_1 : decode cX2_insert 1 = .ok (.ifCond .lt 22, 3) := by decide +kernel
theorem dX2_insert_4 : decode cX2_insert 4 = .ok (.iload_n 1, 1) := by decide +kernel
theorem dX2_insert_5 : decode cX2_insert 5 = .ok (.aload_n 0, 1) := by decide +kernel
theorem dX2_insert_6 : decode cX2_insert 6 = .ok (.getfield 15, 3) := by decide +kernel
theorem dX2_insert_9 : decode cX2_insert 9 = .ok (.if_icmp .gt 14, 3) := by decide +kernel
theorem dX2_insert_12 : decode cX2_insert 12 = .ok (.aload_n 0, 1) := by decide +kernel
theorem dX2_insert_13 : decode cX2_insert 13 = .ok (.getfield 15, 3) := by decide +kernel
theorem dX2_insert_16 : decode cX2_insert 16 = .ok (.aload_n 0, 1) := by decide +kernel
theorem dX2_insert_17 : decode cX2_insert 17 = .ok (.getfield 19, 3) := by decide +kernel
theorem dX2_insert_20 : decode cX2_insert 20 = .ok (.if_icmp .lt 4, 3) := by decide +kernel
theorem dX2_insert_23 : decode cX2_insert 23 = .ok (.return_, 1) := by decide +kernel
theorem dX2_insert_24 : decode cX2_insert 24 = .ok (.aload_n 0, 1) := by decide +kernel
theorem dX2_insert_25 : decode cX2_insert 25 = .ok (.iload_n 2, 1) := by decide +kernel
theorem dX2_insert_26 : decode cX2_insert 26 = .ok (.invokevirtual 46, 3) := by decide +kernel
theorem dX2_insert_29 : decode cX2_insert 29 = .ok (.aload_n 0, 1) := by decide +kernel
theorem dX2_insert_30 : decode cX2_insert 30 = .ok (.getfield 15, 3) := by decide +kernel
theorem dX2_insert_33 : decode cX2_insert 33 = .ok (.iconst 1, 1) := by decide +kernel
theorem dX2_insert_34 : decode cX2_insert 34 = .ok (.isub, 1) := by decide +kernel
theorem dX2_insert_35 : decode cX2_insert 35 = .ok (.istore_n 3, 1) := by decide +kernel
theorem dX2_insert_36 : decode cX2_insert 36 = .ok (.iload_n 3, 1) := by decide +kernel
theorem dX2_insert_37 : decode cX2_insert 37 = .ok (.iload_n 1, 1) := by decide +kernel
theorem dX2_insert_38 : decode cX2_insert 38 = .ok (.if_icmp .le 21, 3) := by decide +kernel
theorem dX2_insert_41 : decode cX2_insert 41 = .ok (.aload_n 0, 1) := by decide +kernel
theorem dX2_insert_42 : decode cX2_insert 42 = .ok (.iload_n 3, 1) := by decide +kernel
theorem dX2_insert_43 : decode cX2_insert 43 = .ok (.aload_n 0, 1) := by decide +kernel
theorem dX2_insert_44 : decode cX2_insert 44 = .ok (.iload_n 3, 1) := by decide +kernel
theorem dX2_insert_45 : decode cX2_insert 45 = .ok (.iconst 1, 1) := by decide +kernel
theorem dX2_insert_46 : decode cX2_insert 46 = .ok (.isub, 1) := by decide +kernel
theorem dX2_insert_47 : decode cX2_insert 47 = .ok (.invokevirtual 49, 3) := by decide +kernel
theorem dX2_insert_50 : decode cX2_insert 50 = .ok (.invokevirtual 26, 3) := by decide +kernel
theorem dX2_insert_53 : decode cX2_insert 53 = .ok (.iinc 3 (-1), 3) := by decide +kernel
theorem dX2_insert_56 : decode cX2_insert 56 = .ok (.goto (-20), 3) := by decide +kernel
theorem dX2_insert_59 : decode cX2_insert 59 = .ok (.aload_n 0, 1) := by decide +kernel
theorem dX2_insert_60 : decode cX2_insert 60 = .ok (.iload_n 1, 1) := by decide +kernel
theorem dX2_insert_61 : decode cX2_insert 61 = .ok (.iload_n 2, 1) := by decide +kernel
theorem dX2_insert_62 : decode cX2_insert 62 = .ok (.invokevirtual 26, 3) := by decide +kernel
theorem dX2_insert_65 : decode cX2_insert 65 = .ok (.return_, 1) := by decide +kernel
theorem dX2_widen_0 : decode cX2_widen 0 = .ok (.iload_n 1, 1) := by decide +kernel
theorem dX2_widen_1 : decode cX2_widen 1 = .ok (.aload_n 0, 1) := by decide +kernel
theorem dX2_widen_2 : decode cX2_widen 2 = .ok (.getfield 9, 3) := by decide +kernel
theorem dX2_widen_5 : decode cX2_widen 5 = .ok (.arraylength, 1) := by decide +kernel
theorem dX2_widen_6 : decode cX2_widen 6 = .ok (.if_icmp .le 11, 3) := by decide +kernel
theorem dX2_widen_9 : decode cX2_widen 9 = .ok (.iload_n 1, 1) := by decide +kernel
theorem dX2_widen_10 : decode cX2_widen 10 = .ok (.aload_n 0, 1) := by decide +kernel
theorem dX2_widen_11 : decode cX2_widen 11 = .ok (.getfield 19, 3) := by decide +kernel
theorem dX2_widen_14 : decode cX2_widen 14 = .ok (.if_icmp .le 4, 3) := by decide +kernel
theorem dX2_widen_17 : decode cX2_widen 17 = .ok (.return_, 1) := by decide +kernel
theorem dX2_widen_18 : decode cX2_widen 18 = .ok (.aload_n 0, 1) := by decide +kernel
theorem dX2_widen_19 : decode cX2_widen 19 = .ok (.getfield 9, 3) := by decide +kernel
theorem dX2_widen_22 : decode cX2_widen 22 = .ok (.arraylength, 1) := by decide +kernel
theorem dX2_widen_23 : decode cX2_widen 23 = .ok (.bipush 8, 2) := by decide +kernel
theorem dX2_widen_25 : decode cX2_widen 25 = .ok (.if_icmp .ge 8, 3) := by decide +kernel
theorem dX2_widen_28 : decode cX2_widen 28 = .ok (.bipush 16, 2) := by decide +kernel
theorem dX2_widen_30 : decode cX2_widen 30 = .ok (.goto 10, 3) := by decide +kernel
theorem dX2_widen_33 : decode cX2_widen 33 = .ok (.iconst 2, 1) := by decide +kernel
theorem dX2_widen_34 : decode cX2_widen 34 = .ok (.aload_n 0, 1) := by decide +kernel
theorem dX2_widen_35 : decode cX2_widen 35 = .ok (.getfield 9, 3) := by decide +kernel
theorem dX2_widen_38 : decode cX2_widen 38 = .ok (.arraylength, 1) := by decide +kernel
theorem dX2_widen_39 : decode cX2_widen 39 = .ok (.imul, 1) := by decide +kernel
theorem dX2_widen_40 : decode cX2_widen 40 = .ok (.istore_n 2, 1) := by decide +kernel
theorem dX2_widen_41 : decode cX2_widen 41 = .ok (.iload_n 2, 1) := by decide +kernel
theorem dX2_widen_42 : decode cX2_widen 42 = .ok (.iload_n 1, 1) := by decide +kernel
theorem dX2_widen_43 : decode cX2_widen 43 = .ok (.if_icmp .ge 5, 3) := by decide +kernel
theorem dX2_widen_46 : decode cX2_widen 46 = .ok (.iload_n 1, 1) := by decide +kernel
theorem dX2_widen_47 : decode cX2_widen 47 = .ok (.istore_n 2, 1) := by decide +kernel
theorem dX2_widen_48 : decode cX2_widen 48 = .ok (.iload_n 2, 1) := by decide +kernel
theorem dX2_widen_49 : decode cX2_widen 49 = .ok (.aload_n 0, 1) := by decide +kernel
theorem dX2_widen_50 : decode cX2_widen 50 = .ok (.getfield 19, 3) := by decide +kernel
theorem dX2_widen_53 : decode cX2_widen 53 = .ok (.if_icmp .le 8, 3) := by decide +kernel
theorem dX2_widen_56 : decode cX2_widen 56 = .ok (.aload_n 0, 1) := by decide +kernel
theorem dX2_widen_57 : decode cX2_widen 57 = .ok (.getfield 19, 3) := by decide +kernel
theorem dX2_widen_60 : decode cX2_widen 60 = .ok (.istore_n 2, 1) := by decide +kernel
theorem dX2_widen_61 : decode cX2_widen 61 = .ok (.iload_n 2, 1) := by decide +kernel
theorem dX2_widen_62 : decode cX2_widen 62 = .ok (.newarray .byte, 2) := by decide +kernel
theorem dX2_widen_64 : decode cX2_widen 64 = .ok (.astore_n 3, 1) := by decide +kernel
theorem dX2_widen_65 : decode cX2_widen 65 = .ok (.iconst 0, 1) := by decide +kernel
theorem dX2_widen_66 : decode cX2_widen 66 = .ok (.istore 4, 2) := by decide +kernel
theorem dX2_widen_68 : decode cX2_widen 68 = .ok (.iload 4, 2) := by decide +kernel
theorem dX2_widen_70 : decode cX2_widen 70 = .ok (.aload_n 0, 1) := by decide +kernel
theorem dX2_widen_71 : decode cX2_widen 71 = .ok (.getfield 15, 3) := by decide +kernel
theorem dX2_widen_74 : decode cX2_widen 74 = .ok (.if_icmp .ge 20, 3) := by decide +kernel
theorem dX2_widen_77 : decode cX2_widen 77 = .ok (.aload_n 3, 1) := by decide +kernel
theorem dX2_widen_78 : decode cX2_widen 78 = .ok (.iload 4, 2) := by decide +kernel
theorem dX2_widen_80 : decode cX2_widen 80 = .ok (.aload_n 0, 1) := by decide +kernel
theorem dX2_widen_81 : decode cX2_widen 81 = .ok (.getfield 9, 3) := by decide +kernel
theorem dX2_widen_84 : decode cX2_widen 84 = .ok (.iload 4, 2) := by decide +kernel
theorem dX2_widen_86 : decode cX2_widen 86 = .ok (.baload, 1) := by decide +kernel
theorem dX2_widen_87 : decode cX2_widen 87 = .ok (.bastore, 1) := by decide +kernel
theorem dX2_widen_88 : decode cX2_widen 88 = .ok (.iinc 4 1, 3) := by decide +kernel
theorem dX2_widen_91 : decode cX2_widen 91 = .ok (.goto (-23), 3) := by decide +kernel
theorem dX2_widen_94 : decode cX2_widen 94 = .ok (.aload_n 0, 1) := by decide +kernel
theorem dX2_widen_95 : decode cX2_widen 95 = .ok (.aload_n 3, 1) := by decide +kernel
theorem dX2_widen_96 : decode cX2_widen 96 = .ok (.putfield 9, 3) := by decide +kernel
theorem dX2_widen_99 : decode cX2_widen 99 = .ok (.return_, 1) := by decide +kernel
theorem dX3_init_0 : decode cX3_init 0 = .ok (.aload_n 0, 1) := by decide +kernel
theorem dX3_init_1 : decode cX3_init 1 = .ok (.invokespecial 3, 3) := by decide +kernel
theorem dX3_init_4 : decode cX3_init 4 = .ok (.aload_n 0, 1) := by decide +kernel
theorem dX3_init_5 : decode cX3_init 5 = .ok (.iconst (-1), 1) := by decide +kernel
theorem dX3_init_6 : decode cX3_init 6 = .ok (.putfield 9, 3) := by decide +kernel
theorem dX3_init_9 : decode cX3_init 9 = .ok (.aload_n 0, 1) := by decide +kernel
theorem dX3_init_10 : decode cX3_init 10 = .ok (.iconst 0, 1) := by decide +kernel
theorem dX3_init_11 : decode cX3_init 11 = .ok (.putfield 15, 3) := by decide +kernel
theorem dX3_init_14 : decode cX3_init 14 = .ok (.aload_n 0, 1) := by decide +kernel
theorem dX3_init_15 : decode cX3_init 15 = .ok (.bipush 10, 2) := by decide +kernel
theorem dX3_init_17 : decode cX3_init 17 = .ok (.newarray .boolean, 2) := by decide +kernel
theorem dX3_init_19 : decode cX3_init 19 = .ok (.putfield 19, 3) := by decide +kernel
theorem dX3_init_22 : decode cX3_init 22 = .ok (.aload_n 0, 1) := by decide +kernel
theorem dX3_init_23 : decode cX3_init 23 = .ok (.bipush 10, 2) := by decide +kernel
theorem dX3_init_25 : decode cX3_init 25 = .ok (.anewarray 23, 3) := by decide +kernel
theorem dX3_init_28 : decode cX3_init 28 = .ok (.putfield 25, 3) := by decide +kernel
theorem dX3_init_31 : decode cX3_init 31 = .ok (.aload_n 0, 1) := by decide +kernel
theorem dX3_init_32 : decode cX3_init 32 = .ok (.bipush 10, 2) := by decide +kernel
theorem dX3_init_34 : decode cX3_init 34 = .ok (.anewarray 10, 3) := by decide +kernel
theorem dX3_init_37 : decode cX3_init 37 = .ok (.putfield 29, 3) := by decide +kernel
theorem dX3_init_40 : decode cX3_init 40 = .ok (.aload_n 0, 1) := by decide +kernel
theorem dX3_init_41 : decode cX3_init 41 = .ok (.bipush 16, 2) := by decide +kernel
theorem dX3_init_43 : decode cX3_init 43 = .ok (.newarray .int, 2) := by decide +kernel
theorem dX3_init_45 : decode cX3_init 45 = .ok (.putfield 33, 3) := by decide +kernel
theorem dX3_init_48 : decode cX3_init 48 = .ok (.aload_n 0, 1) := by decide +kernel
theorem dX3_init_49 : decode cX3_init 49 = .ok (.bipush 16, 2) := by decide +kernel
theorem dX3_init_51 : decode cX3_init 51 = .ok (.newarray .int, 2) := by decide +kernel
theorem dX3_init_53 : decode cX3_init 53 = .ok (.putfield 37, 3) := by decide +kernel
theorem dX3_init_56 : decode cX3_init 56 = .ok (.aload_n 0, 1) := by decide +kernel
theorem dX3_init_57 : decode cX3_init 57 = .ok (.aload_n 1, 1) := by decide +kernel
theorem dX3_init_58 : decode cX3_init 58 = .ok (.putfield 40, 3) := by decide +kernel
theorem dX3_init_61 : decode cX3_init 61 = .ok (.iconst 0, 1) := by decide +kernel
theorem dX3_init_62 : decode cX3_init 62 = .ok (.istore_n 2, 1) := by decide +kernel
theorem dX3_init_63 : decode cX3_init 63 = .ok (.iload_n 2, 1) := by decide +kernel
theorem dX3_init_64 : decode cX3_init 64 = .ok (.aload_n 0, 1) := by decide +kernel
theorem dX3_init_65 : decode cX3_init 65 = .ok (.getfield 25, 3) := by decide +kernel
theorem dX3_init_68 : decode cX3_init 68 = .ok (.arraylength, 1) := by decide +kernel
theorem dX3_init_69 : decode cX3_init 69 = .ok (.if_icmp .ge 25, 3) := by decide +kernel
theorem dX3_init_72 : decode cX3_init 72 = .ok (.aload_n 0, 1) := by decide +kernel
theorem dX3_init_73 : decode cX3_init 73 = .ok (.getfield 25, 3) := by decide +kernel
theorem dX3_init_76 : decode cX3_init 76 = .ok (.iload_n 2, 1) := by decide +kernel
theorem dX3_init_77 : decode cX3_init 77 = .ok (.new 23, 3) := by decide +kernel
theorem dX3_init_80 : decode cX3_init 80 = .ok (.dup, 1) := by decide +kernel
theorem dX3_init_81 : decode cX3_init 81 = .ok (.sipush 241, 3) := by decide +kernel
theorem dX3_init_84 : decode cX3_init 84 = .ok (.invokespecial 44, 3) := by decide +kernel
theorem dX3_init_87 : decode cX3_init 87 = .ok (.aastore, 1) := by decide +kernel
theorem dX3_init_88 : decode cX3_init 88 = .ok (.iinc 2 1, 3) := by decide +kernel
theorem dX3_init_91 : decode cX3_init 91 = .ok (.goto (-28), 3) := by decide +kernel
theorem dX3_init_94 : decode cX3_init 94 = .ok (.return_, 1) := by decide +kernel
theorem dX3_begin_0 : decode cX3_begin 0 = .ok (.aload_n 0, 1) := by decide +kernel
theorem dX3_begin_1 : decode cX3_begin 1 = .ok (.aload_n 1, 1) := by decide +kernel
theorem dX3_begin_2 : decode cX3_begin 2 = .ok (.putfield 40, 3) := by decide +kernel
theorem dX3_begin_5 : decode cX3_begin 5 = .ok (.iconst 0, 1) := by decide +kernel
theorem dX3_begin_6 : decode cX3_begin 6 = .ok (.istore_n 2, 1) := by decide +kernel
theorem dX3_begin_7 : decode cX3_begin 7 = .ok (.iload_n 2, 1) := by decide +kernel
theorem dX3_begin_8 : decode cX3_begin 8 = .ok (.bipush 10, 2) := by decide +kernel
theorem dX3_begin_10 : decode cX3_begin 10 = .ok (.if_icmp .ge 23, 3) := by decide +kernel
theorem dX3_begin_13 : decode cX3_begin 13 = .ok (.aload_n 0, 1) := by decide +kernel
theorem dX3_begin_14 : decode cX3_begin 14 = .ok (.getfield 19, 3) := by decide +kernel
theorem dX3_begin_17 : decode cX3_begin 17 = .ok (.iload_n 2, 1) := by decide +kernel
theorem dX3_begin_18 : decode cX3_begin 18 = .ok (.iconst 0, 1) := by decide +kernel
theorem dX3_begin_19 : decode cX3_begin 19 = .ok (.bastore, 1) := by decide +kernel
theorem dX3_begin_20 : decode cX3_begin 20 = .ok (.aload_n 0, 1) := by decide +kernel
theorem dX3_begin_21 : decode cX3_begin 21 = .ok (.getfield 29, 3) := by decide +kernel
theorem dX3_begin_24 : decode cX3_begin 24 = .ok (.iload_n 2, 1) := by decide +kernel
theorem dX3_begin_25 : decode cX3_begin 25 = .ok (.aconst_null, 1) := by decide +kernel
theorem dX3_begin_26 : decode cX3_begin 26 = .ok (.aastore, 1) := by decide +kernel
theorem dX3_begin_27 : decode cX3_begin 27 = .ok (.iinc 2 1, 3) := by decide +kernel
theorem dX3_begin_30 : decode cX3_begin 30 = .ok (.goto (-23), 3) := by decide +kernel
theorem dX3_begin_33 : decode cX3_begin 33 = .ok (.aload_n 0, 1) := by decide +kernel
theorem dX3_begin_34 : decode cX3_begin 34 = .ok (.aload_n 0, 1) := by decide +kernel
theorem dX3_begin_35 : decode cX3_begin 35 = .ok (.iconst 0, 1) := by decide +kernel
theorem dX3_begin_36 : decode cX3_begin 36 = .ok (.invokevirtual 51, 3) := by decide +kernel
theorem dX3_begin_39 : decode cX3_begin 39 = .ok (.invokevirtual 55, 3) := by decide +kernel
theorem dX3_begin_42 : decode cX3_begin 42 = .ok (.return_, 1) := by decide +kernel
theorem dX3_comeTo_0 : decode cX3_comeTo 0 = .ok (.aload_n 0, 1) := by decide +kernel
theorem dX3_comeTo_1 : decode cX3_comeTo 1 = .ok (.iload_n 1, 1) := by decide +kernel
theorem dX3_comeTo_2 : decode cX3_comeTo 2 = .ok (.putfield 9, 3) := by decide +kernel
theorem dX3_comeTo_5 : decode cX3_comeTo 5 = .ok (.aload_n 0, 1) := by decide +kernel
theorem dX3_comeTo_6 : decode cX3_comeTo 6 = .ok (.iconst 1, 1) := by decide +kernel
theorem dX3_comeTo_7 : decode cX3_comeTo 7 = .ok (.putfield 15, 3) := by decide +kernel
theorem dX3_comeTo_10 : decode cX3_comeTo 10 = .ok (.return_, 1) := by decide +kernel
theorem dX3_findThere_0 : decode cX3_findThere 0 = .ok (.iconst 0, 1) := by decide +kernel
theorem dX3_findThere_1 : decode cX3_findThere 1 = .ok (.istore_n 3, 1) := by decide +kernel
theorem dX3_findThere_2 : decode cX3_findThere 2 = .ok (.iconst 0, 1) := by decide +kernel
theorem dX3_findThere_3 : decode cX3_findThere 3 = .ok (.istore 4, 2) := by decide +kernel
theorem dX3_findThere_5 : decode cX3_findThere 5 = .ok (.iload 4, 2) := by decide +kernel
theorem dX3_findThere_7 : decode cX3_findThere 7 = .ok (.aload_n 0, 1) := by decide +kernel
theorem dX3_findThere_8 : decode cX3_findThere 8 = .ok (.getfield 40, 3) := by decide +kernel
theorem dX3_findThere_11 : decode cX3_findThere 11 = .ok (.invokevirtual 78, 3) := by decide +kernel
theorem dX3_findThere_14 : decode cX3_findThere 14 = .ok (.if_icmp .ge 54, 3) := by decide +kernel
theorem dX3_findThere_17 : decode cX3_findThere 17 = .ok (.aload_n 0, 1) := by decide +kernel
theorem dX3_findThere_18 : decode cX3_findThere 18 = .ok (.getfield 40, 3) := by decide +kernel
theorem dX3_findThere_21 : decode cX3_findThere 21 = .ok (.iload 4, 2) := by decide +kernel
theorem dX3_findThere_23 : decode cX3_findThere 23 = .ok (.invokevirtual 82, 3) := by decide +kernel
theorem dX3_findThere_26 : decode cX3_findThere 26 = .ok (.astore 5, 2) := by decide +kernel
theorem dX3_findThere_28 : decode cX3_findThere 28 = .ok (.aload 5, 2) := by decide +kernel
theorem dX3_findThere_30 : decode cX3_findThere 30 = .ok (.ifnull 32, 3) := by decide +kernel
theorem dX3_findThere_33 : decode cX3_findThere 33 = .ok (.aload 5, 2) := by decide +kernel
theorem dX3_findThere_35 : decode cX3_findThere 35 = .ok (.getfield 74, 3) := by decide +kernel
theorem dX3_findThere_38 : decode cX3_findThere 38 = .ok (.iload_n 1, 1) := by decide +kernel
theorem dX3_findThere_39 : decode cX3_findThere 39 = .ok (.if_icmp .ne 23, 3) := by decide +kernel
theorem dX3_findThere_42 : decode cX3_findThere 42 = .ok (.aload_n 0, 1) := by decide +kernel
theorem dX3_findThere_43 : decode cX3_findThere 43 = .ok (.aload 5, 2) := by decide +kernel
theorem dX3_findThere_45 : decode cX3_findThere 45 = .ok (.invokevirtual 86, 3) := by decide +kernel
theorem dX3_findThere_48 : decode cX3_findThere 48 = .ok (.ifCond .eq 14, 3) := by decide +kernel
theorem dX3_findThere_51 : decode cX3_findThere 51 = .ok (.iload_n 3, 1) := by decide +kernel
theorem dX3_findThere_52 : decode cX3_findThere 52 = .ok (.iload_n 2, 1) := by decide +kernel
theorem dX3_findThere_53 : decode cX3_findThere 53 = .ok (.if_icmp .ne 6, 3) := by decide +kernel
theorem dX3_findThere_56 : decode cX3_findThere 56 = .ok (.aload 5, 2) := by decide +kernel
theorem dX3_findThere_58 : decode cX3_findThere 58 = .ok (.areturn, 1) := by decide +kernel
theorem dX3_findThere_59 : decode cX3_findThere 59 = .ok (.iinc 3 1, 3) := by decide +kernel
theorem dX3_findThere_62 : decode cX3_findThere 62 = .ok (.iinc 4 1, 3) := by decide +kernel
theorem dX3_findThere_65 : decode cX3_findThere 65 = .ok (.goto (-60), 3) := by decide +kernel
theorem dX3_findThere_68 : decode cX3_findThere 68 = .ok (.aconst_null, 1) := by decide +kernel
theorem dX3_findThere_69 : decode cX3_findThere 69 = .ok (.areturn, 1) := by decide +kernel
theorem dX3_occurrencesThere_0 : decode cX3_occurrencesThere 0 = .ok (.iconst 0, 1) := by decide +kernel
theorem dX3_occurrencesThere_1 : decode cX3_occurrencesThere 1 = .ok (.istore_n 2, 1) := by decide +kernel
theorem dX3_occurrencesThere_2 : decode cX3_occurrencesThere 2 = .ok (.iconst 0, 1) := by decide +kernel
theorem dX3_occurrencesThere_3 : decode cX3_occurrencesThere 3 = .ok (.istore_n 3, 1) := by decide +kernel
theorem dX3_occurrencesThere_4 : decode cX3_occurrencesThere 4 = .ok (.iload_n 3, 1) := by decide +kernel
theorem dX3_occurrencesThere_5 : decode cX3_occurrencesThere 5 = .ok (.aload_n 0, 1) := by decide +kernel
theorem dX3_occurrencesThere_6 : decode cX3_occurrencesThere 6 = .ok (.getfield 40, 3) := by decide +kernel
theorem dX3_occurrencesThere_9 : decode cX3_occurrencesThere 9 = .ok (.invokevirtual 78, 3) := by decide +kernel
theorem dX3_occurrencesThere_12 : decode cX3_occurrencesThere 12 = .ok (.if_icmp .ge 45, 3) := by decide +kernel
theorem dX3_occurrencesThere_15 : decode cX3_occurrencesThere 15 = .ok (.aload_n 0, 1) := by decide +kernel
theorem dX3_occurrencesThere_16 : decode cX3_occurrencesThere 16 = .ok (.getfield 40, 3) := by decide +kernel
theorem dX3_occurrencesThere_19 : decode cX3_occurrencesThere 19 = .ok (.iload_n 3, 1) := by decide +kernel
theorem dX3_occurrencesThere_20 : decode cX3_occurrencesThere 20 = .ok (.invokevirtual 82, 3) := by decide +kernel
theorem dX3_occurrencesThere_23 : decode cX3_occurrencesThere 23 = .ok (.astore 4, 2) := by decide +kernel
theorem dX3_occurrencesThere_25 : decode cX3_occurrencesThere 25 = .ok (.aload 4, 2) := by decide +kernel
theorem dX3_occurrencesThere_27 : decode cX3_occurrencesThere 27 = .ok (.ifnull 24, 3) := by decide +kernel
theorem dX3_occurrencesThere_30 : decode cX3_occurrencesThere 30 = .ok (.aload 4, 2) := by decide +kernel
theorem dX3_occurrencesThere_32 : decode cX3_occurrencesThere 32 = .ok (.getfield 74, 3) := by decide +kernel
theorem dX3_occurrencesThere_35 : decode cX3_occurrencesThere 35 = .ok (.iload_n 1, 1) := by decide +kernel
theorem dX3_occurrencesThere_36 : decode cX3_occurrencesThere 36 = .ok (.if_icmp .ne 15, 3) := by decide +kernel
theorem dX3_occurrencesThere_39 : decode cX3_occurrencesThere 39 = .ok (.aload_n 0, 1) := by decide +kernel
theorem dX3_occurrencesThere_40 : decode cX3_occurrencesThere 40 = .ok (.aload 4, 2) := by decide +kernel
theorem dX3_occurrencesThere_42 : decode cX3_occurrencesThere 42 = .ok (.invokevirtual 86, 3) := by decide +kernel
theorem dX3_occurrencesThere_45 : decode cX3_occurrencesThere 45 = .ok (.ifCond .eq 6, 3) := by decide +kernel
theorem dX3_occurrencesThere_48 : decode cX3_occurrencesThere 48 = .ok (.iinc 2 1, 3) := by decide +kernel
theorem dX3_occurrencesThere_51 : decode cX3_occurrencesThere 51 = .ok (.iinc 3 1, 3) := by decide +kernel
theorem dX3_occurrencesThere_54 : decode cX3_occurrencesThere 54 = .ok (.goto (-50), 3) := by decide +kernel
theorem dX3_occurrencesThere_57 : decode cX3_occurrencesThere 57 = .ok (.iload_n 2, 1) := by decide +kernel
theorem dX3_occurrencesThere_58 : decode cX3_occurrencesThere 58 = .ok (.ireturn, 1) := by decide +kernel
theorem dX3_leastAbove_0 : decode cX3_leastAbove 0 = .ok (.iconst 1, 1) := by decide +kernel
theorem dX3_leastAbove_1 : decode cX3_leastAbove 1 = .ok (.istore_n 2, 1) := by decide +kernel
theorem dX3_leastAbove_2 : decode cX3_leastAbove 2 = .ok (.iload_n 2, 1) := by decide +kernel
theorem dX3_leastAbove_3 : decode cX3_leastAbove 3 = .ok (.bipush 10, 2) := by decide +kernel
theorem dX3_leastAbove_5 : decode cX3_leastAbove 5 = .ok (.if_icmp .ge 24, 3) := by decide +kernel
theorem dX3_leastAbove_8 : decode cX3_leastAbove 8 = .ok (.iload_n 2, 1) := by decide +kernel
theorem dX3_leastAbove_9 : decode cX3_leastAbove 9 = .ok (.iload_n 1, 1) := by decide +kernel
theorem dX3_leastAbove_10 : decode cX3_leastAbove 10 = .ok (.if_icmp .le 13, 3) := by decide +kernel
theorem dX3_leastAbove_13 : decode cX3_leastAbove 13 = .ok (.aload_n 0, 1) := by decide +kernel
theorem dX3_leastAbove_14 : decode cX3_leastAbove 14 = .ok (.iload_n 2, 1) := by decide +kernel
theorem dX3_leastAbove_15 : decode cX3_leastAbove 15 = .ok (.invokevirtual 89, 3) := by decide +kernel
theorem dX3_leastAbove_18 : decode cX3_leastAbove 18 = .ok (.ifCond .le 5, 3) := by decide +kernel
theorem dX3_leastAbove_21 : decode cX3_leastAbove 21 = .ok (.iload_n 2, 1) := by decide +kernel
theorem dX3_leastAbove_22 : decode cX3_leastAbove 22 = .ok (.ireturn, 1) := by decide +kernel
theorem dX3_leastAbove_23 : decode cX3_leastAbove 23 = .ok (.iinc 2 1, 3) := by decide +kernel
theorem dX3_leastAbove_26 : decode cX3_leastAbove 26 = .ok (.goto (-24), 3) := by decide +kernel
theorem dX3_leastAbove_29 : decode cX3_leastAbove 29 = .ok (.iconst (-1), 1) := by decide +kernel
theorem dX3_leastAbove_30 : decode cX3_leastAbove 30 = .ok (.ireturn, 1) := by decide +kernel
theorem dX3_layOut_0 : decode cX3_layOut 0 = .ok (.aload_n 0, 1) := by decide +kernel
theorem dX3_layOut_1 : decode cX3_layOut 1 = .ok (.aload_n 1, 1) := by decide +kernel
theorem dX3_layOut_2 : decode cX3_layOut 2 = .ok (.aconst_null, 1) := by decide +kernel
theorem dX3_layOut_3 : decode cX3_layOut 3 = .ok (.iconst 0, 1) := by decide +kernel
theorem dX3_layOut_4 : decode cX3_layOut 4 = .ok (.iconst 0, 1) := by decide +kernel
theorem dX3_layOut_5 : decode cX3_layOut 5 = .ok (.iconst 1, 1) := by decide +kernel
theorem dX3_layOut_6 : decode cX3_layOut 6 = .ok (.invokevirtual 139, 3) := by decide +kernel
theorem dX3_layOut_9 : decode cX3_layOut 9 = .ok (.return_, 1) := by decide +kernel
theorem dX3_putItems_0 : decode cX3_putItems 0 = .ok (.aload_n 2, 1) := by decide +kernel
theorem dX3_putItems_1 : decode cX3_putItems 1 = .ok (.ifnonnull 7, 3) := by decide +kernel
theorem dX3_putItems_4 : decode cX3_putItems 4 = .ok (.iconst 0, 1) := by decide +kernel
theorem dX3_putItems_5 : decode cX3_putItems 5 = .ok (.goto 7, 3) := by decide +kernel
theorem dX3_putItems_8 : decode cX3_putItems 8 = .ok (.aload_n 2, 1) := by decide +kernel
theorem dX3_putItems_9 : decode cX3_putItems 9 = .ok (.getfield 143, 3) := by decide +kernel
theorem dX3_putItems_12 : decode cX3_putItems 12 = .ok (.istore 6, 2) := by decide +kernel
theorem dX3_putItems_14 : decode cX3_putItems 14 = .ok (.aload_n 2, 1) := by decide +kernel
theorem dX3_putItems_15 : decode cX3_putItems 15 = .ok (.ifnonnull 16, 3) := by decide +kernel
theorem dX3_putItems_18 : decode cX3_putItems 18 = .ok (.aload_n 0, 1) := by decide +kernel
theorem dX3_putItems_19 : decode cX3_putItems 19 = .ok (.getfield 40, 3) := by decide +kernel
theorem dX3_putItems_22 : decode cX3_putItems 22 = .ok (.getfield 146, 3) := by decide +kernel
theorem dX3_putItems_25 : decode cX3_putItems 25 = .ok (.invokevirtual 104, 3) := by decide +kernel
theorem dX3_putItems_28 : decode cX3_putItems 28 = .ok (.goto 7, 3) := by decide +kernel
theorem dX3_putItems_31 : decode cX3_putItems 31 = .ok (.aload_n 2, 1) := by decide +kernel
theorem dX3_putItems_32 : decode cX3_putItems 32 = .ok (.getfield 150, 3) := by decide +kernel
theorem dX3_putItems_35 : decode cX3_putItems 35 = .ok (.istore 7, 2) := by decide +kernel
theorem dX3_putItems_37 : decode cX3_putItems 37 = .ok (.iload 6, 2) := by decide +kernel
theorem dX3_putItems_39 : decode cX3_putItems 39 = .ok (.istore 8, 2) := by decide +kernel
theorem dX3_putItems_41 : decode cX3_putItems 41 = .ok (.iload 8, 2) := by decide +kernel
theorem dX3_putItems_43 : decode cX3_putItems 43 = .ok (.iload 7, 2) := by decide +kernel
theorem dX3_putItems_45 : decode cX3_putItems 45 = .ok (.if_icmp .ge 74, 3) := by decide +kernel
theorem dX3_putItems_48 : decode cX3_putItems 48 = .ok (.aload_n 0, 1) := by decide +kernel
theorem dX3_putItems_49 : decode cX3_putItems 49 = .ok (.getfield 40, 3) := by decide +kernel
theorem dX3_putItems_52 : decode cX3_putItems 52 = .ok (.getfield 146, 3) := by decide +kernel
theorem dX3_putItems_55 : decode cX3_putItems 55 = .ok (.iload 8, 2) := by decide +kernel
theorem dX3_putItems_57 : decode cX3_putItems 57 = .ok (.invokevirtual 153, 3) := by decide +kernel
theorem dX3_putItems_60 : decode cX3_putItems 60 = .ok (.istore 9, 2) := by decide +kernel
theorem dX3_putItems_62 : decode cX3_putItems 62 = .ok (.aload_n 0, 1) := by decide +kernel
theorem dX3_putItems_63 : decode cX3_putItems 63 = .ok (.getfield 40, 3) := by decide +kernel
theorem dX3_putItems_66 : decode cX3_putItems 66 = .ok (.iload 9, 2) := by decide +kernel
theorem dX3_putItems_68 : decode cX3_putItems 68 = .ok (.invokevirtual 155, 3) := by decide +kernel
theorem dX3_putItems_71 : decode cX3_putItems 71 = .ok (.astore 10, 2) := by decide +kernel
theorem dX3_putItems_73 : decode cX3_putItems 73 = .ok (.aload 10, 2) := by decide +kernel
theorem dX3_putItems_75 : decode cX3_putItems 75 = .ok (.ifnonnull 12, 3) := by decide +kernel
theorem dX3_putItems_78 : decode cX3_putItems 78 = .ok (.aload_n 1, 1) := by decide +kernel
theorem dX3_putItems_79 : decode cX3_putItems 79 = .ok (.iload 9, 2) := by decide +kernel
theorem dX3_putItems_81 : decode cX3_putItems 81 = .ok (.invokevirtual 101, 3) := by decide +kernel
theorem dX3_putItems_84 : decode cX3_putItems 84 = .ok (.goto 29, 3) := by decide +kernel
theorem dX3_putItems_87 : decode cX3_putItems 87 = .ok (.aload_n 0, 1) := by decide +kernel
theorem dX3_putItems_88 : decode cX3_putItems 88 = .ok (.aload_n 1, 1) := by decide +kernel
theorem dX3_putItems_89 : decode cX3_putItems 89 = .ok (.aload 10, 2) := by decide +kernel
theorem dX3_putItems_91 : decode cX3_putItems 91 = .ok (.iload_n 3, 1) := by decide +kernel
theorem dX3_putItems_92 : decode cX3_putItems 92 = .ok (.iload 4, 2) := by decide +kernel
theorem dX3_putItems_94 : decode cX3_putItems 94 = .ok (.iload 5, 2) := by decide +kernel
theorem dX3_putItems_96 : decode cX3_putItems 96 = .ok (.invokevirtual 158, 3) := by decide +kernel
theorem dX3_putItems_99 : decode cX3_putItems 99 = .ok (.iload 8, 2) := by decide +kernel
theorem dX3_putItems_101 : decode cX3_putItems 101 = .ok (.aload 10, 2) := by decide +kernel
theorem dX3_putItems_103 : decode cX3_putItems 103 = .ok (.getfield 150, 3) := by decide +kernel
theorem dX3_putItems_106 : decode cX3_putItems 106 = .ok (.iconst 1, 1) := by decide +kernel
theorem dX3_putItems_107 : decode cX3_putItems 107 = .ok (.isub, 1) := by decide +kernel
theorem dX3_putItems_108 : decode cX3_putItems 108 = .ok (.invokestatic 161, 3) := by decide +kernel
theorem dX3_putItems_111 : decode cX3_putItems 111 = .ok (.istore 8, 2) := by decide +kernel
theorem dX3_putItems_113 : decode cX3_putItems 113 = .ok (.iinc 8 1, 3) := by decide +kernel
theorem dX3_putItems_116 : decode cX3_putItems 116 = .ok (.goto (-75), 3) := by decide +kernel
theorem dX3_putItems_119 : decode cX3_putItems 119 = .ok (.return_, 1) := by decide +kernel
theorem dX4_init_0 : decode cX4_init 0 = .ok (.aload_n 0, 1) := by decide +kernel
theorem dX4_init_1 : decode cX4_init 1 = .ok (.invokespecial 3, 3) := by decide +kernel
theorem dX4_init_4 : decode cX4_init 4 = .ok (.aload_n 0, 1) := by decide +kernel
theorem dX4_init_5 : decode cX4_init 5 = .ok (.new 9, 3) := by decide +kernel
theorem dX4_init_8 : decode cX4_init 8 = .ok (.dup, 1) := by decide +kernel
theorem dX4_init_9 : decode cX4_init 9 = .ok (.sipush 241, 3) := by decide +kernel
theorem dX4_init_12 : decode cX4_init 12 = .ok (.invokespecial 11, 3) := by decide +kernel
theorem dX4_init_15 : decode cX4_init 15 = .ok (.putfield 14, 3) := by decide +kernel
theorem dX4_init_18 : decode cX4_init 18 = .ok (.aload_n 0, 1) := by decide +kernel
theorem dX4_init_19 : decode cX4_init 19 = .ok (.iconst 0, 1) := by decide +kernel
theorem dX4_init_20 : decode cX4_init 20 = .ok (.putfield 20, 3) := by decide +kernel
theorem dX4_init_23 : decode cX4_init 23 = .ok (.aload_n 0, 1) := by decide +kernel
theorem dX4_init_24 : decode cX4_init 24 = .ok (.iconst 4, 1) := by decide +kernel
theorem dX4_init_25 : decode cX4_init 25 = .ok (.anewarray 9, 3) := by decide +kernel
theorem dX4_init_28 : decode cX4_init 28 = .ok (.putfield 24, 3) := by decide +kernel
theorem dX4_init_31 : decode cX4_init 31 = .ok (.aload_n 0, 1) := by decide +kernel
theorem dX4_init_32 : decode cX4_init 32 = .ok (.iconst 3, 1) := by decide +kernel
theorem dX4_init_33 : decode cX4_init 33 = .ok (.anewarray 28, 3) := by decide +kernel
theorem dX4_init_36 : decode cX4_init 36 = .ok (.putfield 30, 3) := by decide +kernel
theorem dX4_init_39 : decode cX4_init 39 = .ok (.aload_n 0, 1) := by decide +kernel
theorem dX4_init_40 : decode cX4_init 40 = .ok (.iconst 0, 1) := by decide +kernel
theorem dX4_init_41 : decode cX4_init 41 = .ok (.putfield 34, 3) := by decide +kernel
theorem dX4_init_44 : decode cX4_init 44 = .ok (.aload_n 0, 1) := by decide +kernel
theorem dX4_init_45 : decode cX4_init 45 = .ok (.new 9, 3) := by decide +kernel
theorem dX4_init_48 : decode cX4_init 48 = .ok (.dup, 1) := by decide +kernel
theorem dX4_init_49 : decode cX4_init 49 = .ok (.sipush 241, 3) := by decide +kernel
theorem dX4_init_52 : decode cX4_init 52 = .ok (.invokespecial 11, 3) := by decide +kernel
theorem dX4_init_55 : decode cX4_init 55 = .ok (.putfield 37, 3) := by decide +kernel
theorem dX4_init_58 : decode cX4_init 58 = .ok (.iconst 0, 1) := by decide +kernel
theorem dX4_init_59 : decode cX4_init 59 = .ok (.istore_n 2, 1) := by decide +kernel
theorem dX4_init_60 : decode cX4_init 60 = .ok (.iload_n 2, 1) := by decide +kernel
theorem dX4_init_61 : decode cX4_init 61 = .ok (.aload_n 0, 1) := by decide +kernel
theorem dX4_init_62 : decode cX4_init 62 = .ok (.getfield 24, 3) := by decide +kernel
theorem dX4_init_65 : decode cX4_init 65 = .ok (.arraylength, 1) := by decide +kernel
theorem dX4_init_66 : decode cX4_init 66 = .ok (.if_icmp .ge 24, 3) := by decide +kernel
theorem dX4_init_69 : decode cX4_init 69 = .ok (.aload_n 0, 1) := by decide +kernel
theorem dX4_init_70 : decode cX4_init 70 = .ok (.getfield 24, 3) := by decide +kernel
theorem dX4_init_73 : decode cX4_init 73 = .ok (.iload_n 2, 1) := by decide +kernel
theorem dX4_init_74 : decode cX4_init 74 = .ok (.new 9, 3) := by decide +kernel
theorem dX4_init_77 : decode cX4_init 77 = .ok (.dup, 1) := by decide +kernel
theorem dX4_init_78 : decode cX4_init 78 = .ok (.bipush 12, 2) := by decide +kernel
theorem dX4_init_80 : decode cX4_init 80 = .ok (.invokespecial 11, 3) := by decide +kernel
theorem dX4_init_83 : decode cX4_init 83 = .ok (.aastore, 1) := by decide +kernel
theorem dX4_init_84 : decode cX4_init 84 = .ok (.iinc 2 1, 3) := by decide +kernel
theorem dX4_init_87 : decode cX4_init 87 = .ok (.goto (-27), 3) := by decide +kernel
theorem dX4_init_90 : decode cX4_init 90 = .ok (.iconst 0, 1) := by decide +kernel
theorem dX4_init_91 : decode cX4_init 91 = .ok (.istore_n 2, 1) := by decide +kernel
theorem dX4_init_92 : decode cX4_init 92 = .ok (.iload_n 2, 1) := by decide +kernel
theorem dX4_init_93 : decode cX4_init 93 = .ok (.aload_n 0, 1) := by decide +kernel
theorem dX4_init_94 : decode cX4_init 94 = .ok (.getfield 30, 3) := by decide +kernel
theorem dX4_init_97 : decode cX4_init 97 = .ok (.arraylength, 1) := by decide +kernel
theorem dX4_init_98 : decode cX4_init 98 = .ok (.if_icmp .ge 23, 3) := by decide +kernel
theorem dX4_init_101 : decode cX4_init 101 = .ok (.aload_n 0, 1) := by decide +kernel
theorem dX4_init_102 : decode cX4_init 102 = .ok (.getfield 30, 3) := by decide +kernel
theorem dX4_init_105 : decode cX4_init 105 = .ok (.iload_n 2, 1) := by decide +kernel
theorem dX4_init_106 : decode cX4_init 106 = .ok (.new 28, 3) := by decide +kernel
theorem dX4_init_109 : decode cX4_init 109 = .ok (.dup, 1) := by decide +kernel
theorem dX4_init_110 : decode cX4_init 110 = .ok (.aload_n 1, 1) := by decide +kernel
theorem dX4_init_111 : decode cX4_init 111 = .ok (.invokespecial 40, 3) := by decide +kernel
theorem dX4_init_114 : decode cX4_init 114 = .ok (.aastore, 1) := by decide +kernel
theorem dX4_init_115 : decode cX4_init 115 = .ok (.iinc 2 1, 3) := by decide +kernel
theorem dX4_init_118 : decode cX4_init 118 = .ok (.goto (-26), 3) := by decide +kernel
theorem dX4_init_121 : decode cX4_init 121 = .ok (.return_, 1) := by decide +kernel
theorem dX4_copyOf_0 : decode cX4_copyOf 0 = .ok (.aload_n 0, 1) := by decide +kernel
theorem dX4_copyOf_1 : decode cX4_copyOf 1 = .ok (.getfield 14, 3) := by decide +kernel
theorem dX4_copyOf_4 : decode cX4_copyOf 4 = .ok (.aload_n 1, 1) := by decide +kernel
theorem dX4_copyOf_5 : decode cX4_copyOf 5 = .ok (.getfield 14, 3) := by decide +kernel
theorem dX4_copyOf_8 : decode cX4_copyOf 8 = .ok (.invokevirtual 43, 3) := by decide +kernel
theorem dX4_copyOf_11 : decode cX4_copyOf 11 = .ok (.aload_n 0, 1) := by decide +kernel
theorem dX4_copyOf_12 : decode cX4_copyOf 12 = .ok (.aload_n 1, 1) := by decide +kernel
theorem dX4_copyOf_13 : decode cX4_copyOf 13 = .ok (.getfield 20, 3) := by decide +kernel
theorem dX4_copyOf_16 : decode cX4_copyOf 16 = .ok (.putfield 20, 3) := by decide +kernel
theorem dX4_copyOf_19 : decode cX4_copyOf 19 = .ok (.iconst 0, 1) := by decide +kernel
theorem dX4_copyOf_20 : decode cX4_copyOf 20 = .ok (.istore_n 2, 1) := by decide +kernel
theorem dX4_copyOf_21 : decode cX4_copyOf 21 = .ok (.iload_n 2, 1) := by decide +kernel
theorem dX4_copyOf_22 : decode cX4_copyOf 22 = .ok (.iconst 4, 1) := by decide +kernel
theorem dX4_copyOf_23 : decode cX4_copyOf 23 = .ok (.if_icmp .ge 24, 3) := by decide +kernel
theorem dX4_copyOf_26 : decode cX4_copyOf 26 = .ok (.aload_n 0, 1) := by decide +kernel
theorem dX4_copyOf_27 : decode cX4_copyOf 27 = .ok (.getfield 24, 3) := by decide +kernel
theorem dX4_copyOf_30 : decode cX4_copyOf 30 = .ok (.iload_n 2, 1) := by decide +kernel
theorem dX4_copyOf_31 : decode cX4_copyOf 31 = .ok (.aaload, 1) := by decide +kernel
theorem dX4_copyOf_32 : decode cX4_copyOf 32 = .ok (.aload_n 1, 1) := by decide +kernel
theorem dX4_copyOf_33 : decode cX4_copyOf 33 = .ok (.getfield 24, 3) := by decide +kernel
theorem dX4_copyOf_36 : decode cX4_copyOf 36 = .ok (.iload_n 2, 1) := by decide +kernel
theorem dX4_copyOf_37 : decode cX4_copyOf 37 = .ok (.aaload, 1) := by decide +kernel
theorem dX4_copyOf_38 : decode cX4_copyOf 38 = .ok (.invokevirtual 43, 3) := by decide +kernel
theorem dX4_copyOf_41 : decode cX4_copyOf 41 = .ok (.iinc 2 1, 3) := by decide +kernel
theorem dX4_copyOf_44 : decode cX4_copyOf 44 = .ok (.goto (-23), 3) := by decide +kernel
theorem dX4_copyOf_47 : decode cX4_copyOf 47 = .ok (.aload_n 0, 1) := by decide +kernel
theorem dX4_copyOf_48 : decode cX4_copyOf 48 = .ok (.aload_n 1, 1) := by decide +kernel
theorem dX4_copyOf_49 : decode cX4_copyOf 49 = .ok (.getfield 34, 3) := by decide +kernel
theorem dX4_copyOf_52 : decode cX4_copyOf 52 = .ok (.putfield 34, 3) := by decide +kernel
theorem dX4_copyOf_55 : decode cX4_copyOf 55 = .ok (.iconst 0, 1) := by decide +kernel
theorem dX4_copyOf_56 : decode cX4_copyOf 56 = .ok (.istore_n 2, 1) := by decide +kernel
theorem dX4_copyOf_57 : decode cX4_copyOf 57 = .ok (.iload_n 2, 1) := by decide +kernel
theorem dX4_copyOf_58 : decode cX4_copyOf 58 = .ok (.aload_n 0, 1) := by decide +kernel
theorem dX4_copyOf_59 : decode cX4_copyOf 59 = .ok (.getfield 34, 3) := by decide +kernel
theorem dX4_copyOf_62 : decode cX4_copyOf 62 = .ok (.if_icmp .ge 29, 3) := by decide +kernel
theorem dX4_copyOf_65 : decode cX4_copyOf 65 = .ok (.iload_n 2, 1) := by decide +kernel
theorem dX4_copyOf_66 : decode cX4_copyOf 66 = .ok (.iconst 3, 1) := by decide +kernel
theorem dX4_copyOf_67 : decode cX4_copyOf 67 = .ok (.if_icmp .ge 24, 3) := by decide +kernel
theorem dX4_copyOf_70 : decode cX4_copyOf 70 = .ok (.aload_n 0, 1) := by decide +kernel
theorem dX4_copyOf_71 : decode cX4_copyOf 71 = .ok (.getfield 30, 3) := by decide +kernel
theorem dX4_copyOf_74 : decode cX4_copyOf 74 = .ok (.iload_n 2, 1) := by decide +kernel
theorem dX4_copyOf_75 : decode cX4_copyOf 75 = .ok (.aaload, 1) := by decide +kernel
theorem dX4_copyOf_76 : decode cX4_copyOf 76 = .ok (.aload_n 1, 1) := by decide +kernel
theorem dX4_copyOf_77 : decode cX4_copyOf 77 = .ok (.getfield 30, 3) := by decide +kernel
theorem dX4_copyOf_80 : decode cX4_copyOf 80 = .ok (.iload_n 2, 1) := by decide +kernel
theorem dX4_copyOf_81 : decode cX4_copyOf 81 = .ok (.aaload, 1) := by decide +kernel
theorem dX4_copyOf_82 : decode cX4_copyOf 82 = .ok (.invokevirtual 47, 3) := by decide +kernel
theorem dX4_copyOf_85 : decode cX4_copyOf 85 = .ok (.iinc 2 1, 3) := by decide +kernel
theorem dX4_copyOf_88 : decode cX4_copyOf 88 = .ok (.goto (-31), 3) := by decide +kernel
theorem dX4_copyOf_91 : decode cX4_copyOf 91 = .ok (.return_, 1) := by decide +kernel
theorem dX4_uppermost_0 : decode cX4_uppermost 0 = .ok (.aload_n 0, 1) := by decide +kernel
theorem dX4_uppermost_1 : decode cX4_uppermost 1 = .ok (.getfield 34, 3) := by decide +kernel
theorem dX4_uppermost_4 : decode cX4_uppermost 4 = .ok (.iconst 1, 1) := by decide +kernel
theorem dX4_uppermost_5 : decode cX4_uppermost 5 = .ok (.if_icmp .lt 15, 3) := by decide +kernel
theorem dX4_uppermost_8 : decode cX4_uppermost 8 = .ok (.aload_n 0, 1) := by decide +kernel
theorem dX4_uppermost_9 : decode cX4_uppermost 9 = .ok (.getfield 34, 3) := by decide +kernel
theorem dX4_uppermost_12 : decode cX4_uppermost 12 = .ok (.aload_n 0, 1) := by decide +kernel
theorem dX4_uppermost_13 : decode cX4_uppermost 13 = .ok (.getfield 30, 3) := by decide +kernel
theorem dX4_uppermost_16 : decode cX4_uppermost 16 = .ok (.arraylength, 1) := by decide +kernel
theorem dX4_uppermost_17 : decode cX4_uppermost 17 = .ok (.if_icmp .le 7, 3) := by decide +kernel
theorem dX4_uppermost_20 : decode cX4_uppermost 20 = .ok (.aconst_null, 1) := by decide +kernel
theorem dX4_uppermost_21 : decode cX4_uppermost 21 = .ok (.goto 14, 3) := by decide +kernel
theorem dX4_uppermost_24 : decode cX4_uppermost 24 = .ok (.aload_n 0, 1) := by decide +kernel
theorem dX4_uppermost_25 : decode cX4_uppermost 25 = .ok (.getfield 30, 3) := by decide +kernel
theorem dX4_uppermost_28 : decode cX4_uppermost 28 = .ok (.aload_n 0, 1) := by decide +kernel
theorem dX4_uppermost_29 : decode cX4_uppermost 29 = .ok (.getfield 34, 3) := by decide +kernel
theorem dX4_uppermost_32 : decode cX4_uppermost 32 = .ok (.iconst 1, 1) := by decide +kernel
theorem dX4_uppermost_33 : decode cX4_uppermost 33 = .ok (.isub, 1) := by decide +kernel
theorem dX4_uppermost_34 : decode cX4_uppermost 34 = .ok (.aaload, 1) := by decide +kernel
theorem dX4_uppermost_35 : decode cX4_uppermost 35 = .ok (.areturn, 1) := by decide +kernel
theorem dX4_openSession_0 : decode cX4_openSession 0 = .ok (.aload_n 0, 1) := by decide +kernel
theorem dX4_openSession_1 : decode cX4_openSession 1 = .ok (.getfield 34, 3) := by decide +kernel
theorem dX4_openSession_4 : decode cX4_openSession 4 = .ok (.ifCond .lt 15, 3) := by decide +kernel
theorem dX4_openSession_7 : decode cX4_openSession 7 = .ok (.aload_n 0, 1) := by decide +kernel
theorem dX4_openSession_8 : decode cX4_openSession 8 = .ok (.getfield 34, 3) := by decide +kernel
theorem dX4_openSession_11 : decode cX4_openSession 11 = .ok (.aload_n 0, 1) := by decide +kernel
theorem dX4_openSession_12 : decode cX4_openSession 12 = .ok (.getfield 30, 3) := by decide +kernel
theorem dX4_openSession_15 : decode cX4_openSession 15 = .ok (.arraylength, 1) := by decide +kernel
theorem dX4_openSession_16 : decode cX4_openSession 16 = .ok (.if_icmp .lt 5, 3) := by decide +kernel
theorem dX4_openSession_19 : decode cX4_openSession 19 = .ok (.iconst (-1), 1) := by decide +kernel
theorem dX4_openSession_20 : decode cX4_openSession 20 = .ok (.ireturn, 1) := by decide +kernel
theorem dX4_openSession_21 : decode cX4_openSession 21 = .ok (.aload_n 0, 1) := by decide +kernel
theorem dX4_openSession_22 : decode cX4_openSession 22 = .ok (.getfield 30, 3) := by decide +kernel
theorem dX4_openSession_25 : decode cX4_openSession 25 = .ok (.aload_n 0, 1) := by decide +kernel
theorem dX4_openSession_26 : decode cX4_openSession 26 = .ok (.getfield 34, 3) := by decide +kernel
theorem dX4_openSession_29 : decode cX4_openSession 29 = .ok (.aaload, 1) := by decide +kernel
theorem dX4_openSession_30 : decode cX4_openSession 30 = .ok (.astore_n 2, 1) := by decide +kernel
theorem dX4_openSession_31 : decode cX4_openSession 31 = .ok (.aload_n 0, 1) := by decide +kernel
theorem dX4_openSession_32 : decode cX4_openSession 32 = .ok (.dup, 1) := by decide +kernel
theorem dX4_openSession_33 : decode cX4_openSession 33 = .ok (.getfield 34, 3) := by decide +kernel
theorem dX4_openSession_36 : decode cX4_openSession 36 = .ok (.iconst 1, 1) := by decide +kernel
theorem dX4_openSession_37 : decode cX4_openSession 37 = .ok (.iadd, 1) := by decide +kernel
theorem dX4_openSession_38 : decode cX4_openSession 38 = .ok (.putfield 34, 3) := by decide +kernel
theorem dX4_openSession_41 : decode cX4_openSession 41 = .ok (.aload_n 2, 1) := by decide +kernel
theorem dX4_openSession_42 : decode cX4_openSession 42 = .ok (.aload_n 1, 1) := by decide +kernel
theorem dX4_openSession_43 : decode cX4_openSession 43 = .ok (.invokevirtual 50, 3) := by decide +kernel
theorem dX4_openSession_46 : decode cX4_openSession 46 = .ok (.aload_n 2, 1) := by decide +kernel
theorem dX4_openSession_47 : decode cX4_openSession 47 = .ok (.getfield 53, 3) := by decide +kernel
theorem dX4_openSession_50 : decode cX4_openSession 50 = .ok (.ireturn, 1) := by decide +kernel
theorem dX4_endUppermost_0 : decode cX4_endUppermost 0 = .ok (.aload_n 0, 1) := by decide +kernel
theorem dX4_endUppermost_1 : decode cX4_endUppermost 1 = .ok (.invokevirtual 56, 3) := by decide +kernel
theorem dX4_endUppermost_4 : decode cX4_endUppermost 4 = .ok (.astore_n 1, 1) := by decide +kernel
theorem dX4_endUppermost_5 : decode cX4_endUppermost 5 = .ok (.aload_n 1, 1) := by decide +kernel
theorem dX4_endUppermost_6 : decode cX4_endUppermost 6 = .ok (.ifnull 10, 3) := by decide +kernel
theorem dX4_endUppermost_9 : decode cX4_endUppermost 9 = .ok (.aload_n 0, 1) := by decide +kernel
theorem dX4_endUppermost_10 : decode cX4_endUppermost 10 = .ok (.invokevirtual 63, 3) := by decide +kernel
theorem dX4_endUppermost_13 : decode cX4_endUppermost 13 = .ok (.ifCond .ne 4, 3) := by decide +kernel
theorem dX4_endUppermost_16 : decode cX4_endUppermost 16 = .ok (.return_, 1) := by decide +kernel
theorem dX4_endUppermost_17 : decode cX4_endUppermost 17 = .ok (.aload_n 0, 1) := by decide +kernel
theorem dX4_endUppermost_18 : decode cX4_endUppermost 18 = .ok (.dup, 1) := by decide +kernel
theorem dX4_endUppermost_19 : decode cX4_endUppermost 19 = .ok (.getfield 34, 3) := by decide +kernel
theorem dX4_endUppermost_22 : decode cX4_endUppermost 22 = .ok (.iconst 1, 1) := by decide +kernel
theorem dX4_endUppermost_23 : decode cX4_endUppermost 23 = .ok (.isub, 1) := by decide +kernel
theorem dX4_endUppermost_24 : decode cX4_endUppermost 24 = .ok (.putfield 34, 3) := by decide +kernel
theorem dX4_endUppermost_27 : decode cX4_endUppermost 27 = .ok (.aload_n 0, 1) := by decide +kernel
theorem dX4_endUppermost_28 : decode cX4_endUppermost 28 = .ok (.invokevirtual 56, 3) := by decide +kernel
theorem dX4_endUppermost_31 : decode cX4_endUppermost 31 = .ok (.astore_n 2, 1) := by decide +kernel
theorem dX4_endUppermost_32 : decode cX4_endUppermost 32 = .ok (.aload_n 2, 1) := by decide +kernel
theorem dX4_endUppermost_33 : decode cX4_endUppermost 33 = .ok (.ifnull 9, 3) := by decide +kernel
theorem dX4_endUppermost_36 : decode cX4_endUppermost 36 = .ok (.aload_n 2, 1) := by decide +kernel
theorem dX4_endUppermost_37 : decode cX4_endUppermost 37 = .ok (.iconst 0, 1) := by decide +kernel
theorem dX4_endUppermost_38 : decode cX4_endUppermost 38 = .ok (.putfield 67, 3) := by decide +kernel
theorem dX4_endUppermost_41 : decode cX4_endUppermost 41 = .ok (.return_, 1) := by decide +kernel
theorem dX4_endUppermost_42 : decode cX4_endUppermost 42 = .ok (.aload_n 1, 1) := by decide +kernel
theorem dX4_endUppermost_43 : decode cX4_endUppermost 43 = .ok (.iconst 0, 1) := by decide +kernel
theorem dX4_endUppermost_44 : decode cX4_endUppermost 44 = .ok (.iconst 0, 1) := by decide +kernel
theorem dX4_endUppermost_45 : decode cX4_endUppermost 45 = .ok (.invokevirtual 71, 3) := by decide +kernel
theorem dX4_endUppermost_48 : decode cX4_endUppermost 48 = .ok (.astore_n 3, 1) := by decide +kernel
theorem dX4_endUppermost_49 : decode cX4_endUppermost 49 = .ok (.aload_n 0, 1) := by decide +kernel
theorem dX4_endUppermost_50 : decode cX4_endUppermost 50 = .ok (.getfield 20, 3) := by decide +kernel
theorem dX4_endUppermost_53 : decode cX4_endUppermost 53 = .ok (.aload_n 0, 1) := by decide +kernel
theorem dX4_endUppermost_54 : decode cX4_endUppermost 54 = .ok (.getfield 37, 3) := by decide +kernel
theorem dX4_endUppermost_57 : decode cX4_endUppermost 57 = .ok (.invokevirtual 75, 3) := by decide +kernel
theorem dX4_endUppermost_60 : decode cX4_endUppermost 60 = .ok (.iadd, 1) := by decide +kernel
theorem dX4_endUppermost_61 : decode cX4_endUppermost 61 = .ok (.aload_n 0, 1) := by decide +kernel
theorem dX4_endUppermost_62 : decode cX4_endUppermost 62 = .ok (.getfield 14, 3) := by decide +kernel
theorem dX4_endUppermost_65 : decode cX4_endUppermost 65 = .ok (.invokevirtual 75, 3) := by decide +kernel
theorem dX4_endUppermost_68 : decode cX4_endUppermost 68 = .ok (.isub, 1) := by decide +kernel
theorem dX4_endUppermost_69 : decode cX4_endUppermost 69 = .ok (.istore 4, 2) := by decide +kernel
theorem dX4_endUppermost_71 : decode cX4_endUppermost 71 = .ok (.aload_n 0, 1) := by decide +kernel
theorem dX4_endUppermost_72 : decode cX4_endUppermost 72 = .ok (.aload_n 3, 1) := by decide +kernel
theorem dX4_endUppermost_73 : decode cX4_endUppermost 73 = .ok (.ifnonnull 8, 3) := by decide +kernel
theorem dX4_endUppermost_76 : decode cX4_endUppermost 76 = .ok (.iload 4, 2) := by decide +kernel
theorem dX4_endUppermost_78 : decode cX4_endUppermost 78 = .ok (.goto 8, 3) := by decide +kernel
theorem dX4_endUppermost_81 : decode cX4_endUppermost 81 = .ok (.aload_n 1, 1) := by decide +kernel
theorem dX4_endUppermost_82 : decode cX4_endUppermost 82 = .ok (.aload_n 3, 1) := by decide +kernel
theorem dX4_endUppermost_83 : decode cX4_endUppermost 83 = .ok (.invokevirtual 79, 3) := by decide +kernel
theorem dX4_endUppermost_86 : decode cX4_endUppermost 86 = .ok (.putfield 20, 3) := by decide +kernel
theorem dX4_endUppermost_89 : decode cX4_endUppermost 89 = .ok (.aload_n 0, 1) := by decide +kernel
theorem dX4_endUppermost_90 : decode cX4_endUppermost 90 = .ok (.getfield 14, 3) := by decide +kernel
theorem dX4_endUppermost_93 : decode cX4_endUppermost 93 = .ok (.aload_n 0, 1) := by decide +kernel
theorem dX4_endUppermost_94 : decode cX4_endUppermost 94 = .ok (.getfield 37, 3) := by decide +kernel
theorem dX4_endUppermost_97 : decode cX4_endUppermost 97 = .ok (.invokevirtual 43, 3) := by decide +kernel
theorem dX4_endUppermost_100 : decode cX4_endUppermost 100 = .ok (.return_, 1) := by decide +kernel
theorem dX4_insertAtCaret_0 : decode cX4_insertAtCaret 0 = .ok (.aload_n 0, 1) := by decide +kernel
theorem dX4_insertAtCaret_1 : decode cX4_insertAtCaret 1 = .ok (.getfield 14, 3) := by decide +kernel
theorem dX4_insertAtCaret_4 : decode cX4_insertAtCaret 4 = .ok (.aload_n 0, 1) := by decide +kernel
theorem dX4_insertAtCaret_5 : decode cX4_insertAtCaret 5 = .ok (.getfield 20, 3) := by decide +kernel
theorem dX4_insertAtCaret_8 : decode cX4_insertAtCaret 8 = .ok (.iload_n 1, 1) := by decide +kernel
theorem dX4_insertAtCaret_9 : decode cX4_insertAtCaret 9 = .ok (.invokevirtual 83, 3) := by decide +kernel
theorem dX4_insertAtCaret_12 : decode cX4_insertAtCaret 12 = .ok (.aload_n 0, 1) := by decide +kernel
theorem dX4_insertAtCaret_13 : decode cX4_insertAtCaret 13 = .ok (.dup, 1) := by decide +kernel
theorem dX4_insertAtCaret_14 : decode cX4_insertAtCaret 14 = .ok (.getfield 20, 3) := by decide +kernel
theorem dX4_insertAtCaret_17 : decode cX4_insertAtCaret 17 = .ok (.iconst 1, 1) := by decide +kernel
theorem dX4_insertAtCaret_18 : decode cX4_insertAtCaret 18 = .ok (.iadd, 1) := by decide +kernel
theorem dX4_insertAtCaret_19 : decode cX4_insertAtCaret 19 = .ok (.putfield 20, 3) := by decide +kernel
theorem dX4_insertAtCaret_22 : decode cX4_insertAtCaret 22 = .ok (.return_, 1) := by decide +kernel
theorem dX4_settle_0 : decode cX4_settle 0 = .ok (.aload_n 0, 1) := by decide +kernel
theorem dX4_settle_1 : decode cX4_settle 1 = .ok (.getfield 34, 3) := by decide +kernel
theorem dX4_settle_4 : decode cX4_settle 4 = .ok (.aload_n 0, 1) := by decide +kernel
theorem dX4_settle_5 : decode cX4_settle 5 = .ok (.getfield 30, 3) := by decide +kernel
theorem dX4_settle_8 : decode cX4_settle 8 = .ok (.arraylength, 1) := by decide +kernel
theorem dX4_settle_9 : decode cX4_settle 9 = .ok (.invokestatic 90, 3) := by decide +kernel
theorem dX4_settle_12 : decode cX4_settle 12 = .ok (.iconst 1, 1) := by decide +kernel
theorem dX4_settle_13 : decode cX4_settle 13 = .ok (.isub, 1) := by decide +kernel
theorem dX4_settle_14 : decode cX4_settle 14 = .ok (.istore_n 1, 1) := by decide +kernel
theorem dX4_settle_15 : decode cX4_settle 15 = .ok (.iload_n 1, 1) := by decide +kernel
theorem dX4_settle_16 : decode cX4_settle 16 = .ok (.ifCond .le 73, 3) := by decide +kernel
theorem dX4_settle_19 : decode cX4_settle 19 = .ok (.aload_n 0, 1) := by decide +kernel
theorem dX4_settle_20 : decode cX4_settle 20 = .ok (.getfield 37, 3) := by decide +kernel
theorem dX4_settle_23 : decode cX4_settle 23 = .ok (.invokevirtual 99, 3) := by decide +kernel
theorem dX4_settle_26 : decode cX4_settle 26 = .ok (.aload_n 0, 1) := by decide +kernel
theorem dX4_settle_27 : decode cX4_settle 27 = .ok (.getfield 30, 3) := by decide +kernel
theorem dX4_settle_30 : decode cX4_settle 30 = .ok (.iload_n 1, 1) := by decide +kernel
theorem dX4_settle_31 : decode cX4_settle 31 = .ok (.aaload, 1) := by decide +kernel
theorem dX4_settle_32 : decode cX4_settle 32 = .ok (.aload_n 0, 1) := by decide +kernel
theorem dX4_settle_33 : decode cX4_settle 33 = .ok (.getfield 37, 3) := by decide +kernel
theorem dX4_settle_36 : decode cX4_settle 36 = .ok (.invokevirtual 102, 3) := by decide +kernel
theorem dX4_settle_39 : decode cX4_settle 39 = .ok (.aload_n 0, 1) := by decide +kernel
theorem dX4_settle_40 : decode cX4_settle 40 = .ok (.getfield 37, 3) := by decide +kernel
theorem dX4_settle_43 : decode cX4_settle 43 = .ok (.invokevirtual 75, 3) := by decide +kernel
theorem dX4_settle_46 : decode cX4_settle 46 = .ok (.sipush 240, 3) := by decide +kernel
theorem dX4_settle_49 : decode cX4_settle 49 = .ok (.if_icmp .le 5, 3) := by decide +kernel
theorem dX4_settle_52 : decode cX4_settle 52 = .ok (.iconst 0, 1) := by decide +kernel
theorem dX4_settle_53 : decode cX4_settle 53 = .ok (.ireturn, 1) := by decide +kernel
theorem dX4_settle_54 : decode cX4_settle 54 = .ok (.aload_n 0, 1) := by decide +kernel
theorem dX4_settle_55 : decode cX4_settle 55 = .ok (.getfield 30, 3) := by decide +kernel
theorem dX4_settle_58 : decode cX4_settle 58 = .ok (.iload_n 1, 1) := by decide +kernel
theorem dX4_settle_59 : decode cX4_settle 59 = .ok (.iconst 1, 1) := by decide +kernel
theorem dX4_settle_60 : decode cX4_settle 60 = .ok (.isub, 1) := by decide +kernel
theorem dX4_settle_61 : decode cX4_settle 61 = .ok (.aaload, 1) := by decide +kernel
theorem dX4_settle_62 : decode cX4_settle 62 = .ok (.astore_n 2, 1) := by decide +kernel
theorem dX4_settle_63 : decode cX4_settle 63 = .ok (.aload_n 2, 1) := by decide +kernel
theorem dX4_settle_64 : decode cX4_settle 64 = .ok (.aload_n 2, 1) := by decide +kernel
theorem dX4_settle_65 : decode cX4_settle 65 = .ok (.getfield 53, 3) := by decide +kernel
theorem dX4_settle_68 : decode cX4_settle 68 = .ok (.invokevirtual 105, 3) := by decide +kernel
theorem dX4_settle_71 : decode cX4_settle 71 = .ok (.aload_n 2, 1) := by decide +kernel
theorem dX4_settle_72 : decode cX4_settle 72 = .ok (.aload_n 2, 1) := by decide +kernel
theorem dX4_settle_73 : decode cX4_settle 73 = .ok (.getfield 53, 3) := by decide +kernel
theorem dX4_settle_76 : decode cX4_settle 76 = .ok (.aload_n 0, 1) := by decide +kernel
theorem dX4_settle_77 : decode cX4_settle 77 = .ok (.getfield 37, 3) := by decide +kernel
theorem dX4_settle_80 : decode cX4_settle 80 = .ok (.invokevirtual 108, 3) := by decide +kernel
theorem dX4_settle_83 : decode cX4_settle 83 = .ok (.iinc 1 (-1), 3) := by decide +kernel
theorem dX4_settle_86 : decode cX4_settle 86 = .ok (.goto (-71), 3) := by decide +kernel
theorem dX4_settle_89 : decode cX4_settle 89 = .ok (.aload_n 0, 1) := by decide +kernel
theorem dX4_settle_90 : decode cX4_settle 90 = .ok (.getfield 37, 3) := by decide +kernel
theorem dX4_settle_93 : decode cX4_settle 93 = .ok (.invokevirtual 99, 3) := by decide +kernel
theorem dX4_settle_96 : decode cX4_settle 96 = .ok (.aload_n 0, 1) := by decide +kernel
theorem dX4_settle_97 : decode cX4_settle 97 = .ok (.getfield 37, 3) := by decide +kernel
theorem dX4_settle_100 : decode cX4_settle 100 = .ok (.aload_n 0, 1) := by decide +kernel
theorem dX4_settle_101 : decode cX4_settle 101 = .ok (.getfield 14, 3) := by decide +kernel
theorem dX4_settle_104 : decode cX4_settle 104 = .ok (.iconst 0, 1) := by decide +kernel
theorem dX4_settle_105 : decode cX4_settle 105 = .ok (.aload_n 0, 1) := by decide +kernel
theorem dX4_settle_106 : decode cX4_settle 106 = .ok (.getfield 20, 3) := by decide +kernel
theorem dX4_settle_109 : decode cX4_settle 109 = .ok (.invokevirtual 112, 3) := by decide +kernel
theorem dX4_settle_112 : decode cX4_settle 112 = .ok (.aload_n 0, 1) := by decide +kernel
theorem dX4_settle_113 : decode cX4_settle 113 = .ok (.getfield 34, 3) := by decide +kernel
theorem dX4_settle_116 : decode cX4_settle 116 = .ok (.ifCond .le 16, 3) := by decide +kernel
theorem dX4_settle_119 : decode cX4_settle 119 = .ok (.aload_n 0, 1) := by decide +kernel
theorem dX4_settle_120 : decode cX4_settle 120 = .ok (.getfield 30, 3) := by decide +kernel
theorem dX4_settle_123 : decode cX4_settle 123 = .ok (.iconst 0, 1) := by decide +kernel
theorem dX4_settle_124 : decode cX4_settle 124 = .ok (.aaload, 1) := by decide +kernel
theorem dX4_settle_125 : decode cX4_settle 125 = .ok (.aload_n 0, 1) := by decide +kernel
theorem dX4_settle_126 : decode cX4_settle 126 = .ok (.getfield 37, 3) := by decide +kernel
theorem dX4_settle_129 : decode cX4_settle 129 = .ok (.invokevirtual 102, 3) := by decide +kernel
theorem dX4_settle_132 : decode cX4_settle 132 = .ok (.aload_n 0, 1) := by decide +kernel
theorem dX4_settle_133 : decode cX4_settle 133 = .ok (.getfield 37, 3) := by decide +kernel
theorem dX4_settle_136 : decode cX4_settle 136 = .ok (.aload_n 0, 1) := by decide +kernel
theorem dX4_settle_137 : decode cX4_settle 137 = .ok (.getfield 14, 3) := by decide +kernel
theorem dX4_settle_140 : decode cX4_settle 140 = .ok (.aload_n 0, 1) := by decide +kernel
theorem dX4_settle_141 : decode cX4_settle 141 = .ok (.getfield 20, 3) := by decide +kernel
theorem dX4_settle_144 : decode cX4_settle 144 = .ok (.aload_n 0, 1) := by decide +kernel
theorem dX4_settle_145 : decode cX4_settle 145 = .ok (.getfield 14, 3) := by decide +kernel
theorem dX4_settle_148 : decode cX4_settle 148 = .ok (.invokevirtual 75, 3) := by decide +kernel
theorem dX4_settle_151 : decode cX4_settle 151 = .ok (.invokevirtual 112, 3) := by decide +kernel
theorem dX4_settle_154 : decode cX4_settle 154 = .ok (.aload_n 0, 1) := by decide +kernel
theorem dX4_settle_155 : decode cX4_settle 155 = .ok (.getfield 37, 3) := by decide +kernel
theorem dX4_settle_158 : decode cX4_settle 158 = .ok (.invokevirtual 75, 3) := by decide +kernel
theorem dX4_settle_161 : decode cX4_settle 161 = .ok (.sipush 240, 3) := by decide +kernel
theorem dX4_settle_164 : decode cX4_settle 164 = .ok (.if_icmp .gt 7, 3) := by decide +kernel
theorem dX4_settle_167 : decode cX4_settle 167 = .ok (.iconst 1, 1) := by decide +kernel
theorem dX4_settle_168 : decode cX4_settle 168 = .ok (.goto 4, 3) := by decide +kernel
theorem dX4_settle_171 : decode cX4_settle 171 = .ok (.iconst 0, 1) := by decide +kernel
theorem dX4_settle_172 : decode cX4_settle 172 = .ok (.ireturn, 1) := by decide +kernel
theorem dX5_init_0 : decode cX5_init 0 = .ok (.aload_n 0, 1) := by decide +kernel
theorem dX5_init_1 : decode cX5_init 1 = .ok (.invokespecial 3, 3) := by decide +kernel
theorem dX5_init_4 : decode cX5_init 4 = .ok (.aload_n 0, 1) := by decide +kernel
theorem dX5_init_5 : decode cX5_init 5 = .ok (.new 9, 3) := by decide +kernel
theorem dX5_init_8 : decode cX5_init 8 = .ok (.dup, 1) := by decide +kernel
theorem dX5_init_9 : decode cX5_init 9 = .ok (.sipush 1024, 3) := by decide +kernel
theorem dX5_init_12 : decode cX5_init 12 = .ok (.invokespecial 11, 3) := by decide +kernel
theorem dX5_init_15 : decode cX5_init 15 = .ok (.putfield 14, 3) := by decide +kernel
theorem dX5_init_18 : decode cX5_init 18 = .ok (.aload_n 0, 1) := by decide +kernel
theorem dX5_init_19 : decode cX5_init 19 = .ok (.bipush 16, 2) := by decide +kernel
theorem dX5_init_21 : decode cX5_init 21 = .ok (.anewarray 20, 3) := by decide +kernel
theorem dX5_init_24 : decode cX5_init 24 = .ok (.putfield 22, 3) := by decide +kernel
theorem dX5_init_27 : decode cX5_init 27 = .ok (.aload_n 0, 1) := by decide +kernel
theorem dX5_init_28 : decode cX5_init 28 = .ok (.iconst 0, 1) := by decide +kernel
theorem dX5_init_29 : decode cX5_init 29 = .ok (.putfield 26, 3) := by decide +kernel
theorem dX5_init_32 : decode cX5_init 32 = .ok (.aload_n 0, 1) := by decide +kernel
theorem dX5_init_33 : decode cX5_init 33 = .ok (.bipush 10, 2) := by decide +kernel
theorem dX5_init_35 : decode cX5_init 35 = .ok (.anewarray 20, 3) := by decide +kernel
theorem dX5_init_38 : decode cX5_init 38 = .ok (.putfield 30, 3) := by decide +kernel
theorem dX5_init_41 : decode cX5_init 41 = .ok (.return_, 1) := by decide +kernel
theorem dX5_size_0 : decode cX5_size 0 = .ok (.aload_n 0, 1) := by decide +kernel
theorem dX5_size_1 : decode cX5_size 1 = .ok (.getfield 26, 3) := by decide +kernel
theorem dX5_size_4 : decode cX5_size 4 = .ok (.ireturn, 1) := by decide +kernel
theorem dX5_settleMasters_0 : decode cX5_settleMasters 0 = .ok (.iconst 0, 1) := by decide +kernel
theorem dX5_settleMasters_1 : decode cX5_settleMasters 1 = .ok (.istore_n 1, 1) := by decide +kernel
theorem dX5_settleMasters_2 : decode cX5_settleMasters 2 = .ok (.iload_n 1, 1) := by decide +kernel
theorem dX5_settleMasters_3 : decode cX5_settleMasters 3 = .ok (.aload_n 0, 1) := by decide +kernel
theorem dX5_settleMasters_4 : decode cX5_settleMasters 4 = .ok (.getfield 26, 3) := by decide +kernel
theorem dX5_settleMasters_7 : decode cX5_settleMasters 7 = .ok (.if_icmp .ge 39, 3) := by decide +kernel
theorem dX5_settleMasters_10 : decode cX5_settleMasters 10 = .ok (.aload_n 0, 1) := by decide +kernel
theorem dX5_settleMasters_11 : decode cX5_settleMasters 11 = .ok (.getfield 22, 3) := by decide +kernel
theorem dX5_settleMasters_14 : decode cX5_settleMasters 14 = .ok (.iload_n 1, 1) := by decide +kernel
theorem dX5_settleMasters_15 : decode cX5_settleMasters 15 = .ok (.aaload, 1) := by decide +kernel
theorem dX5_settleMasters_16 : decode cX5_settleMasters 16 = .ok (.astore_n 2, 1) := by decide +kernel
theorem dX5_settleMasters_17 : decode cX5_settleMasters 17 = .ok (.aload_n 2, 1) := by decide +kernel
theorem dX5_settleMasters_18 : decode cX5_settleMasters 18 = .ok (.ifnull 22, 3) := by decide +kernel
theorem dX5_settleMasters_21 : decode cX5_settleMasters 21 = .ok (.aload_n 2, 1) := by decide +kernel
theorem dX5_settleMasters_22 : decode cX5_settleMasters 22 = .ok (.getfield 58, 3) := by decide +kernel
theorem dX5_settleMasters_25 : decode cX5_settleMasters 25 = .ok (.ifCond .ne 10, 3) := by decide +kernel
theorem dX5_settleMasters_28 : decode cX5_settleMasters 28 = .ok (.aload_n 2, 1) := by decide +kernel
theorem dX5_settleMasters_29 : decode cX5_settleMasters 29 = .ok (.getfield 62, 3) := by decide +kernel
theorem dX5_settleMasters_32 : decode cX5_settleMasters 32 = .ok (.ifCond .le 8, 3) := by decide +kernel
theorem dX5_settleMasters_35 : decode cX5_settleMasters 35 = .ok (.aload_n 0, 1) := by decide +kernel
theorem dX5_settleMasters_36 : decode cX5_settleMasters 36 = .ok (.aload_n 2, 1) := by decide +kernel
theorem dX5_settleMasters_37 : decode cX5_settleMasters 37 = .ok (.invokevirtual 65, 3) := by decide +kernel
theorem dX5_settleMasters_40 : decode cX5_settleMasters 40 = .ok (.iinc 1 1, 3) := by decide +kernel
theorem dX5_settleMasters_43 : decode cX5_settleMasters 43 = .ok (.goto (-41), 3) := by decide +kernel
theorem dX5_settleMasters_46 : decode cX5_settleMasters 46 = .ok (.iconst 0, 1) := by decide +kernel
theorem dX5_settleMasters_47 : decode cX5_settleMasters 47 = .ok (.istore_n 1, 1) := by decide +kernel
theorem dX5_settleMasters_48 : decode cX5_settleMasters 48 = .ok (.iload_n 1, 1) := by decide +kernel
theorem dX5_settleMasters_49 : decode cX5_settleMasters 49 = .ok (.aload_n 0, 1) := by decide +kernel
theorem dX5_settleMasters_50 : decode cX5_settleMasters 50 = .ok (.getfield 26, 3) := by decide +kernel
theorem dX5_settleMasters_53 : decode cX5_settleMasters 53 = .ok (.if_icmp .ge 32, 3) := by decide +kernel
theorem dX5_settleMasters_56 : decode cX5_settleMasters 56 = .ok (.aload_n 0, 1) := by decide +kernel
theorem dX5_settleMasters_57 : decode cX5_settleMasters 57 = .ok (.getfield 22, 3) := by decide +kernel
theorem dX5_settleMasters_60 : decode cX5_settleMasters 60 = .ok (.iload_n 1, 1) := by decide +kernel
theorem dX5_settleMasters_61 : decode cX5_settleMasters 61 = .ok (.aaload, 1) := by decide +kernel
theorem dX5_settleMasters_62 : decode cX5_settleMasters 62 = .ok (.astore_n 2, 1) := by decide +kernel
theorem dX5_settleMasters_63 : decode cX5_settleMasters 63 = .ok (.aload_n 2, 1) := by decide +kernel
theorem dX5_settleMasters_64 : decode cX5_settleMasters 64 = .ok (.ifnull 15, 3) := by decide +kernel
theorem dX5_settleMasters_67 : decode cX5_settleMasters 67 = .ok (.aload_n 2, 1) := by decide +kernel
theorem dX5_settleMasters_68 : decode cX5_settleMasters 68 = .ok (.getfield 69, 3) := by decide +kernel
theorem dX5_settleMasters_71 : decode cX5_settleMasters 71 = .ok (.ifCond .ne 8, 3) := by decide +kernel
theorem dX5_settleMasters_74 : decode cX5_settleMasters 74 = .ok (.aload_n 0, 1) := by decide +kernel
theorem dX5_settleMasters_75 : decode cX5_settleMasters 75 = .ok (.aload_n 2, 1) := by decide +kernel
theorem dX5_settleMasters_76 : decode cX5_settleMasters 76 = .ok (.invokevirtual 65, 3) := by decide +kernel
theorem dX5_settleMasters_79 : decode cX5_settleMasters 79 = .ok (.iinc 1 1, 3) := by decide +kernel
theorem dX5_settleMasters_82 : decode cX5_settleMasters 82 = .ok (.goto (-34), 3) := by decide +kernel
theorem dX5_settleMasters_85 : decode cX5_settleMasters 85 = .ok (.return_, 1) := by decide +kernel
theorem dX6_init_0 : decode cX6_init 0 = .ok (.aload_n 0, 1) := by decide +kernel
theorem dX6_init_1 : decode cX6_init 1 = .ok (.invokespecial 3, 3) := by decide +kernel
theorem dX6_init_4 : decode cX6_init 4 = .ok (.aload_n 0, 1) := by decide +kernel
theorem dX6_init_5 : decode cX6_init 5 = .ok (.new 9, 3) := by decide +kernel
theorem dX6_init_8 : decode cX6_init 8 = .ok (.dup, 1) := by decide +kernel
theorem dX6_init_9 : decode cX6_init 9 = .ok (.bipush 120, 2) := by decide +kernel
theorem dX6_init_11 : decode cX6_init 11 = .ok (.invokespecial 11, 3) := by decide +kernel
theorem dX6_init_14 : decode cX6_init 14 = .ok (.putfield 14, 3) := by decide +kernel
theorem dX6_init_17 : decode cX6_init 17 = .ok (.aload_n 0, 1) := by decide +kernel
theorem dX6_init_18 : decode cX6_init 18 = .ok (.new 9, 3) := by decide +kernel
theorem dX6_init_21 : decode cX6_init 21 = .ok (.dup, 1) := by decide +kernel
theorem dX6_init_22 : decode cX6_init 22 = .ok (.ldc 18, 2) := by decide +kernel
theorem dX6_init_24 : decode cX6_init 24 = .ok (.invokespecial 11, 3) := by decide +kernel
theorem dX6_init_27 : decode cX6_init 27 = .ok (.putfield 19, 3) := by decide +kernel
theorem dX6_init_30 : decode cX6_init 30 = .ok (.aload_n 0, 1) := by decide +kernel
theorem dX6_init_31 : decode cX6_init 31 = .ok (.bipush 8, 2) := by decide +kernel
theorem dX6_init_33 : decode cX6_init 33 = .ok (.anewarray 22, 3) := by decide +kernel
theorem dX6_init_36 : decode cX6_init 36 = .ok (.putfield 24, 3) := by decide +kernel
theorem dX6_init_39 : decode cX6_init 39 = .ok (.aload_n 0, 1) := by decide +kernel
theorem dX6_init_40 : decode cX6_init 40 = .ok (.iconst 0, 1) := by decide +kernel
theorem dX6_init_41 : decode cX6_init 41 = .ok (.putfield 28, 3) := by decide +kernel
theorem dX6_init_44 : decode cX6_init 44 = .ok (.aload_n 0, 1) := by decide +kernel
theorem dX6_init_45 : decode cX6_init 45 = .ok (.iconst 0, 1) := by decide +kernel
theorem dX6_init_46 : decode cX6_init 46 = .ok (.putfield 32, 3) := by decide +kernel
theorem dX6_init_49 : decode cX6_init 49 = .ok (.aload_n 0, 1) := by decide +kernel
theorem dX6_init_50 : decode cX6_init 50 = .ok (.iconst 0, 1) := by decide +kernel
theorem dX6_init_51 : decode cX6_init 51 = .ok (.putfield 35, 3) := by decide +kernel
theorem dX6_init_54 : decode cX6_init 54 = .ok (.aload_n 0, 1) := by decide +kernel
theorem dX6_init_55 : decode cX6_init 55 = .ok (.iconst 0, 1) := by decide +kernel
theorem dX6_init_56 : decode cX6_init 56 = .ok (.putfield 38, 3) := by decide +kernel
theorem dX6_init_59 : decode cX6_init 59 = .ok (.new 41, 3) := by decide +kernel
theorem dX6_init_62 : decode cX6_init 62 = .ok (.dup, 1) := by decide +kernel
theorem dX6_init_63 : decode cX6_init 63 = .ok (.invokespecial 43, 3) := by decide +kernel
theorem dX6_init_66 : decode cX6_init 66 = .ok (.astore_n 1, 1) := by decide +kernel
theorem dX6_init_67 : decode cX6_init 67 = .ok (.aload_n 0, 1) := by decide +kernel
theorem dX6_init_68 : decode cX6_init 68 = .ok (.new 22, 3) := by decide +kernel
theorem dX6_init_71 : decode cX6_init 71 = .ok (.dup, 1) := by decide +kernel
theorem dX6_init_72 : decode cX6_init 72 = .ok (.aload_n 1, 1) := by decide +kernel
theorem dX6_init_73 : decode cX6_init 73 = .ok (.invokespecial 44, 3) := by decide +kernel
theorem dX6_init_76 : decode cX6_init 76 = .ok (.putfield 47, 3) := by decide +kernel
theorem dX6_init_79 : decode cX6_init 79 = .ok (.aload_n 0, 1) := by decide +kernel
theorem dX6_init_80 : decode cX6_init 80 = .ok (.new 22, 3) := by decide +kernel
theorem dX6_init_83 : decode cX6_init 83 = .ok (.dup, 1) := by decide +kernel
theorem dX6_init_84 : decode cX6_init 84 = .ok (.aload_n 1, 1) := by decide +kernel
theorem dX6_init_85 : decode cX6_init 85 = .ok (.invokespecial 44, 3) := by decide +kernel
theorem dX6_init_88 : decode cX6_init 88 = .ok (.putfield 51, 3) := by decide +kernel
theorem dX6_init_91 : decode cX6_init 91 = .ok (.iconst 0, 1) := by decide +kernel
theorem dX6_init_92 : decode cX6_init 92 = .ok (.istore_n 2, 1) := by decide +kernel
theorem dX6_init_93 : decode cX6_init 93 = .ok (.iload_n 2, 1) := by decide +kernel
theorem dX6_init_94 : decode cX6_init 94 = .ok (.aload_n 0, 1) := by decide +kernel
theorem dX6_init_95 : decode cX6_init 95 = .ok (.getfield 24, 3) := by decide +kernel
theorem dX6_init_98 : decode cX6_init 98 = .ok (.arraylength, 1) := by decide +kernel
theorem dX6_init_99 : decode cX6_init 99 = .ok (.if_icmp .ge 23, 3) := by decide +kernel
theorem dX6_init_102 : decode cX6_init 102 = .ok (.aload_n 0, 1) := by decide +kernel
theorem dX6_init_103 : decode cX6_init 103 = .ok (.getfield 24, 3) := by decide +kernel
theorem dX6_init_106 : decode cX6_init 106 = .ok (.iload_n 2, 1) := by decide +kernel
theorem dX6_init_107 : decode cX6_init 107 = .ok (.new 22, 3) := by decide +kernel
theorem dX6_init_110 : decode cX6_init 110 = .ok (.dup, 1) := by decide +kernel
theorem dX6_init_111 : decode cX6_init 111 = .ok (.aload_n 1, 1) := by decide +kernel
theorem dX6_init_112 : decode cX6_init 112 = .ok (.invokespecial 44, 3) := by decide +kernel
theorem dX6_init_115 : decode cX6_init 115 = .ok (.aastore, 1) := by decide +kernel
theorem dX6_init_116 : decode cX6_init 116 = .ok (.iinc 2 1, 3) := by decide +kernel
theorem dX6_init_119 : decode cX6_init 119 = .ok (.goto (-26), 3) := by decide +kernel
theorem dX6_init_122 : decode cX6_init 122 = .ok (.return_, 1) := by decide +kernel
theorem dX6_type_0 : decode cX6_type 0 = .ok (.iload_n 1, 1) := by decide +kernel
theorem dX6_type_1 : decode cX6_type 1 = .ok (.ifCond .lt 9, 3) := by decide +kernel
theorem dX6_type_4 : decode cX6_type 4 = .ok (.iload_n 1, 1) := by decide +kernel
theorem dX6_type_5 : decode cX6_type 5 = .ok (.bipush 127, 2) := by decide +kernel
theorem dX6_type_7 : decode cX6_type 7 = .ok (.if_icmp .le 10, 3) := by decide +kernel
theorem dX6_type_10 : decode cX6_type 10 = .ok (.aload_n 0, 1) := by decide +kernel
theorem dX6_type_11 : decode cX6_type 11 = .ok (.bipush (-2), 2) := by decide +kernel
theorem dX6_type_13 : decode cX6_type 13 = .ok (.invokevirtual 54, 3) := by decide +kernel
theorem dX6_type_16 : decode cX6_type 16 = .ok (.ireturn, 1) := by decide +kernel
theorem dX6_type_17 : decode cX6_type 17 = .ok (.aload_n 0, 1) := by decide +kernel
theorem dX6_type_18 : decode cX6_type 18 = .ok (.getfield 14, 3) := by decide +kernel
theorem dX6_type_21 : decode cX6_type 21 = .ok (.invokevirtual 58, 3) := by decide +kernel
theorem dX6_type_24 : decode cX6_type 24 = .ok (.bipush 120, 2) := by decide +kernel
theorem dX6_type_26 : decode cX6_type 26 = .ok (.if_icmp .lt 10, 3) := by decide +kernel
theorem dX6_type_29 : decode cX6_type 29 = .ok (.aload_n 0, 1) := by decide +kernel
theorem dX6_type_30 : decode cX6_type 30 = .ok (.bipush (-4), 2) := by decide +kernel
theorem dX6_type_32 : decode cX6_type 32 = .ok (.invokevirtual 54, 3) := by decide +kernel
theorem dX6_type_35 : decode cX6_type 35 = .ok (.ireturn, 1) := by decide +kernel
theorem dX6_type_36 : decode cX6_type 36 = .ok (.aload_n 0, 1) := by decide +kernel
theorem dX6_type_37 : decode cX6_type 37 = .ok (.getfield 14, 3) := by decide +kernel
theorem dX6_type_40 : decode cX6_type 40 = .ok (.iload_n 1, 1) := by decide +kernel
theorem dX6_type_41 : decode cX6_type 41 = .ok (.invokevirtual 62, 3) := by decide +kernel
theorem dX6_type_44 : decode cX6_type 44 = .ok (.aload_n 0, 1) := by decide +kernel
theorem dX6_type_45 : decode cX6_type 45 = .ok (.getfield 14, 3) := by decide +kernel
theorem dX6_type_48 : decode cX6_type 48 = .ok (.invokevirtual 58, 3) := by decide +kernel
theorem dX6_type_51 : decode cX6_type 51 = .ok (.ireturn, 1) := by decide +kernel
theorem dX6_clear_0 : decode cX6_clear 0 = .ok (.aload_n 0, 1) := by decide +kernel
theorem dX6_clear_1 : decode cX6_clear 1 = .ok (.getfield 14, 3) := by decide +kernel
theorem dX6_clear_4 : decode cX6_clear 4 = .ok (.invokevirtual 58, 3) := by decide +kernel
theorem dX6_clear_7 : decode cX6_clear 7 = .ok (.istore_n 1, 1) := by decide +kernel
theorem dX6_clear_8 : decode cX6_clear 8 = .ok (.aload_n 0, 1) := by decide +kernel
theorem dX6_clear_9 : decode cX6_clear 9 = .ok (.getfield 14, 3) := by decide +kernel
theorem dX6_clear_12 : decode cX6_clear 12 = .ok (.invokevirtual 65, 3) := by decide +kernel
theorem dX6_clear_15 : decode cX6_clear 15 = .ok (.iload_n 1, 1) := by decide +kernel
theorem dX6_clear_16 : decode cX6_clear 16 = .ok (.ireturn, 1) := by decide +kernel
theorem dX6_variable_0 : decode cX6_variable 0 = .ok (.iload_n 1, 1) := by decide +kernel
theorem dX6_variable_1 : decode cX6_variable 1 = .ok (.invokestatic 68, 3) := by decide +kernel
theorem dX6_variable_4 : decode cX6_variable 4 = .ok (.ifCond .eq 13, 3) := by decide +kernel
theorem dX6_variable_7 : decode cX6_variable 7 = .ok (.aload_n 0, 1) := by decide +kernel
theorem dX6_variable_8 : decode cX6_variable 8 = .ok (.getfield 14, 3) := by decide +kernel
theorem dX6_variable_11 : decode cX6_variable 11 = .ok (.invokestatic 72, 3) := by decide +kernel
theorem dX6_variable_14 : decode cX6_variable 14 = .ok (.ifCond .ne 10, 3) := by decide +kernel
theorem dX6_variable_17 : decode cX6_variable 17 = .ok (.aload_n 0, 1) := by decide +kernel
theorem dX6_variable_18 : decode cX6_variable 18 = .ok (.bipush (-2), 2) := by decide +kernel
theorem dX6_variable_20 : decode cX6_variable 20 = .ok (.invokevirtual 54, 3) := by decide +kernel
theorem dX6_variable_23 : decode cX6_variable 23 = .ok (.ireturn, 1) := by decide +kernel
theorem dX6_variable_24 : decode cX6_variable 24 = .ok (.aload_n 0, 1) := by decide +kernel
theorem dX6_variable_25 : decode cX6_variable 25 = .ok (.getfield 51, 3) := by decide +kernel
theorem dX6_variable_28 : decode cX6_variable 28 = .ok (.aload_n 0, 1) := by decide +kernel
theorem dX6_variable_29 : decode cX6_variable 29 = .ok (.getfield 47, 3) := by decide +kernel
theorem dX6_variable_32 : decode cX6_variable 32 = .ok (.invokevirtual 76, 3) := by decide +kernel
theorem dX6_variable_35 : decode cX6_variable 35 = .ok (.aload_n 0, 1) := by decide +kernel
theorem dX6_variable_36 : decode cX6_variable 36 = .ok (.getfield 51, 3) := by decide +kernel
theorem dX6_variable_39 : decode cX6_variable 39 = .ok (.getfield 80, 3) := by decide +kernel
theorem dX6_variable_42 : decode cX6_variable 42 = .ok (.iload_n 1, 1) := by decide +kernel
theorem dX6_variable_43 : decode cX6_variable 43 = .ok (.aaload, 1) := by decide +kernel
theorem dX6_variable_44 : decode cX6_variable 44 = .ok (.aload_n 0, 1) := by decide +kernel
theorem dX6_variable_45 : decode cX6_variable 45 = .ok (.getfield 14, 3) := by decide +kernel
theorem dX6_variable_48 : decode cX6_variable 48 = .ok (.invokevirtual 84, 3) := by decide +kernel
theorem dX6_variable_51 : decode cX6_variable 51 = .ok (.aload_n 0, 1) := by decide +kernel
theorem dX6_variable_52 : decode cX6_variable 52 = .ok (.invokevirtual 87, 3) := by decide +kernel
theorem dX6_variable_55 : decode cX6_variable 55 = .ok (.ifCond .eq 13, 3) := by decide +kernel
theorem dX6_variable_58 : decode cX6_variable 58 = .ok (.aload_n 0, 1) := by decide +kernel
theorem dX6_variable_59 : decode cX6_variable 59 = .ok (.getfield 14, 3) := by decide +kernel
theorem dX6_variable_62 : decode cX6_variable 62 = .ok (.invokevirtual 58, 3) := by decide +kernel
theorem dX6_variable_65 : decode cX6_variable 65 = .ok (.goto 9, 3) := by decide +kernel
theorem dX6_variable_68 : decode cX6_variable 68 = .ok (.aload_n 0, 1) := by decide +kernel
theorem dX6_variable_69 : decode cX6_variable 69 = .ok (.bipush (-4), 2) := by decide +kernel
theorem dX6_variable_71 : decode cX6_variable 71 = .ok (.invokevirtual 54, 3) := by decide +kernel
theorem dX6_variable_74 : decode cX6_variable 74 = .ok (.ireturn, 1) := by decide +kernel
theorem dX6_begins_0 : decode cX6_begins 0 = .ok (.new 91, 3) := by decide +kernel
theorem dX6_begins_3 : decode cX6_begins 3 = .ok (.dup, 1) := by decide +kernel
theorem dX6_begins_4 : decode cX6_begins 4 = .ok (.aload_n 0, 1) := by decide +kernel
theorem dX6_begins_5 : decode cX6_begins 5 = .ok (.getfield 14, 3) := by decide +kernel
theorem dX6_begins_8 : decode cX6_begins 8 = .ok (.aload_n 0, 1) := by decide +kernel
theorem dX6_begins_9 : decode cX6_begins 9 = .ok (.getfield 47, 3) := by decide +kernel
theorem dX6_begins_12 : decode cX6_begins 12 = .ok (.getfield 80, 3) := by decide +kernel
theorem dX6_begins_15 : decode cX6_begins 15 = .ok (.invokespecial 93, 3) := by decide +kernel
theorem dX6_begins_18 : decode cX6_begins 18 = .ok (.astore_n 1, 1) := by decide +kernel
theorem dX6_begins_19 : decode cX6_begins 19 = .ok (.aload_n 1, 1) := by decide +kernel
theorem dX6_begins_20 : decode cX6_begins 20 = .ok (.invokevirtual 96, 3) := by decide +kernel
theorem dX6_begins_23 : decode cX6_begins 23 = .ok (.istore_n 2, 1) := by decide +kernel
theorem dX6_begins_24 : decode cX6_begins 24 = .ok (.iload_n 2, 1) := by decide +kernel
theorem dX6_begins_25 : decode cX6_begins 25 = .ok (.iconst (-1), 1) := by decide +kernel
theorem dX6_begins_26 : decode cX6_begins 26 = .ok (.if_icmp .eq 8, 3) := by decide +kernel
theorem dX6_begins_29 : decode cX6_begins 29 = .ok (.bipush (-10), 2) := by decide +kernel
theorem dX6_begins_31 : decode cX6_begins 31 = .ok (.iload_n 2, 1) := by decide +kernel
theorem dX6_begins_32 : decode cX6_begins 32 = .ok (.isub, 1) := by decide +kernel
theorem dX6_begins_33 : decode cX6_begins 33 = .ok (.ireturn, 1) := by decide +kernel
theorem dX6_begins_34 : decode cX6_begins 34 = .ok (.aload_n 0, 1) := by decide +kernel
theorem dX6_begins_35 : decode cX6_begins 35 = .ok (.getfield 47, 3) := by decide +kernel
theorem dX6_begins_38 : decode cX6_begins 38 = .ok (.getfield 99, 3) := by decide +kernel
theorem dX6_begins_41 : decode cX6_begins 41 = .ok (.iconst 3, 1) := by decide +kernel
theorem dX6_begins_42 : decode cX6_begins 42 = .ok (.if_icmp .lt 10, 3) := by decide +kernel
theorem dX6_begins_45 : decode cX6_begins 45 = .ok (.aload_n 0, 1) := by decide +kernel
theorem dX6_begins_46 : decode cX6_begins 46 = .ok (.bipush (-3), 2) := by decide +kernel
theorem dX6_begins_48 : decode cX6_begins 48 = .ok (.invokevirtual 54, 3) := by decide +kernel
theorem dX6_begins_51 : decode cX6_begins 51 = .ok (.ireturn, 1) := by decide +kernel
theorem dX6_begins_52 : decode cX6_begins 52 = .ok (.aload_n 0, 1) := by decide +kernel
theorem dX6_begins_53 : decode cX6_begins 53 = .ok (.getfield 51, 3) := by decide +kernel
theorem dX6_begins_56 : decode cX6_begins 56 = .ok (.aload_n 0, 1) := by decide +kernel
theorem dX6_begins_57 : decode cX6_begins 57 = .ok (.getfield 47, 3) := by decide +kernel
theorem dX6_begins_60 : decode cX6_begins 60 = .ok (.invokevirtual 76, 3) := by decide +kernel
theorem dX6_begins_63 : decode cX6_begins 63 = .ok (.aload_n 0, 1) := by decide +kernel
theorem dX6_begins_64 : decode cX6_begins 64 = .ok (.getfield 51, 3) := by decide +kernel
theorem dX6_begins_67 : decode cX6_begins 67 = .ok (.aload_n 1, 1) := by decide +kernel
theorem dX6_begins_68 : decode cX6_begins 68 = .ok (.getfield 102, 3) := by decide +kernel
theorem dX6_begins_71 : decode cX6_begins 71 = .ok (.invokevirtual 106, 3) := by decide +kernel
theorem dX6_begins_74 : decode cX6_begins 74 = .ok (.istore_n 3, 1) := by decide +kernel
theorem dX6_begins_75 : decode cX6_begins 75 = .ok (.aload_n 0, 1) := by decide +kernel
theorem dX6_begins_76 : decode cX6_begins 76 = .ok (.getfield 51, 3) := by decide +kernel
theorem dX6_begins_79 : decode cX6_begins 79 = .ok (.invokevirtual 110, 3) := by decide +kernel
theorem dX6_begins_82 : decode cX6_begins 82 = .ok (.ifCond .ne 10, 3) := by decide +kernel
theorem dX6_begins_85 : decode cX6_begins 85 = .ok (.aload_n 0, 1) := by decide +kernel
theorem dX6_begins_86 : decode cX6_begins 86 = .ok (.bipush (-4), 2) := by decide +kernel
theorem dX6_begins_88 : decode cX6_begins 88 = .ok (.invokevirtual 54, 3) := by decide +kernel
theorem dX6_begins_91 : decode cX6_begins 91 = .ok (.ireturn, 1) := by decide +kernel
theorem dX6_begins_92 : decode cX6_begins 92 = .ok (.iload_n 3, 1) := by decide +kernel
theorem dX6_begins_93 : decode cX6_begins 93 = .ok (.iconst (-1), 1) := by decide +kernel
theorem dX6_begins_94 : decode cX6_begins 94 = .ok (.if_icmp .ne 10, 3) := by decide +kernel
theorem dX6_begins_97 : decode cX6_begins 97 = .ok (.aload_n 0, 1) := by decide +kernel
theorem dX6_begins_98 : decode cX6_begins 98 = .ok (.getfield 51, 3) := by decide +kernel
theorem dX6_begins_101 : decode cX6_begins 101 = .ok (.invokevirtual 113, 3) := by decide +kernel
theorem dX6_begins_104 : decode cX6_begins 104 = .ok (.aload_n 0, 1) := by decide +kernel
theorem dX6_begins_105 : decode cX6_begins 105 = .ok (.invokevirtual 87, 3) := by decide +kernel
theorem dX6_begins_108 : decode cX6_begins 108 = .ok (.ifCond .ne 10, 3) := by decide +kernel
theorem dX6_begins_111 : decode cX6_begins 111 = .ok (.aload_n 0, 1) := by decide +kernel
theorem dX6_begins_112 : decode cX6_begins 112 = .ok (.bipush (-4), 2) := by decide +kernel
theorem dX6_begins_114 : decode cX6_begins 114 = .ok (.invokevirtual 54, 3) := by decide +kernel
theorem dX6_begins_117 : decode cX6_begins 117 = .ok (.ireturn, 1) := by decide +kernel
theorem dX6_begins_118 : decode cX6_begins 118 = .ok (.iload_n 3, 1) := by decide +kernel
theorem dX6_begins_119 : decode cX6_begins 119 = .ok (.iconst (-1), 1) := by decide +kernel
theorem dX6_begins_120 : decode cX6_begins 120 = .ok (.if_icmp .ne 8, 3) := by decide +kernel
theorem dX6_begins_123 : decode cX6_begins 123 = .ok (.bipush (-5), 2) := by decide +kernel
theorem dX6_begins_125 : decode cX6_begins 125 = .ok (.goto 4, 3) := by decide +kernel
theorem dX6_begins_128 : decode cX6_begins 128 = .ok (.iload_n 3, 1) := by decide +kernel
theorem dX6_begins_129 : decode cX6_begins 129 = .ok (.ireturn, 1) := by decide +kernel
theorem dX6_key_0 : decode cX6_key 0 = .ok (.iload_n 1, 1) := by decide +kernel
theorem dX6_key_1 : decode cX6_key 1 = .ok (.invokestatic 116, 3) := by decide +kernel
theorem dX6_key_4 : decode cX6_key 4 = .ok (.ifCond .ne 10, 3) := by decide +kernel
theorem dX6_key_7 : decode cX6_key 7 = .ok (.aload_n 0, 1) := by decide +kernel
theorem dX6_key_8 : decode cX6_key 8 = .ok (.bipush (-2), 2) := by decide +kernel
theorem dX6_key_10 : decode cX6_key 10 = .ok (.invokevirtual 54, 3) := by decide +kernel
theorem dX6_key_13 : decode cX6_key 13 = .ok (.ireturn, 1) := by decide +kernel
theorem dX6_key_14 : decode cX6_key 14 = .ok (.aload_n 0, 1) := by decide +kernel
theorem dX6_key_15 : decode cX6_key 15 = .ok (.getfield 51, 3) := by decide +kernel
theorem dX6_key_18 : decode cX6_key 18 = .ok (.aload_n 0, 1) := by decide +kernel
theorem dX6_key_19 : decode cX6_key 19 = .ok (.getfield 47, 3) := by decide +kernel
theorem dX6_key_22 : decode cX6_key 22 = .ok (.invokevirtual 76, 3) := by decide +kernel
theorem dX6_key_25 : decode cX6_key 25 = .ok (.aload_n 0, 1) := by decide +kernel
theorem dX6_key_26 : decode cX6_key 26 = .ok (.getfield 51, 3) := by decide +kernel
theorem dX6_key_29 : decode cX6_key 29 = .ok (.invokevirtual 119, 3) := by decide +kernel
theorem dX6_key_32 : decode cX6_key 32 = .ok (.astore_n 2, 1) := by decide +kernel
theorem dX6_key_33 : decode cX6_key 33 = .ok (.aload_n 2, 1) := by decide +kernel
theorem dX6_key_34 : decode cX6_key 34 = .ok (.ifnonnull 14, 3) := by decide +kernel
theorem dX6_key_37 : decode cX6_key 37 = .ok (.aload_n 0, 1) := by decide +kernel
theorem dX6_key_38 : decode cX6_key 38 = .ok (.getfield 51, 3) := by decide +kernel
theorem dX6_key_41 : decode cX6_key 41 = .ok (.iload_n 1, 1) := by decide +kernel
theorem dX6_key_42 : decode cX6_key 42 = .ok (.invokevirtual 123, 3) := by decide +kernel
theorem dX6_key_45 : decode cX6_key 45 = .ok (.goto 8, 3) := by decide +kernel
theorem dX6_key_48 : decode cX6_key 48 = .ok (.aload_n 2, 1) := by decide +kernel
theorem dX6_key_49 : decode cX6_key 49 = .ok (.iload_n 1, 1) := by decide +kernel
theorem dX6_key_50 : decode cX6_key 50 = .ok (.invokevirtual 126, 3) := by decide +kernel
theorem dX6_key_53 : decode cX6_key 53 = .ok (.aload_n 0, 1) := by decide +kernel
theorem dX6_key_54 : decode cX6_key 54 = .ok (.invokevirtual 87, 3) := by decide +kernel
theorem dX6_key_57 : decode cX6_key 57 = .ok (.ifCond .eq 16, 3) := by decide +kernel
theorem dX6_key_60 : decode cX6_key 60 = .ok (.aload_n 0, 1) := by decide +kernel
theorem dX6_key_61 : decode cX6_key 61 = .ok (.getfield 47, 3) := by decide +kernel
theorem dX6_key_64 : decode cX6_key 64 = .ok (.getfield 131, 3) := by decide +kernel
theorem dX6_key_67 : decode cX6_key 67 = .ok (.invokevirtual 58, 3) := by decide +kernel
theorem dX6_key_70 : decode cX6_key 70 = .ok (.goto 9, 3) := by decide +kernel
theorem dX6_key_73 : decode cX6_key 73 = .ok (.aload_n 0, 1) := by decide +kernel
theorem dX6_key_74 : decode cX6_key 74 = .ok (.bipush (-4), 2) := by decide +kernel
theorem dX6_key_76 : decode cX6_key 76 = .ok (.invokevirtual 54, 3) := by decide +kernel
theorem dX6_key_79 : decode cX6_key 79 = .ok (.ireturn, 1) := by decide +kernel
theorem dX6_rubs_0 : decode cX6_rubs 0 = .ok (.aload_n 0, 1) := by decide +kernel
theorem dX6_rubs_1 : decode cX6_rubs 1 = .ok (.getfield 47, 3) := by decide +kernel
theorem dX6_rubs_4 : decode cX6_rubs 4 = .ok (.invokevirtual 119, 3) := by decide +kernel
theorem dX6_rubs_7 : decode cX6_rubs 7 = .ok (.astore_n 1, 1) := by decide +kernel
theorem dX6_rubs_8 : decode cX6_rubs 8 = .ok (.aload_n 1, 1) := by decide +kernel
theorem dX6_rubs_9 : decode cX6_rubs 9 = .ok (.ifnonnull 16, 3) := by decide +kernel
theorem dX6_rubs_12 : decode cX6_rubs 12 = .ok (.aload_n 0, 1) := by decide +kernel
theorem dX6_rubs_13 : decode cX6_rubs 13 = .ok (.getfield 47, 3) := by decide +kernel
theorem dX6_rubs_16 : decode cX6_rubs 16 = .ok (.getfield 134, 3) := by decide +kernel
theorem dX6_rubs_19 : decode cX6_rubs 19 = .ok (.ifCond .ne 28, 3) := by decide +kernel
theorem dX6_rubs_22 : decode cX6_rubs 22 = .ok (.goto 18, 3) := by decide +kernel
theorem dX6_rubs_25 : decode cX6_rubs 25 = .ok (.aload_n 0, 1) := by decide +kernel
theorem dX6_rubs_26 : decode cX6_rubs 26 = .ok (.aload_n 1, 1) := by decide +kernel
theorem dX6_rubs_27 : decode cX6_rubs 27 = .ok (.aload_n 1, 1) := by decide +kernel
theorem dX6_rubs_28 : decode cX6_rubs 28 = .ok (.getfield 137, 3) := by decide +kernel
theorem dX6_rubs_31 : decode cX6_rubs 31 = .ok (.invokevirtual 140, 3) := by decide +kernel
theorem dX6_rubs_34 : decode cX6_rubs 34 = .ok (.invokevirtual 58, 3) := by decide +kernel
theorem dX6_rubs_37 : decode cX6_rubs 37 = .ok (.ifCond .ne 10, 3) := by decide +kernel
theorem dX6_rubs_40 : decode cX6_rubs 40 = .ok (.aload_n 0, 1) := by decide +kernel
theorem dX6_rubs_41 : decode cX6_rubs 41 = .ok (.bipush (-3), 2) := by decide +kernel
theorem dX6_rubs_43 : decode cX6_rubs 43 = .ok (.invokevirtual 54, 3) := by decide +kernel
theorem dX6_rubs_46 : decode cX6_rubs 46 = .ok (.ireturn, 1) := by decide +kernel
theorem dX6_rubs_47 : decode cX6_rubs 47 = .ok (.aload_n 0, 1) := by decide +kernel
theorem dX6_rubs_48 : decode cX6_rubs 48 = .ok (.getfield 51, 3) := by decide +kernel
theorem dX6_rubs_51 : decode cX6_rubs 51 = .ok (.aload_n 0, 1) := by decide +kernel
theorem dX6_rubs_52 : decode cX6_rubs 52 = .ok (.getfield 47, 3) := by decide +kernel
theorem dX6_rubs_55 : decode cX6_rubs 55 = .ok (.invokevirtual 76, 3) := by decide +kernel
theorem dX6_rubs_58 : decode cX6_rubs 58 = .ok (.aload_n 0, 1) := by decide +kernel
theorem dX6_rubs_59 : decode cX6_rubs 59 = .ok (.getfield 51, 3) := by decide +kernel
theorem dX6_rubs_62 : decode cX6_rubs 62 = .ok (.invokevirtual 119, 3) := by decide +kernel
theorem dX6_rubs_65 : decode cX6_rubs 65 = .ok (.astore_n 1, 1) := by decide +kernel
theorem dX6_rubs_66 : decode cX6_rubs 66 = .ok (.aload_n 1, 1) := by decide +kernel
theorem dX6_rubs_67 : decode cX6_rubs 67 = .ok (.ifnonnull 23, 3) := by decide +kernel
theorem dX6_rubs_70 : decode cX6_rubs 70 = .ok (.aload_n 0, 1) := by decide +kernel
theorem dX6_rubs_71 : decode cX6_rubs 71 = .ok (.getfield 51, 3) := by decide +kernel
theorem dX6_rubs_74 : decode cX6_rubs 74 = .ok (.aload_n 0, 1) := by decide +kernel
theorem dX6_rubs_75 : decode cX6_rubs 75 = .ok (.getfield 51, 3) := by decide +kernel
theorem dX6_rubs_78 : decode cX6_rubs 78 = .ok (.getfield 134, 3) := by decide +kernel
theorem dX6_rubs_81 : decode cX6_rubs 81 = .ok (.iconst 1, 1) := by decide +kernel
theorem dX6_rubs_82 : decode cX6_rubs 82 = .ok (.isub, 1) := by decide +kernel
theorem dX6_rubs_83 : decode cX6_rubs 83 = .ok (.iconst 1, 1) := by decide +kernel
theorem dX6_rubs_84 : decode cX6_rubs 84 = .ok (.invokevirtual 144, 3) := by decide +kernel
theorem dX6_rubs_87 : decode cX6_rubs 87 = .ok (.goto 7, 3) := by decide +kernel
theorem dX6_rubs_90 : decode cX6_rubs 90 = .ok (.aload_n 1, 1) := by decide +kernel
theorem dX6_rubs_91 : decode cX6_rubs 91 = .ok (.invokevirtual 148, 3) := by decide +kernel
theorem dX6_rubs_94 : decode cX6_rubs 94 = .ok (.aload_n 0, 1) := by decide +kernel
theorem dX6_rubs_95 : decode cX6_rubs 95 = .ok (.invokevirtual 87, 3) := by decide +kernel
theorem dX6_rubs_98 : decode cX6_rubs 98 = .ok (.ifCond .eq 16, 3) := by decide +kernel
theorem dX6_rubs_101 : decode cX6_rubs 101 = .ok (.aload_n 0, 1) := by decide +kernel
theorem dX6_rubs_102 : decode cX6_rubs 102 = .ok (.getfield 47, 3) := by decide +kernel
theorem dX6_rubs_105 : decode cX6_rubs 105 = .ok (.getfield 131, 3) := by decide +kernel
theorem dX6_rubs_108 : decode cX6_rubs 108 = .ok (.invokevirtual 58, 3) := by decide +kernel
theorem dX6_rubs_111 : decode cX6_rubs 111 = .ok (.goto 9, 3) := by decide +kernel
theorem dX6_rubs_114 : decode cX6_rubs 114 = .ok (.aload_n 0, 1) := by decide +kernel
theorem dX6_rubs_115 : decode cX6_rubs 115 = .ok (.bipush (-4), 2) := by decide +kernel
theorem dX6_rubs_117 : decode cX6_rubs 117 = .ok (.invokevirtual 54, 3) := by decide +kernel
theorem dX6_rubs_120 : decode cX6_rubs 120 = .ok (.ireturn, 1) := by decide +kernel
theorem dX6_nexts_0 : decode cX6_nexts 0 = .ok (.aload_n 0, 1) := by decide +kernel
theorem dX6_nexts_1 : decode cX6_nexts 1 = .ok (.getfield 47, 3) := by decide +kernel
theorem dX6_nexts_4 : decode cX6_nexts 4 = .ok (.invokevirtual 119, 3) := by decide +kernel
theorem dX6_nexts_7 : decode cX6_nexts 7 = .ok (.astore_n 1, 1) := by decide +kernel
theorem dX6_nexts_8 : decode cX6_nexts 8 = .ok (.aload_n 1, 1) := by decide +kernel
theorem dX6_nexts_9 : decode cX6_nexts 9 = .ok (.ifnonnull 10, 3) := by decide +kernel
theorem dX6_nexts_12 : decode cX6_nexts 12 = .ok (.aload_n 0, 1) := by decide +kernel
theorem dX6_nexts_13 : decode cX6_nexts 13 = .ok (.bipush (-3), 2) := by decide +kernel
theorem dX6_nexts_15 : decode cX6_nexts 15 = .ok (.invokevirtual 54, 3) := by decide +kernel
theorem dX6_nexts_18 : decode cX6_nexts 18 = .ok (.ireturn, 1) := by decide +kernel
theorem dX6_nexts_19 : decode cX6_nexts 19 = .ok (.aload_n 1, 1) := by decide +kernel
theorem dX6_nexts_20 : decode cX6_nexts 20 = .ok (.aload_n 1, 1) := by decide +kernel
theorem dX6_nexts_21 : decode cX6_nexts 21 = .ok (.getfield 137, 3) := by decide +kernel
theorem dX6_nexts_24 : decode cX6_nexts 24 = .ok (.invokevirtual 151, 3) := by decide +kernel
theorem dX6_nexts_27 : decode cX6_nexts 27 = .ok (.istore_n 2, 1) := by decide +kernel
theorem dX6_nexts_28 : decode cX6_nexts 28 = .ok (.aload_n 0, 1) := by decide +kernel
theorem dX6_nexts_29 : decode cX6_nexts 29 = .ok (.getfield 51, 3) := by decide +kernel
theorem dX6_nexts_32 : decode cX6_nexts 32 = .ok (.aload_n 0, 1) := by decide +kernel
theorem dX6_nexts_33 : decode cX6_nexts 33 = .ok (.getfield 47, 3) := by decide +kernel
theorem dX6_nexts_36 : decode cX6_nexts 36 = .ok (.invokevirtual 76, 3) := by decide +kernel
theorem dX6_nexts_39 : decode cX6_nexts 39 = .ok (.iload_n 2, 1) := by decide +kernel
theorem dX6_nexts_40 : decode cX6_nexts 40 = .ok (.iconst (-1), 1) := by decide +kernel
theorem dX6_nexts_41 : decode cX6_nexts 41 = .ok (.if_icmp .ne 29, 3) := by decide +kernel
theorem dX6_nexts_44 : decode cX6_nexts 44 = .ok (.aload_n 0, 1) := by decide +kernel
theorem dX6_nexts_45 : decode cX6_nexts 45 = .ok (.getfield 51, 3) := by decide +kernel
theorem dX6_nexts_48 : decode cX6_nexts 48 = .ok (.invokevirtual 113, 3) := by decide +kernel
theorem dX6_nexts_51 : decode cX6_nexts 51 = .ok (.aload_n 0, 1) := by decide +kernel
theorem dX6_nexts_52 : decode cX6_nexts 52 = .ok (.invokevirtual 87, 3) := by decide +kernel
theorem dX6_nexts_55 : decode cX6_nexts 55 = .ok (.ifCond .eq 8, 3) := by decide +kernel
theorem dX6_nexts_58 : decode cX6_nexts 58 = .ok (.bipush (-5), 2) := by decide +kernel
theorem dX6_nexts_60 : decode cX6_nexts 60 = .ok (.goto 9, 3) := by decide +kernel
theorem dX6_nexts_63 : decode cX6_nexts 63 = .ok (.aload_n 0, 1) := by decide +kernel
theorem dX6_nexts_64 : decode cX6_nexts 64 = .ok (.bipush (-4), 2) := by decide +kernel
theorem dX6_nexts_66 : decode cX6_nexts 66 = .ok (.invokevirtual 54, 3) := by decide +kernel
theorem dX6_nexts_69 : decode cX6_nexts 69 = .ok (.ireturn, 1) := by decide +kernel
theorem dX6_nexts_70 : decode cX6_nexts 70 = .ok (.aload_n 0, 1) := by decide +kernel
theorem dX6_nexts_71 : decode cX6_nexts 71 = .ok (.getfield 51, 3) := by decide +kernel
theorem dX6_nexts_74 : decode cX6_nexts 74 = .ok (.iload_n 2, 1) := by decide +kernel
theorem dX6_nexts_75 : decode cX6_nexts 75 = .ok (.invokevirtual 154, 3) := by decide +kernel
theorem dX6_nexts_78 : decode cX6_nexts 78 = .ok (.aload_n 0, 1) := by decide +kernel
theorem dX6_nexts_79 : decode cX6_nexts 79 = .ok (.invokevirtual 87, 3) := by decide +kernel
theorem dX6_nexts_82 : decode cX6_nexts 82 = .ok (.ifCond .eq 7, 3) := by decide +kernel
theorem dX6_nexts_85 : decode cX6_nexts 85 = .ok (.iload_n 2, 1) := by decide +kernel
theorem dX6_nexts_86 : decode cX6_nexts 86 = .ok (.goto 9, 3) := by decide +kernel
theorem dX6_nexts_89 : decode cX6_nexts 89 = .ok (.aload_n 0, 1) := by decide +kernel
theorem dX6_nexts_90 : decode cX6_nexts 90 = .ok (.bipush (-4), 2) := by decide +kernel
theorem dX6_nexts_92 : decode cX6_nexts 92 = .ok (.invokevirtual 54, 3) := by decide +kernel
theorem dX6_nexts_95 : decode cX6_nexts 95 = .ok (.ireturn, 1) := by decide +kernel
theorem dX6_prevs_0 : decode cX6_prevs 0 = .ok (.aload_n 0, 1) := by decide +kernel
theorem dX6_prevs_1 : decode cX6_prevs 1 = .ok (.getfield 47, 3) := by decide +kernel
theorem dX6_prevs_4 : decode cX6_prevs 4 = .ok (.invokevirtual 119, 3) := by decide +kernel
theorem dX6_prevs_7 : decode cX6_prevs 7 = .ok (.astore_n 1, 1) := by decide +kernel
theorem dX6_prevs_8 : decode cX6_prevs 8 = .ok (.aload_n 1, 1) := by decide +kernel
theorem dX6_prevs_9 : decode cX6_prevs 9 = .ok (.ifnonnull 7, 3) := by decide +kernel
theorem dX6_prevs_12 : decode cX6_prevs 12 = .ok (.iconst (-1), 1) := by decide +kernel
theorem dX6_prevs_13 : decode cX6_prevs 13 = .ok (.goto 11, 3) := by decide +kernel
theorem dX6_prevs_16 : decode cX6_prevs 16 = .ok (.aload_n 1, 1) := by decide +kernel
theorem dX6_prevs_17 : decode cX6_prevs 17 = .ok (.aload_n 1, 1) := by decide +kernel
theorem dX6_prevs_18 : decode cX6_prevs 18 = .ok (.getfield 137, 3) := by decide +kernel
theorem dX6_prevs_21 : decode cX6_prevs 21 = .ok (.invokevirtual 157, 3) := by decide +kernel
theorem dX6_prevs_24 : decode cX6_prevs 24 = .ok (.istore_n 2, 1) := by decide +kernel
theorem dX6_prevs_25 : decode cX6_prevs 25 = .ok (.iload_n 2, 1) := by decide +kernel
theorem dX6_prevs_26 : decode cX6_prevs 26 = .ok (.iconst (-1), 1) := by decide +kernel
theorem dX6_prevs_27 : decode cX6_prevs 27 = .ok (.if_icmp .ne 10, 3) := by decide +kernel
theorem dX6_prevs_30 : decode cX6_prevs 30 = .ok (.aload_n 0, 1) := by decide +kernel
theorem dX6_prevs_31 : decode cX6_prevs 31 = .ok (.bipush (-3), 2) := by decide +kernel
theorem dX6_prevs_33 : decode cX6_prevs 33 = .ok (.invokevirtual 54, 3) := by decide +kernel
theorem dX6_prevs_36 : decode cX6_prevs 36 = .ok (.ireturn, 1) := by decide +kernel
theorem dX6_prevs_37 : decode cX6_prevs 37 = .ok (.aload_n 0, 1) := by decide +kernel
theorem dX6_prevs_38 : decode cX6_prevs 38 = .ok (.getfield 51, 3) := by decide +kernel
theorem dX6_prevs_41 : decode cX6_prevs 41 = .ok (.aload_n 0, 1) := by decide +kernel
theorem dX6_prevs_42 : decode cX6_prevs 42 = .ok (.getfield 47, 3) := by decide +kernel
theorem dX6_prevs_45 : decode cX6_prevs 45 = .ok (.invokevirtual 76, 3) := by decide +kernel
theorem dX6_prevs_48 : decode cX6_prevs 48 = .ok (.aload_n 0, 1) := by decide +kernel
theorem dX6_prevs_49 : decode cX6_prevs 49 = .ok (.getfield 51, 3) := by decide +kernel
theorem dX6_prevs_52 : decode cX6_prevs 52 = .ok (.iload_n 2, 1) := by decide +kernel
theorem dX6_prevs_53 : decode cX6_prevs 53 = .ok (.invokevirtual 154, 3) := by decide +kernel
theorem dX6_prevs_56 : decode cX6_prevs 56 = .ok (.aload_n 0, 1) := by decide +kernel
theorem dX6_prevs_57 : decode cX6_prevs 57 = .ok (.invokevirtual 87, 3) := by decide +kernel
theorem dX6_prevs_60 : decode cX6_prevs 60 = .ok (.ifCond .eq 7, 3) := by decide +kernel
theorem dX6_prevs_63 : decode cX6_prevs 63 = .ok (.iload_n 2, 1) := by decide +kernel
theorem dX6_prevs_64 : decode cX6_prevs 64 = .ok (.goto 9, 3) := by decide +kernel
theorem dX6_prevs_67 : decode cX6_prevs 67 = .ok (.aload_n 0, 1) := by decide +kernel
theorem dX6_prevs_68 : decode cX6_prevs 68 = .ok (.bipush (-4), 2) := by decide +kernel
theorem dX6_prevs_70 : decode cX6_prevs 70 = .ok (.invokevirtual 54, 3) := by decide +kernel
theorem dX6_prevs_73 : decode cX6_prevs 73 = .ok (.ireturn, 1) := by decide +kernel
theorem dX6_picks_0 : decode cX6_picks 0 = .ok (.iload_n 1, 1) := by decide +kernel
theorem dX6_picks_1 : decode cX6_picks 1 = .ok (.ifCond .ge 10, 3) := by decide +kernel
theorem dX6_picks_4 : decode cX6_picks 4 = .ok (.aload_n 0, 1) := by decide +kernel
theorem dX6_picks_5 : decode cX6_picks 5 = .ok (.bipush (-2), 2) := by decide +kernel
theorem dX6_picks_7 : decode cX6_picks 7 = .ok (.invokevirtual 54, 3) := by decide +kernel
theorem dX6_picks_10 : decode cX6_picks 10 = .ok (.ireturn, 1) := by decide +kernel
theorem dX6_picks_11 : decode cX6_picks 11 = .ok (.aload_n 0, 1) := by decide +kernel
theorem dX6_picks_12 : decode cX6_picks 12 = .ok (.getfield 47, 3) := by decide +kernel
theorem dX6_picks_15 : decode cX6_picks 15 = .ok (.invokevirtual 119, 3) := by decide +kernel
theorem dX6_picks_18 : decode cX6_picks 18 = .ok (.astore_n 2, 1) := by decide +kernel
theorem dX6_picks_19 : decode cX6_picks 19 = .ok (.aload_n 2, 1) := by decide +kernel
theorem dX6_picks_20 : decode cX6_picks 20 = .ok (.ifnull 15, 3) := by decide +kernel
theorem dX6_picks_23 : decode cX6_picks 23 = .ok (.iload_n 1, 1) := by decide +kernel
theorem dX6_picks_24 : decode cX6_picks 24 = .ok (.aload_n 2, 1) := by decide +kernel
theorem dX6_picks_25 : decode cX6_picks 25 = .ok (.aload_n 2, 1) := by decide +kernel
theorem dX6_picks_26 : decode cX6_picks 26 = .ok (.getfield 137, 3) := by decide +kernel
theorem dX6_picks_29 : decode cX6_picks 29 = .ok (.invokevirtual 160, 3) := by decide +kernel
theorem dX6_picks_32 : decode cX6_picks 32 = .ok (.if_icmp .lt 10, 3) := by decide +kernel
theorem dX6_picks_35 : decode cX6_picks 35 = .ok (.aload_n 0, 1) := by decide +kernel
theorem dX6_picks_36 : decode cX6_picks 36 = .ok (.bipush (-3), 2) := by decide +kernel
theorem dX6_picks_38 : decode cX6_picks 38 = .ok (.invokevirtual 54, 3) := by decide +kernel
theorem dX6_picks_41 : decode cX6_picks 41 = .ok (.ireturn, 1) := by decide +kernel
theorem dX6_picks_42 : decode cX6_picks 42 = .ok (.aload_n 0, 1) := by decide +kernel
theorem dX6_picks_43 : decode cX6_picks 43 = .ok (.getfield 51, 3) := by decide +kernel
theorem dX6_picks_46 : decode cX6_picks 46 = .ok (.aload_n 0, 1) := by decide +kernel
theorem dX6_picks_47 : decode cX6_picks 47 = .ok (.getfield 47, 3) := by decide +kernel
theorem dX6_picks_50 : decode cX6_picks 50 = .ok (.invokevirtual 76, 3) := by decide +kernel
theorem dX6_picks_53 : decode cX6_picks 53 = .ok (.aload_n 0, 1) := by decide +kernel
theorem dX6_picks_54 : decode cX6_picks 54 = .ok (.getfield 51, 3) := by decide +kernel
theorem dX6_picks_57 : decode cX6_picks 57 = .ok (.invokevirtual 119, 3) := by decide +kernel
theorem dX6_picks_60 : decode cX6_picks 60 = .ok (.astore_n 2, 1) := by decide +kernel
theorem dX6_picks_61 : decode cX6_picks 61 = .ok (.aload_n 2, 1) := by decide +kernel
theorem dX6_picks_62 : decode cX6_picks 62 = .ok (.ifnull 8, 3) := by decide +kernel
theorem dX6_picks_65 : decode cX6_picks 65 = .ok (.aload_n 2, 1) := by decide +kernel
theorem dX6_picks_66 : decode cX6_picks 66 = .ok (.iload_n 1, 1) := by decide +kernel
theorem dX6_picks_67 : decode cX6_picks 67 = .ok (.invokevirtual 163, 3) := by decide +kernel
theorem dX6_picks_70 : decode cX6_picks 70 = .ok (.aload_n 0, 1) := by decide +kernel
theorem dX6_picks_71 : decode cX6_picks 71 = .ok (.invokevirtual 87, 3) := by decide +kernel
theorem dX6_picks_74 : decode cX6_picks 74 = .ok (.ifCond .eq 16, 3) := by decide +kernel
theorem dX6_picks_77 : decode cX6_picks 77 = .ok (.aload_n 0, 1) := by decide +kernel
theorem dX6_picks_78 : decode cX6_picks 78 = .ok (.getfield 47, 3) := by decide +kernel
theorem dX6_picks_81 : decode cX6_picks 81 = .ok (.getfield 131, 3) := by decide +kernel
theorem dX6_picks_84 : decode cX6_picks 84 = .ok (.invokevirtual 58, 3) := by decide +kernel
theorem dX6_picks_87 : decode cX6_picks 87 = .ok (.goto 9, 3) := by decide +kernel
theorem dX6_picks_90 : decode cX6_picks 90 = .ok (.aload_n 0, 1) := by decide +kernel
theorem dX6_picks_91 : decode cX6_picks 91 = .ok (.bipush (-4), 2) := by decide +kernel
theorem dX6_picks_93 : decode cX6_picks 93 = .ok (.invokevirtual 54, 3) := by decide +kernel
theorem dX6_picks_96 : decode cX6_picks 96 = .ok (.ireturn, 1) := by decide +kernel
theorem dX6_ends_0 : decode cX6_ends 0 = .ok (.aload_n 0, 1) := by decide +kernel
theorem dX6_ends_1 : decode cX6_ends 1 = .ok (.getfield 47, 3) := by decide +kernel
theorem dX6_ends_4 : decode cX6_ends 4 = .ok (.getfield 99, 3) := by decide +kernel
theorem dX6_ends_7 : decode cX6_ends 7 = .ok (.ifCond .ne 10, 3) := by decide +kernel
theorem dX6_ends_10 : decode cX6_ends 10 = .ok (.aload_n 0, 1) := by decide +kernel
theorem dX6_ends_11 : decode cX6_ends 11 = .ok (.bipush (-3), 2) := by decide +kernel
theorem dX6_ends_13 : decode cX6_ends 13 = .ok (.invokevirtual 54, 3) := by decide +kernel
theorem dX6_ends_16 : decode cX6_ends 16 = .ok (.ireturn, 1) := by decide +kernel
theorem dX6_ends_17 : decode cX6_ends 17 = .ok (.aload_n 0, 1) := by decide +kernel
theorem dX6_ends_18 : decode cX6_ends 18 = .ok (.getfield 51, 3) := by decide +kernel
theorem dX6_ends_21 : decode cX6_ends 21 = .ok (.aload_n 0, 1) := by decide +kernel
theorem dX6_ends_22 : decode cX6_ends 22 = .ok (.getfield 47, 3) := by decide +kernel
theorem dX6_ends_25 : decode cX6_ends 25 = .ok (.invokevirtual 76, 3) := by decide +kernel
theorem dX6_ends_28 : decode cX6_ends 28 = .ok (.aload_n 0, 1) := by decide +kernel
theorem dX6_ends_29 : decode cX6_ends 29 = .ok (.getfield 51, 3) := by decide +kernel
theorem dX6_ends_32 : decode cX6_ends 32 = .ok (.invokevirtual 113, 3) := by decide +kernel
theorem dX6_ends_35 : decode cX6_ends 35 = .ok (.aload_n 0, 1) := by decide +kernel
theorem dX6_ends_36 : decode cX6_ends 36 = .ok (.invokevirtual 87, 3) := by decide +kernel
theorem dX6_ends_39 : decode cX6_ends 39 = .ok (.ifCond .eq 13, 3) := by decide +kernel
theorem dX6_ends_42 : decode cX6_ends 42 = .ok (.aload_n 0, 1) := by decide +kernel
theorem dX6_ends_43 : decode cX6_ends 43 = .ok (.getfield 47, 3) := by decide +kernel
theorem dX6_ends_46 : decode cX6_ends 46 = .ok (.getfield 99, 3) := by decide +kernel
theorem dX6_ends_49 : decode cX6_ends 49 = .ok (.goto 9, 3) := by decide +kernel
theorem dX6_ends_52 : decode cX6_ends 52 = .ok (.aload_n 0, 1) := by decide +kernel
theorem dX6_ends_53 : decode cX6_ends 53 = .ok (.bipush (-4), 2) := by decide +kernel
theorem dX6_ends_55 : decode cX6_ends 55 = .ok (.invokevirtual 54, 3) := by decide +kernel
theorem dX6_ends_58 : decode cX6_ends 58 = .ok (.ireturn, 1) := by decide +kernel
theorem dX6_caret_0 : decode cX6_caret 0 = .ok (.iload_n 1, 1) := by decide +kernel
theorem dX6_caret_1 : decode cX6_caret 1 = .ok (.ifCond .lt 17, 3) := by decide +kernel
theorem dX6_caret_4 : decode cX6_caret 4 = .ok (.iload_n 1, 1) := by decide +kernel
theorem dX6_caret_5 : decode cX6_caret 5 = .ok (.aload_n 0, 1) := by decide +kernel
theorem dX6_caret_6 : decode cX6_caret 6 = .ok (.getfield 47, 3) := by decide +kernel
theorem dX6_caret_9 : decode cX6_caret 9 = .ok (.getfield 131, 3) := by decide +kernel
theorem dX6_caret_12 : decode cX6_caret 12 = .ok (.invokevirtual 58, 3) := by decide +kernel
theorem dX6_caret_15 : decode cX6_caret 15 = .ok (.if_icmp .le 10, 3) := by decide +kernel
theorem dX6_caret_18 : decode cX6_caret 18 = .ok (.aload_n 0, 1) := by decide +kernel
theorem dX6_caret_19 : decode cX6_caret 19 = .ok (.bipush (-2), 2) := by decide +kernel
theorem dX6_caret_21 : decode cX6_caret 21 = .ok (.invokevirtual 54, 3) := by decide +kernel
theorem dX6_caret_24 : decode cX6_caret 24 = .ok (.ireturn, 1) := by decide +kernel
theorem dX6_caret_25 : decode cX6_caret 25 = .ok (.aload_n 0, 1) := by decide +kernel
theorem dX6_caret_26 : decode cX6_caret 26 = .ok (.getfield 47, 3) := by decide +kernel
theorem dX6_caret_29 : decode cX6_caret 29 = .ok (.getfield 99, 3) := by decide +kernel
theorem dX6_caret_32 : decode cX6_caret 32 = .ok (.ifCond .le 10, 3) := by decide +kernel
theorem dX6_caret_35 : decode cX6_caret 35 = .ok (.aload_n 0, 1) := by decide +kernel
theorem dX6_caret_36 : decode cX6_caret 36 = .ok (.bipush (-3), 2) := by decide +kernel
theorem dX6_caret_38 : decode cX6_caret 38 = .ok (.invokevirtual 54, 3) := by decide +kernel
theorem dX6_caret_41 : decode cX6_caret 41 = .ok (.ireturn, 1) := by decide +kernel
theorem dX6_caret_42 : decode cX6_caret 42 = .ok (.aload_n 0, 1) := by decide +kernel
theorem dX6_caret_43 : decode cX6_caret 43 = .ok (.getfield 47, 3) := by decide +kernel
theorem dX6_caret_46 : decode cX6_caret 46 = .ok (.getfield 134, 3) := by decide +kernel
theorem dX6_caret_49 : decode cX6_caret 49 = .ok (.istore_n 2, 1) := by decide +kernel
theorem dX6_caret_50 : decode cX6_caret 50 = .ok (.aload_n 0, 1) := by decide +kernel
theorem dX6_caret_51 : decode cX6_caret 51 = .ok (.getfield 51, 3) := by decide +kernel
theorem dX6_caret_54 : decode cX6_caret 54 = .ok (.aload_n 0, 1) := by decide +kernel
theorem dX6_caret_55 : decode cX6_caret 55 = .ok (.getfield 47, 3) := by decide +kernel
theorem dX6_caret_58 : decode cX6_caret 58 = .ok (.invokevirtual 76, 3) := by decide +kernel
theorem dX6_caret_61 : decode cX6_caret 61 = .ok (.aload_n 0, 1) := by decide +kernel
theorem dX6_caret_62 : decode cX6_caret 62 = .ok (.getfield 51, 3) := by decide +kernel
theorem dX6_caret_65 : decode cX6_caret 65 = .ok (.iload_n 1, 1) := by decide +kernel
theorem dX6_caret_66 : decode cX6_caret 66 = .ok (.putfield 134, 3) := by decide +kernel
theorem dX6_caret_69 : decode cX6_caret 69 = .ok (.aload_n 0, 1) := by decide +kernel
theorem dX6_caret_70 : decode cX6_caret 70 = .ok (.invokevirtual 87, 3) := by decide +kernel
theorem dX6_caret_73 : decode cX6_caret 73 = .ok (.ifCond .eq 7, 3) := by decide +kernel
theorem dX6_caret_76 : decode cX6_caret 76 = .ok (.iload_n 2, 1) := by decide +kernel
theorem dX6_caret_77 : decode cX6_caret 77 = .ok (.goto 9, 3) := by decide +kernel
theorem dX6_caret_80 : decode cX6_caret 80 = .ok (.aload_n 0, 1) := by decide +kernel
theorem dX6_caret_81 : decode cX6_caret 81 = .ok (.bipush (-4), 2) := by decide +kernel
theorem dX6_caret_83 : decode cX6_caret 83 = .ok (.invokevirtual 54, 3) := by decide +kernel
theorem dX6_caret_86 : decode cX6_caret 86 = .ok (.ireturn, 1) := by decide +kernel
theorem dX6_cuts_0 : decode cX6_cuts 0 = .ok (.aload_n 0, 1) := by decide +kernel
theorem dX6_cuts_1 : decode cX6_cuts 1 = .ok (.getfield 47, 3) := by decide +kernel
theorem dX6_cuts_4 : decode cX6_cuts 4 = .ok (.getfield 131, 3) := by decide +kernel
theorem dX6_cuts_7 : decode cX6_cuts 7 = .ok (.invokevirtual 58, 3) := by decide +kernel
theorem dX6_cuts_10 : decode cX6_cuts 10 = .ok (.istore_n 3, 1) := by decide +kernel
theorem dX6_cuts_11 : decode cX6_cuts 11 = .ok (.iload_n 1, 1) := by decide +kernel
theorem dX6_cuts_12 : decode cX6_cuts 12 = .ok (.ifCond .lt 20, 3) := by decide +kernel
theorem dX6_cuts_15 : decode cX6_cuts 15 = .ok (.iload_n 1, 1) := by decide +kernel
theorem dX6_cuts_16 : decode cX6_cuts 16 = .ok (.iload_n 3, 1) := by decide +kernel
theorem dX6_cuts_17 : decode cX6_cuts 17 = .ok (.if_icmp .gt 15, 3) := by decide +kernel
theorem dX6_cuts_20 : decode cX6_cuts 20 = .ok (.iload_n 2, 1) := by decide +kernel
theorem dX6_cuts_21 : decode cX6_cuts 21 = .ok (.iconst 1, 1) := by decide +kernel
theorem dX6_cuts_22 : decode cX6_cuts 22 = .ok (.if_icmp .lt 10, 3) := by decide +kernel
theorem dX6_cuts_25 : decode cX6_cuts 25 = .ok (.iload_n 2, 1) := by decide +kernel
theorem dX6_cuts_26 : decode cX6_cuts 26 = .ok (.iload_n 3, 1) := by decide +kernel
theorem dX6_cuts_27 : decode cX6_cuts 27 = .ok (.iload_n 1, 1) := by decide +kernel
theorem dX6_cuts_28 : decode cX6_cuts 28 = .ok (.isub, 1) := by decide +kernel
theorem dX6_cuts_29 : decode cX6_cuts 29 = .ok (.if_icmp .le 10, 3) := by decide +kernel
theorem dX6_cuts_32 : decode cX6_cuts 32 = .ok (.aload_n 0, 1) := by decide +kernel
theorem dX6_cuts_33 : decode cX6_cuts 33 = .ok (.bipush (-2), 2) := by decide +kernel
theorem dX6_cuts_35 : decode cX6_cuts 35 = .ok (.invokevirtual 54, 3) := by decide +kernel
theorem dX6_cuts_38 : decode cX6_cuts 38 = .ok (.ireturn, 1) := by decide +kernel
theorem dX6_cuts_39 : decode cX6_cuts 39 = .ok (.aload_n 0, 1) := by decide +kernel
theorem dX6_cuts_40 : decode cX6_cuts 40 = .ok (.getfield 47, 3) := by decide +kernel
theorem dX6_cuts_43 : decode cX6_cuts 43 = .ok (.getfield 99, 3) := by decide +kernel
theorem dX6_cuts_46 : decode cX6_cuts 46 = .ok (.ifCond .le 10, 3) := by decide +kernel
theorem dX6_cuts_49 : decode cX6_cuts 49 = .ok (.aload_n 0, 1) := by decide +kernel
theorem dX6_cuts_50 : decode cX6_cuts 50 = .ok (.bipush (-3), 2) := by decide +kernel
theorem dX6_cuts_52 : decode cX6_cuts 52 = .ok (.invokevirtual 54, 3) := by decide +kernel
theorem dX6_cuts_55 : decode cX6_cuts 55 = .ok (.ireturn, 1) := by decide +kernel
theorem dX6_cuts_56 : decode cX6_cuts 56 = .ok (.aload_n 0, 1) := by decide +kernel
theorem dX6_cuts_57 : decode cX6_cuts 57 = .ok (.getfield 51, 3) := by decide +kernel
theorem dX6_cuts_60 : decode cX6_cuts 60 = .ok (.aload_n 0, 1) := by decide +kernel
theorem dX6_cuts_61 : decode cX6_cuts 61 = .ok (.getfield 47, 3) := by decide +kernel
theorem dX6_cuts_64 : decode cX6_cuts 64 = .ok (.invokevirtual 76, 3) := by decide +kernel
theorem dX6_cuts_67 : decode cX6_cuts 67 = .ok (.aload_n 0, 1) := by decide +kernel
theorem dX6_cuts_68 : decode cX6_cuts 68 = .ok (.getfield 51, 3) := by decide +kernel
theorem dX6_cuts_71 : decode cX6_cuts 71 = .ok (.iload_n 1, 1) := by decide +kernel
theorem dX6_cuts_72 : decode cX6_cuts 72 = .ok (.iload_n 2, 1) := by decide +kernel
theorem dX6_cuts_73 : decode cX6_cuts 73 = .ok (.invokevirtual 144, 3) := by decide +kernel
theorem dX6_cuts_76 : decode cX6_cuts 76 = .ok (.aload_n 0, 1) := by decide +kernel
theorem dX6_cuts_77 : decode cX6_cuts 77 = .ok (.invokevirtual 87, 3) := by decide +kernel
theorem dX6_cuts_80 : decode cX6_cuts 80 = .ok (.ifCond .eq 16, 3) := by decide +kernel
theorem dX6_cuts_83 : decode cX6_cuts 83 = .ok (.aload_n 0, 1) := by decide +kernel
theorem dX6_cuts_84 : decode cX6_cuts 84 = .ok (.getfield 47, 3) := by decide +kernel
theorem dX6_cuts_87 : decode cX6_cuts 87 = .ok (.getfield 131, 3) := by decide +kernel
theorem dX6_cuts_90 : decode cX6_cuts 90 = .ok (.invokevirtual 58, 3) := by decide +kernel
theorem dX6_cuts_93 : decode cX6_cuts 93 = .ok (.goto 9, 3) := by decide +kernel
theorem dX6_cuts_96 : decode cX6_cuts 96 = .ok (.aload_n 0, 1) := by decide +kernel
theorem dX6_cuts_97 : decode cX6_cuts 97 = .ok (.bipush (-4), 2) := by decide +kernel
theorem dX6_cuts_99 : decode cX6_cuts 99 = .ok (.invokevirtual 54, 3) := by decide +kernel
theorem dX6_cuts_102 : decode cX6_cuts 102 = .ok (.ireturn, 1) := by decide +kernel
theorem dX6_at_0 : decode cX6_at 0 = .ok (.iload_n 1, 1) := by decide +kernel
theorem dX6_at_1 : decode cX6_at 1 = .ok (.ifCond .ge 12, 3) := by decide +kernel
theorem dX6_at_4 : decode cX6_at 4 = .ok (.aload_n 0, 1) := by decide +kernel
theorem dX6_at_5 : decode cX6_at 5 = .ok (.bipush (-2), 2) := by decide +kernel
theorem dX6_at_7 : decode cX6_at 7 = .ok (.invokevirtual 54, 3) := by decide +kernel
theorem dX6_at_10 : decode cX6_at 10 = .ok (.goto 14, 3) := by decide +kernel
theorem dX6_at_13 : decode cX6_at 13 = .ok (.aload_n 0, 1) := by decide +kernel
theorem dX6_at_14 : decode cX6_at 14 = .ok (.getfield 47, 3) := by decide +kernel
theorem dX6_at_17 : decode cX6_at 17 = .ok (.getfield 131, 3) := by decide +kernel
theorem dX6_at_20 : decode cX6_at 20 = .ok (.iload_n 1, 1) := by decide +kernel
theorem dX6_at_21 : decode cX6_at 21 = .ok (.invokevirtual 166, 3) := by decide +kernel
theorem dX6_at_24 : decode cX6_at 24 = .ok (.ireturn, 1) := by decide +kernel
theorem dX6_count_0 : decode cX6_count 0 = .ok (.aload_n 0, 1) := by decide +kernel
theorem dX6_count_1 : decode cX6_count 1 = .ok (.getfield 47, 3) := by decide +kernel
theorem dX6_count_4 : decode cX6_count 4 = .ok (.invokevirtual 119, 3) := by decide +kernel
theorem dX6_count_7 : decode cX6_count 7 = .ok (.astore_n 2, 1) := by decide +kernel
theorem dX6_count_8 : decode cX6_count 8 = .ok (.iload_n 1, 1) := by decide +kernel
theorem dX6_count_9 : decode cX6_count 9 = .ok (.tableswitch 117 0 5 #[39, 50, 66, 74, 87, 104], 39) := by decide +kernel
theorem dX6_count_48 : decode cX6_count 48 = .ok (.aload_n 0, 1) := by decide +kernel
theorem dX6_count_49 : decode cX6_count 49 = .ok (.getfield 47, 3) := by decide +kernel
theorem dX6_count_52 : decode cX6_count 52 = .ok (.getfield 131, 3) := by decide +kernel
theorem dX6_count_55 : decode cX6_count 55 = .ok (.invokevirtual 58, 3) := by decide +kernel
theorem dX6_count_58 : decode cX6_count 58 = .ok (.ireturn, 1) := by decide +kernel
theorem dX6_count_59 : decode cX6_count 59 = .ok (.aload_n 2, 1) := by decide +kernel
theorem dX6_count_60 : decode cX6_count 60 = .ok (.ifnonnull 13, 3) := by decide +kernel
theorem dX6_count_63 : decode cX6_count 63 = .ok (.aload_n 0, 1) := by decide +kernel
theorem dX6_count_64 : decode cX6_count 64 = .ok (.getfield 47, 3) := by decide +kernel
theorem dX6_count_67 : decode cX6_count 67 = .ok (.getfield 134, 3) := by decide +kernel
theorem dX6_count_70 : decode cX6_count 70 = .ok (.goto 4, 3) := by decide +kernel
theorem dX6_count_73 : decode cX6_count 73 = .ok (.iconst (-1), 1) := by decide +kernel
theorem dX6_count_74 : decode cX6_count 74 = .ok (.ireturn, 1) := by decide +kernel
theorem dX6_count_75 : decode cX6_count 75 = .ok (.aload_n 0, 1) := by decide +kernel
theorem dX6_count_76 : decode cX6_count 76 = .ok (.getfield 47, 3) := by decide +kernel
theorem dX6_count_79 : decode cX6_count 79 = .ok (.getfield 99, 3) := by decide +kernel
theorem dX6_count_82 : decode cX6_count 82 = .ok (.ireturn, 1) := by decide +kernel
theorem dX6_count_83 : decode cX6_count 83 = .ok (.aload_n 2, 1) := by decide +kernel
theorem dX6_count_84 : decode cX6_count 84 = .ok (.ifnonnull 7, 3) := by decide +kernel
theorem dX6_count_87 : decode cX6_count 87 = .ok (.iconst (-1), 1) := by decide +kernel
theorem dX6_count_88 : decode cX6_count 88 = .ok (.goto 7, 3) := by decide +kernel
theorem dX6_count_91 : decode cX6_count 91 = .ok (.aload_n 2, 1) := by decide +kernel
theorem dX6_count_92 : decode cX6_count 92 = .ok (.getfield 137, 3) := by decide +kernel
theorem dX6_count_95 : decode cX6_count 95 = .ok (.ireturn, 1) := by decide +kernel
theorem dX6_count_96 : decode cX6_count 96 = .ok (.aload_n 2, 1) := by decide +kernel
theorem dX6_count_97 : decode cX6_count 97 = .ok (.ifnull 14, 3) := by decide +kernel
theorem dX6_count_100 : decode cX6_count 100 = .ok (.aload_n 2, 1) := by decide +kernel
theorem dX6_count_101 : decode cX6_count 101 = .ok (.getfield 169, 3) := by decide +kernel
theorem dX6_count_104 : decode cX6_count 104 = .ok (.ifCond .eq 7, 3) := by decide +kernel
theorem dX6_count_107 : decode cX6_count 107 = .ok (.iconst 1, 1) := by decide +kernel
theorem dX6_count_108 : decode cX6_count 108 = .ok (.goto 4, 3) := by decide +kernel
theorem dX6_count_111 : decode cX6_count 111 = .ok (.iconst 0, 1) := by decide +kernel
theorem dX6_count_112 : decode cX6_count 112 = .ok (.ireturn, 1) := by decide +kernel
theorem dX6_count_113 : decode cX6_count 113 = .ok (.aload_n 2, 1) := by decide +kernel
theorem dX6_count_114 : decode cX6_count 114 = .ok (.ifnonnull 7, 3) := by decide +kernel
theorem dX6_count_117 : decode cX6_count 117 = .ok (.iconst 0, 1) := by decide +kernel
theorem dX6_count_118 : decode cX6_count 118 = .ok (.goto 7, 3) := by decide +kernel
theorem dX6_count_121 : decode cX6_count 121 = .ok (.aload_n 2, 1) := by decide +kernel
theorem dX6_count_122 : decode cX6_count 122 = .ok (.invokevirtual 173, 3) := by decide +kernel
theorem dX6_count_125 : decode cX6_count 125 = .ok (.ireturn, 1) := by decide +kernel
theorem dX6_count_126 : decode cX6_count 126 = .ok (.aload_n 0, 1) := by decide +kernel
theorem dX6_count_127 : decode cX6_count 127 = .ok (.bipush (-2), 2) := by decide +kernel
theorem dX6_count_129 : decode cX6_count 129 = .ok (.invokevirtual 54, 3) := by decide +kernel
theorem dX6_count_132 : decode cX6_count 132 = .ok (.ireturn, 1) := by decide +kernel
theorem dX6_stop_0 : decode cX6_stop 0 = .ok (.iload_n 1, 1) := by decide +kernel
theorem dX6_stop_1 : decode cX6_stop 1 = .ok (.invokestatic 176, 3) := by decide +kernel
theorem dX6_stop_4 : decode cX6_stop 4 = .ok (.ifCond .eq 12, 3) := by decide +kernel
theorem dX6_stop_7 : decode cX6_stop 7 = .ok (.iload_n 2, 1) := by decide +kernel
theorem dX6_stop_8 : decode cX6_stop 8 = .ok (.ifCond .lt 8, 3) := by decide +kernel
theorem dX6_stop_11 : decode cX6_stop 11 = .ok (.iload_n 2, 1) := by decide +kernel
theorem dX6_stop_12 : decode cX6_stop 12 = .ok (.iconst 4, 1) := by decide +kernel
theorem dX6_stop_13 : decode cX6_stop 13 = .ok (.if_icmp .le 10, 3) := by decide +kernel
theorem dX6_stop_16 : decode cX6_stop 16 = .ok (.aload_n 0, 1) := by decide +kernel
theorem dX6_stop_17 : decode cX6_stop 17 = .ok (.bipush (-2), 2) := by decide +kernel
theorem dX6_stop_19 : decode cX6_stop 19 = .ok (.invokevirtual 54, 3) := by decide +kernel
theorem dX6_stop_22 : decode cX6_stop 22 = .ok (.ireturn, 1) := by decide +kernel
theorem dX6_stop_23 : decode cX6_stop 23 = .ok (.aload_n 0, 1) := by decide +kernel
theorem dX6_stop_24 : decode cX6_stop 24 = .ok (.getfield 47, 3) := by decide +kernel
theorem dX6_stop_27 : decode cX6_stop 27 = .ok (.invokevirtual 119, 3) := by decide +kernel
theorem dX6_stop_30 : decode cX6_stop 30 = .ok (.astore_n 3, 1) := by decide +kernel
theorem dX6_stop_31 : decode cX6_stop 31 = .ok (.aload_n 3, 1) := by decide +kernel
theorem dX6_stop_32 : decode cX6_stop 32 = .ok (.ifnonnull 10, 3) := by decide +kernel
theorem dX6_stop_35 : decode cX6_stop 35 = .ok (.aload_n 0, 1) := by decide +kernel
theorem dX6_stop_36 : decode cX6_stop 36 = .ok (.bipush (-3), 2) := by decide +kernel
theorem dX6_stop_38 : decode cX6_stop 38 = .ok (.invokevirtual 54, 3) := by decide +kernel
theorem dX6_stop_41 : decode cX6_stop 41 = .ok (.ireturn, 1) := by decide +kernel
theorem dX6_stop_42 : decode cX6_stop 42 = .ok (.iload_n 2, 1) := by decide +kernel
theorem dX6_stop_43 : decode cX6_stop 43 = .ok (.tableswitch 73 0 3 #[29, 43, 57, 67], 29) := by decide +kernel
theorem dX6_stop_72 : decode cX6_stop 72 = .ok (.aload_n 3, 1) := by decide +kernel
theorem dX6_stop_73 : decode cX6_stop 73 = .ok (.iload_n 1, 1) := by decide +kernel
theorem dX6_stop_74 : decode cX6_stop 74 = .ok (.invokevirtual 179, 3) := by decide +kernel
theorem dX6_stop_77 : decode cX6_stop 77 = .ok (.ifCond .le 7, 3) := by decide +kernel
theorem dX6_stop_80 : decode cX6_stop 80 = .ok (.iconst 1, 1) := by decide +kernel
theorem dX6_stop_81 : decode cX6_stop 81 = .ok (.goto 4, 3) := by decide +kernel
theorem dX6_stop_84 : decode cX6_stop 84 = .ok (.iconst 0, 1) := by decide +kernel
theorem dX6_stop_85 : decode cX6_stop 85 = .ok (.ireturn, 1) := by decide +kernel
theorem dX6_stop_86 : decode cX6_stop 86 = .ok (.aload_n 3, 1) := by decide +kernel
theorem dX6_stop_87 : decode cX6_stop 87 = .ok (.iload_n 1, 1) := by decide +kernel
theorem dX6_stop_88 : decode cX6_stop 88 = .ok (.invokevirtual 182, 3) := by decide +kernel
theorem dX6_stop_91 : decode cX6_stop 91 = .ok (.ifCond .eq 7, 3) := by decide +kernel
theorem dX6_stop_94 : decode cX6_stop 94 = .ok (.iconst 1, 1) := by decide +kernel
theorem dX6_stop_95 : decode cX6_stop 95 = .ok (.goto 4, 3) := by decide +kernel
theorem dX6_stop_98 : decode cX6_stop 98 = .ok (.iconst 0, 1) := by decide +kernel
theorem dX6_stop_99 : decode cX6_stop 99 = .ok (.ireturn, 1) := by decide +kernel
theorem dX6_stop_100 : decode cX6_stop 100 = .ok (.aload_n 0, 1) := by decide +kernel
theorem dX6_stop_101 : decode cX6_stop 101 = .ok (.aload_n 3, 1) := by decide +kernel
theorem dX6_stop_102 : decode cX6_stop 102 = .ok (.iload_n 1, 1) := by decide +kernel
theorem dX6_stop_103 : decode cX6_stop 103 = .ok (.invokevirtual 140, 3) := by decide +kernel
theorem dX6_stop_106 : decode cX6_stop 106 = .ok (.invokevirtual 58, 3) := by decide +kernel
theorem dX6_stop_109 : decode cX6_stop 109 = .ok (.ireturn, 1) := by decide +kernel
theorem dX6_stop_110 : decode cX6_stop 110 = .ok (.aload_n 3, 1) := by decide +kernel
theorem dX6_stop_111 : decode cX6_stop 111 = .ok (.iload_n 1, 1) := by decide +kernel
theorem dX6_stop_112 : decode cX6_stop 112 = .ok (.invokevirtual 179, 3) := by decide +kernel
theorem dX6_stop_115 : decode cX6_stop 115 = .ok (.ireturn, 1) := by decide +kernel
theorem dX6_stop_116 : decode cX6_stop 116 = .ok (.aload_n 3, 1) := by decide +kernel
theorem dX6_stop_117 : decode cX6_stop 117 = .ok (.iload_n 1, 1) := by decide +kernel
theorem dX6_stop_118 : decode cX6_stop 118 = .ok (.invokevirtual 160, 3) := by decide +kernel
theorem dX6_stop_121 : decode cX6_stop 121 = .ok (.ireturn, 1) := by decide +kernel
theorem dX6_held_0 : decode cX6_held 0 = .ok (.iload_n 1, 1) := by decide +kernel
theorem dX6_held_1 : decode cX6_held 1 = .ok (.invokestatic 176, 3) := by decide +kernel
theorem dX6_held_4 : decode cX6_held 4 = .ok (.ifCond .eq 7, 3) := by decide +kernel
theorem dX6_held_7 : decode cX6_held 7 = .ok (.iload_n 2, 1) := by decide +kernel
theorem dX6_held_8 : decode cX6_held 8 = .ok (.ifCond .ge 10, 3) := by decide +kernel
theorem dX6_held_11 : decode cX6_held 11 = .ok (.aload_n 0, 1) := by decide +kernel
theorem dX6_held_12 : decode cX6_held 12 = .ok (.bipush (-2), 2) := by decide +kernel
theorem dX6_held_14 : decode cX6_held 14 = .ok (.invokevirtual 54, 3) := by decide +kernel
theorem dX6_held_17 : decode cX6_held 17 = .ok (.ireturn, 1) := by decide +kernel
theorem dX6_held_18 : decode cX6_held 18 = .ok (.aload_n 0, 1) := by decide +kernel
theorem dX6_held_19 : decode cX6_held 19 = .ok (.getfield 47, 3) := by decide +kernel
theorem dX6_held_22 : decode cX6_held 22 = .ok (.invokevirtual 119, 3) := by decide +kernel
theorem dX6_held_25 : decode cX6_held 25 = .ok (.astore_n 3, 1) := by decide +kernel
theorem dX6_held_26 : decode cX6_held 26 = .ok (.aload_n 3, 1) := by decide +kernel
theorem dX6_held_27 : decode cX6_held 27 = .ok (.ifnonnull 12, 3) := by decide +kernel
theorem dX6_held_30 : decode cX6_held 30 = .ok (.aload_n 0, 1) := by decide +kernel
theorem dX6_held_31 : decode cX6_held 31 = .ok (.bipush (-3), 2) := by decide +kernel
theorem dX6_held_33 : decode cX6_held 33 = .ok (.invokevirtual 54, 3) := by decide +kernel
theorem dX6_held_36 : decode cX6_held 36 = .ok (.goto 13, 3) := by decide +kernel
theorem dX6_held_39 : decode cX6_held 39 = .ok (.aload_n 0, 1) := by decide +kernel
theorem dX6_held_40 : decode cX6_held 40 = .ok (.aload_n 3, 1) := by decide +kernel
theorem dX6_held_41 : decode cX6_held 41 = .ok (.iload_n 1, 1) := by decide +kernel
theorem dX6_held_42 : decode cX6_held 42 = .ok (.invokevirtual 140, 3) := by decide +kernel
theorem dX6_held_45 : decode cX6_held 45 = .ok (.iload_n 2, 1) := by decide +kernel
theorem dX6_held_46 : decode cX6_held 46 = .ok (.invokevirtual 166, 3) := by decide +kernel
theorem dX6_held_49 : decode cX6_held 49 = .ok (.ireturn, 1) := by decide +kernel
theorem dX6_choice_0 : decode cX6_choice 0 = .ok (.iload_n 1, 1) := by decide +kernel
theorem dX6_choice_1 : decode cX6_choice 1 = .ok (.invokestatic 176, 3) := by decide +kernel
theorem dX6_choice_4 : decode cX6_choice 4 = .ok (.ifCond .eq 11, 3) := by decide +kernel
theorem dX6_choice_7 : decode cX6_choice 7 = .ok (.iload_n 2, 1) := by decide +kernel
theorem dX6_choice_8 : decode cX6_choice 8 = .ok (.ifCond .lt 7, 3) := by decide +kernel
theorem dX6_choice_11 : decode cX6_choice 11 = .ok (.iload_n 3, 1) := by decide +kernel
theorem dX6_choice_12 : decode cX6_choice 12 = .ok (.ifCond .ge 10, 3) := by decide +kernel
theorem dX6_choice_15 : decode cX6_choice 15 = .ok (.aload_n 0, 1) := by decide +kernel
theorem dX6_choice_16 : decode cX6_choice 16 = .ok (.bipush (-2), 2) := by decide +kernel
theorem dX6_choice_18 : decode cX6_choice 18 = .ok (.invokevirtual 54, 3) := by decide +kernel
theorem dX6_choice_21 : decode cX6_choice 21 = .ok (.ireturn, 1) := by decide +kernel
theorem dX6_choice_22 : decode cX6_choice 22 = .ok (.aload_n 0, 1) := by decide +kernel
theorem dX6_choice_23 : decode cX6_choice 23 = .ok (.getfield 47, 3) := by decide +kernel
theorem dX6_choice_26 : decode cX6_choice 26 = .ok (.invokevirtual 119, 3) := by decide +kernel
theorem dX6_choice_29 : decode cX6_choice 29 = .ok (.astore 4, 2) := by decide +kernel
theorem dX6_choice_31 : decode cX6_choice 31 = .ok (.aload 4, 2) := by decide +kernel
theorem dX6_choice_33 : decode cX6_choice 33 = .ok (.ifnonnull 10, 3) := by decide +kernel
theorem dX6_choice_36 : decode cX6_choice 36 = .ok (.aload_n 0, 1) := by decide +kernel
theorem dX6_choice_37 : decode cX6_choice 37 = .ok (.bipush (-3), 2) := by decide +kernel
theorem dX6_choice_39 : decode cX6_choice 39 = .ok (.invokevirtual 54, 3) := by decide +kernel
theorem dX6_choice_42 : decode cX6_choice 42 = .ok (.ireturn, 1) := by decide +kernel
theorem dX6_choice_43 : decode cX6_choice 43 = .ok (.aload_n 0, 1) := by decide +kernel
theorem dX6_choice_44 : decode cX6_choice 44 = .ok (.getfield 19, 3) := by decide +kernel
theorem dX6_choice_47 : decode cX6_choice 47 = .ok (.invokevirtual 65, 3) := by decide +kernel
theorem dX6_choice_50 : decode cX6_choice 50 = .ok (.iload_n 2, 1) := by decide +kernel
theorem dX6_choice_51 : decode cX6_choice 51 = .ok (.aload 4, 2) := by decide +kernel
theorem dX6_choice_53 : decode cX6_choice 53 = .ok (.iload_n 1, 1) := by decide +kernel
theorem dX6_choice_54 : decode cX6_choice 54 = .ok (.invokevirtual 160, 3) := by decide +kernel
theorem dX6_choice_57 : decode cX6_choice 57 = .ok (.if_icmp .ge 17, 3) := by decide +kernel
theorem dX6_choice_60 : decode cX6_choice 60 = .ok (.aload 4, 2) := by decide +kernel
theorem dX6_choice_62 : decode cX6_choice 62 = .ok (.getfield 185, 3) := by decide +kernel
theorem dX6_choice_65 : decode cX6_choice 65 = .ok (.iload_n 1, 1) := by decide +kernel
theorem dX6_choice_66 : decode cX6_choice 66 = .ok (.iload_n 2, 1) := by decide +kernel
theorem dX6_choice_67 : decode cX6_choice 67 = .ok (.aload_n 0, 1) := by decide +kernel
theorem dX6_choice_68 : decode cX6_choice 68 = .ok (.getfield 19, 3) := by decide +kernel
theorem dX6_choice_71 : decode cX6_choice 71 = .ok (.invokevirtual 186, 3) := by decide +kernel
theorem dX6_choice_74 : decode cX6_choice 74 = .ok (.aload_n 0, 1) := by decide +kernel
theorem dX6_choice_75 : decode cX6_choice 75 = .ok (.getfield 19, 3) := by decide +kernel
theorem dX6_choice_78 : decode cX6_choice 78 = .ok (.iload_n 3, 1) := by decide +kernel
theorem dX6_choice_79 : decode cX6_choice 79 = .ok (.invokevirtual 166, 3) := by decide +kernel
theorem dX6_choice_82 : decode cX6_choice 82 = .ok (.ireturn, 1) := by decide +kernel
theorem dX6_occurrence_0 : decode cX6_occurrence 0 = .ok (.iload_n 1, 1) := by decide +kernel
theorem dX6_occurrence_1 : decode cX6_occurrence 1 = .ok (.invokestatic 176, 3) := by decide +kernel
theorem dX6_occurrence_4 : decode cX6_occurrence 4 = .ok (.ifCond .eq 16, 3) := by decide +kernel
theorem dX6_occurrence_7 : decode cX6_occurrence 7 = .ok (.iload_n 2, 1) := by decide +kernel
theorem dX6_occurrence_8 : decode cX6_occurrence 8 = .ok (.ifCond .lt 12, 3) := by decide +kernel
theorem dX6_occurrence_11 : decode cX6_occurrence 11 = .ok (.iload_n 3, 1) := by decide +kernel
theorem dX6_occurrence_12 : decode cX6_occurrence 12 = .ok (.ifCond .lt 8, 3) := by decide +kernel
theorem dX6_occurrence_15 : decode cX6_occurrence 15 = .ok (.iload_n 3, 1) := by decide +kernel
theorem dX6_occurrence_16 : decode cX6_occurrence 16 = .ok (.iconst 3, 1) := by decide +kernel
theorem dX6_occurrence_17 : decode cX6_occurrence 17 = .ok (.if_icmp .le 10, 3) := by decide +kernel
theorem dX6_occurrence_20 : decode cX6_occurrence 20 = .ok (.aload_n 0, 1) := by decide +kernel
theorem dX6_occurrence_21 : decode cX6_occurrence 21 = .ok (.bipush (-2), 2) := by decide +kernel
theorem dX6_occurrence_23 : decode cX6_occurrence 23 = .ok (.invokevirtual 54, 3) := by decide +kernel
theorem dX6_occurrence_26 : decode cX6_occurrence 26 = .ok (.ireturn, 1) := by decide +kernel
theorem dX6_occurrence_27 : decode cX6_occurrence 27 = .ok (.aload_n 0, 1) := by decide +kernel
theorem dX6_occurrence_28 : decode cX6_occurrence 28 = .ok (.getfield 47, 3) := by decide +kernel
theorem dX6_occurrence_31 : decode cX6_occurrence 31 = .ok (.invokevirtual 119, 3) := by decide +kernel
theorem dX6_occurrence_34 : decode cX6_occurrence 34 = .ok (.astore 4, 2) := by decide +kernel
theorem dX6_occurrence_36 : decode cX6_occurrence 36 = .ok (.aload 4, 2) := by decide +kernel
theorem dX6_occurrence_38 : decode cX6_occurrence 38 = .ok (.ifnonnull 10, 3) := by decide +kernel
theorem dX6_occurrence_41 : decode cX6_occurrence 41 = .ok (.aload_n 0, 1) := by decide +kernel
theorem dX6_occurrence_42 : decode cX6_occurrence 42 = .ok (.bipush (-3), 2) := by decide +kernel
theorem dX6_occurrence_44 : decode cX6_occurrence 44 = .ok (.invokevirtual 54, 3) := by decide +kernel
theorem dX6_occurrence_47 : decode cX6_occurrence 47 = .ok (.ireturn, 1) := by decide +kernel
theorem dX6_occurrence_48 : decode cX6_occurrence 48 = .ok (.aload 4, 2) := by decide +kernel
theorem dX6_occurrence_50 : decode cX6_occurrence 50 = .ok (.iload_n 1, 1) := by decide +kernel
theorem dX6_occurrence_51 : decode cX6_occurrence 51 = .ok (.iload_n 2, 1) := by decide +kernel
theorem dX6_occurrence_52 : decode cX6_occurrence 52 = .ok (.invokevirtual 190, 3) := by decide +kernel
theorem dX6_occurrence_55 : decode cX6_occurrence 55 = .ok (.astore 5, 2) := by decide +kernel
theorem dX6_occurrence_57 : decode cX6_occurrence 57 = .ok (.aload 5, 2) := by decide +kernel
theorem dX6_occurrence_59 : decode cX6_occurrence 59 = .ok (.ifnonnull 5, 3) := by decide +kernel
theorem dX6_occurrence_62 : decode cX6_occurrence 62 = .ok (.iconst (-1), 1) := by decide +kernel
theorem dX6_occurrence_63 : decode cX6_occurrence 63 = .ok (.ireturn, 1) := by decide +kernel
theorem dX6_occurrence_64 : decode cX6_occurrence 64 = .ok (.iload_n 3, 1) := by decide +kernel
theorem dX6_occurrence_65 : decode cX6_occurrence 65 = .ok (.tableswitch 57 0 2 #[27, 43, 51], 27) := by decide +kernel
theorem dX6_occurrence_92 : decode cX6_occurrence 92 = .ok (.aload_n 0, 1) := by decide +kernel
theorem dX6_occurrence_93 : decode cX6_occurrence 93 = .ok (.getfield 47, 3) := by decide +kernel
theorem dX6_occurrence_96 : decode cX6_occurrence 96 = .ok (.invokevirtual 194, 3) := by decide +kernel
theorem dX6_occurrence_99 : decode cX6_occurrence 99 = .ok (.aload 4, 2) := by decide +kernel
theorem dX6_occurrence_101 : decode cX6_occurrence 101 = .ok (.aload 5, 2) := by decide +kernel
theorem dX6_occurrence_103 : decode cX6_occurrence 103 = .ok (.invokevirtual 197, 3) := by decide +kernel
theorem dX6_occurrence_106 : decode cX6_occurrence 106 = .ok (.iadd, 1) := by decide +kernel
theorem dX6_occurrence_107 : decode cX6_occurrence 107 = .ok (.ireturn, 1) := by decide +kernel
theorem dX6_occurrence_108 : decode cX6_occurrence 108 = .ok (.aload 4, 2) := by decide +kernel
theorem dX6_occurrence_110 : decode cX6_occurrence 110 = .ok (.aload 5, 2) := by decide +kernel
theorem dX6_occurrence_112 : decode cX6_occurrence 112 = .ok (.invokevirtual 201, 3) := by decide +kernel
theorem dX6_occurrence_115 : decode cX6_occurrence 115 = .ok (.ireturn, 1) := by decide +kernel
theorem dX6_occurrence_116 : decode cX6_occurrence 116 = .ok (.aload 5, 2) := by decide +kernel
theorem dX6_occurrence_118 : decode cX6_occurrence 118 = .ok (.getfield 204, 3) := by decide +kernel
theorem dX6_occurrence_121 : decode cX6_occurrence 121 = .ok (.ireturn, 1) := by decide +kernel
theorem dX6_occurrence_122 : decode cX6_occurrence 122 = .ok (.aload 4, 2) := by decide +kernel
theorem dX6_occurrence_124 : decode cX6_occurrence 124 = .ok (.getfield 185, 3) := by decide +kernel
theorem dX6_occurrence_127 : decode cX6_occurrence 127 = .ok (.aload 5, 2) := by decide +kernel
theorem dX6_occurrence_129 : decode cX6_occurrence 129 = .ok (.invokevirtual 209, 3) := by decide +kernel
theorem dX6_occurrence_132 : decode cX6_occurrence 132 = .ok (.ifCond .eq 7, 3) := by decide +kernel
theorem dX6_occurrence_135 : decode cX6_occurrence 135 = .ok (.iconst 1, 1) := by decide +kernel
theorem dX6_occurrence_136 : decode cX6_occurrence 136 = .ok (.goto 4, 3) := by decide +kernel
theorem dX6_occurrence_139 : decode cX6_occurrence 139 = .ok (.iconst 0, 1) := by decide +kernel
theorem dX6_occurrence_140 : decode cX6_occurrence 140 = .ok (.ireturn, 1) := by decide +kernel
theorem dX6_unlike_0 : decode cX6_unlike 0 = .ok (.aload_n 0, 1) := by decide +kernel
theorem dX6_unlike_1 : decode cX6_unlike 1 = .ok (.getfield 47, 3) := by decide +kernel
theorem dX6_unlike_4 : decode cX6_unlike 4 = .ok (.invokevirtual 119, 3) := by decide +kernel
theorem dX6_unlike_7 : decode cX6_unlike 7 = .ok (.astore_n 1, 1) := by decide +kernel
theorem dX6_unlike_8 : decode cX6_unlike 8 = .ok (.aload_n 1, 1) := by decide +kernel
theorem dX6_unlike_9 : decode cX6_unlike 9 = .ok (.ifnonnull 7, 3) := by decide +kernel
theorem dX6_unlike_12 : decode cX6_unlike 12 = .ok (.iconst 0, 1) := by decide +kernel
theorem dX6_unlike_13 : decode cX6_unlike 13 = .ok (.goto 7, 3) := by decide +kernel
theorem dX6_unlike_16 : decode cX6_unlike 16 = .ok (.aload_n 1, 1) := by decide +kernel
theorem dX6_unlike_17 : decode cX6_unlike 17 = .ok (.invokevirtual 213, 3) := by decide +kernel
theorem dX6_unlike_20 : decode cX6_unlike 20 = .ok (.ireturn, 1) := by decide +kernel
theorem dX6_variableAt_0 : decode cX6_variableAt 0 = .ok (.iload_n 1, 1) := by decide +kernel
theorem dX6_variableAt_1 : decode cX6_variableAt 1 = .ok (.invokestatic 68, 3) := by decide +kernel
theorem dX6_variableAt_4 : decode cX6_variableAt 4 = .ok (.ifCond .eq 7, 3) := by decide +kernel
theorem dX6_variableAt_7 : decode cX6_variableAt 7 = .ok (.iload_n 2, 1) := by decide +kernel
theorem dX6_variableAt_8 : decode cX6_variableAt 8 = .ok (.ifCond .ge 12, 3) := by decide +kernel
theorem dX6_variableAt_11 : decode cX6_variableAt 11 = .ok (.aload_n 0, 1) := by decide +kernel
theorem dX6_variableAt_12 : decode cX6_variableAt 12 = .ok (.bipush (-2), 2) := by decide +kernel
theorem dX6_variableAt_14 : decode cX6_variableAt 14 = .ok (.invokevirtual 54, 3) := by decide +kernel
theorem dX6_variableAt_17 : decode cX6_variableAt 17 = .ok (.goto 16, 3) := by decide +kernel
theorem dX6_variableAt_20 : decode cX6_variableAt 20 = .ok (.aload_n 0, 1) := by decide +kernel
theorem dX6_variableAt_21 : decode cX6_variableAt 21 = .ok (.getfield 47, 3) := by decide +kernel
theorem dX6_variableAt_24 : decode cX6_variableAt 24 = .ok (.getfield 80, 3) := by decide +kernel
theorem dX6_variableAt_27 : decode cX6_variableAt 27 = .ok (.iload_n 1, 1) := by decide +kernel
theorem dX6_variableAt_28 : decode cX6_variableAt 28 = .ok (.aaload, 1) := by decide +kernel
theorem dX6_variableAt_29 : decode cX6_variableAt 29 = .ok (.iload_n 2, 1) := by decide +kernel
theorem dX6_variableAt_30 : decode cX6_variableAt 30 = .ok (.invokevirtual 166, 3) := by decide +kernel
theorem dX6_variableAt_33 : decode cX6_variableAt 33 = .ok (.ireturn, 1) := by decide +kernel
theorem dX6_back_0 : decode cX6_back 0 = .ok (.aload_n 0, 1) := by decide +kernel
theorem dX6_back_1 : decode cX6_back 1 = .ok (.getfield 28, 3) := by decide +kernel
theorem dX6_back_4 : decode cX6_back 4 = .ok (.ifCond .le 15, 3) := by decide +kernel
theorem dX6_back_7 : decode cX6_back 7 = .ok (.aload_n 0, 1) := by decide +kernel
theorem dX6_back_8 : decode cX6_back 8 = .ok (.getfield 28, 3) := by decide +kernel
theorem dX6_back_11 : decode cX6_back 11 = .ok (.aload_n 0, 1) := by decide +kernel
theorem dX6_back_12 : decode cX6_back 12 = .ok (.getfield 24, 3) := by decide +kernel
theorem dX6_back_15 : decode cX6_back 15 = .ok (.arraylength, 1) := by decide +kernel
theorem dX6_back_16 : decode cX6_back 16 = .ok (.if_icmp .le 10, 3) := by decide +kernel
theorem dX6_back_19 : decode cX6_back 19 = .ok (.aload_n 0, 1) := by decide +kernel
theorem dX6_back_20 : decode cX6_back 20 = .ok (.bipush (-3), 2) := by decide +kernel
theorem dX6_back_22 : decode cX6_back 22 = .ok (.invokevirtual 54, 3) := by decide +kernel
theorem dX6_back_25 : decode cX6_back 25 = .ok (.ireturn, 1) := by decide +kernel
theorem dX6_back_26 : decode cX6_back 26 = .ok (.aload_n 0, 1) := by decide +kernel
theorem dX6_back_27 : decode cX6_back 27 = .ok (.dup, 1) := by decide +kernel
theorem dX6_back_28 : decode cX6_back 28 = .ok (.getfield 28, 3) := by decide +kernel
theorem dX6_back_31 : decode cX6_back 31 = .ok (.iconst 1, 1) := by decide +kernel
theorem dX6_back_32 : decode cX6_back 32 = .ok (.isub, 1) := by decide +kernel
theorem dX6_back_33 : decode cX6_back 33 = .ok (.putfield 28, 3) := by decide +kernel
theorem dX6_back_36 : decode cX6_back 36 = .ok (.aload_n 0, 1) := by decide +kernel
theorem dX6_back_37 : decode cX6_back 37 = .ok (.getfield 24, 3) := by decide +kernel
theorem dX6_back_40 : decode cX6_back 40 = .ok (.aload_n 0, 1) := by decide +kernel
theorem dX6_back_41 : decode cX6_back 41 = .ok (.getfield 28, 3) := by decide +kernel
theorem dX6_back_44 : decode cX6_back 44 = .ok (.aaload, 1) := by decide +kernel
theorem dX6_back_45 : decode cX6_back 45 = .ok (.astore_n 1, 1) := by decide +kernel
theorem dX6_back_46 : decode cX6_back 46 = .ok (.aload_n 0, 1) := by decide +kernel
theorem dX6_back_47 : decode cX6_back 47 = .ok (.getfield 24, 3) := by decide +kernel
theorem dX6_back_50 : decode cX6_back 50 = .ok (.aload_n 0, 1) := by decide +kernel
theorem dX6_back_51 : decode cX6_back 51 = .ok (.getfield 28, 3) := by decide +kernel
theorem dX6_back_54 : decode cX6_back 54 = .ok (.aload_n 0, 1) := by decide +kernel
theorem dX6_back_55 : decode cX6_back 55 = .ok (.getfield 47, 3) := by decide +kernel
theorem dX6_back_58 : decode cX6_back 58 = .ok (.aastore, 1) := by decide +kernel
theorem dX6_back_59 : decode cX6_back 59 = .ok (.aload_n 0, 1) := by decide +kernel
theorem dX6_back_60 : decode cX6_back 60 = .ok (.aload_n 1, 1) := by decide +kernel
theorem dX6_back_61 : decode cX6_back 61 = .ok (.putfield 47, 3) := by decide +kernel
theorem dX6_back_64 : decode cX6_back 64 = .ok (.aload_n 0, 1) := by decide +kernel
theorem dX6_back_65 : decode cX6_back 65 = .ok (.getfield 28, 3) := by decide +kernel
theorem dX6_back_68 : decode cX6_back 68 = .ok (.ireturn, 1) := by decide +kernel
theorem dX6_told_0 : decode cX6_told 0 = .ok (.iload_n 1, 1) := by decide +kernel
theorem dX6_told_1 : decode cX6_told 1 = .ok (.tableswitch 63 0 4 #[35, 40, 45, 50, 58], 35) := by decide +kernel
theorem dX6_told_36 : decode cX6_told 36 = .ok (.aload_n 0, 1) := by decide +kernel
theorem dX6_told_37 : decode cX6_told 37 = .ok (.getfield 32, 3) := by decide +kernel
theorem dX6_told_40 : decode cX6_told 40 = .ok (.ireturn, 1) := by decide +kernel
theorem dX6_told_41 : decode cX6_told 41 = .ok (.aload_n 0, 1) := by decide +kernel
theorem dX6_told_42 : decode cX6_told 42 = .ok (.getfield 35, 3) := by decide +kernel
theorem dX6_told_45 : decode cX6_told 45 = .ok (.ireturn, 1) := by decide +kernel
theorem dX6_told_46 : decode cX6_told 46 = .ok (.aload_n 0, 1) := by decide +kernel
theorem dX6_told_47 : decode cX6_told 47 = .ok (.getfield 38, 3) := by decide +kernel
theorem dX6_told_50 : decode cX6_told 50 = .ok (.ireturn, 1) := by decide +kernel
theorem dX6_told_51 : decode cX6_told 51 = .ok (.aload_n 0, 1) := by decide +kernel
theorem dX6_told_52 : decode cX6_told 52 = .ok (.getfield 14, 3) := by decide +kernel
theorem dX6_told_55 : decode cX6_told 55 = .ok (.invokevirtual 58, 3) := by decide +kernel
theorem dX6_told_58 : decode cX6_told 58 = .ok (.ireturn, 1) := by decide +kernel
theorem dX6_told_59 : decode cX6_told 59 = .ok (.aload_n 0, 1) := by decide +kernel
theorem dX6_told_60 : decode cX6_told 60 = .ok (.getfield 28, 3) := by decide +kernel
theorem dX6_told_63 : decode cX6_told 63 = .ok (.ireturn, 1) := by decide +kernel
theorem dX6_told_64 : decode cX6_told 64 = .ok (.aload_n 0, 1) := by decide +kernel
theorem dX6_told_65 : decode cX6_told 65 = .ok (.bipush (-2), 2) := by decide +kernel
theorem dX6_told_67 : decode cX6_told 67 = .ok (.invokevirtual 54, 3) := by decide +kernel
theorem dX6_told_70 : decode cX6_told 70 = .ok (.ireturn, 1) := by decide +kernel
theorem dX6_digest_0 : decode cX6_digest 0 = .ok (.ldc2_w 216, 3) := by decide +kernel
theorem dX6_digest_3 : decode cX6_digest 3 = .ok (.lstore_n 1, 1) := by decide +kernel
theorem dX6_digest_4 : decode cX6_digest 4 = .ok (.iconst 0, 1) := by decide +kernel
theorem dX6_digest_5 : decode cX6_digest 5 = .ok (.istore_n 3, 1) := by decide +kernel
theorem dX6_digest_6 : decode cX6_digest 6 = .ok (.iload_n 3, 1) := by decide +kernel
theorem dX6_digest_7 : decode cX6_digest 7 = .ok (.iconst 4, 1) := by decide +kernel
theorem dX6_digest_8 : decode cX6_digest 8 = .ok (.if_icmp .gt 22, 3) := by decide +kernel
theorem dX6_digest_11 : decode cX6_digest 11 = .ok (.ldc2_w 218, 3) := by decide +kernel
theorem dX6_digest_14 : decode cX6_digest 14 = .ok (.lload_n 1, 1) := by decide +kernel
theorem dX6_digest_15 : decode cX6_digest 15 = .ok (.lmul, 1) := by decide +kernel
theorem dX6_digest_16 : decode cX6_digest 16 = .ok (.aload_n 0, 1) := by decide +kernel
theorem dX6_digest_17 : decode cX6_digest 17 = .ok (.iload_n 3, 1) := by decide +kernel
theorem dX6_digest_18 : decode cX6_digest 18 = .ok (.invokevirtual 220, 3) := by decide +kernel
theorem dX6_digest_21 : decode cX6_digest 21 = .ok (.i2l, 1) := by decide +kernel
theorem dX6_digest_22 : decode cX6_digest 22 = .ok (.ladd, 1) := by decide +kernel
theorem dX6_digest_23 : decode cX6_digest 23 = .ok (.lstore_n 1, 1) := by decide +kernel
theorem dX6_digest_24 : decode cX6_digest 24 = .ok (.iinc 3 1, 3) := by decide +kernel
theorem dX6_digest_27 : decode cX6_digest 27 = .ok (.goto (-21), 3) := by decide +kernel
theorem dX6_digest_30 : decode cX6_digest 30 = .ok (.iconst 0, 1) := by decide +kernel
theorem dX6_digest_31 : decode cX6_digest 31 = .ok (.istore_n 3, 1) := by decide +kernel
theorem dX6_digest_32 : decode cX6_digest 32 = .ok (.iload_n 3, 1) := by decide +kernel
theorem dX6_digest_33 : decode cX6_digest 33 = .ok (.iconst 5, 1) := by decide +kernel
theorem dX6_digest_34 : decode cX6_digest 34 = .ok (.if_icmp .gt 22, 3) := by decide +kernel
theorem dX6_digest_37 : decode cX6_digest 37 = .ok (.ldc2_w 218, 3) := by decide +kernel
theorem dX6_digest_40 : decode cX6_digest 40 = .ok (.lload_n 1, 1) := by decide +kernel
theorem dX6_digest_41 : decode cX6_digest 41 = .ok (.lmul, 1) := by decide +kernel
theorem dX6_digest_42 : decode cX6_digest 42 = .ok (.aload_n 0, 1) := by decide +kernel
theorem dX6_digest_43 : decode cX6_digest 43 = .ok (.iload_n 3, 1) := by decide +kernel
theorem dX6_digest_44 : decode cX6_digest 44 = .ok (.invokevirtual 223, 3) := by decide +kernel
theorem dX6_digest_47 : decode cX6_digest 47 = .ok (.i2l, 1) := by decide +kernel
theorem dX6_digest_48 : decode cX6_digest 48 = .ok (.ladd, 1) := by decide +kernel
theorem dX6_digest_49 : decode cX6_digest 49 = .ok (.lstore_n 1, 1) := by decide +kernel
theorem dX6_digest_50 : decode cX6_digest 50 = .ok (.iinc 3 1, 3) := by decide +kernel
theorem dX6_digest_53 : decode cX6_digest 53 = .ok (.goto (-21), 3) := by decide +kernel
theorem dX6_digest_56 : decode cX6_digest 56 = .ok (.iconst 0, 1) := by decide +kernel
theorem dX6_digest_57 : decode cX6_digest 57 = .ok (.istore_n 3, 1) := by decide +kernel
theorem dX6_digest_58 : decode cX6_digest 58 = .ok (.iload_n 3, 1) := by decide +kernel
theorem dX6_digest_59 : decode cX6_digest 59 = .ok (.aload_n 0, 1) := by decide +kernel
theorem dX6_digest_60 : decode cX6_digest 60 = .ok (.getfield 47, 3) := by decide +kernel
theorem dX6_digest_63 : decode cX6_digest 63 = .ok (.getfield 131, 3) := by decide +kernel
theorem dX6_digest_66 : decode cX6_digest 66 = .ok (.invokevirtual 58, 3) := by decide +kernel
theorem dX6_digest_69 : decode cX6_digest 69 = .ok (.if_icmp .ge 28, 3) := by decide +kernel
theorem dX6_digest_72 : decode cX6_digest 72 = .ok (.ldc2_w 218, 3) := by decide +kernel
theorem dX6_digest_75 : decode cX6_digest 75 = .ok (.lload_n 1, 1) := by decide +kernel
theorem dX6_digest_76 : decode cX6_digest 76 = .ok (.lmul, 1) := by decide +kernel
theorem dX6_digest_77 : decode cX6_digest 77 = .ok (.aload_n 0, 1) := by decide +kernel
theorem dX6_digest_78 : decode cX6_digest 78 = .ok (.getfield 47, 3) := by decide +kernel
theorem dX6_digest_81 : decode cX6_digest 81 = .ok (.getfield 131, 3) := by decide +kernel
theorem dX6_digest_84 : decode cX6_digest 84 = .ok (.iload_n 3, 1) := by decide +kernel
theorem dX6_digest_85 : decode cX6_digest 85 = .ok (.invokevirtual 166, 3) := by decide +kernel
theorem dX6_digest_88 : decode cX6_digest 88 = .ok (.i2l, 1) := by decide +kernel
theorem dX6_digest_89 : decode cX6_digest 89 = .ok (.ladd, 1) := by decide +kernel
theorem dX6_digest_90 : decode cX6_digest 90 = .ok (.lstore_n 1, 1) := by decide +kernel
theorem dX6_digest_91 : decode cX6_digest 91 = .ok (.iinc 3 1, 3) := by decide +kernel
theorem dX6_digest_94 : decode cX6_digest 94 = .ok (.goto (-36), 3) := by decide +kernel
theorem dX6_digest_97 : decode cX6_digest 97 = .ok (.aload_n 0, 1) := by decide +kernel
theorem dX6_digest_98 : decode cX6_digest 98 = .ok (.getfield 47, 3) := by decide +kernel
theorem dX6_digest_101 : decode cX6_digest 101 = .ok (.getfield 99, 3) := by decide +kernel
theorem dX6_digest_104 : decode cX6_digest 104 = .ok (.ifCond .le 47, 3) := by decide +kernel
theorem dX6_digest_107 : decode cX6_digest 107 = .ok (.iconst 0, 1) := by decide +kernel
theorem dX6_digest_108 : decode cX6_digest 108 = .ok (.istore_n 3, 1) := by decide +kernel
theorem dX6_digest_109 : decode cX6_digest 109 = .ok (.iload_n 3, 1) := by decide +kernel
theorem dX6_digest_110 : decode cX6_digest 110 = .ok (.bipush 10, 2) := by decide +kernel
theorem dX6_digest_112 : decode cX6_digest 112 = .ok (.if_icmp .ge 39, 3) := by decide +kernel
theorem dX6_digest_115 : decode cX6_digest 115 = .ok (.iconst 0, 1) := by decide +kernel
theorem dX6_digest_116 : decode cX6_digest 116 = .ok (.istore 4, 2) := by decide +kernel
theorem dX6_digest_118 : decode cX6_digest 118 = .ok (.iload 4, 2) := by decide +kernel
theorem dX6_digest_120 : decode cX6_digest 120 = .ok (.iconst 4, 1) := by decide +kernel
theorem dX6_digest_121 : decode cX6_digest 121 = .ok (.if_icmp .gt 24, 3) := by decide +kernel
theorem dX6_digest_124 : decode cX6_digest 124 = .ok (.ldc2_w 218, 3) := by decide +kernel
theorem dX6_digest_127 : decode cX6_digest 127 = .ok (.lload_n 1, 1) := by decide +kernel
theorem dX6_digest_128 : decode cX6_digest 128 = .ok (.lmul, 1) := by decide +kernel
theorem dX6_digest_129 : decode cX6_digest 129 = .ok (.aload_n 0, 1) := by decide +kernel
theorem dX6_digest_130 : decode cX6_digest 130 = .ok (.iload_n 3, 1) := by decide +kernel
theorem dX6_digest_131 : decode cX6_digest 131 = .ok (.iload 4, 2) := by decide +kernel
theorem dX6_digest_133 : decode cX6_digest 133 = .ok (.invokevirtual 226, 3) := by decide +kernel
theorem dX6_digest_136 : decode cX6_digest 136 = .ok (.i2l, 1) := by decide +kernel
theorem dX6_digest_137 : decode cX6_digest 137 = .ok (.ladd, 1) := by decide +kernel
theorem dX6_digest_138 : decode cX6_digest 138 = .ok (.lstore_n 1, 1) := by decide +kernel
theorem dX6_digest_139 : decode cX6_digest 139 = .ok (.iinc 4 1, 3) := by decide +kernel
theorem dX6_digest_142 : decode cX6_digest 142 = .ok (.goto (-24), 3) := by decide +kernel
theorem dX6_digest_145 : decode cX6_digest 145 = .ok (.iinc 3 1, 3) := by decide +kernel
theorem dX6_digest_148 : decode cX6_digest 148 = .ok (.goto (-39), 3) := by decide +kernel
theorem dX6_digest_151 : decode cX6_digest 151 = .ok (.lload_n 1, 1) := by decide +kernel
theorem dX6_digest_152 : decode cX6_digest 152 = .ok (.lreturn, 1) := by decide +kernel
theorem dX6_refuse_0 : decode cX6_refuse 0 = .ok (.iload_n 1, 1) := by decide +kernel
theorem dX6_refuse_1 : decode cX6_refuse 1 = .ok (.bipush (-2), 2) := by decide +kernel
theorem dX6_refuse_3 : decode cX6_refuse 3 = .ok (.if_icmp .ne 16, 3) := by decide +kernel
theorem dX6_refuse_6 : decode cX6_refuse 6 = .ok (.aload_n 0, 1) := by decide +kernel
theorem dX6_refuse_7 : decode cX6_refuse 7 = .ok (.dup, 1) := by decide +kernel
theorem dX6_refuse_8 : decode cX6_refuse 8 = .ok (.getfield 32, 3) := by decide +kernel
theorem dX6_refuse_11 : decode cX6_refuse 11 = .ok (.iconst 1, 1) := by decide +kernel
theorem dX6_refuse_12 : decode cX6_refuse 12 = .ok (.iadd, 1) := by decide +kernel
theorem dX6_refuse_13 : decode cX6_refuse 13 = .ok (.putfield 32, 3) := by decide +kernel
theorem dX6_refuse_16 : decode cX6_refuse 16 = .ok (.goto 38, 3) := by decide +kernel
theorem dX6_refuse_19 : decode cX6_refuse 19 = .ok (.iload_n 1, 1) := by decide +kernel
theorem dX6_refuse_20 : decode cX6_refuse 20 = .ok (.bipush (-3), 2) := by decide +kernel
theorem dX6_refuse_22 : decode cX6_refuse 22 = .ok (.if_icmp .ne 16, 3) := by decide +kernel
theorem dX6_refuse_25 : decode cX6_refuse 25 = .ok (.aload_n 0, 1) := by decide +kernel
theorem dX6_refuse_26 : decode cX6_refuse 26 = .ok (.dup, 1) := by decide +kernel
theorem dX6_refuse_27 : decode cX6_refuse 27 = .ok (.getfield 35, 3) := by decide +kernel
theorem dX6_refuse_30 : decode cX6_refuse 30 = .ok (.iconst 1, 1) := by decide +kernel
theorem dX6_refuse_31 : decode cX6_refuse 31 = .ok (.iadd, 1) := by decide +kernel
theorem dX6_refuse_32 : decode cX6_refuse 32 = .ok (.putfield 35, 3) := by decide +kernel
theorem dX6_refuse_35 : decode cX6_refuse 35 = .ok (.goto 19, 3) := by decide +kernel
theorem dX6_refuse_38 : decode cX6_refuse 38 = .ok (.iload_n 1, 1) := by decide +kernel
theorem dX6_refuse_39 : decode cX6_refuse 39 = .ok (.bipush (-4), 2) := by decide +kernel
theorem dX6_refuse_41 : decode cX6_refuse 41 = .ok (.if_icmp .ne 13, 3) := by decide +kernel
theorem dX6_refuse_44 : decode cX6_refuse 44 = .ok (.aload_n 0, 1) := by decide +kernel
theorem dX6_refuse_45 : decode cX6_refuse 45 = .ok (.dup, 1) := by decide +kernel
theorem dX6_refuse_46 : decode cX6_refuse 46 = .ok (.getfield 38, 3) := by decide +kernel
theorem dX6_refuse_49 : decode cX6_refuse 49 = .ok (.iconst 1, 1) := by decide +kernel
theorem dX6_refuse_50 : decode cX6_refuse 50 = .ok (.iadd, 1) := by decide +kernel
theorem dX6_refuse_51 : decode cX6_refuse 51 = .ok (.putfield 38, 3) := by decide +kernel
theorem dX6_refuse_54 : decode cX6_refuse 54 = .ok (.iload_n 1, 1) := by decide +kernel
theorem dX6_refuse_55 : decode cX6_refuse 55 = .ok (.ireturn, 1) := by decide +kernel
theorem dX6_lands_0 : decode cX6_lands 0 = .ok (.aload_n 0, 1) := by decide +kernel
theorem dX6_lands_1 : decode cX6_lands 1 = .ok (.getfield 51, 3) := by decide +kernel
theorem dX6_lands_4 : decode cX6_lands 4 = .ok (.invokevirtual 110, 3) := by decide +kernel
theorem dX6_lands_7 : decode cX6_lands 7 = .ok (.ifCond .ne 5, 3) := by decide +kernel
theorem dX6_lands_10 : decode cX6_lands 10 = .ok (.iconst 0, 1) := by decide +kernel
theorem dX6_lands_11 : decode cX6_lands 11 = .ok (.ireturn, 1) := by decide +kernel
theorem dX6_lands_12 : decode cX6_lands 12 = .ok (.aload_n 0, 1) := by decide +kernel
theorem dX6_lands_13 : decode cX6_lands 13 = .ok (.getfield 24, 3) := by decide +kernel
theorem dX6_lands_16 : decode cX6_lands 16 = .ok (.iconst 0, 1) := by decide +kernel
theorem dX6_lands_17 : decode cX6_lands 17 = .ok (.aaload, 1) := by decide +kernel
theorem dX6_lands_18 : decode cX6_lands 18 = .ok (.astore_n 1, 1) := by decide +kernel
theorem dX6_lands_19 : decode cX6_lands 19 = .ok (.aload_n 0, 1) := by decide +kernel
theorem dX6_lands_20 : decode cX6_lands 20 = .ok (.getfield 28, 3) := by decide +kernel
theorem dX6_lands_23 : decode cX6_lands 23 = .ok (.aload_n 0, 1) := by decide +kernel
theorem dX6_lands_24 : decode cX6_lands 24 = .ok (.getfield 24, 3) := by decide +kernel
theorem dX6_lands_27 : decode cX6_lands 27 = .ok (.arraylength, 1) := by decide +kernel
theorem dX6_lands_28 : decode cX6_lands 28 = .ok (.if_icmp .ge 39, 3) := by decide +kernel
theorem dX6_lands_31 : decode cX6_lands 31 = .ok (.aload_n 0, 1) := by decide +kernel
theorem dX6_lands_32 : decode cX6_lands 32 = .ok (.getfield 24, 3) := by decide +kernel
theorem dX6_lands_35 : decode cX6_lands 35 = .ok (.aload_n 0, 1) := by decide +kernel
theorem dX6_lands_36 : decode cX6_lands 36 = .ok (.getfield 28, 3) := by decide +kernel
theorem dX6_lands_39 : decode cX6_lands 39 = .ok (.aaload, 1) := by decide +kernel
theorem dX6_lands_40 : decode cX6_lands 40 = .ok (.astore_n 1, 1) := by decide +kernel
theorem dX6_lands_41 : decode cX6_lands 41 = .ok (.aload_n 0, 1) := by decide +kernel
theorem dX6_lands_42 : decode cX6_lands 42 = .ok (.getfield 24, 3) := by decide +kernel
theorem dX6_lands_45 : decode cX6_lands 45 = .ok (.aload_n 0, 1) := by decide +kernel
theorem dX6_lands_46 : decode cX6_lands 46 = .ok (.getfield 28, 3) := by decide +kernel
theorem dX6_lands_49 : decode cX6_lands 49 = .ok (.aload_n 0, 1) := by decide +kernel
theorem dX6_lands_50 : decode cX6_lands 50 = .ok (.getfield 47, 3) := by decide +kernel
theorem dX6_lands_53 : decode cX6_lands 53 = .ok (.aastore, 1) := by decide +kernel
theorem dX6_lands_54 : decode cX6_lands 54 = .ok (.aload_n 0, 1) := by decide +kernel
theorem dX6_lands_55 : decode cX6_lands 55 = .ok (.dup, 1) := by decide +kernel
theorem dX6_lands_56 : decode cX6_lands 56 = .ok (.getfield 28, 3) := by decide +kernel
theorem dX6_lands_59 : decode cX6_lands 59 = .ok (.iconst 1, 1) := by decide +kernel
theorem dX6_lands_60 : decode cX6_lands 60 = .ok (.iadd, 1) := by decide +kernel
theorem dX6_lands_61 : decode cX6_lands 61 = .ok (.putfield 28, 3) := by decide +kernel
theorem dX6_lands_64 : decode cX6_lands 64 = .ok (.goto 50, 3) := by decide +kernel
theorem dX6_lands_67 : decode cX6_lands 67 = .ok (.iconst 1, 1) := by decide +kernel
theorem dX6_lands_68 : decode cX6_lands 68 = .ok (.istore_n 2, 1) := by decide +kernel
theorem dX6_lands_69 : decode cX6_lands 69 = .ok (.iload_n 2, 1) := by decide +kernel
theorem dX6_lands_70 : decode cX6_lands 70 = .ok (.aload_n 0, 1) := by decide +kernel
theorem dX6_lands_71 : decode cX6_lands 71 = .ok (.getfield 24, 3) := by decide +kernel
theorem dX6_lands_74 : decode cX6_lands 74 = .ok (.arraylength, 1) := by decide +kernel
theorem dX6_lands_75 : decode cX6_lands 75 = .ok (.if_icmp .ge 23, 3) := by decide +kernel
theorem dX6_lands_78 : decode cX6_lands 78 = .ok (.aload_n 0, 1) := by decide +kernel
theorem dX6_lands_79 : decode cX6_lands 79 = .ok (.getfield 24, 3) := by decide +kernel
theorem dX6_lands_82 : decode cX6_lands 82 = .ok (.iload_n 2, 1) := by decide +kernel
theorem dX6_lands_83 : decode cX6_lands 83 = .ok (.iconst 1, 1) := by decide +kernel
theorem dX6_lands_84 : decode cX6_lands 84 = .ok (.isub, 1) := by decide +kernel
theorem dX6_lands_85 : decode cX6_lands 85 = .ok (.aload_n 0, 1) := by decide +kernel
theorem dX6_lands_86 : decode cX6_lands 86 = .ok (.getfield 24, 3) := by decide +kernel
theorem dX6_lands_89 : decode cX6_lands 89 = .ok (.iload_n 2, 1) := by decide +kernel
theorem dX6_lands_90 : decode cX6_lands 90 = .ok (.aaload, 1) := by decide +kernel
theorem dX6_lands_91 : decode cX6_lands 91 = .ok (.aastore, 1) := by decide +kernel
theorem dX6_lands_92 : decode cX6_lands 92 = .ok (.iinc 2 1, 3) := by decide +kernel
theorem dX6_lands_95 : decode cX6_lands 95 = .ok (.goto (-26), 3) := by decide +kernel
theorem dX6_lands_98 : decode cX6_lands 98 = .ok (.aload_n 0, 1) := by decide +kernel
theorem dX6_lands_99 : decode cX6_lands 99 = .ok (.getfield 24, 3) := by decide +kernel
theorem dX6_lands_102 : decode cX6_lands 102 = .ok (.aload_n 0, 1) := by decide +kernel
theorem dX6_lands_103 : decode cX6_lands 103 = .ok (.getfield 24, 3) := by decide +kernel
theorem dX6_lands_106 : decode cX6_lands 106 = .ok (.arraylength, 1) := by decide +kernel
theorem dX6_lands_107 : decode cX6_lands 107 = .ok (.iconst 1, 1) := by decide +kernel
theorem dX6_lands_108 : decode cX6_lands 108 = .ok (.isub, 1) := by decide +kernel
theorem dX6_lands_109 : decode cX6_lands 109 = .ok (.aload_n 0, 1) := by decide +kernel
theorem dX6_lands_110 : decode cX6_lands 110 = .ok (.getfield 47, 3) := by decide +kernel
theorem dX6_lands_113 : decode cX6_lands 113 = .ok (.aastore, 1) := by decide +kernel
theorem dX6_lands_114 : decode cX6_lands 114 = .ok (.aload_n 0, 1) := by decide +kernel
theorem dX6_lands_115 : decode cX6_lands 115 = .ok (.aload_n 0, 1) := by decide +kernel
theorem dX6_lands_116 : decode cX6_lands 116 = .ok (.getfield 51, 3) := by decide +kernel
theorem dX6_lands_119 : decode cX6_lands 119 = .ok (.putfield 47, 3) := by decide +kernel
theorem dX6_lands_122 : decode cX6_lands 122 = .ok (.aload_n 0, 1) := by decide +kernel
theorem dX6_lands_123 : decode cX6_lands 123 = .ok (.aload_n 1, 1) := by decide +kernel
theorem dX6_lands_124 : decode cX6_lands 124 = .ok (.putfield 51, 3) := by decide +kernel
theorem dX6_lands_127 : decode cX6_lands 127 = .ok (.iconst 1, 1) := by decide +kernel
theorem dX6_lands_128 : decode cX6_lands 128 = .ok (.ireturn, 1) := by decide +kernel
theorem dX6_isShown_0 : decode cX6_isShown 0 = .ok (.iload_n 0, 1) := by decide +kernel
theorem dX6_isShown_1 : decode cX6_isShown 1 = .ok (.bipush 32, 2) := by decide +kernel
theorem dX6_isShown_3 : decode cX6_isShown 3 = .ok (.if_icmp .lt 13, 3) := by decide +kernel
theorem dX6_isShown_6 : decode cX6_isShown 6 = .ok (.iload_n 0, 1) := by decide +kernel
theorem dX6_isShown_7 : decode cX6_isShown 7 = .ok (.bipush 126, 2) := by decide +kernel
theorem dX6_isShown_9 : decode cX6_isShown 9 = .ok (.if_icmp .gt 7, 3) := by decide +kernel
theorem dX6_isShown_12 : decode cX6_isShown 12 = .ok (.iconst 1, 1) := by decide +kernel
theorem dX6_isShown_13 : decode cX6_isShown 13 = .ok (.goto 4, 3) := by decide +kernel
theorem dX6_isShown_16 : decode cX6_isShown 16 = .ok (.iconst 0, 1) := by decide +kernel
theorem dX6_isShown_17 : decode cX6_isShown 17 = .ok (.ireturn, 1) := by decide +kernel
theorem dX6_isStop_0 : decode cX6_isStop 0 = .ok (.iload_n 0, 1) := by decide +kernel
theorem dX6_isStop_1 : decode cX6_isStop 1 = .ok (.ifCond .lt 13, 3) := by decide +kernel
theorem dX6_isStop_4 : decode cX6_isStop 4 = .ok (.iload_n 0, 1) := by decide +kernel
theorem dX6_isStop_5 : decode cX6_isStop 5 = .ok (.bipush 10, 2) := by decide +kernel
theorem dX6_isStop_7 : decode cX6_isStop 7 = .ok (.if_icmp .ge 7, 3) := by decide +kernel
theorem dX6_isStop_10 : decode cX6_isStop 10 = .ok (.iconst 1, 1) := by decide +kernel
theorem dX6_isStop_11 : decode cX6_isStop 11 = .ok (.goto 4, 3) := by decide +kernel
theorem dX6_isStop_14 : decode cX6_isStop 14 = .ok (.iconst 0, 1) := by decide +kernel
theorem dX6_isStop_15 : decode cX6_isStop 15 = .ok (.ireturn, 1) := by decide +kernel
theorem dX6_isVariable_0 : decode cX6_isVariable 0 = .ok (.iload_n 0, 1) := by decide +kernel
theorem dX6_isVariable_1 : decode cX6_isVariable 1 = .ok (.ifCond .lt 12, 3) := by decide +kernel
theorem dX6_isVariable_4 : decode cX6_isVariable 4 = .ok (.iload_n 0, 1) := by decide +kernel
theorem dX6_isVariable_5 : decode cX6_isVariable 5 = .ok (.iconst 4, 1) := by decide +kernel
theorem dX6_isVariable_6 : decode cX6_isVariable 6 = .ok (.if_icmp .ge 7, 3) := by decide +kernel
theorem dX6_isVariable_9 : decode cX6_isVariable 9 = .ok (.iconst 1, 1) := by decide +kernel
theorem dX6_isVariable_10 : decode cX6_isVariable 10 = .ok (.goto 4, 3) := by decide +kernel
theorem dX6_isVariable_13 : decode cX6_isVariable 13 = .ok (.iconst 0, 1) := by decide +kernel
theorem dX6_isVariable_14 : decode cX6_isVariable 14 = .ok (.ireturn, 1) := by decide +kernel
theorem dX6_canBeVariable_0 : decode cX6_canBeVariable 0 = .ok (.aload_n 0, 1) := by decide +kernel
theorem dX6_canBeVariable_1 : decode cX6_canBeVariable 1 = .ok (.invokevirtual 58, 3) := by decide +kernel
theorem dX6_canBeVariable_4 : decode cX6_canBeVariable 4 = .ok (.bipush 12, 2) := by decide +kernel
theorem dX6_canBeVariable_6 : decode cX6_canBeVariable 6 = .ok (.if_icmp .le 5, 3) := by decide +kernel
theorem dX6_canBeVariable_9 : decode cX6_canBeVariable 9 = .ok (.iconst 0, 1) := by decide +kernel
theorem dX6_canBeVariable_10 : decode cX6_canBeVariable 10 = .ok (.ireturn, 1) := by decide +kernel
theorem dX6_canBeVariable_11 : decode cX6_canBeVariable 11 = .ok (.iconst 0, 1) := by decide +kernel
theorem dX6_canBeVariable_12 : decode cX6_canBeVariable 12 = .ok (.istore_n 1, 1) := by decide +kernel
theorem dX6_canBeVariable_13 : decode cX6_canBeVariable 13 = .ok (.iload_n 1, 1) := by decide +kernel
theorem dX6_canBeVariable_14 : decode cX6_canBeVariable 14 = .ok (.aload_n 0, 1) := by decide +kernel
theorem dX6_canBeVariable_15 : decode cX6_canBeVariable 15 = .ok (.invokevirtual 58, 3) := by decide +kernel
theorem dX6_canBeVariable_18 : decode cX6_canBeVariable 18 = .ok (.if_icmp .ge 22, 3) := by decide +kernel
theorem dX6_canBeVariable_21 : decode cX6_canBeVariable 21 = .ok (.aload_n 0, 1) := by decide +kernel
theorem dX6_canBeVariable_22 : decode cX6_canBeVariable 22 = .ok (.iload_n 1, 1) := by decide +kernel
theorem dX6_canBeVariable_23 : decode cX6_canBeVariable 23 = .ok (.invokevirtual 166, 3) := by decide +kernel
theorem dX6_canBeVariable_26 : decode cX6_canBeVariable 26 = .ok (.invokestatic 116, 3) := by decide +kernel
theorem dX6_canBeVariable_29 : decode cX6_canBeVariable 29 = .ok (.ifCond .ne 5, 3) := by decide +kernel
theorem dX6_canBeVariable_32 : decode cX6_canBeVariable 32 = .ok (.iconst 0, 1) := by decide +kernel
theorem dX6_canBeVariable_33 : decode cX6_canBeVariable 33 = .ok (.ireturn, 1) := by decide +kernel
theorem dX6_canBeVariable_34 : decode cX6_canBeVariable 34 = .ok (.iinc 1 1, 3) := by decide +kernel
theorem dX6_canBeVariable_37 : decode cX6_canBeVariable 37 = .ok (.goto (-24), 3) := by decide +kernel
theorem dX6_canBeVariable_40 : decode cX6_canBeVariable 40 = .ok (.iconst 1, 1) := by decide +kernel
theorem dX6_canBeVariable_41 : decode cX6_canBeVariable 41 = .ok (.ireturn, 1) := by decide +kernel
end
section
theorem dX7_init_0 : decode cX7_init 0 = .ok (.aload_n 0, 1) := by decide +kernel
theorem dX7_init_1 : decode cX7_init 1 = .ok (.invokespecial 1, 3) := by decide +kernel
theorem dX7_init_4 : decode cX7_init 4 = .ok (.aload_n 0, 1) := by decide +kernel
theorem dX7_init_5 : decode cX7_init 5 = .ok (.iconst 3, 1) := by decide +kernel
theorem dX7_init_6 : decode cX7_init 6 = .ok (.newarray .int, 2) := by decide +kernel
theorem dX7_init_8 : decode cX7_init 8 = .ok (.putfield 7, 3) := by decide +kernel
theorem dX7_init_11 : decode cX7_init 11 = .ok (.aload_n 0, 1) := by decide +kernel
theorem dX7_init_12 : decode cX7_init 12 = .ok (.sipush 240, 3) := by decide +kernel
theorem dX7_init_15 : decode cX7_init 15 = .ok (.newarray .int, 2) := by decide +kernel
theorem dX7_init_17 : decode cX7_init 17 = .ok (.putfield 13, 3) := by decide +kernel
theorem dX7_init_20 : decode cX7_init 20 = .ok (.aload_n 0, 1) := by decide +kernel
theorem dX7_init_21 : decode cX7_init 21 = .ok (.bipush 52, 2) := by decide +kernel
theorem dX7_init_23 : decode cX7_init 23 = .ok (.newarray .int, 2) := by decide +kernel
theorem dX7_init_25 : decode cX7_init 25 = .ok (.putfield 16, 3) := by decide +kernel
theorem dX7_init_28 : decode cX7_init 28 = .ok (.aload_n 0, 1) := by decide +kernel
theorem dX7_init_29 : decode cX7_init 29 = .ok (.iconst 4, 1) := by decide +kernel
theorem dX7_init_30 : decode cX7_init 30 = .ok (.newarray .int, 2) := by decide +kernel
theorem dX7_init_32 : decode cX7_init 32 = .ok (.putfield 19, 3) := by decide +kernel
theorem dX7_init_35 : decode cX7_init 35 = .ok (.aload_n 0, 1) := by decide +kernel
theorem dX7_init_36 : decode cX7_init 36 = .ok (.sipush 4608, 3) := by decide +kernel
theorem dX7_init_39 : decode cX7_init 39 = .ok (.newarray .int, 2) := by decide +kernel
theorem dX7_init_41 : decode cX7_init 41 = .ok (.putfield 22, 3) := by decide +kernel
theorem dX7_init_44 : decode cX7_init 44 = .ok (.aload_n 0, 1) := by decide +kernel
theorem dX7_init_45 : decode cX7_init 45 = .ok (.bipush 40, 2) := by decide +kernel
theorem dX7_init_47 : decode cX7_init 47 = .ok (.newarray .int, 2) := by decide +kernel
theorem dX7_init_49 : decode cX7_init 49 = .ok (.putfield 25, 3) := by decide +kernel
theorem dX7_init_52 : decode cX7_init 52 = .ok (.aload_n 0, 1) := by decide +kernel
theorem dX7_init_53 : decode cX7_init 53 = .ok (.bipush 30, 2) := by decide +kernel
theorem dX7_init_55 : decode cX7_init 55 = .ok (.newarray .int, 2) := by decide +kernel
theorem dX7_init_57 : decode cX7_init 57 = .ok (.putfield 28, 3) := by decide +kernel
theorem dX7_init_60 : decode cX7_init 60 = .ok (.aload_n 0, 1) := by decide +kernel
theorem dX7_init_61 : decode cX7_init 61 = .ok (.bipush 30, 2) := by decide +kernel
theorem dX7_init_63 : decode cX7_init 63 = .ok (.newarray .int, 2) := by decide +kernel
theorem dX7_init_65 : decode cX7_init 65 = .ok (.putfield 31, 3) := by decide +kernel
theorem dX7_init_68 : decode cX7_init 68 = .ok (.aload_n 0, 1) := by decide +kernel
theorem dX7_init_69 : decode cX7_init 69 = .ok (.bipush 30, 2) := by decide +kernel
theorem dX7_init_71 : decode cX7_init 71 = .ok (.newarray .int, 2) := by decide +kernel
theorem dX7_init_73 : decode cX7_init 73 = .ok (.putfield 34, 3) := by decide +kernel
theorem dX7_init_76 : decode cX7_init 76 = .ok (.aload_n 0, 1) := by decide +kernel
theorem dX7_init_77 : decode cX7_init 77 = .ok (.iconst 3, 1) := by decide +kernel
theorem dX7_init_78 : decode cX7_init 78 = .ok (.newarray .int, 2) := by decide +kernel
theorem dX7_init_80 : decode cX7_init 80 = .ok (.putfield 37, 3) := by decide +kernel
theorem dX7_init_83 : decode cX7_init 83 = .ok (.aload_n 0, 1) := by decide +kernel
theorem dX7_init_84 : decode cX7_init 84 = .ok (.ldc 40, 2) := by decide +kernel
theorem dX7_init_86 : decode cX7_init 86 = .ok (.newarray .int, 2) := by decide +kernel
theorem dX7_init_88 : decode cX7_init 88 = .ok (.putfield 41, 3) := by decide +kernel
theorem dX7_init_91 : decode cX7_init 91 = .ok (.aload_n 0, 1) := by decide +kernel
theorem dX7_init_92 : decode cX7_init 92 = .ok (.iconst 3, 1) := by decide +kernel
theorem dX7_init_93 : decode cX7_init 93 = .ok (.newarray .int, 2) := by decide +kernel
theorem dX7_init_95 : decode cX7_init 95 = .ok (.putfield 44, 3) := by decide +kernel
theorem dX7_init_98 : decode cX7_init 98 = .ok (.aload_n 0, 1) := by decide +kernel
theorem dX7_init_99 : decode cX7_init 99 = .ok (.iconst 3, 1) := by decide +kernel
theorem dX7_init_100 : decode cX7_init 100 = .ok (.newarray .int, 2) := by decide +kernel
theorem dX7_init_102 : decode cX7_init 102 = .ok (.putfield 47, 3) := by decide +kernel
theorem dX7_init_105 : decode cX7_init 105 = .ok (.aload_n 0, 1) := by decide +kernel
theorem dX7_init_106 : decode cX7_init 106 = .ok (.sipush 156, 3) := by decide +kernel
theorem dX7_init_109 : decode cX7_init 109 = .ok (.newarray .int, 2) := by decide +kernel
theorem dX7_init_111 : decode cX7_init 111 = .ok (.putfield 50, 3) := by decide +kernel
theorem dX7_init_114 : decode cX7_init 114 = .ok (.aload_n 0, 1) := by decide +kernel
theorem dX7_init_115 : decode cX7_init 115 = .ok (.iconst 4, 1) := by decide +kernel
theorem dX7_init_116 : decode cX7_init 116 = .ok (.newarray .int, 2) := by decide +kernel
theorem dX7_init_118 : decode cX7_init 118 = .ok (.putfield 53, 3) := by decide +kernel
theorem dX7_init_121 : decode cX7_init 121 = .ok (.aload_n 0, 1) := by decide +kernel
theorem dX7_init_122 : decode cX7_init 122 = .ok (.sipush 480, 3) := by decide +kernel
theorem dX7_init_125 : decode cX7_init 125 = .ok (.newarray .int, 2) := by decide +kernel
theorem dX7_init_127 : decode cX7_init 127 = .ok (.putfield 56, 3) := by decide +kernel
theorem dX7_init_130 : decode cX7_init 130 = .ok (.aload_n 0, 1) := by decide +kernel
theorem dX7_init_131 : decode cX7_init 131 = .ok (.sipush 480, 3) := by decide +kernel
theorem dX7_init_134 : decode cX7_init 134 = .ok (.newarray .int, 2) := by decide +kernel
theorem dX7_init_136 : decode cX7_init 136 = .ok (.putfield 59, 3) := by decide +kernel
theorem dX7_init_139 : decode cX7_init 139 = .ok (.aload_n 0, 1) := by decide +kernel
theorem dX7_init_140 : decode cX7_init 140 = .ok (.sipush 480, 3) := by decide +kernel
theorem dX7_init_143 : decode cX7_init 143 = .ok (.newarray .int, 2) := by decide +kernel
theorem dX7_init_145 : decode cX7_init 145 = .ok (.putfield 62, 3) := by decide +kernel
theorem dX7_init_148 : decode cX7_init 148 = .ok (.aload_n 0, 1) := by decide +kernel
theorem dX7_init_149 : decode cX7_init 149 = .ok (.bipush 120, 2) := by decide +kernel
theorem dX7_init_151 : decode cX7_init 151 = .ok (.newarray .int, 2) := by decide +kernel
theorem dX7_init_153 : decode cX7_init 153 = .ok (.putfield 65, 3) := by decide +kernel
theorem dX7_init_156 : decode cX7_init 156 = .ok (.aload_n 0, 1) := by decide +kernel
theorem dX7_init_157 : decode cX7_init 157 = .ok (.iconst 5, 1) := by decide +kernel
theorem dX7_init_158 : decode cX7_init 158 = .ok (.newarray .int, 2) := by decide +kernel
theorem dX7_init_160 : decode cX7_init 160 = .ok (.putfield 68, 3) := by decide +kernel
theorem dX7_init_163 : decode cX7_init 163 = .ok (.aload_n 0, 1) := by decide +kernel
theorem dX7_init_164 : decode cX7_init 164 = .ok (.sipush 16000, 3) := by decide +kernel
theorem dX7_init_167 : decode cX7_init 167 = .ok (.newarray .int, 2) := by decide +kernel
theorem dX7_init_169 : decode cX7_init 169 = .ok (.putfield 71, 3) := by decide +kernel
theorem dX7_init_172 : decode cX7_init 172 = .ok (.aload_n 0, 1) := by decide +kernel
theorem dX7_init_173 : decode cX7_init 173 = .ok (.bipush 16, 2) := by decide +kernel
theorem dX7_init_175 : decode cX7_init 175 = .ok (.newarray .int, 2) := by decide +kernel
theorem dX7_init_177 : decode cX7_init 177 = .ok (.putfield 74, 3) := by decide +kernel
theorem dX7_init_180 : decode cX7_init 180 = .ok (.aload_n 0, 1) := by decide +kernel
theorem dX7_init_181 : decode cX7_init 181 = .ok (.bipush 16, 2) := by decide +kernel
theorem dX7_init_183 : decode cX7_init 183 = .ok (.newarray .int, 2) := by decide +kernel
theorem dX7_init_185 : decode cX7_init 185 = .ok (.putfield 77, 3) := by decide +kernel
theorem dX7_init_188 : decode cX7_init 188 = .ok (.aload_n 0, 1) := by decide +kernel
theorem dX7_init_189 : decode cX7_init 189 = .ok (.bipush 16, 2) := by decide +kernel
theorem dX7_init_191 : decode cX7_init 191 = .ok (.newarray .int, 2) := by decide +kernel
theorem dX7_init_193 : decode cX7_init 193 = .ok (.putfield 80, 3) := by decide +kernel
theorem dX7_init_196 : decode cX7_init 196 = .ok (.aload_n 0, 1) := by decide +kernel
theorem dX7_init_197 : decode cX7_init 197 = .ok (.bipush 16, 2) := by decide +kernel
theorem dX7_init_199 : decode cX7_init 199 = .ok (.newarray .int, 2) := by decide +kernel
theorem dX7_init_201 : decode cX7_init 201 = .ok (.putfield 83, 3) := by decide +kernel
theorem dX7_init_204 : decode cX7_init 204 = .ok (.aload_n 0, 1) := by decide +kernel
theorem dX7_init_205 : decode cX7_init 205 = .ok (.bipush 16, 2) := by decide +kernel
theorem dX7_init_207 : decode cX7_init 207 = .ok (.newarray .int, 2) := by decide +kernel
theorem dX7_init_209 : decode cX7_init 209 = .ok (.putfield 86, 3) := by decide +kernel
theorem dX7_init_212 : decode cX7_init 212 = .ok (.aload_n 0, 1) := by decide +kernel
theorem dX7_init_213 : decode cX7_init 213 = .ok (.bipush 16, 2) := by decide +kernel
theorem dX7_init_215 : decode cX7_init 215 = .ok (.newarray .int, 2) := by decide +kernel
theorem dX7_init_217 : decode cX7_init 217 = .ok (.putfield 89, 3) := by decide +kernel
theorem dX7_init_220 : decode cX7_init 220 = .ok (.aload_n 0, 1) := by decide +kernel
theorem dX7_init_221 : decode cX7_init 221 = .ok (.sipush 128, 3) := by decide +kernel
theorem dX7_init_224 : decode cX7_init 224 = .ok (.newarray .int, 2) := by decide +kernel
theorem dX7_init_226 : decode cX7_init 226 = .ok (.putfield 92, 3) := by decide +kernel
theorem dX7_init_229 : decode cX7_init 229 = .ok (.aload_n 0, 1) := by decide +kernel
theorem dX7_init_230 : decode cX7_init 230 = .ok (.sipush 128, 3) := by decide +kernel
theorem dX7_init_233 : decode cX7_init 233 = .ok (.newarray .int, 2) := by decide +kernel
theorem dX7_init_235 : decode cX7_init 235 = .ok (.putfield 95, 3) := by decide +kernel
theorem dX7_init_238 : decode cX7_init 238 = .ok (.aload_n 0, 1) := by decide +kernel
theorem dX7_init_239 : decode cX7_init 239 = .ok (.sipush 301, 3) := by decide +kernel
theorem dX7_init_242 : decode cX7_init 242 = .ok (.newarray .int, 2) := by decide +kernel
theorem dX7_init_244 : decode cX7_init 244 = .ok (.putfield 98, 3) := by decide +kernel
theorem dX7_init_247 : decode cX7_init 247 = .ok (.aload_n 0, 1) := by decide +kernel
theorem dX7_init_248 : decode cX7_init 248 = .ok (.ldc 101, 2) := by decide +kernel
theorem dX7_init_250 : decode cX7_init 250 = .ok (.newarray .int, 2) := by decide +kernel
theorem dX7_init_252 : decode cX7_init 252 = .ok (.putfield 102, 3) := by decide +kernel
theorem dX7_init_255 : decode cX7_init 255 = .ok (.return_, 1) := by decide +kernel
theorem dX7_bad_0 : decode cX7_bad 0 = .ok (.aload_n 0, 1) := by decide +kernel
theorem dX7_bad_1 : decode cX7_bad 1 = .ok (.getfield 7, 3) := by decide +kernel
theorem dX7_bad_4 : decode cX7_bad 4 = .ok (.iconst 0, 1) := by decide +kernel
theorem dX7_bad_5 : decode cX7_bad 5 = .ok (.dup2, 1) := by decide +kernel
theorem dX7_bad_6 : decode cX7_bad 6 = .ok (.iaload, 1) := by decide +kernel
theorem dX7_bad_7 : decode cX7_bad 7 = .ok (.iconst 1, 1) := by decide +kernel
theorem dX7_bad_8 : decode cX7_bad 8 = .ok (.iadd, 1) := by decide +kernel
theorem dX7_bad_9 : decode cX7_bad 9 = .ok (.iastore, 1) := by decide +kernel
theorem dX7_bad_10 : decode cX7_bad 10 = .ok (.bipush (-2), 2) := by decide +kernel
theorem dX7_bad_12 : decode cX7_bad 12 = .ok (.ireturn, 1) := by decide +kernel
theorem dX7_no_0 : decode cX7_no 0 = .ok (.aload_n 0, 1) := by decide +kernel
theorem dX7_no_1 : decode cX7_no 1 = .ok (.getfield 7, 3) := by decide +kernel
theorem dX7_no_4 : decode cX7_no 4 = .ok (.iconst 1, 1) := by decide +kernel
theorem dX7_no_5 : decode cX7_no 5 = .ok (.dup2, 1) := by decide +kernel
theorem dX7_no_6 : decode cX7_no 6 = .ok (.iaload, 1) := by decide +kernel
theorem dX7_no_7 : decode cX7_no 7 = .ok (.iconst 1, 1) := by decide +kernel
theorem dX7_no_8 : decode cX7_no 8 = .ok (.iadd, 1) := by decide +kernel
theorem dX7_no_9 : decode cX7_no 9 = .ok (.iastore, 1) := by decide +kernel
theorem dX7_no_10 : decode cX7_no 10 = .ok (.bipush (-3), 2) := by decide +kernel
theorem dX7_no_12 : decode cX7_no 12 = .ok (.ireturn, 1) := by decide +kernel
theorem dX7_in_0 : decode cX7_in 0 = .ok (.iload_n 0, 1) := by decide +kernel
theorem dX7_in_1 : decode cX7_in 1 = .ok (.iload_n 1, 1) := by decide +kernel
theorem dX7_in_2 : decode cX7_in 2 = .ok (.if_icmp .lt 12, 3) := by decide +kernel
theorem dX7_in_5 : decode cX7_in 5 = .ok (.iload_n 0, 1) := by decide +kernel
theorem dX7_in_6 : decode cX7_in 6 = .ok (.iload_n 2, 1) := by decide +kernel
theorem dX7_in_7 : decode cX7_in 7 = .ok (.if_icmp .gt 7, 3) := by decide +kernel
theorem dX7_in_10 : decode cX7_in 10 = .ok (.iconst 1, 1) := by decide +kernel
theorem dX7_in_11 : decode cX7_in 11 = .ok (.goto 4, 3) := by decide +kernel
theorem dX7_in_14 : decode cX7_in 14 = .ok (.iconst 0, 1) := by decide +kernel
theorem dX7_in_15 : decode cX7_in 15 = .ok (.ireturn, 1) := by decide +kernel
theorem dX7_isStopThere_0 : decode cX7_isStopThere 0 = .ok (.iconst 0, 1) := by decide +kernel
theorem dX7_isStopThere_1 : decode cX7_isStopThere 1 = .ok (.istore_n 3, 1) := by decide +kernel
theorem dX7_isStopThere_2 : decode cX7_isStopThere 2 = .ok (.iconst 0, 1) := by decide +kernel
theorem dX7_isStopThere_3 : decode cX7_isStopThere 3 = .ok (.istore 4, 2) := by decide +kernel
theorem dX7_isStopThere_5 : decode cX7_isStopThere 5 = .ok (.iload 4, 2) := by decide +kernel
theorem dX7_isStopThere_7 : decode cX7_isStopThere 7 = .ok (.aload_n 0, 1) := by decide +kernel
theorem dX7_isStopThere_8 : decode cX7_isStopThere 8 = .ok (.getfield 19, 3) := by decide +kernel
theorem dX7_isStopThere_11 : decode cX7_isStopThere 11 = .ok (.iload_n 1, 1) := by decide +kernel
theorem dX7_isStopThere_12 : decode cX7_isStopThere 12 = .ok (.iaload, 1) := by decide +kernel
theorem dX7_isStopThere_13 : decode cX7_isStopThere 13 = .ok (.if_icmp .ge 50, 3) := by decide +kernel
theorem dX7_isStopThere_16 : decode cX7_isStopThere 16 = .ok (.iload_n 3, 1) := by decide +kernel
theorem dX7_isStopThere_17 : decode cX7_isStopThere 17 = .ok (.ifCond .ne 34, 3) := by decide +kernel
theorem dX7_isStopThere_20 : decode cX7_isStopThere 20 = .ok (.aload_n 0, 1) := by decide +kernel
theorem dX7_isStopThere_21 : decode cX7_isStopThere 21 = .ok (.iload_n 1, 1) := by decide +kernel
theorem dX7_isStopThere_22 : decode cX7_isStopThere 22 = .ok (.iload 4, 2) := by decide +kernel
theorem dX7_isStopThere_24 : decode cX7_isStopThere 24 = .ok (.invokevirtual 113, 3) := by decide +kernel
theorem dX7_isStopThere_27 : decode cX7_isStopThere 27 = .ok (.ifCond .eq 28, 3) := by decide +kernel
theorem dX7_isStopThere_30 : decode cX7_isStopThere 30 = .ok (.aload_n 0, 1) := by decide +kernel
theorem dX7_isStopThere_31 : decode cX7_isStopThere 31 = .ok (.iload_n 1, 1) := by decide +kernel
theorem dX7_isStopThere_32 : decode cX7_isStopThere 32 = .ok (.iload 4, 2) := by decide +kernel
theorem dX7_isStopThere_34 : decode cX7_isStopThere 34 = .ok (.invokevirtual 117, 3) := by decide +kernel
theorem dX7_isStopThere_37 : decode cX7_isStopThere 37 = .ok (.iload_n 2, 1) := by decide +kernel
theorem dX7_isStopThere_38 : decode cX7_isStopThere 38 = .ok (.if_icmp .ne 17, 3) := by decide +kernel
theorem dX7_isStopThere_41 : decode cX7_isStopThere 41 = .ok (.aload_n 0, 1) := by decide +kernel
theorem dX7_isStopThere_42 : decode cX7_isStopThere 42 = .ok (.iload_n 1, 1) := by decide +kernel
theorem dX7_isStopThere_43 : decode cX7_isStopThere 43 = .ok (.iload 4, 2) := by decide +kernel
theorem dX7_isStopThere_45 : decode cX7_isStopThere 45 = .ok (.invokevirtual 120, 3) := by decide +kernel
theorem dX7_isStopThere_48 : decode cX7_isStopThere 48 = .ok (.ifCond .eq 7, 3) := by decide +kernel
theorem dX7_isStopThere_51 : decode cX7_isStopThere 51 = .ok (.iconst 1, 1) := by decide +kernel
theorem dX7_isStopThere_52 : decode cX7_isStopThere 52 = .ok (.goto 4, 3) := by decide +kernel
theorem dX7_isStopThere_55 : decode cX7_isStopThere 55 = .ok (.iconst 0, 1) := by decide +kernel
theorem dX7_isStopThere_56 : decode cX7_isStopThere 56 = .ok (.istore_n 3, 1) := by decide +kernel
theorem dX7_isStopThere_57 : decode cX7_isStopThere 57 = .ok (.iinc 4 1, 3) := by decide +kernel
theorem dX7_isStopThere_60 : decode cX7_isStopThere 60 = .ok (.goto (-55), 3) := by decide +kernel
theorem dX7_isStopThere_63 : decode cX7_isStopThere 63 = .ok (.iload_n 3, 1) := by decide +kernel
theorem dX7_isStopThere_64 : decode cX7_isStopThere 64 = .ok (.ireturn, 1) := by decide +kernel
theorem dX7_reads_0 : decode cX7_reads 0 = .ok (.aload_n 0, 1) := by decide +kernel
theorem dX7_reads_1 : decode cX7_reads 1 = .ok (.iconst 0, 1) := by decide +kernel
theorem dX7_reads_2 : decode cX7_reads 2 = .ok (.putfield 123, 3) := by decide +kernel
theorem dX7_reads_5 : decode cX7_reads 5 = .ok (.aload_n 0, 1) := by decide +kernel
theorem dX7_reads_6 : decode cX7_reads 6 = .ok (.iconst 0, 1) := by decide +kernel
theorem dX7_reads_7 : decode cX7_reads 7 = .ok (.putfield 134, 3) := by decide +kernel
theorem dX7_reads_10 : decode cX7_reads 10 = .ok (.aload_n 0, 1) := by decide +kernel
theorem dX7_reads_11 : decode cX7_reads 11 = .ok (.iconst 0, 1) := by decide +kernel
theorem dX7_reads_12 : decode cX7_reads 12 = .ok (.putfield 176, 3) := by decide +kernel
theorem dX7_reads_15 : decode cX7_reads 15 = .ok (.aload_n 0, 1) := by decide +kernel
theorem dX7_reads_16 : decode cX7_reads 16 = .ok (.iconst 0, 1) := by decide +kernel
theorem dX7_reads_17 : decode cX7_reads 17 = .ok (.putfield 167, 3) := by decide +kernel
theorem dX7_reads_20 : decode cX7_reads 20 = .ok (.aload_n 0, 1) := by decide +kernel
theorem dX7_reads_21 : decode cX7_reads 21 = .ok (.getfield 19, 3) := by decide +kernel
theorem dX7_reads_24 : decode cX7_reads 24 = .ok (.iload_n 1, 1) := by decide +kernel
theorem dX7_reads_25 : decode cX7_reads 25 = .ok (.iconst 0, 1) := by decide +kernel
theorem dX7_reads_26 : decode cX7_reads 26 = .ok (.iastore, 1) := by decide +kernel
theorem dX7_reads_27 : decode cX7_reads 27 = .ok (.aload_n 0, 1) := by decide +kernel
theorem dX7_reads_28 : decode cX7_reads 28 = .ok (.getfield 53, 3) := by decide +kernel
theorem dX7_reads_31 : decode cX7_reads 31 = .ok (.iload_n 1, 1) := by decide +kernel
theorem dX7_reads_32 : decode cX7_reads 32 = .ok (.iconst 0, 1) := by decide +kernel
theorem dX7_reads_33 : decode cX7_reads 33 = .ok (.iastore, 1) := by decide +kernel
theorem dX7_reads_34 : decode cX7_reads 34 = .ok (.aload_n 0, 1) := by decide +kernel
theorem dX7_reads_35 : decode cX7_reads 35 = .ok (.getfield 134, 3) := by decide +kernel
theorem dX7_reads_38 : decode cX7_reads 38 = .ok (.ifCond .ne 124, 3) := by decide +kernel
theorem dX7_reads_41 : decode cX7_reads 41 = .ok (.aload_n 0, 1) := by decide +kernel
theorem dX7_reads_42 : decode cX7_reads 42 = .ok (.getfield 123, 3) := by decide +kernel
theorem dX7_reads_45 : decode cX7_reads 45 = .ok (.aload_n 0, 1) := by decide +kernel
theorem dX7_reads_46 : decode cX7_reads 46 = .ok (.getfield 127, 3) := by decide +kernel
theorem dX7_reads_49 : decode cX7_reads 49 = .ok (.if_icmp .lt 10, 3) := by decide +kernel
theorem dX7_reads_52 : decode cX7_reads 52 = .ok (.aload_n 0, 1) := by decide +kernel
theorem dX7_reads_53 : decode cX7_reads 53 = .ok (.getfield 167, 3) := by decide +kernel
theorem dX7_reads_56 : decode cX7_reads 56 = .ok (.ifCond .le 106, 3) := by decide +kernel
theorem dX7_reads_59 : decode cX7_reads 59 = .ok (.aload_n 0, 1) := by decide +kernel
theorem dX7_reads_60 : decode cX7_reads 60 = .ok (.invokevirtual 130, 3) := by decide +kernel
theorem dX7_reads_63 : decode cX7_reads 63 = .ok (.istore_n 2, 1) := by decide +kernel
theorem dX7_reads_64 : decode cX7_reads 64 = .ok (.iload_n 2, 1) := by decide +kernel
theorem dX7_reads_65 : decode cX7_reads 65 = .ok (.bipush 36, 2) := by decide +kernel
theorem dX7_reads_67 : decode cX7_reads 67 = .ok (.if_icmp .ne 11, 3) := by decide +kernel
theorem dX7_reads_70 : decode cX7_reads 70 = .ok (.aload_n 0, 1) := by decide +kernel
theorem dX7_reads_71 : decode cX7_reads 71 = .ok (.iload_n 1, 1) := by decide +kernel
theorem dX7_reads_72 : decode cX7_reads 72 = .ok (.invokevirtual 182, 3) := by decide +kernel
theorem dX7_reads_75 : decode cX7_reads 75 = .ok (.goto 84, 3) := by decide +kernel
theorem dX7_reads_78 : decode cX7_reads 78 = .ok (.iload_n 2, 1) := by decide +kernel
theorem dX7_reads_79 : decode cX7_reads 79 = .ok (.bipush 125, 2) := by decide +kernel
theorem dX7_reads_81 : decode cX7_reads 81 = .ok (.if_icmp .ne 58, 3) := by decide +kernel
theorem dX7_reads_84 : decode cX7_reads 84 = .ok (.aload_n 0, 1) := by decide +kernel
theorem dX7_reads_85 : decode cX7_reads 85 = .ok (.getfield 167, 3) := by decide +kernel
theorem dX7_reads_88 : decode cX7_reads 88 = .ok (.ifCond .le 51, 3) := by decide +kernel
theorem dX7_reads_91 : decode cX7_reads 91 = .ok (.aload_n 0, 1) := by decide +kernel
theorem dX7_reads_92 : decode cX7_reads 92 = .ok (.dup, 1) := by decide +kernel
theorem dX7_reads_93 : decode cX7_reads 93 = .ok (.getfield 123, 3) := by decide +kernel
theorem dX7_reads_96 : decode cX7_reads 96 = .ok (.iconst 1, 1) := by decide +kernel
theorem dX7_reads_97 : decode cX7_reads 97 = .ok (.iadd, 1) := by decide +kernel
theorem dX7_reads_98 : decode cX7_reads 98 = .ok (.putfield 123, 3) := by decide +kernel
theorem dX7_reads_101 : decode cX7_reads 101 = .ok (.aload_n 0, 1) := by decide +kernel
theorem dX7_reads_102 : decode cX7_reads 102 = .ok (.dup, 1) := by decide +kernel
theorem dX7_reads_103 : decode cX7_reads 103 = .ok (.getfield 167, 3) := by decide +kernel
theorem dX7_reads_106 : decode cX7_reads 106 = .ok (.iconst 1, 1) := by decide +kernel
theorem dX7_reads_107 : decode cX7_reads 107 = .ok (.isub, 1) := by decide +kernel
theorem dX7_reads_108 : decode cX7_reads 108 = .ok (.putfield 167, 3) := by decide +kernel
theorem dX7_reads_111 : decode cX7_reads 111 = .ok (.aload_n 0, 1) := by decide +kernel
theorem dX7_reads_112 : decode cX7_reads 112 = .ok (.getfield 22, 3) := by decide +kernel
theorem dX7_reads_115 : decode cX7_reads 115 = .ok (.iload_n 1, 1) := by decide +kernel
theorem dX7_reads_116 : decode cX7_reads 116 = .ok (.aload_n 0, 1) := by decide +kernel
theorem dX7_reads_117 : decode cX7_reads 117 = .ok (.getfield 68, 3) := by decide +kernel
theorem dX7_reads_120 : decode cX7_reads 120 = .ok (.aload_n 0, 1) := by decide +kernel
theorem dX7_reads_121 : decode cX7_reads 121 = .ok (.getfield 167, 3) := by decide +kernel
theorem dX7_reads_124 : decode cX7_reads 124 = .ok (.iaload, 1) := by decide +kernel
theorem dX7_reads_125 : decode cX7_reads 125 = .ok (.iconst 2, 1) := by decide +kernel
theorem dX7_reads_126 : decode cX7_reads 126 = .ok (.invokestatic 105, 3) := by decide +kernel
theorem dX7_reads_129 : decode cX7_reads 129 = .ok (.aload_n 0, 1) := by decide +kernel
theorem dX7_reads_130 : decode cX7_reads 130 = .ok (.getfield 19, 3) := by decide +kernel
theorem dX7_reads_133 : decode cX7_reads 133 = .ok (.iload_n 1, 1) := by decide +kernel
theorem dX7_reads_134 : decode cX7_reads 134 = .ok (.iaload, 1) := by decide +kernel
theorem dX7_reads_135 : decode cX7_reads 135 = .ok (.iastore, 1) := by decide +kernel
theorem dX7_reads_136 : decode cX7_reads 136 = .ok (.goto 23, 3) := by decide +kernel
theorem dX7_reads_139 : decode cX7_reads 139 = .ok (.aload_n 0, 1) := by decide +kernel
theorem dX7_reads_140 : decode cX7_reads 140 = .ok (.invokevirtual 157, 3) := by decide +kernel
theorem dX7_reads_143 : decode cX7_reads 143 = .ok (.istore_n 3, 1) := by decide +kernel
theorem dX7_reads_144 : decode cX7_reads 144 = .ok (.aload_n 0, 1) := by decide +kernel
theorem dX7_reads_145 : decode cX7_reads 145 = .ok (.getfield 134, 3) := by decide +kernel
theorem dX7_reads_148 : decode cX7_reads 148 = .ok (.ifCond .ne 11, 3) := by decide +kernel
theorem dX7_reads_151 : decode cX7_reads 151 = .ok (.aload_n 0, 1) := by decide +kernel
theorem dX7_reads_152 : decode cX7_reads 152 = .ok (.iload_n 1, 1) := by decide +kernel
theorem dX7_reads_153 : decode cX7_reads 153 = .ok (.iconst 0, 1) := by decide +kernel
theorem dX7_reads_154 : decode cX7_reads 154 = .ok (.iload_n 3, 1) := by decide +kernel
theorem dX7_reads_155 : decode cX7_reads 155 = .ok (.invokevirtual 164, 3) := by decide +kernel
theorem dX7_reads_158 : decode cX7_reads 158 = .ok (.pop, 1) := by decide +kernel
theorem dX7_reads_159 : decode cX7_reads 159 = .ok (.goto (-125), 3) := by decide +kernel
theorem dX7_reads_162 : decode cX7_reads 162 = .ok (.aload_n 0, 1) := by decide +kernel
theorem dX7_reads_163 : decode cX7_reads 163 = .ok (.getfield 134, 3) := by decide +kernel
theorem dX7_reads_166 : decode cX7_reads 166 = .ok (.ifCond .ne 7, 3) := by decide +kernel
theorem dX7_reads_169 : decode cX7_reads 169 = .ok (.iconst 1, 1) := by decide +kernel
theorem dX7_reads_170 : decode cX7_reads 170 = .ok (.goto 4, 3) := by decide +kernel
theorem dX7_reads_173 : decode cX7_reads 173 = .ok (.iconst 0, 1) := by decide +kernel
theorem dX7_reads_174 : decode cX7_reads 174 = .ok (.ireturn, 1) := by decide +kernel
theorem dX7_settles_0 : decode cX7_settles 0 = .ok (.iconst 0, 1) := by decide +kernel
theorem dX7_settles_1 : decode cX7_settles 1 = .ok (.istore_n 2, 1) := by decide +kernel
theorem dX7_settles_2 : decode cX7_settles 2 = .ok (.iload_n 2, 1) := by decide +kernel
theorem dX7_settles_3 : decode cX7_settles 3 = .ok (.bipush 10, 2) := by decide +kernel
theorem dX7_settles_5 : decode cX7_settles 5 = .ok (.if_icmp .ge 21, 3) := by decide +kernel
theorem dX7_settles_8 : decode cX7_settles 8 = .ok (.aload_n 0, 1) := by decide +kernel
theorem dX7_settles_9 : decode cX7_settles 9 = .ok (.getfield 25, 3) := by decide +kernel
theorem dX7_settles_12 : decode cX7_settles 12 = .ok (.bipush 10, 2) := by decide +kernel
theorem dX7_settles_14 : decode cX7_settles 14 = .ok (.iload_n 1, 1) := by decide +kernel
theorem dX7_settles_15 : decode cX7_settles 15 = .ok (.imul, 1) := by decide +kernel
theorem dX7_settles_16 : decode cX7_settles 16 = .ok (.iload_n 2, 1) := by decide +kernel
theorem dX7_settles_17 : decode cX7_settles 17 = .ok (.iadd, 1) := by decide +kernel
theorem dX7_settles_18 : decode cX7_settles 18 = .ok (.iconst (-1), 1) := by decide +kernel
theorem dX7_settles_19 : decode cX7_settles 19 = .ok (.iastore, 1) := by decide +kernel
theorem dX7_settles_20 : decode cX7_settles 20 = .ok (.iinc 2 1, 3) := by decide +kernel
theorem dX7_settles_23 : decode cX7_settles 23 = .ok (.goto (-21), 3) := by decide +kernel
theorem dX7_settles_26 : decode cX7_settles 26 = .ok (.iconst 0, 1) := by decide +kernel
theorem dX7_settles_27 : decode cX7_settles 27 = .ok (.istore_n 2, 1) := by decide +kernel
theorem dX7_settles_28 : decode cX7_settles 28 = .ok (.iload_n 2, 1) := by decide +kernel
theorem dX7_settles_29 : decode cX7_settles 29 = .ok (.aload_n 0, 1) := by decide +kernel
theorem dX7_settles_30 : decode cX7_settles 30 = .ok (.getfield 19, 3) := by decide +kernel
theorem dX7_settles_33 : decode cX7_settles 33 = .ok (.iload_n 1, 1) := by decide +kernel
theorem dX7_settles_34 : decode cX7_settles 34 = .ok (.iaload, 1) := by decide +kernel
theorem dX7_settles_35 : decode cX7_settles 35 = .ok (.if_icmp .ge 112, 3) := by decide +kernel
theorem dX7_settles_38 : decode cX7_settles 38 = .ok (.iload_n 2, 1) := by decide +kernel
theorem dX7_settles_39 : decode cX7_settles 39 = .ok (.iconst 1, 1) := by decide +kernel
theorem dX7_settles_40 : decode cX7_settles 40 = .ok (.iadd, 1) := by decide +kernel
theorem dX7_settles_41 : decode cX7_settles 41 = .ok (.istore_n 3, 1) := by decide +kernel
theorem dX7_settles_42 : decode cX7_settles 42 = .ok (.aload_n 0, 1) := by decide +kernel
theorem dX7_settles_43 : decode cX7_settles 43 = .ok (.iload_n 1, 1) := by decide +kernel
theorem dX7_settles_44 : decode cX7_settles 44 = .ok (.iload_n 2, 1) := by decide +kernel
theorem dX7_settles_45 : decode cX7_settles 45 = .ok (.invokevirtual 113, 3) := by decide +kernel
theorem dX7_settles_48 : decode cX7_settles 48 = .ok (.ifCond .eq 94, 3) := by decide +kernel
theorem dX7_settles_51 : decode cX7_settles 51 = .ok (.aload_n 0, 1) := by decide +kernel
theorem dX7_settles_52 : decode cX7_settles 52 = .ok (.getfield 22, 3) := by decide +kernel
theorem dX7_settles_55 : decode cX7_settles 55 = .ok (.iload_n 1, 1) := by decide +kernel
theorem dX7_settles_56 : decode cX7_settles 56 = .ok (.iload_n 2, 1) := by decide +kernel
theorem dX7_settles_57 : decode cX7_settles 57 = .ok (.iconst 3, 1) := by decide +kernel
theorem dX7_settles_58 : decode cX7_settles 58 = .ok (.invokestatic 105, 3) := by decide +kernel
theorem dX7_settles_61 : decode cX7_settles 61 = .ok (.iconst 1, 1) := by decide +kernel
theorem dX7_settles_62 : decode cX7_settles 62 = .ok (.iastore, 1) := by decide +kernel
theorem dX7_settles_63 : decode cX7_settles 63 = .ok (.aload_n 0, 1) := by decide +kernel
theorem dX7_settles_64 : decode cX7_settles 64 = .ok (.iload_n 1, 1) := by decide +kernel
theorem dX7_settles_65 : decode cX7_settles 65 = .ok (.iload_n 2, 1) := by decide +kernel
theorem dX7_settles_66 : decode cX7_settles 66 = .ok (.invokevirtual 117, 3) := by decide +kernel
theorem dX7_settles_69 : decode cX7_settles 69 = .ok (.istore 4, 2) := by decide +kernel
theorem dX7_settles_71 : decode cX7_settles 71 = .ok (.aload_n 0, 1) := by decide +kernel
theorem dX7_settles_72 : decode cX7_settles 72 = .ok (.iload_n 1, 1) := by decide +kernel
theorem dX7_settles_73 : decode cX7_settles 73 = .ok (.iload_n 2, 1) := by decide +kernel
theorem dX7_settles_74 : decode cX7_settles 74 = .ok (.invokevirtual 185, 3) := by decide +kernel
theorem dX7_settles_77 : decode cX7_settles 77 = .ok (.ifCond .eq 18, 3) := by decide +kernel
theorem dX7_settles_80 : decode cX7_settles 80 = .ok (.aload_n 0, 1) := by decide +kernel
theorem dX7_settles_81 : decode cX7_settles 81 = .ok (.iload_n 1, 1) := by decide +kernel
theorem dX7_settles_82 : decode cX7_settles 82 = .ok (.iload 4, 2) := by decide +kernel
theorem dX7_settles_84 : decode cX7_settles 84 = .ok (.invokevirtual 188, 3) := by decide +kernel
theorem dX7_settles_87 : decode cX7_settles 87 = .ok (.iconst (-1), 1) := by decide +kernel
theorem dX7_settles_88 : decode cX7_settles 88 = .ok (.if_icmp .ne 7, 3) := by decide +kernel
theorem dX7_settles_91 : decode cX7_settles 91 = .ok (.iconst 1, 1) := by decide +kernel
theorem dX7_settles_92 : decode cX7_settles 92 = .ok (.goto 4, 3) := by decide +kernel
theorem dX7_settles_95 : decode cX7_settles 95 = .ok (.iconst 0, 1) := by decide +kernel
theorem dX7_settles_96 : decode cX7_settles 96 = .ok (.istore 5, 2) := by decide +kernel
theorem dX7_settles_98 : decode cX7_settles 98 = .ok (.iload 5, 2) := by decide +kernel
theorem dX7_settles_100 : decode cX7_settles 100 = .ok (.ifCond .eq 16, 3) := by decide +kernel
theorem dX7_settles_103 : decode cX7_settles 103 = .ok (.aload_n 0, 1) := by decide +kernel
theorem dX7_settles_104 : decode cX7_settles 104 = .ok (.getfield 25, 3) := by decide +kernel
theorem dX7_settles_107 : decode cX7_settles 107 = .ok (.bipush 10, 2) := by decide +kernel
theorem dX7_settles_109 : decode cX7_settles 109 = .ok (.iload_n 1, 1) := by decide +kernel
theorem dX7_settles_110 : decode cX7_settles 110 = .ok (.imul, 1) := by decide +kernel
theorem dX7_settles_111 : decode cX7_settles 111 = .ok (.iload 4, 2) := by decide +kernel
theorem dX7_settles_113 : decode cX7_settles 113 = .ok (.iadd, 1) := by decide +kernel
theorem dX7_settles_114 : decode cX7_settles 114 = .ok (.iload_n 2, 1) := by decide +kernel
theorem dX7_settles_115 : decode cX7_settles 115 = .ok (.iastore, 1) := by decide +kernel
theorem dX7_settles_116 : decode cX7_settles 116 = .ok (.aload_n 0, 1) := by decide +kernel
theorem dX7_settles_117 : decode cX7_settles 117 = .ok (.iload_n 1, 1) := by decide +kernel
theorem dX7_settles_118 : decode cX7_settles 118 = .ok (.iload_n 2, 1) := by decide +kernel
theorem dX7_settles_119 : decode cX7_settles 119 = .ok (.invokevirtual 109, 3) := by decide +kernel
theorem dX7_settles_122 : decode cX7_settles 122 = .ok (.iconst 3, 1) := by decide +kernel
theorem dX7_settles_123 : decode cX7_settles 123 = .ok (.if_icmp .ne 17, 3) := by decide +kernel
theorem dX7_settles_126 : decode cX7_settles 126 = .ok (.iload 5, 2) := by decide +kernel
theorem dX7_settles_128 : decode cX7_settles 128 = .ok (.ifCond .ne 12, 3) := by decide +kernel
theorem dX7_settles_131 : decode cX7_settles 131 = .ok (.aload_n 0, 1) := by decide +kernel
theorem dX7_settles_132 : decode cX7_settles 132 = .ok (.iload_n 1, 1) := by decide +kernel
theorem dX7_settles_133 : decode cX7_settles 133 = .ok (.iload_n 2, 1) := by decide +kernel
theorem dX7_settles_134 : decode cX7_settles 134 = .ok (.invokevirtual 191, 3) := by decide +kernel
theorem dX7_settles_137 : decode cX7_settles 137 = .ok (.goto 4, 3) := by decide +kernel
theorem dX7_settles_140 : decode cX7_settles 140 = .ok (.iload_n 3, 1) := by decide +kernel
theorem dX7_settles_141 : decode cX7_settles 141 = .ok (.istore_n 3, 1) := by decide +kernel
theorem dX7_settles_142 : decode cX7_settles 142 = .ok (.iload_n 3, 1) := by decide +kernel
theorem dX7_settles_143 : decode cX7_settles 143 = .ok (.istore_n 2, 1) := by decide +kernel
theorem dX7_settles_144 : decode cX7_settles 144 = .ok (.goto (-116), 3) := by decide +kernel
theorem dX7_settles_147 : decode cX7_settles 147 = .ok (.iconst 0, 1) := by decide +kernel
theorem dX7_settles_148 : decode cX7_settles 148 = .ok (.istore_n 3, 1) := by decide +kernel
theorem dX7_settles_149 : decode cX7_settles 149 = .ok (.iload_n 3, 1) := by decide +kernel
theorem dX7_settles_150 : decode cX7_settles 150 = .ok (.aload_n 0, 1) := by decide +kernel
theorem dX7_settles_151 : decode cX7_settles 151 = .ok (.getfield 19, 3) := by decide +kernel
theorem dX7_settles_154 : decode cX7_settles 154 = .ok (.iload_n 1, 1) := by decide +kernel
theorem dX7_settles_155 : decode cX7_settles 155 = .ok (.iaload, 1) := by decide +kernel
theorem dX7_settles_156 : decode cX7_settles 156 = .ok (.if_icmp .ge 69, 3) := by decide +kernel
theorem dX7_settles_159 : decode cX7_settles 159 = .ok (.aload_n 0, 1) := by decide +kernel
theorem dX7_settles_160 : decode cX7_settles 160 = .ok (.iload_n 1, 1) := by decide +kernel
theorem dX7_settles_161 : decode cX7_settles 161 = .ok (.iload_n 3, 1) := by decide +kernel
theorem dX7_settles_162 : decode cX7_settles 162 = .ok (.invokevirtual 113, 3) := by decide +kernel
theorem dX7_settles_165 : decode cX7_settles 165 = .ok (.ifCond .eq 54, 3) := by decide +kernel
theorem dX7_settles_168 : decode cX7_settles 168 = .ok (.aload_n 0, 1) := by decide +kernel
theorem dX7_settles_169 : decode cX7_settles 169 = .ok (.iload_n 1, 1) := by decide +kernel
theorem dX7_settles_170 : decode cX7_settles 170 = .ok (.iload_n 3, 1) := by decide +kernel
theorem dX7_settles_171 : decode cX7_settles 171 = .ok (.invokevirtual 120, 3) := by decide +kernel
theorem dX7_settles_174 : decode cX7_settles 174 = .ok (.ifCond .eq 45, 3) := by decide +kernel
theorem dX7_settles_177 : decode cX7_settles 177 = .ok (.aload_n 0, 1) := by decide +kernel
theorem dX7_settles_178 : decode cX7_settles 178 = .ok (.iload_n 1, 1) := by decide +kernel
theorem dX7_settles_179 : decode cX7_settles 179 = .ok (.iload_n 3, 1) := by decide +kernel
theorem dX7_settles_180 : decode cX7_settles 180 = .ok (.invokevirtual 109, 3) := by decide +kernel
theorem dX7_settles_183 : decode cX7_settles 183 = .ok (.iconst 2, 1) := by decide +kernel
theorem dX7_settles_184 : decode cX7_settles 184 = .ok (.if_icmp .ne 35, 3) := by decide +kernel
theorem dX7_settles_187 : decode cX7_settles 187 = .ok (.aload_n 0, 1) := by decide +kernel
theorem dX7_settles_188 : decode cX7_settles 188 = .ok (.iload_n 1, 1) := by decide +kernel
theorem dX7_settles_189 : decode cX7_settles 189 = .ok (.aload_n 0, 1) := by decide +kernel
theorem dX7_settles_190 : decode cX7_settles 190 = .ok (.iload_n 1, 1) := by decide +kernel
theorem dX7_settles_191 : decode cX7_settles 191 = .ok (.iload_n 3, 1) := by decide +kernel
theorem dX7_settles_192 : decode cX7_settles 192 = .ok (.invokevirtual 117, 3) := by decide +kernel
theorem dX7_settles_195 : decode cX7_settles 195 = .ok (.invokevirtual 188, 3) := by decide +kernel
theorem dX7_settles_198 : decode cX7_settles 198 = .ok (.iconst (-1), 1) := by decide +kernel
theorem dX7_settles_199 : decode cX7_settles 199 = .ok (.if_icmp .ne 20, 3) := by decide +kernel
theorem dX7_settles_202 : decode cX7_settles 202 = .ok (.aload_n 0, 1) := by decide +kernel
theorem dX7_settles_203 : decode cX7_settles 203 = .ok (.getfield 25, 3) := by decide +kernel
theorem dX7_settles_206 : decode cX7_settles 206 = .ok (.bipush 10, 2) := by decide +kernel
theorem dX7_settles_208 : decode cX7_settles 208 = .ok (.iload_n 1, 1) := by decide +kernel
theorem dX7_settles_209 : decode cX7_settles 209 = .ok (.imul, 1) := by decide +kernel
theorem dX7_settles_210 : decode cX7_settles 210 = .ok (.aload_n 0, 1) := by decide +kernel
theorem dX7_settles_211 : decode cX7_settles 211 = .ok (.iload_n 1, 1) := by decide +kernel
theorem dX7_settles_212 : decode cX7_settles 212 = .ok (.iload_n 3, 1) := by decide +kernel
theorem dX7_settles_213 : decode cX7_settles 213 = .ok (.invokevirtual 117, 3) := by decide +kernel
theorem dX7_settles_216 : decode cX7_settles 216 = .ok (.iadd, 1) := by decide +kernel
theorem dX7_settles_217 : decode cX7_settles 217 = .ok (.iload_n 3, 1) := by decide +kernel
theorem dX7_settles_218 : decode cX7_settles 218 = .ok (.iastore, 1) := by decide +kernel
theorem dX7_settles_219 : decode cX7_settles 219 = .ok (.iinc 3 1, 3) := by decide +kernel
theorem dX7_settles_222 : decode cX7_settles 222 = .ok (.goto (-73), 3) := by decide +kernel
theorem dX7_settles_225 : decode cX7_settles 225 = .ok (.return_, 1) := by decide +kernel
theorem dX7_opens_0 : decode cX7_opens 0 = .ok (.aload_n 0, 1) := by decide +kernel
theorem dX7_opens_1 : decode cX7_opens 1 = .ok (.getfield 74, 3) := by decide +kernel
theorem dX7_opens_4 : decode cX7_opens 4 = .ok (.aload_n 0, 1) := by decide +kernel
theorem dX7_opens_5 : decode cX7_opens 5 = .ok (.getfield 210, 3) := by decide +kernel
theorem dX7_opens_8 : decode cX7_opens 8 = .ok (.iload_n 1, 1) := by decide +kernel
theorem dX7_opens_9 : decode cX7_opens 9 = .ok (.iastore, 1) := by decide +kernel
theorem dX7_opens_10 : decode cX7_opens 10 = .ok (.aload_n 0, 1) := by decide +kernel
theorem dX7_opens_11 : decode cX7_opens 11 = .ok (.getfield 77, 3) := by decide +kernel
theorem dX7_opens_14 : decode cX7_opens 14 = .ok (.aload_n 0, 1) := by decide +kernel
theorem dX7_opens_15 : decode cX7_opens 15 = .ok (.getfield 210, 3) := by decide +kernel
theorem dX7_opens_18 : decode cX7_opens 18 = .ok (.iload_n 2, 1) := by decide +kernel
theorem dX7_opens_19 : decode cX7_opens 19 = .ok (.iastore, 1) := by decide +kernel
theorem dX7_opens_20 : decode cX7_opens 20 = .ok (.aload_n 0, 1) := by decide +kernel
theorem dX7_opens_21 : decode cX7_opens 21 = .ok (.getfield 80, 3) := by decide +kernel
theorem dX7_opens_24 : decode cX7_opens 24 = .ok (.aload_n 0, 1) := by decide +kernel
theorem dX7_opens_25 : decode cX7_opens 25 = .ok (.getfield 210, 3) := by decide +kernel
theorem dX7_opens_28 : decode cX7_opens 28 = .ok (.iload_n 3, 1) := by decide +kernel
theorem dX7_opens_29 : decode cX7_opens 29 = .ok (.iastore, 1) := by decide +kernel
theorem dX7_opens_30 : decode cX7_opens 30 = .ok (.aload_n 0, 1) := by decide +kernel
theorem dX7_opens_31 : decode cX7_opens 31 = .ok (.getfield 83, 3) := by decide +kernel
theorem dX7_opens_34 : decode cX7_opens 34 = .ok (.aload_n 0, 1) := by decide +kernel
theorem dX7_opens_35 : decode cX7_opens 35 = .ok (.getfield 210, 3) := by decide +kernel
theorem dX7_opens_38 : decode cX7_opens 38 = .ok (.aload_n 0, 1) := by decide +kernel
theorem dX7_opens_39 : decode cX7_opens 39 = .ok (.getfield 194, 3) := by decide +kernel
theorem dX7_opens_42 : decode cX7_opens 42 = .ok (.iastore, 1) := by decide +kernel
theorem dX7_opens_43 : decode cX7_opens 43 = .ok (.aload_n 0, 1) := by decide +kernel
theorem dX7_opens_44 : decode cX7_opens 44 = .ok (.getfield 86, 3) := by decide +kernel
theorem dX7_opens_47 : decode cX7_opens 47 = .ok (.aload_n 0, 1) := by decide +kernel
theorem dX7_opens_48 : decode cX7_opens 48 = .ok (.getfield 210, 3) := by decide +kernel
theorem dX7_opens_51 : decode cX7_opens 51 = .ok (.iload 4, 2) := by decide +kernel
theorem dX7_opens_53 : decode cX7_opens 53 = .ok (.iastore, 1) := by decide +kernel
theorem dX7_opens_54 : decode cX7_opens 54 = .ok (.aload_n 0, 1) := by decide +kernel
theorem dX7_opens_55 : decode cX7_opens 55 = .ok (.getfield 89, 3) := by decide +kernel
theorem dX7_opens_58 : decode cX7_opens 58 = .ok (.aload_n 0, 1) := by decide +kernel
theorem dX7_opens_59 : decode cX7_opens 59 = .ok (.getfield 210, 3) := by decide +kernel
theorem dX7_opens_62 : decode cX7_opens 62 = .ok (.iload 5, 2) := by decide +kernel
theorem dX7_opens_64 : decode cX7_opens 64 = .ok (.iastore, 1) := by decide +kernel
theorem dX7_opens_65 : decode cX7_opens 65 = .ok (.aload_n 0, 1) := by decide +kernel
theorem dX7_opens_66 : decode cX7_opens 66 = .ok (.dup, 1) := by decide +kernel
theorem dX7_opens_67 : decode cX7_opens 67 = .ok (.getfield 210, 3) := by decide +kernel
theorem dX7_opens_70 : decode cX7_opens 70 = .ok (.iconst 1, 1) := by decide +kernel
theorem dX7_opens_71 : decode cX7_opens 71 = .ok (.iadd, 1) := by decide +kernel
theorem dX7_opens_72 : decode cX7_opens 72 = .ok (.putfield 210, 3) := by decide +kernel
theorem dX7_opens_75 : decode cX7_opens 75 = .ok (.return_, 1) := by decide +kernel
theorem dX7_closes_0 : decode cX7_closes 0 = .ok (.iload_n 2, 1) := by decide +kernel
theorem dX7_closes_1 : decode cX7_closes 1 = .ok (.iconst (-1), 1) := by decide +kernel
theorem dX7_closes_2 : decode cX7_closes 2 = .ok (.if_icmp .eq 20, 3) := by decide +kernel
theorem dX7_closes_5 : decode cX7_closes 5 = .ok (.aload_n 0, 1) := by decide +kernel
theorem dX7_closes_6 : decode cX7_closes 6 = .ok (.iload_n 1, 1) := by decide +kernel
theorem dX7_closes_7 : decode cX7_closes 7 = .ok (.iload_n 2, 1) := by decide +kernel
theorem dX7_closes_8 : decode cX7_closes 8 = .ok (.invokevirtual 109, 3) := by decide +kernel
theorem dX7_closes_11 : decode cX7_closes 11 = .ok (.iconst 5, 1) := by decide +kernel
theorem dX7_closes_12 : decode cX7_closes 12 = .ok (.if_icmp .ne 10, 3) := by decide +kernel
theorem dX7_closes_15 : decode cX7_closes 15 = .ok (.aload_n 0, 1) := by decide +kernel
theorem dX7_closes_16 : decode cX7_closes 16 = .ok (.iload_n 1, 1) := by decide +kernel
theorem dX7_closes_17 : decode cX7_closes 17 = .ok (.iload_n 2, 1) := by decide +kernel
theorem dX7_closes_18 : decode cX7_closes 18 = .ok (.iload_n 3, 1) := by decide +kernel
theorem dX7_closes_19 : decode cX7_closes 19 = .ok (.invokevirtual 216, 3) := by decide +kernel
theorem dX7_closes_22 : decode cX7_closes 22 = .ok (.iload_n 2, 1) := by decide +kernel
theorem dX7_closes_23 : decode cX7_closes 23 = .ok (.iconst (-1), 1) := by decide +kernel
theorem dX7_closes_24 : decode cX7_closes 24 = .ok (.if_icmp .eq 28, 3) := by decide +kernel
theorem dX7_closes_27 : decode cX7_closes 27 = .ok (.iload 4, 2) := by decide +kernel
theorem dX7_closes_29 : decode cX7_closes 29 = .ok (.iconst 1, 1) := by decide +kernel
theorem dX7_closes_30 : decode cX7_closes 30 = .ok (.if_icmp .ne 22, 3) := by decide +kernel
theorem dX7_closes_33 : decode cX7_closes 33 = .ok (.aload_n 0, 1) := by decide +kernel
theorem dX7_closes_34 : decode cX7_closes 34 = .ok (.getfield 92, 3) := by decide +kernel
theorem dX7_closes_37 : decode cX7_closes 37 = .ok (.iload_n 2, 1) := by decide +kernel
theorem dX7_closes_38 : decode cX7_closes 38 = .ok (.iload_n 3, 1) := by decide +kernel
theorem dX7_closes_39 : decode cX7_closes 39 = .ok (.iastore, 1) := by decide +kernel
theorem dX7_closes_40 : decode cX7_closes 40 = .ok (.aload_n 0, 1) := by decide +kernel
theorem dX7_closes_41 : decode cX7_closes 41 = .ok (.getfield 95, 3) := by decide +kernel
theorem dX7_closes_44 : decode cX7_closes 44 = .ok (.iload_n 2, 1) := by decide +kernel
theorem dX7_closes_45 : decode cX7_closes 45 = .ok (.aload_n 0, 1) := by decide +kernel
theorem dX7_closes_46 : decode cX7_closes 46 = .ok (.getfield 194, 3) := by decide +kernel
theorem dX7_closes_49 : decode cX7_closes 49 = .ok (.iload_n 3, 1) := by decide +kernel
theorem dX7_closes_50 : decode cX7_closes 50 = .ok (.isub, 1) := by decide +kernel
theorem dX7_closes_51 : decode cX7_closes 51 = .ok (.iastore, 1) := by decide +kernel
theorem dX7_closes_52 : decode cX7_closes 52 = .ok (.return_, 1) := by decide +kernel
theorem dX7_step_0 : decode cX7_step 0 = .ok (.aload_n 0, 1) := by decide +kernel
theorem dX7_step_1 : decode cX7_step 1 = .ok (.getfield 210, 3) := by decide +kernel
theorem dX7_step_4 : decode cX7_step 4 = .ok (.iconst 1, 1) := by decide +kernel
theorem dX7_step_5 : decode cX7_step 5 = .ok (.isub, 1) := by decide +kernel
theorem dX7_step_6 : decode cX7_step 6 = .ok (.istore_n 2, 1) := by decide +kernel
theorem dX7_step_7 : decode cX7_step 7 = .ok (.aload_n 0, 1) := by decide +kernel
theorem dX7_step_8 : decode cX7_step 8 = .ok (.getfield 74, 3) := by decide +kernel
theorem dX7_step_11 : decode cX7_step 11 = .ok (.iload_n 2, 1) := by decide +kernel
theorem dX7_step_12 : decode cX7_step 12 = .ok (.iaload, 1) := by decide +kernel
theorem dX7_step_13 : decode cX7_step 13 = .ok (.istore_n 3, 1) := by decide +kernel
theorem dX7_step_14 : decode cX7_step 14 = .ok (.iload_n 3, 1) := by decide +kernel
theorem dX7_step_15 : decode cX7_step 15 = .ok (.aload_n 0, 1) := by decide +kernel
theorem dX7_step_16 : decode cX7_step 16 = .ok (.getfield 77, 3) := by decide +kernel
theorem dX7_step_19 : decode cX7_step 19 = .ok (.iload_n 2, 1) := by decide +kernel
theorem dX7_step_20 : decode cX7_step 20 = .ok (.iaload, 1) := by decide +kernel
theorem dX7_step_21 : decode cX7_step 21 = .ok (.if_icmp .lt 45, 3) := by decide +kernel
theorem dX7_step_24 : decode cX7_step 24 = .ok (.aload_n 0, 1) := by decide +kernel
theorem dX7_step_25 : decode cX7_step 25 = .ok (.dup, 1) := by decide +kernel
theorem dX7_step_26 : decode cX7_step 26 = .ok (.getfield 210, 3) := by decide +kernel
theorem dX7_step_29 : decode cX7_step 29 = .ok (.iconst 1, 1) := by decide +kernel
theorem dX7_step_30 : decode cX7_step 30 = .ok (.isub, 1) := by decide +kernel
theorem dX7_step_31 : decode cX7_step 31 = .ok (.putfield 210, 3) := by decide +kernel
theorem dX7_step_34 : decode cX7_step 34 = .ok (.aload_n 0, 1) := by decide +kernel
theorem dX7_step_35 : decode cX7_step 35 = .ok (.iload_n 1, 1) := by decide +kernel
theorem dX7_step_36 : decode cX7_step 36 = .ok (.aload_n 0, 1) := by decide +kernel
theorem dX7_step_37 : decode cX7_step 37 = .ok (.getfield 86, 3) := by decide +kernel
theorem dX7_step_40 : decode cX7_step 40 = .ok (.iload_n 2, 1) := by decide +kernel
theorem dX7_step_41 : decode cX7_step 41 = .ok (.iaload, 1) := by decide +kernel
theorem dX7_step_42 : decode cX7_step 42 = .ok (.aload_n 0, 1) := by decide +kernel
theorem dX7_step_43 : decode cX7_step 43 = .ok (.getfield 83, 3) := by decide +kernel
theorem dX7_step_46 : decode cX7_step 46 = .ok (.iload_n 2, 1) := by decide +kernel
theorem dX7_step_47 : decode cX7_step 47 = .ok (.iaload, 1) := by decide +kernel
theorem dX7_step_48 : decode cX7_step 48 = .ok (.aload_n 0, 1) := by decide +kernel
theorem dX7_step_49 : decode cX7_step 49 = .ok (.getfield 89, 3) := by decide +kernel
theorem dX7_step_52 : decode cX7_step 52 = .ok (.iload_n 2, 1) := by decide +kernel
theorem dX7_step_53 : decode cX7_step 53 = .ok (.iaload, 1) := by decide +kernel
theorem dX7_step_54 : decode cX7_step 54 = .ok (.ifCond .le 7, 3) := by decide +kernel
theorem dX7_step_57 : decode cX7_step 57 = .ok (.iconst 1, 1) := by decide +kernel
theorem dX7_step_58 : decode cX7_step 58 = .ok (.goto 4, 3) := by decide +kernel
theorem dX7_step_61 : decode cX7_step 61 = .ok (.iconst 0, 1) := by decide +kernel
theorem dX7_step_62 : decode cX7_step 62 = .ok (.invokevirtual 232, 3) := by decide +kernel
theorem dX7_step_65 : decode cX7_step 65 = .ok (.return_, 1) := by decide +kernel
theorem dX7_step_66 : decode cX7_step 66 = .ok (.aload_n 0, 1) := by decide +kernel
theorem dX7_step_67 : decode cX7_step 67 = .ok (.getfield 74, 3) := by decide +kernel
theorem dX7_step_70 : decode cX7_step 70 = .ok (.iload_n 2, 1) := by decide +kernel
theorem dX7_step_71 : decode cX7_step 71 = .ok (.aload_n 0, 1) := by decide +kernel
theorem dX7_step_72 : decode cX7_step 72 = .ok (.iload_n 1, 1) := by decide +kernel
theorem dX7_step_73 : decode cX7_step 73 = .ok (.iload_n 3, 1) := by decide +kernel
theorem dX7_step_74 : decode cX7_step 74 = .ok (.invokevirtual 191, 3) := by decide +kernel
theorem dX7_step_77 : decode cX7_step 77 = .ok (.iastore, 1) := by decide +kernel
theorem dX7_step_78 : decode cX7_step 78 = .ok (.aload_n 0, 1) := by decide +kernel
theorem dX7_step_79 : decode cX7_step 79 = .ok (.iload_n 1, 1) := by decide +kernel
theorem dX7_step_80 : decode cX7_step 80 = .ok (.iload_n 3, 1) := by decide +kernel
theorem dX7_step_81 : decode cX7_step 81 = .ok (.invokevirtual 109, 3) := by decide +kernel
theorem dX7_step_84 : decode cX7_step 84 = .ok (.ifCond .ne 16, 3) := by decide +kernel
theorem dX7_step_87 : decode cX7_step 87 = .ok (.aload_n 0, 1) := by decide +kernel
theorem dX7_step_88 : decode cX7_step 88 = .ok (.aload_n 0, 1) := by decide +kernel
theorem dX7_step_89 : decode cX7_step 89 = .ok (.iload_n 1, 1) := by decide +kernel
theorem dX7_step_90 : decode cX7_step 90 = .ok (.iload_n 3, 1) := by decide +kernel
theorem dX7_step_91 : decode cX7_step 91 = .ok (.invokevirtual 117, 3) := by decide +kernel
theorem dX7_step_94 : decode cX7_step 94 = .ok (.invokevirtual 213, 3) := by decide +kernel
theorem dX7_step_97 : decode cX7_step 97 = .ok (.goto 63, 3) := by decide +kernel
theorem dX7_step_100 : decode cX7_step 100 = .ok (.aload_n 0, 1) := by decide +kernel
theorem dX7_step_101 : decode cX7_step 101 = .ok (.iload_n 1, 1) := by decide +kernel
theorem dX7_step_102 : decode cX7_step 102 = .ok (.iload_n 3, 1) := by decide +kernel
theorem dX7_step_103 : decode cX7_step 103 = .ok (.invokevirtual 109, 3) := by decide +kernel
theorem dX7_step_106 : decode cX7_step 106 = .ok (.iconst 1, 1) := by decide +kernel
theorem dX7_step_107 : decode cX7_step 107 = .ok (.if_icmp .ne 17, 3) := by decide +kernel
theorem dX7_step_110 : decode cX7_step 110 = .ok (.aload_n 0, 1) := by decide +kernel
theorem dX7_step_111 : decode cX7_step 111 = .ok (.iload_n 1, 1) := by decide +kernel
theorem dX7_step_112 : decode cX7_step 112 = .ok (.aload_n 0, 1) := by decide +kernel
theorem dX7_step_113 : decode cX7_step 113 = .ok (.iload_n 1, 1) := by decide +kernel
theorem dX7_step_114 : decode cX7_step 114 = .ok (.iload_n 3, 1) := by decide +kernel
theorem dX7_step_115 : decode cX7_step 115 = .ok (.invokevirtual 117, 3) := by decide +kernel
theorem dX7_step_118 : decode cX7_step 118 = .ok (.invokevirtual 236, 3) := by decide +kernel
theorem dX7_step_121 : decode cX7_step 121 = .ok (.goto 39, 3) := by decide +kernel
theorem dX7_step_124 : decode cX7_step 124 = .ok (.aload_n 0, 1) := by decide +kernel
theorem dX7_step_125 : decode cX7_step 125 = .ok (.iload_n 1, 1) := by decide +kernel
theorem dX7_step_126 : decode cX7_step 126 = .ok (.iload_n 3, 1) := by decide +kernel
theorem dX7_step_127 : decode cX7_step 127 = .ok (.invokevirtual 120, 3) := by decide +kernel
theorem dX7_step_130 : decode cX7_step 130 = .ok (.ifCond .eq 30, 3) := by decide +kernel
theorem dX7_step_133 : decode cX7_step 133 = .ok (.aload_n 0, 1) := by decide +kernel
theorem dX7_step_134 : decode cX7_step 134 = .ok (.iload_n 1, 1) := by decide +kernel
theorem dX7_step_135 : decode cX7_step 135 = .ok (.iload_n 3, 1) := by decide +kernel
theorem dX7_step_136 : decode cX7_step 136 = .ok (.aload_n 0, 1) := by decide +kernel
theorem dX7_step_137 : decode cX7_step 137 = .ok (.getfield 80, 3) := by decide +kernel
theorem dX7_step_140 : decode cX7_step 140 = .ok (.iload_n 2, 1) := by decide +kernel
theorem dX7_step_141 : decode cX7_step 141 = .ok (.iaload, 1) := by decide +kernel
theorem dX7_step_142 : decode cX7_step 142 = .ok (.aload_n 0, 1) := by decide +kernel
theorem dX7_step_143 : decode cX7_step 143 = .ok (.getfield 89, 3) := by decide +kernel
theorem dX7_step_146 : decode cX7_step 146 = .ok (.iload_n 2, 1) := by decide +kernel
theorem dX7_step_147 : decode cX7_step 147 = .ok (.iaload, 1) := by decide +kernel
theorem dX7_step_148 : decode cX7_step 148 = .ok (.iconst 1, 1) := by decide +kernel
theorem dX7_step_149 : decode cX7_step 149 = .ok (.if_icmp .ne 7, 3) := by decide +kernel
theorem dX7_step_152 : decode cX7_step 152 = .ok (.iconst 1, 1) := by decide +kernel
theorem dX7_step_153 : decode cX7_step 153 = .ok (.goto 4, 3) := by decide +kernel
theorem dX7_step_156 : decode cX7_step 156 = .ok (.iconst 0, 1) := by decide +kernel
theorem dX7_step_157 : decode cX7_step 157 = .ok (.invokevirtual 239, 3) := by decide +kernel
theorem dX7_step_160 : decode cX7_step 160 = .ok (.return_, 1) := by decide +kernel
theorem dX7_showsAll_0 : decode cX7_showsAll 0 = .ok (.aload_n 0, 1) := by decide +kernel
theorem dX7_showsAll_1 : decode cX7_showsAll 1 = .ok (.iconst 0, 1) := by decide +kernel
theorem dX7_showsAll_2 : decode cX7_showsAll 2 = .ok (.putfield 194, 3) := by decide +kernel
theorem dX7_showsAll_5 : decode cX7_showsAll 5 = .ok (.aload_n 0, 1) := by decide +kernel
theorem dX7_showsAll_6 : decode cX7_showsAll 6 = .ok (.iconst 0, 1) := by decide +kernel
theorem dX7_showsAll_7 : decode cX7_showsAll 7 = .ok (.putfield 197, 3) := by decide +kernel
theorem dX7_showsAll_10 : decode cX7_showsAll 10 = .ok (.aload_n 0, 1) := by decide +kernel
theorem dX7_showsAll_11 : decode cX7_showsAll 11 = .ok (.iconst 0, 1) := by decide +kernel
theorem dX7_showsAll_12 : decode cX7_showsAll 12 = .ok (.putfield 210, 3) := by decide +kernel
theorem dX7_showsAll_15 : decode cX7_showsAll 15 = .ok (.aload_n 0, 1) := by decide +kernel
theorem dX7_showsAll_16 : decode cX7_showsAll 16 = .ok (.iconst 0, 1) := by decide +kernel
theorem dX7_showsAll_17 : decode cX7_showsAll 17 = .ok (.aload_n 0, 1) := by decide +kernel
theorem dX7_showsAll_18 : decode cX7_showsAll 18 = .ok (.getfield 19, 3) := by decide +kernel
theorem dX7_showsAll_21 : decode cX7_showsAll 21 = .ok (.iload_n 1, 1) := by decide +kernel
theorem dX7_showsAll_22 : decode cX7_showsAll 22 = .ok (.iaload, 1) := by decide +kernel
theorem dX7_showsAll_23 : decode cX7_showsAll 23 = .ok (.iconst 0, 1) := by decide +kernel
theorem dX7_showsAll_24 : decode cX7_showsAll 24 = .ok (.iconst (-1), 1) := by decide +kernel
theorem dX7_showsAll_25 : decode cX7_showsAll 25 = .ok (.iconst 1, 1) := by decide +kernel
theorem dX7_showsAll_26 : decode cX7_showsAll 26 = .ok (.invokevirtual 228, 3) := by decide +kernel
theorem dX7_showsAll_29 : decode cX7_showsAll 29 = .ok (.aload_n 0, 1) := by decide +kernel
theorem dX7_showsAll_30 : decode cX7_showsAll 30 = .ok (.getfield 210, 3) := by decide +kernel
theorem dX7_showsAll_33 : decode cX7_showsAll 33 = .ok (.ifCond .le 18, 3) := by decide +kernel
theorem dX7_showsAll_36 : decode cX7_showsAll 36 = .ok (.aload_n 0, 1) := by decide +kernel
theorem dX7_showsAll_37 : decode cX7_showsAll 37 = .ok (.getfield 197, 3) := by decide +kernel
theorem dX7_showsAll_40 : decode cX7_showsAll 40 = .ok (.ifCond .ne 11, 3) := by decide +kernel
theorem dX7_showsAll_43 : decode cX7_showsAll 43 = .ok (.aload_n 0, 1) := by decide +kernel
theorem dX7_showsAll_44 : decode cX7_showsAll 44 = .ok (.iload_n 1, 1) := by decide +kernel
theorem dX7_showsAll_45 : decode cX7_showsAll 45 = .ok (.invokevirtual 242, 3) := by decide +kernel
theorem dX7_showsAll_48 : decode cX7_showsAll 48 = .ok (.goto (-19), 3) := by decide +kernel
theorem dX7_showsAll_51 : decode cX7_showsAll 51 = .ok (.return_, 1) := by decide +kernel
theorem dX7_passesDown_0 : decode cX7_passesDown 0 = .ok (.aload_n 0, 1) := by decide +kernel
theorem dX7_passesDown_1 : decode cX7_passesDown 1 = .ok (.getfield 257, 3) := by decide +kernel
theorem dX7_passesDown_4 : decode cX7_passesDown 4 = .ok (.iconst 1, 1) := by decide +kernel
theorem dX7_passesDown_5 : decode cX7_passesDown 5 = .ok (.isub, 1) := by decide +kernel
theorem dX7_passesDown_6 : decode cX7_passesDown 6 = .ok (.istore_n 1, 1) := by decide +kernel
theorem dX7_passesDown_7 : decode cX7_passesDown 7 = .ok (.iload_n 1, 1) := by decide +kernel
theorem dX7_passesDown_8 : decode cX7_passesDown 8 = .ok (.ifCond .le 33, 3) := by decide +kernel
theorem dX7_passesDown_11 : decode cX7_passesDown 11 = .ok (.aload_n 0, 1) := by decide +kernel
theorem dX7_passesDown_12 : decode cX7_passesDown 12 = .ok (.iload_n 1, 1) := by decide +kernel
theorem dX7_passesDown_13 : decode cX7_passesDown 13 = .ok (.invokevirtual 260, 3) := by decide +kernel
theorem dX7_passesDown_16 : decode cX7_passesDown 16 = .ok (.aload_n 0, 1) := by decide +kernel
theorem dX7_passesDown_17 : decode cX7_passesDown 17 = .ok (.iload_n 1, 1) := by decide +kernel
theorem dX7_passesDown_18 : decode cX7_passesDown 18 = .ok (.iconst 1, 1) := by decide +kernel
theorem dX7_passesDown_19 : decode cX7_passesDown 19 = .ok (.isub, 1) := by decide +kernel
theorem dX7_passesDown_20 : decode cX7_passesDown 20 = .ok (.aload_n 0, 1) := by decide +kernel
theorem dX7_passesDown_21 : decode cX7_passesDown 21 = .ok (.getfield 44, 3) := by decide +kernel
theorem dX7_passesDown_24 : decode cX7_passesDown 24 = .ok (.iload_n 1, 1) := by decide +kernel
theorem dX7_passesDown_25 : decode cX7_passesDown 25 = .ok (.iconst 1, 1) := by decide +kernel
theorem dX7_passesDown_26 : decode cX7_passesDown 26 = .ok (.isub, 1) := by decide +kernel
theorem dX7_passesDown_27 : decode cX7_passesDown 27 = .ok (.iaload, 1) := by decide +kernel
theorem dX7_passesDown_28 : decode cX7_passesDown 28 = .ok (.aload_n 0, 1) := by decide +kernel
theorem dX7_passesDown_29 : decode cX7_passesDown 29 = .ok (.invokevirtual 263, 3) := by decide +kernel
theorem dX7_passesDown_32 : decode cX7_passesDown 32 = .ok (.invokevirtual 266, 3) := by decide +kernel
theorem dX7_passesDown_35 : decode cX7_passesDown 35 = .ok (.iinc 1 (-1), 3) := by decide +kernel
theorem dX7_passesDown_38 : decode cX7_passesDown 38 = .ok (.goto (-31), 3) := by decide +kernel
theorem dX7_passesDown_41 : decode cX7_passesDown 41 = .ok (.return_, 1) := by decide +kernel
theorem dX7_put_0 : decode cX7_put 0 = .ok (.aload_n 0, 1) := by decide +kernel
theorem dX7_put_1 : decode cX7_put 1 = .ok (.getfield 102, 3) := by decide +kernel
theorem dX7_put_4 : decode cX7_put 4 = .ok (.aload_n 0, 1) := by decide +kernel
theorem dX7_put_5 : decode cX7_put 5 = .ok (.getfield 269, 3) := by decide +kernel
theorem dX7_put_8 : decode cX7_put 8 = .ok (.iload_n 1, 1) := by decide +kernel
theorem dX7_put_9 : decode cX7_put 9 = .ok (.iastore, 1) := by decide +kernel
theorem dX7_put_10 : decode cX7_put 10 = .ok (.aload_n 0, 1) := by decide +kernel
theorem dX7_put_11 : decode cX7_put 11 = .ok (.dup, 1) := by decide +kernel
theorem dX7_put_12 : decode cX7_put 12 = .ok (.getfield 269, 3) := by decide +kernel
theorem dX7_put_15 : decode cX7_put 15 = .ok (.iconst 1, 1) := by decide +kernel
theorem dX7_put_16 : decode cX7_put 16 = .ok (.iadd, 1) := by decide +kernel
theorem dX7_put_17 : decode cX7_put 17 = .ok (.putfield 269, 3) := by decide +kernel
theorem dX7_put_20 : decode cX7_put 20 = .ok (.return_, 1) := by decide +kernel
theorem dX7_writes_0 : decode cX7_writes 0 = .ok (.aload_n 0, 1) := by decide +kernel
theorem dX7_writes_1 : decode cX7_writes 1 = .ok (.ldc_w 278, 3) := by decide +kernel
theorem dX7_writes_4 : decode cX7_writes 4 = .ok (.iload_n 1, 1) := by decide +kernel
theorem dX7_writes_5 : decode cX7_writes 5 = .ok (.imul, 1) := by decide +kernel
theorem dX7_writes_6 : decode cX7_writes 6 = .ok (.putfield 269, 3) := by decide +kernel
theorem dX7_writes_9 : decode cX7_writes 9 = .ok (.aload_n 0, 1) := by decide +kernel
theorem dX7_writes_10 : decode cX7_writes 10 = .ok (.iconst 0, 1) := by decide +kernel
theorem dX7_writes_11 : decode cX7_writes 11 = .ok (.invokevirtual 272, 3) := by decide +kernel
theorem dX7_writes_14 : decode cX7_writes 14 = .ok (.aload_n 0, 1) := by decide +kernel
theorem dX7_writes_15 : decode cX7_writes 15 = .ok (.aload_n 0, 1) := by decide +kernel
theorem dX7_writes_16 : decode cX7_writes 16 = .ok (.getfield 279, 3) := by decide +kernel
theorem dX7_writes_19 : decode cX7_writes 19 = .ok (.invokevirtual 272, 3) := by decide +kernel
theorem dX7_writes_22 : decode cX7_writes 22 = .ok (.aload_n 0, 1) := by decide +kernel
theorem dX7_writes_23 : decode cX7_writes 23 = .ok (.aload_n 0, 1) := by decide +kernel
theorem dX7_writes_24 : decode cX7_writes 24 = .ok (.getfield 282, 3) := by decide +kernel
theorem dX7_writes_27 : decode cX7_writes 27 = .ok (.invokevirtual 272, 3) := by decide +kernel
theorem dX7_writes_30 : decode cX7_writes 30 = .ok (.aload_n 0, 1) := by decide +kernel
theorem dX7_writes_31 : decode cX7_writes 31 = .ok (.aload_n 0, 1) := by decide +kernel
theorem dX7_writes_32 : decode cX7_writes 32 = .ok (.getfield 285, 3) := by decide +kernel
theorem dX7_writes_35 : decode cX7_writes 35 = .ok (.invokevirtual 272, 3) := by decide +kernel
theorem dX7_writes_38 : decode cX7_writes 38 = .ok (.aload_n 0, 1) := by decide +kernel
theorem dX7_writes_39 : decode cX7_writes 39 = .ok (.aload_n 0, 1) := by decide +kernel
theorem dX7_writes_40 : decode cX7_writes 40 = .ok (.getfield 257, 3) := by decide +kernel
theorem dX7_writes_43 : decode cX7_writes 43 = .ok (.invokevirtual 272, 3) := by decide +kernel
theorem dX7_writes_46 : decode cX7_writes 46 = .ok (.iconst 0, 1) := by decide +kernel
theorem dX7_writes_47 : decode cX7_writes 47 = .ok (.istore_n 2, 1) := by decide +kernel
theorem dX7_writes_48 : decode cX7_writes 48 = .ok (.iload_n 2, 1) := by decide +kernel
theorem dX7_writes_49 : decode cX7_writes 49 = .ok (.sipush 240, 3) := by decide +kernel
theorem dX7_writes_52 : decode cX7_writes 52 = .ok (.if_icmp .ge 19, 3) := by decide +kernel
theorem dX7_writes_55 : decode cX7_writes 55 = .ok (.aload_n 0, 1) := by decide +kernel
theorem dX7_writes_56 : decode cX7_writes 56 = .ok (.aload_n 0, 1) := by decide +kernel
theorem dX7_writes_57 : decode cX7_writes 57 = .ok (.getfield 13, 3) := by decide +kernel
theorem dX7_writes_60 : decode cX7_writes 60 = .ok (.iload_n 2, 1) := by decide +kernel
theorem dX7_writes_61 : decode cX7_writes 61 = .ok (.iaload, 1) := by decide +kernel
theorem dX7_writes_62 : decode cX7_writes 62 = .ok (.invokevirtual 272, 3) := by decide +kernel
theorem dX7_writes_65 : decode cX7_writes 65 = .ok (.iinc 2 1, 3) := by decide +kernel
theorem dX7_writes_68 : decode cX7_writes 68 = .ok (.goto (-20), 3) := by decide +kernel
theorem dX7_writes_71 : decode cX7_writes 71 = .ok (.iconst 0, 1) := by decide +kernel
theorem dX7_writes_72 : decode cX7_writes 72 = .ok (.istore_n 2, 1) := by decide +kernel
theorem dX7_writes_73 : decode cX7_writes 73 = .ok (.iload_n 2, 1) := by decide +kernel
theorem dX7_writes_74 : decode cX7_writes 74 = .ok (.bipush 52, 2) := by decide +kernel
theorem dX7_writes_76 : decode cX7_writes 76 = .ok (.if_icmp .ge 19, 3) := by decide +kernel
theorem dX7_writes_79 : decode cX7_writes 79 = .ok (.aload_n 0, 1) := by decide +kernel
theorem dX7_writes_80 : decode cX7_writes 80 = .ok (.aload_n 0, 1) := by decide +kernel
theorem dX7_writes_81 : decode cX7_writes 81 = .ok (.getfield 16, 3) := by decide +kernel
theorem dX7_writes_84 : decode cX7_writes 84 = .ok (.iload_n 2, 1) := by decide +kernel
theorem dX7_writes_85 : decode cX7_writes 85 = .ok (.iaload, 1) := by decide +kernel
theorem dX7_writes_86 : decode cX7_writes 86 = .ok (.invokevirtual 272, 3) := by decide +kernel
theorem dX7_writes_89 : decode cX7_writes 89 = .ok (.iinc 2 1, 3) := by decide +kernel
theorem dX7_writes_92 : decode cX7_writes 92 = .ok (.goto (-19), 3) := by decide +kernel
theorem dX7_writes_95 : decode cX7_writes 95 = .ok (.iconst 0, 1) := by decide +kernel
theorem dX7_writes_96 : decode cX7_writes 96 = .ok (.istore_n 2, 1) := by decide +kernel
theorem dX7_writes_97 : decode cX7_writes 97 = .ok (.iload_n 2, 1) := by decide +kernel
theorem dX7_writes_98 : decode cX7_writes 98 = .ok (.aload_n 0, 1) := by decide +kernel
theorem dX7_writes_99 : decode cX7_writes 99 = .ok (.getfield 257, 3) := by decide +kernel
theorem dX7_writes_102 : decode cX7_writes 102 = .ok (.if_icmp .ge 14, 3) := by decide +kernel
theorem dX7_writes_105 : decode cX7_writes 105 = .ok (.aload_n 0, 1) := by decide +kernel
theorem dX7_writes_106 : decode cX7_writes 106 = .ok (.iload_n 2, 1) := by decide +kernel
theorem dX7_writes_107 : decode cX7_writes 107 = .ok (.invokevirtual 288, 3) := by decide +kernel
theorem dX7_writes_110 : decode cX7_writes 110 = .ok (.iinc 2 1, 3) := by decide +kernel
theorem dX7_writes_113 : decode cX7_writes 113 = .ok (.goto (-16), 3) := by decide +kernel
theorem dX7_writes_116 : decode cX7_writes 116 = .ok (.aload_n 0, 1) := by decide +kernel
theorem dX7_writes_117 : decode cX7_writes 117 = .ok (.getfield 102, 3) := by decide +kernel
theorem dX7_writes_120 : decode cX7_writes 120 = .ok (.ldc_w 278, 3) := by decide +kernel
theorem dX7_writes_123 : decode cX7_writes 123 = .ok (.iload_n 1, 1) := by decide +kernel
theorem dX7_writes_124 : decode cX7_writes 124 = .ok (.imul, 1) := by decide +kernel
theorem dX7_writes_125 : decode cX7_writes 125 = .ok (.aload_n 0, 1) := by decide +kernel
theorem dX7_writes_126 : decode cX7_writes 126 = .ok (.getfield 269, 3) := by decide +kernel
theorem dX7_writes_129 : decode cX7_writes 129 = .ok (.ldc_w 278, 3) := by decide +kernel
theorem dX7_writes_132 : decode cX7_writes 132 = .ok (.iload_n 1, 1) := by decide +kernel
theorem dX7_writes_133 : decode cX7_writes 133 = .ok (.imul, 1) := by decide +kernel
theorem dX7_writes_134 : decode cX7_writes 134 = .ok (.isub, 1) := by decide +kernel
theorem dX7_writes_135 : decode cX7_writes 135 = .ok (.iastore, 1) := by decide +kernel
theorem dX7_writes_136 : decode cX7_writes 136 = .ok (.return_, 1) := by decide +kernel
theorem dX7_copiesState_0 : decode cX7_copiesState 0 = .ok (.aload_n 0, 1) := by decide +kernel
theorem dX7_copiesState_1 : decode cX7_copiesState 1 = .ok (.getfield 102, 3) := by decide +kernel
theorem dX7_copiesState_4 : decode cX7_copiesState 4 = .ok (.ldc_w 278, 3) := by decide +kernel
theorem dX7_copiesState_7 : decode cX7_copiesState 7 = .ok (.iload_n 1, 1) := by decide +kernel
theorem dX7_copiesState_8 : decode cX7_copiesState 8 = .ok (.imul, 1) := by decide +kernel
theorem dX7_copiesState_9 : decode cX7_copiesState 9 = .ok (.iaload, 1) := by decide +kernel
theorem dX7_copiesState_10 : decode cX7_copiesState 10 = .ok (.istore_n 3, 1) := by decide +kernel
theorem dX7_copiesState_11 : decode cX7_copiesState 11 = .ok (.iconst 0, 1) := by decide +kernel
theorem dX7_copiesState_12 : decode cX7_copiesState 12 = .ok (.istore 4, 2) := by decide +kernel
theorem dX7_copiesState_14 : decode cX7_copiesState 14 = .ok (.iload 4, 2) := by decide +kernel
theorem dX7_copiesState_16 : decode cX7_copiesState 16 = .ok (.iload_n 3, 1) := by decide +kernel
theorem dX7_copiesState_17 : decode cX7_copiesState 17 = .ok (.if_icmp .ge 35, 3) := by decide +kernel
theorem dX7_copiesState_20 : decode cX7_copiesState 20 = .ok (.aload_n 0, 1) := by decide +kernel
theorem dX7_copiesState_21 : decode cX7_copiesState 21 = .ok (.getfield 102, 3) := by decide +kernel
theorem dX7_copiesState_24 : decode cX7_copiesState 24 = .ok (.ldc_w 278, 3) := by decide +kernel
theorem dX7_copiesState_27 : decode cX7_copiesState 27 = .ok (.iload_n 2, 1) := by decide +kernel
theorem dX7_copiesState_28 : decode cX7_copiesState 28 = .ok (.imul, 1) := by decide +kernel
theorem dX7_copiesState_29 : decode cX7_copiesState 29 = .ok (.iload 4, 2) := by decide +kernel
theorem dX7_copiesState_31 : decode cX7_copiesState 31 = .ok (.iadd, 1) := by decide +kernel
theorem dX7_copiesState_32 : decode cX7_copiesState 32 = .ok (.aload_n 0, 1) := by decide +kernel
theorem dX7_copiesState_33 : decode cX7_copiesState 33 = .ok (.getfield 102, 3) := by decide +kernel
theorem dX7_copiesState_36 : decode cX7_copiesState 36 = .ok (.ldc_w 278, 3) := by decide +kernel
theorem dX7_copiesState_39 : decode cX7_copiesState 39 = .ok (.iload_n 1, 1) := by decide +kernel
theorem dX7_copiesState_40 : decode cX7_copiesState 40 = .ok (.imul, 1) := by decide +kernel
theorem dX7_copiesState_41 : decode cX7_copiesState 41 = .ok (.iload 4, 2) := by decide +kernel
theorem dX7_copiesState_43 : decode cX7_copiesState 43 = .ok (.iadd, 1) := by decide +kernel
theorem dX7_copiesState_44 : decode cX7_copiesState 44 = .ok (.iaload, 1) := by decide +kernel
theorem dX7_copiesState_45 : decode cX7_copiesState 45 = .ok (.iastore, 1) := by decide +kernel
theorem dX7_copiesState_46 : decode cX7_copiesState 46 = .ok (.iinc 4 1, 3) := by decide +kernel
theorem dX7_copiesState_49 : decode cX7_copiesState 49 = .ok (.goto (-35), 3) := by decide +kernel
theorem dX7_copiesState_52 : decode cX7_copiesState 52 = .ok (.return_, 1) := by decide +kernel
theorem dX7_leavesState_0 : decode cX7_leavesState 0 = .ok (.aload_n 0, 1) := by decide +kernel
theorem dX7_leavesState_1 : decode cX7_leavesState 1 = .ok (.getfield 294, 3) := by decide +kernel
theorem dX7_leavesState_4 : decode cX7_leavesState 4 = .ok (.bipush 8, 2) := by decide +kernel
theorem dX7_leavesState_6 : decode cX7_leavesState 6 = .ok (.if_icmp .ne 35, 3) := by decide +kernel
theorem dX7_leavesState_9 : decode cX7_leavesState 9 = .ok (.iconst 1, 1) := by decide +kernel
theorem dX7_leavesState_10 : decode cX7_leavesState 10 = .ok (.istore_n 1, 1) := by decide +kernel
theorem dX7_leavesState_11 : decode cX7_leavesState 11 = .ok (.iload_n 1, 1) := by decide +kernel
theorem dX7_leavesState_12 : decode cX7_leavesState 12 = .ok (.bipush 8, 2) := by decide +kernel
theorem dX7_leavesState_14 : decode cX7_leavesState 14 = .ok (.if_icmp .ge 17, 3) := by decide +kernel
theorem dX7_leavesState_17 : decode cX7_leavesState 17 = .ok (.aload_n 0, 1) := by decide +kernel
theorem dX7_leavesState_18 : decode cX7_leavesState 18 = .ok (.iload_n 1, 1) := by decide +kernel
theorem dX7_leavesState_19 : decode cX7_leavesState 19 = .ok (.iload_n 1, 1) := by decide +kernel
theorem dX7_leavesState_20 : decode cX7_leavesState 20 = .ok (.iconst 1, 1) := by decide +kernel
theorem dX7_leavesState_21 : decode cX7_leavesState 21 = .ok (.isub, 1) := by decide +kernel
theorem dX7_leavesState_22 : decode cX7_leavesState 22 = .ok (.invokevirtual 297, 3) := by decide +kernel
theorem dX7_leavesState_25 : decode cX7_leavesState 25 = .ok (.iinc 1 1, 3) := by decide +kernel
theorem dX7_leavesState_28 : decode cX7_leavesState 28 = .ok (.goto (-17), 3) := by decide +kernel
theorem dX7_leavesState_31 : decode cX7_leavesState 31 = .ok (.aload_n 0, 1) := by decide +kernel
theorem dX7_leavesState_32 : decode cX7_leavesState 32 = .ok (.dup, 1) := by decide +kernel
theorem dX7_leavesState_33 : decode cX7_leavesState 33 = .ok (.getfield 294, 3) := by decide +kernel
theorem dX7_leavesState_36 : decode cX7_leavesState 36 = .ok (.iconst 1, 1) := by decide +kernel
theorem dX7_leavesState_37 : decode cX7_leavesState 37 = .ok (.isub, 1) := by decide +kernel
theorem dX7_leavesState_38 : decode cX7_leavesState 38 = .ok (.putfield 294, 3) := by decide +kernel
theorem dX7_leavesState_41 : decode cX7_leavesState 41 = .ok (.aload_n 0, 1) := by decide +kernel
theorem dX7_leavesState_42 : decode cX7_leavesState 42 = .ok (.bipush 8, 2) := by decide +kernel
theorem dX7_leavesState_44 : decode cX7_leavesState 44 = .ok (.aload_n 0, 1) := by decide +kernel
theorem dX7_leavesState_45 : decode cX7_leavesState 45 = .ok (.getfield 294, 3) := by decide +kernel
theorem dX7_leavesState_48 : decode cX7_leavesState 48 = .ok (.invokevirtual 297, 3) := by decide +kernel
theorem dX7_leavesState_51 : decode cX7_leavesState 51 = .ok (.aload_n 0, 1) := by decide +kernel
theorem dX7_leavesState_52 : decode cX7_leavesState 52 = .ok (.dup, 1) := by decide +kernel
theorem dX7_leavesState_53 : decode cX7_leavesState 53 = .ok (.getfield 294, 3) := by decide +kernel
theorem dX7_leavesState_56 : decode cX7_leavesState 56 = .ok (.iconst 1, 1) := by decide +kernel
theorem dX7_leavesState_57 : decode cX7_leavesState 57 = .ok (.iadd, 1) := by decide +kernel
theorem dX7_leavesState_58 : decode cX7_leavesState 58 = .ok (.putfield 294, 3) := by decide +kernel
theorem dX7_leavesState_61 : decode cX7_leavesState 61 = .ok (.return_, 1) := by decide +kernel
theorem dX7_back_0 : decode cX7_back 0 = .ok (.aload_n 0, 1) := by decide +kernel
theorem dX7_back_1 : decode cX7_back 1 = .ok (.getfield 294, 3) := by decide +kernel
theorem dX7_back_4 : decode cX7_back 4 = .ok (.ifCond .ne 8, 3) := by decide +kernel
theorem dX7_back_7 : decode cX7_back 7 = .ok (.aload_n 0, 1) := by decide +kernel
theorem dX7_back_8 : decode cX7_back 8 = .ok (.invokevirtual 300, 3) := by decide +kernel
theorem dX7_back_11 : decode cX7_back 11 = .ok (.ireturn, 1) := by decide +kernel
theorem dX7_back_12 : decode cX7_back 12 = .ok (.aload_n 0, 1) := by decide +kernel
theorem dX7_back_13 : decode cX7_back 13 = .ok (.dup, 1) := by decide +kernel
theorem dX7_back_14 : decode cX7_back 14 = .ok (.getfield 294, 3) := by decide +kernel
theorem dX7_back_17 : decode cX7_back 17 = .ok (.iconst 1, 1) := by decide +kernel
theorem dX7_back_18 : decode cX7_back 18 = .ok (.isub, 1) := by decide +kernel
theorem dX7_back_19 : decode cX7_back 19 = .ok (.putfield 294, 3) := by decide +kernel
theorem dX7_back_22 : decode cX7_back 22 = .ok (.aload_n 0, 1) := by decide +kernel
theorem dX7_back_23 : decode cX7_back 23 = .ok (.aload_n 0, 1) := by decide +kernel
theorem dX7_back_24 : decode cX7_back 24 = .ok (.getfield 294, 3) := by decide +kernel
theorem dX7_back_27 : decode cX7_back 27 = .ok (.invokevirtual 303, 3) := by decide +kernel
theorem dX7_back_30 : decode cX7_back 30 = .ok (.aload_n 0, 1) := by decide +kernel
theorem dX7_back_31 : decode cX7_back 31 = .ok (.getfield 294, 3) := by decide +kernel
theorem dX7_back_34 : decode cX7_back 34 = .ok (.ireturn, 1) := by decide +kernel
theorem dX7_documentBytes_0 : decode cX7_documentBytes 0 = .ok (.aload_n 0, 1) := by decide +kernel
theorem dX7_documentBytes_1 : decode cX7_documentBytes 1 = .ok (.iconst 0, 1) := by decide +kernel
theorem dX7_documentBytes_2 : decode cX7_documentBytes 2 = .ok (.putfield 194, 3) := by decide +kernel
theorem dX7_documentBytes_5 : decode cX7_documentBytes 5 = .ok (.aload_n 0, 1) := by decide +kernel
theorem dX7_documentBytes_6 : decode cX7_documentBytes 6 = .ok (.iconst 0, 1) := by decide +kernel
theorem dX7_documentBytes_7 : decode cX7_documentBytes 7 = .ok (.putfield 197, 3) := by decide +kernel
theorem dX7_documentBytes_10 : decode cX7_documentBytes 10 = .ok (.aload_n 0, 1) := by decide +kernel
theorem dX7_documentBytes_11 : decode cX7_documentBytes 11 = .ok (.getfield 257, 3) := by decide +kernel
theorem dX7_documentBytes_14 : decode cX7_documentBytes 14 = .ok (.ifCond .le 8, 3) := by decide +kernel
theorem dX7_documentBytes_17 : decode cX7_documentBytes 17 = .ok (.aload_n 0, 1) := by decide +kernel
theorem dX7_documentBytes_18 : decode cX7_documentBytes 18 = .ok (.iconst 0, 1) := by decide +kernel
theorem dX7_documentBytes_19 : decode cX7_documentBytes 19 = .ok (.invokevirtual 260, 3) := by decide +kernel
theorem dX7_documentBytes_22 : decode cX7_documentBytes 22 = .ok (.aload_n 0, 1) := by decide +kernel
theorem dX7_documentBytes_23 : decode cX7_documentBytes 23 = .ok (.getfield 279, 3) := by decide +kernel
theorem dX7_documentBytes_26 : decode cX7_documentBytes 26 = .ok (.aload_n 0, 1) := by decide +kernel
theorem dX7_documentBytes_27 : decode cX7_documentBytes 27 = .ok (.getfield 194, 3) := by decide +kernel
theorem dX7_documentBytes_30 : decode cX7_documentBytes 30 = .ok (.iadd, 1) := by decide +kernel
theorem dX7_documentBytes_31 : decode cX7_documentBytes 31 = .ok (.ireturn, 1) := by decide +kernel
theorem dX7_isTooLong_0 : decode cX7_isTooLong 0 = .ok (.aload_n 0, 1) := by decide +kernel
theorem dX7_isTooLong_1 : decode cX7_isTooLong 1 = .ok (.invokevirtual 306, 3) := by decide +kernel
theorem dX7_isTooLong_4 : decode cX7_isTooLong 4 = .ok (.istore_n 1, 1) := by decide +kernel
theorem dX7_isTooLong_5 : decode cX7_isTooLong 5 = .ok (.aload_n 0, 1) := by decide +kernel
theorem dX7_isTooLong_6 : decode cX7_isTooLong 6 = .ok (.getfield 197, 3) := by decide +kernel
theorem dX7_isTooLong_9 : decode cX7_isTooLong 9 = .ok (.ifCond .ne 10, 3) := by decide +kernel
theorem dX7_isTooLong_12 : decode cX7_isTooLong 12 = .ok (.iload_n 1, 1) := by decide +kernel
theorem dX7_isTooLong_13 : decode cX7_isTooLong 13 = .ok (.sipush 240, 3) := by decide +kernel
theorem dX7_isTooLong_16 : decode cX7_isTooLong 16 = .ok (.if_icmp .le 7, 3) := by decide +kernel
theorem dX7_isTooLong_19 : decode cX7_isTooLong 19 = .ok (.iconst 1, 1) := by decide +kernel
theorem dX7_isTooLong_20 : decode cX7_isTooLong 20 = .ok (.goto 4, 3) := by decide +kernel
theorem dX7_isTooLong_23 : decode cX7_isTooLong 23 = .ok (.iconst 0, 1) := by decide +kernel
theorem dX7_isTooLong_24 : decode cX7_isTooLong 24 = .ok (.ireturn, 1) := by decide +kernel
theorem dX7_comesIn_0 : decode cX7_comesIn 0 = .ok (.aload_n 0, 1) := by decide +kernel
theorem dX7_comesIn_1 : decode cX7_comesIn 1 = .ok (.getfield 279, 3) := by decide +kernel
theorem dX7_comesIn_4 : decode cX7_comesIn 4 = .ok (.istore_n 3, 1) := by decide +kernel
theorem dX7_comesIn_5 : decode cX7_comesIn 5 = .ok (.iload_n 3, 1) := by decide +kernel
theorem dX7_comesIn_6 : decode cX7_comesIn 6 = .ok (.iload_n 1, 1) := by decide +kernel
theorem dX7_comesIn_7 : decode cX7_comesIn 7 = .ok (.if_icmp .le 23, 3) := by decide +kernel
theorem dX7_comesIn_10 : decode cX7_comesIn 10 = .ok (.aload_n 0, 1) := by decide +kernel
theorem dX7_comesIn_11 : decode cX7_comesIn 11 = .ok (.getfield 13, 3) := by decide +kernel
theorem dX7_comesIn_14 : decode cX7_comesIn 14 = .ok (.iload_n 3, 1) := by decide +kernel
theorem dX7_comesIn_15 : decode cX7_comesIn 15 = .ok (.aload_n 0, 1) := by decide +kernel
theorem dX7_comesIn_16 : decode cX7_comesIn 16 = .ok (.getfield 13, 3) := by decide +kernel
theorem dX7_comesIn_19 : decode cX7_comesIn 19 = .ok (.iload_n 3, 1) := by decide +kernel
theorem dX7_comesIn_20 : decode cX7_comesIn 20 = .ok (.iconst 1, 1) := by decide +kernel
theorem dX7_comesIn_21 : decode cX7_comesIn 21 = .ok (.isub, 1) := by decide +kernel
theorem dX7_comesIn_22 : decode cX7_comesIn 22 = .ok (.iaload, 1) := by decide +kernel
theorem dX7_comesIn_23 : decode cX7_comesIn 23 = .ok (.iastore, 1) := by decide +kernel
theorem dX7_comesIn_24 : decode cX7_comesIn 24 = .ok (.iinc 3 (-1), 3) := by decide +kernel
theorem dX7_comesIn_27 : decode cX7_comesIn 27 = .ok (.goto (-22), 3) := by decide +kernel
theorem dX7_comesIn_30 : decode cX7_comesIn 30 = .ok (.aload_n 0, 1) := by decide +kernel
theorem dX7_comesIn_31 : decode cX7_comesIn 31 = .ok (.getfield 13, 3) := by decide +kernel
theorem dX7_comesIn_34 : decode cX7_comesIn 34 = .ok (.iload_n 1, 1) := by decide +kernel
theorem dX7_comesIn_35 : decode cX7_comesIn 35 = .ok (.iload_n 2, 1) := by decide +kernel
theorem dX7_comesIn_36 : decode cX7_comesIn 36 = .ok (.iastore, 1) := by decide +kernel
theorem dX7_comesIn_37 : decode cX7_comesIn 37 = .ok (.aload_n 0, 1) := by decide +kernel
theorem dX7_comesIn_38 : decode cX7_comesIn 38 = .ok (.dup, 1) := by decide +kernel
theorem dX7_comesIn_39 : decode cX7_comesIn 39 = .ok (.getfield 279, 3) := by decide +kernel
theorem dX7_comesIn_42 : decode cX7_comesIn 42 = .ok (.iconst 1, 1) := by decide +kernel
theorem dX7_comesIn_43 : decode cX7_comesIn 43 = .ok (.iadd, 1) := by decide +kernel
theorem dX7_comesIn_44 : decode cX7_comesIn 44 = .ok (.putfield 279, 3) := by decide +kernel
theorem dX7_comesIn_47 : decode cX7_comesIn 47 = .ok (.return_, 1) := by decide +kernel
theorem dX7_first_0 : decode cX7_first 0 = .ok (.iconst (-1), 1) := by decide +kernel
theorem dX7_first_1 : decode cX7_first 1 = .ok (.istore_n 3, 1) := by decide +kernel
theorem dX7_first_2 : decode cX7_first 2 = .ok (.aload_n 0, 1) := by decide +kernel
theorem dX7_first_3 : decode cX7_first 3 = .ok (.getfield 19, 3) := by decide +kernel
theorem dX7_first_6 : decode cX7_first 6 = .ok (.iload_n 1, 1) := by decide +kernel
theorem dX7_first_7 : decode cX7_first 7 = .ok (.iaload, 1) := by decide +kernel
theorem dX7_first_8 : decode cX7_first 8 = .ok (.iconst 1, 1) := by decide +kernel
theorem dX7_first_9 : decode cX7_first 9 = .ok (.isub, 1) := by decide +kernel
theorem dX7_first_10 : decode cX7_first 10 = .ok (.istore 4, 2) := by decide +kernel
theorem dX7_first_12 : decode cX7_first 12 = .ok (.iload 4, 2) := by decide +kernel
theorem dX7_first_14 : decode cX7_first 14 = .ok (.ifCond .lt 47, 3) := by decide +kernel
theorem dX7_first_17 : decode cX7_first 17 = .ok (.aload_n 0, 1) := by decide +kernel
theorem dX7_first_18 : decode cX7_first 18 = .ok (.iload_n 1, 1) := by decide +kernel
theorem dX7_first_19 : decode cX7_first 19 = .ok (.iload 4, 2) := by decide +kernel
theorem dX7_first_21 : decode cX7_first 21 = .ok (.invokevirtual 113, 3) := by decide +kernel
theorem dX7_first_24 : decode cX7_first 24 = .ok (.ifCond .eq 29, 3) := by decide +kernel
theorem dX7_first_27 : decode cX7_first 27 = .ok (.aload_n 0, 1) := by decide +kernel
theorem dX7_first_28 : decode cX7_first 28 = .ok (.iload_n 1, 1) := by decide +kernel
theorem dX7_first_29 : decode cX7_first 29 = .ok (.iload 4, 2) := by decide +kernel
theorem dX7_first_31 : decode cX7_first 31 = .ok (.invokevirtual 117, 3) := by decide +kernel
theorem dX7_first_34 : decode cX7_first 34 = .ok (.iload_n 2, 1) := by decide +kernel
theorem dX7_first_35 : decode cX7_first 35 = .ok (.if_icmp .ne 18, 3) := by decide +kernel
theorem dX7_first_38 : decode cX7_first 38 = .ok (.aload_n 0, 1) := by decide +kernel
theorem dX7_first_39 : decode cX7_first 39 = .ok (.iload_n 1, 1) := by decide +kernel
theorem dX7_first_40 : decode cX7_first 40 = .ok (.iload 4, 2) := by decide +kernel
theorem dX7_first_42 : decode cX7_first 42 = .ok (.invokevirtual 120, 3) := by decide +kernel
theorem dX7_first_45 : decode cX7_first 45 = .ok (.ifCond .eq 8, 3) := by decide +kernel
theorem dX7_first_48 : decode cX7_first 48 = .ok (.iload 4, 2) := by decide +kernel
theorem dX7_first_50 : decode cX7_first 50 = .ok (.goto 4, 3) := by decide +kernel
theorem dX7_first_53 : decode cX7_first 53 = .ok (.iload_n 3, 1) := by decide +kernel
theorem dX7_first_54 : decode cX7_first 54 = .ok (.istore_n 3, 1) := by decide +kernel
theorem dX7_first_55 : decode cX7_first 55 = .ok (.iinc 4 (-1), 3) := by decide +kernel
theorem dX7_first_58 : decode cX7_first 58 = .ok (.goto (-46), 3) := by decide +kernel
theorem dX7_first_61 : decode cX7_first 61 = .ok (.iload_n 3, 1) := by decide +kernel
theorem dX7_first_62 : decode cX7_first 62 = .ok (.ireturn, 1) := by decide +kernel
theorem dX7_finishes_0 : decode cX7_finishes 0 = .ok (.aload_n 0, 1) := by decide +kernel
theorem dX7_finishes_1 : decode cX7_finishes 1 = .ok (.getfield 257, 3) := by decide +kernel
theorem dX7_finishes_4 : decode cX7_finishes 4 = .ok (.iconst 1, 1) := by decide +kernel
theorem dX7_finishes_5 : decode cX7_finishes 5 = .ok (.isub, 1) := by decide +kernel
theorem dX7_finishes_6 : decode cX7_finishes 6 = .ok (.istore_n 1, 1) := by decide +kernel
theorem dX7_finishes_7 : decode cX7_finishes 7 = .ok (.aload_n 0, 1) := by decide +kernel
theorem dX7_finishes_8 : decode cX7_finishes 8 = .ok (.dup, 1) := by decide +kernel
theorem dX7_finishes_9 : decode cX7_finishes 9 = .ok (.getfield 257, 3) := by decide +kernel
theorem dX7_finishes_12 : decode cX7_finishes 12 = .ok (.iconst 1, 1) := by decide +kernel
theorem dX7_finishes_13 : decode cX7_finishes 13 = .ok (.isub, 1) := by decide +kernel
theorem dX7_finishes_14 : decode cX7_finishes 14 = .ok (.putfield 257, 3) := by decide +kernel
theorem dX7_finishes_17 : decode cX7_finishes 17 = .ok (.iload_n 1, 1) := by decide +kernel
theorem dX7_finishes_18 : decode cX7_finishes 18 = .ok (.ifCond .le 13, 3) := by decide +kernel
theorem dX7_finishes_21 : decode cX7_finishes 21 = .ok (.aload_n 0, 1) := by decide +kernel
theorem dX7_finishes_22 : decode cX7_finishes 22 = .ok (.getfield 47, 3) := by decide +kernel
theorem dX7_finishes_25 : decode cX7_finishes 25 = .ok (.iload_n 1, 1) := by decide +kernel
theorem dX7_finishes_26 : decode cX7_finishes 26 = .ok (.iconst 1, 1) := by decide +kernel
theorem dX7_finishes_27 : decode cX7_finishes 27 = .ok (.isub, 1) := by decide +kernel
theorem dX7_finishes_28 : decode cX7_finishes 28 = .ok (.iconst 0, 1) := by decide +kernel
theorem dX7_finishes_29 : decode cX7_finishes 29 = .ok (.iastore, 1) := by decide +kernel
theorem dX7_finishes_30 : decode cX7_finishes 30 = .ok (.return_, 1) := by decide +kernel
theorem dX7_finishes_31 : decode cX7_finishes 31 = .ok (.aload_n 0, 1) := by decide +kernel
theorem dX7_finishes_32 : decode cX7_finishes 32 = .ok (.iconst 0, 1) := by decide +kernel
theorem dX7_finishes_33 : decode cX7_finishes 33 = .ok (.invokevirtual 260, 3) := by decide +kernel
theorem dX7_finishes_36 : decode cX7_finishes 36 = .ok (.aload_n 0, 1) := by decide +kernel
theorem dX7_finishes_37 : decode cX7_finishes 37 = .ok (.iconst 0, 1) := by decide +kernel
theorem dX7_finishes_38 : decode cX7_finishes 38 = .ok (.iconst 0, 1) := by decide +kernel
theorem dX7_finishes_39 : decode cX7_finishes 39 = .ok (.invokevirtual 322, 3) := by decide +kernel
theorem dX7_finishes_42 : decode cX7_finishes 42 = .ok (.istore_n 2, 1) := by decide +kernel
theorem dX7_finishes_43 : decode cX7_finishes 43 = .ok (.aload_n 0, 1) := by decide +kernel
theorem dX7_finishes_44 : decode cX7_finishes 44 = .ok (.aload_n 0, 1) := by decide +kernel
theorem dX7_finishes_45 : decode cX7_finishes 45 = .ok (.getfield 285, 3) := by decide +kernel
theorem dX7_finishes_48 : decode cX7_finishes 48 = .ok (.iload_n 2, 1) := by decide +kernel
theorem dX7_finishes_49 : decode cX7_finishes 49 = .ok (.iconst (-1), 1) := by decide +kernel
theorem dX7_finishes_50 : decode cX7_finishes 50 = .ok (.if_icmp .ne 10, 3) := by decide +kernel
theorem dX7_finishes_53 : decode cX7_finishes 53 = .ok (.aload_n 0, 1) := by decide +kernel
theorem dX7_finishes_54 : decode cX7_finishes 54 = .ok (.getfield 194, 3) := by decide +kernel
theorem dX7_finishes_57 : decode cX7_finishes 57 = .ok (.goto 9, 3) := by decide +kernel
theorem dX7_finishes_60 : decode cX7_finishes 60 = .ok (.aload_n 0, 1) := by decide +kernel
theorem dX7_finishes_61 : decode cX7_finishes 61 = .ok (.getfield 92, 3) := by decide +kernel
theorem dX7_finishes_64 : decode cX7_finishes 64 = .ok (.iload_n 2, 1) := by decide +kernel
theorem dX7_finishes_65 : decode cX7_finishes 65 = .ok (.iaload, 1) := by decide +kernel
theorem dX7_finishes_66 : decode cX7_finishes 66 = .ok (.iadd, 1) := by decide +kernel
theorem dX7_finishes_67 : decode cX7_finishes 67 = .ok (.putfield 282, 3) := by decide +kernel
theorem dX7_finishes_70 : decode cX7_finishes 70 = .ok (.iconst 0, 1) := by decide +kernel
theorem dX7_finishes_71 : decode cX7_finishes 71 = .ok (.istore_n 3, 1) := by decide +kernel
theorem dX7_finishes_72 : decode cX7_finishes 72 = .ok (.iload_n 3, 1) := by decide +kernel
theorem dX7_finishes_73 : decode cX7_finishes 73 = .ok (.aload_n 0, 1) := by decide +kernel
theorem dX7_finishes_74 : decode cX7_finishes 74 = .ok (.getfield 194, 3) := by decide +kernel
theorem dX7_finishes_77 : decode cX7_finishes 77 = .ok (.if_icmp .ge 25, 3) := by decide +kernel
theorem dX7_finishes_80 : decode cX7_finishes 80 = .ok (.aload_n 0, 1) := by decide +kernel
theorem dX7_finishes_81 : decode cX7_finishes 81 = .ok (.aload_n 0, 1) := by decide +kernel
theorem dX7_finishes_82 : decode cX7_finishes 82 = .ok (.getfield 285, 3) := by decide +kernel
theorem dX7_finishes_85 : decode cX7_finishes 85 = .ok (.iload_n 3, 1) := by decide +kernel
theorem dX7_finishes_86 : decode cX7_finishes 86 = .ok (.iadd, 1) := by decide +kernel
theorem dX7_finishes_87 : decode cX7_finishes 87 = .ok (.aload_n 0, 1) := by decide +kernel
theorem dX7_finishes_88 : decode cX7_finishes 88 = .ok (.getfield 71, 3) := by decide +kernel
theorem dX7_finishes_91 : decode cX7_finishes 91 = .ok (.iload_n 3, 1) := by decide +kernel
theorem dX7_finishes_92 : decode cX7_finishes 92 = .ok (.iaload, 1) := by decide +kernel
theorem dX7_finishes_93 : decode cX7_finishes 93 = .ok (.invokevirtual 325, 3) := by decide +kernel
theorem dX7_finishes_96 : decode cX7_finishes 96 = .ok (.iinc 3 1, 3) := by decide +kernel
theorem dX7_finishes_99 : decode cX7_finishes 99 = .ok (.goto (-27), 3) := by decide +kernel
theorem dX7_finishes_102 : decode cX7_finishes 102 = .ok (.return_, 1) := by decide +kernel
theorem dX7_nextStop_0 : decode cX7_nextStop 0 = .ok (.iload_n 2, 1) := by decide +kernel
theorem dX7_nextStop_1 : decode cX7_nextStop 1 = .ok (.iload_n 3, 1) := by decide +kernel
theorem dX7_nextStop_2 : decode cX7_nextStop 2 = .ok (.iadd, 1) := by decide +kernel
theorem dX7_nextStop_3 : decode cX7_nextStop 3 = .ok (.istore 4, 2) := by decide +kernel
theorem dX7_nextStop_5 : decode cX7_nextStop 5 = .ok (.iload 4, 2) := by decide +kernel
theorem dX7_nextStop_7 : decode cX7_nextStop 7 = .ok (.iconst 1, 1) := by decide +kernel
theorem dX7_nextStop_8 : decode cX7_nextStop 8 = .ok (.bipush 9, 2) := by decide +kernel
theorem dX7_nextStop_10 : decode cX7_nextStop 10 = .ok (.invokestatic 138, 3) := by decide +kernel
theorem dX7_nextStop_13 : decode cX7_nextStop 13 = .ok (.ifCond .eq 22, 3) := by decide +kernel
theorem dX7_nextStop_16 : decode cX7_nextStop 16 = .ok (.aload_n 0, 1) := by decide +kernel
theorem dX7_nextStop_17 : decode cX7_nextStop 17 = .ok (.iload_n 1, 1) := by decide +kernel
theorem dX7_nextStop_18 : decode cX7_nextStop 18 = .ok (.iload 4, 2) := by decide +kernel
theorem dX7_nextStop_20 : decode cX7_nextStop 20 = .ok (.invokevirtual 328, 3) := by decide +kernel
theorem dX7_nextStop_23 : decode cX7_nextStop 23 = .ok (.ifCond .ne 12, 3) := by decide +kernel
theorem dX7_nextStop_26 : decode cX7_nextStop 26 = .ok (.iload 4, 2) := by decide +kernel
theorem dX7_nextStop_28 : decode cX7_nextStop 28 = .ok (.iload_n 3, 1) := by decide +kernel
theorem dX7_nextStop_29 : decode cX7_nextStop 29 = .ok (.iadd, 1) := by decide +kernel
theorem dX7_nextStop_30 : decode cX7_nextStop 30 = .ok (.istore 4, 2) := by decide +kernel
theorem dX7_nextStop_32 : decode cX7_nextStop 32 = .ok (.goto (-27), 3) := by decide +kernel
theorem dX7_nextStop_35 : decode cX7_nextStop 35 = .ok (.iload 4, 2) := by decide +kernel
theorem dX7_nextStop_37 : decode cX7_nextStop 37 = .ok (.iconst 1, 1) := by decide +kernel
theorem dX7_nextStop_38 : decode cX7_nextStop 38 = .ok (.bipush 9, 2) := by decide +kernel
theorem dX7_nextStop_40 : decode cX7_nextStop 40 = .ok (.invokestatic 138, 3) := by decide +kernel
theorem dX7_nextStop_43 : decode cX7_nextStop 43 = .ok (.ifCond .eq 8, 3) := by decide +kernel
theorem dX7_nextStop_46 : decode cX7_nextStop 46 = .ok (.iload 4, 2) := by decide +kernel
theorem dX7_nextStop_48 : decode cX7_nextStop 48 = .ok (.goto 4, 3) := by decide +kernel
theorem dX7_nextStop_51 : decode cX7_nextStop 51 = .ok (.iconst (-1), 1) := by decide +kernel
theorem dX7_nextStop_52 : decode cX7_nextStop 52 = .ok (.ireturn, 1) := by decide +kernel
theorem dX7_type_0 : decode cX7_type 0 = .ok (.iload_n 1, 1) := by decide +kernel
theorem dX7_type_1 : decode cX7_type 1 = .ok (.iconst 0, 1) := by decide +kernel
theorem dX7_type_2 : decode cX7_type 2 = .ok (.bipush 127, 2) := by decide +kernel
theorem dX7_type_4 : decode cX7_type 4 = .ok (.invokestatic 138, 3) := by decide +kernel
theorem dX7_type_7 : decode cX7_type 7 = .ok (.ifCond .ne 8, 3) := by decide +kernel
theorem dX7_type_10 : decode cX7_type 10 = .ok (.aload_n 0, 1) := by decide +kernel
theorem dX7_type_11 : decode cX7_type 11 = .ok (.invokevirtual 331, 3) := by decide +kernel
theorem dX7_type_14 : decode cX7_type 14 = .ok (.ireturn, 1) := by decide +kernel
theorem dX7_type_15 : decode cX7_type 15 = .ok (.aload_n 0, 1) := by decide +kernel
theorem dX7_type_16 : decode cX7_type 16 = .ok (.getfield 127, 3) := by decide +kernel
theorem dX7_type_19 : decode cX7_type 19 = .ok (.bipush 120, 2) := by decide +kernel
theorem dX7_type_21 : decode cX7_type 21 = .ok (.if_icmp .ne 8, 3) := by decide +kernel
theorem dX7_type_24 : decode cX7_type 24 = .ok (.aload_n 0, 1) := by decide +kernel
theorem dX7_type_25 : decode cX7_type 25 = .ok (.invokevirtual 313, 3) := by decide +kernel
theorem dX7_type_28 : decode cX7_type 28 = .ok (.ireturn, 1) := by decide +kernel
theorem dX7_type_29 : decode cX7_type 29 = .ok (.aload_n 0, 1) := by decide +kernel
theorem dX7_type_30 : decode cX7_type 30 = .ok (.getfield 65, 3) := by decide +kernel
theorem dX7_type_33 : decode cX7_type 33 = .ok (.aload_n 0, 1) := by decide +kernel
theorem dX7_type_34 : decode cX7_type 34 = .ok (.getfield 127, 3) := by decide +kernel
theorem dX7_type_37 : decode cX7_type 37 = .ok (.iload_n 1, 1) := by decide +kernel
theorem dX7_type_38 : decode cX7_type 38 = .ok (.iastore, 1) := by decide +kernel
theorem dX7_type_39 : decode cX7_type 39 = .ok (.aload_n 0, 1) := by decide +kernel
theorem dX7_type_40 : decode cX7_type 40 = .ok (.dup, 1) := by decide +kernel
theorem dX7_type_41 : decode cX7_type 41 = .ok (.getfield 127, 3) := by decide +kernel
theorem dX7_type_44 : decode cX7_type 44 = .ok (.iconst 1, 1) := by decide +kernel
theorem dX7_type_45 : decode cX7_type 45 = .ok (.iadd, 1) := by decide +kernel
theorem dX7_type_46 : decode cX7_type 46 = .ok (.putfield 127, 3) := by decide +kernel
theorem dX7_type_49 : decode cX7_type 49 = .ok (.aload_n 0, 1) := by decide +kernel
theorem dX7_type_50 : decode cX7_type 50 = .ok (.getfield 127, 3) := by decide +kernel
theorem dX7_type_53 : decode cX7_type 53 = .ok (.ireturn, 1) := by decide +kernel
theorem dX7_clear_0 : decode cX7_clear 0 = .ok (.aload_n 0, 1) := by decide +kernel
theorem dX7_clear_1 : decode cX7_clear 1 = .ok (.getfield 127, 3) := by decide +kernel
theorem dX7_clear_4 : decode cX7_clear 4 = .ok (.istore_n 1, 1) := by decide +kernel
theorem dX7_clear_5 : decode cX7_clear 5 = .ok (.aload_n 0, 1) := by decide +kernel
theorem dX7_clear_6 : decode cX7_clear 6 = .ok (.iconst 0, 1) := by decide +kernel
theorem dX7_clear_7 : decode cX7_clear 7 = .ok (.putfield 127, 3) := by decide +kernel
theorem dX7_clear_10 : decode cX7_clear 10 = .ok (.iload_n 1, 1) := by decide +kernel
theorem dX7_clear_11 : decode cX7_clear 11 = .ok (.ireturn, 1) := by decide +kernel
theorem dX7_variable_0 : decode cX7_variable 0 = .ok (.iload_n 1, 1) := by decide +kernel
theorem dX7_variable_1 : decode cX7_variable 1 = .ok (.iconst 0, 1) := by decide +kernel
theorem dX7_variable_2 : decode cX7_variable 2 = .ok (.iconst 3, 1) := by decide +kernel
theorem dX7_variable_3 : decode cX7_variable 3 = .ok (.invokestatic 138, 3) := by decide +kernel
theorem dX7_variable_6 : decode cX7_variable 6 = .ok (.ifCond .eq 16, 3) := by decide +kernel
theorem dX7_variable_9 : decode cX7_variable 9 = .ok (.aload_n 0, 1) := by decide +kernel
theorem dX7_variable_10 : decode cX7_variable 10 = .ok (.getfield 127, 3) := by decide +kernel
theorem dX7_variable_13 : decode cX7_variable 13 = .ok (.bipush 12, 2) := by decide +kernel
theorem dX7_variable_15 : decode cX7_variable 15 = .ok (.if_icmp .gt 7, 3) := by decide +kernel
theorem dX7_variable_18 : decode cX7_variable 18 = .ok (.iconst 1, 1) := by decide +kernel
theorem dX7_variable_19 : decode cX7_variable 19 = .ok (.goto 4, 3) := by decide +kernel
theorem dX7_variable_22 : decode cX7_variable 22 = .ok (.iconst 0, 1) := by decide +kernel
theorem dX7_variable_23 : decode cX7_variable 23 = .ok (.istore_n 2, 1) := by decide +kernel
theorem dX7_variable_24 : decode cX7_variable 24 = .ok (.iconst 0, 1) := by decide +kernel
theorem dX7_variable_25 : decode cX7_variable 25 = .ok (.istore_n 3, 1) := by decide +kernel
theorem dX7_variable_26 : decode cX7_variable 26 = .ok (.iload_n 3, 1) := by decide +kernel
theorem dX7_variable_27 : decode cX7_variable 27 = .ok (.aload_n 0, 1) := by decide +kernel
theorem dX7_variable_28 : decode cX7_variable 28 = .ok (.getfield 127, 3) := by decide +kernel
theorem dX7_variable_31 : decode cX7_variable 31 = .ok (.if_icmp .ge 35, 3) := by decide +kernel
theorem dX7_variable_34 : decode cX7_variable 34 = .ok (.iload_n 2, 1) := by decide +kernel
theorem dX7_variable_35 : decode cX7_variable 35 = .ok (.ifCond .eq 23, 3) := by decide +kernel
theorem dX7_variable_38 : decode cX7_variable 38 = .ok (.aload_n 0, 1) := by decide +kernel
theorem dX7_variable_39 : decode cX7_variable 39 = .ok (.getfield 65, 3) := by decide +kernel
theorem dX7_variable_42 : decode cX7_variable 42 = .ok (.iload_n 3, 1) := by decide +kernel
theorem dX7_variable_43 : decode cX7_variable 43 = .ok (.iaload, 1) := by decide +kernel
theorem dX7_variable_44 : decode cX7_variable 44 = .ok (.bipush 32, 2) := by decide +kernel
theorem dX7_variable_46 : decode cX7_variable 46 = .ok (.bipush 126, 2) := by decide +kernel
theorem dX7_variable_48 : decode cX7_variable 48 = .ok (.invokestatic 138, 3) := by decide +kernel
theorem dX7_variable_51 : decode cX7_variable 51 = .ok (.ifCond .eq 7, 3) := by decide +kernel
theorem dX7_variable_54 : decode cX7_variable 54 = .ok (.iconst 1, 1) := by decide +kernel
theorem dX7_variable_55 : decode cX7_variable 55 = .ok (.goto 4, 3) := by decide +kernel
theorem dX7_variable_58 : decode cX7_variable 58 = .ok (.iconst 0, 1) := by decide +kernel
theorem dX7_variable_59 : decode cX7_variable 59 = .ok (.istore_n 2, 1) := by decide +kernel
theorem dX7_variable_60 : decode cX7_variable 60 = .ok (.iinc 3 1, 3) := by decide +kernel
theorem dX7_variable_63 : decode cX7_variable 63 = .ok (.goto (-37), 3) := by decide +kernel
theorem dX7_variable_66 : decode cX7_variable 66 = .ok (.iload_n 2, 1) := by decide +kernel
theorem dX7_variable_67 : decode cX7_variable 67 = .ok (.ifCond .ne 8, 3) := by decide +kernel
theorem dX7_variable_70 : decode cX7_variable 70 = .ok (.aload_n 0, 1) := by decide +kernel
theorem dX7_variable_71 : decode cX7_variable 71 = .ok (.invokevirtual 331, 3) := by decide +kernel
theorem dX7_variable_74 : decode cX7_variable 74 = .ok (.ireturn, 1) := by decide +kernel
theorem dX7_variable_75 : decode cX7_variable 75 = .ok (.aload_n 0, 1) := by decide +kernel
theorem dX7_variable_76 : decode cX7_variable 76 = .ok (.bipush 8, 2) := by decide +kernel
theorem dX7_variable_78 : decode cX7_variable 78 = .ok (.invokevirtual 334, 3) := by decide +kernel
theorem dX7_variable_81 : decode cX7_variable 81 = .ok (.aload_n 0, 1) := by decide +kernel
theorem dX7_variable_82 : decode cX7_variable 82 = .ok (.getfield 16, 3) := by decide +kernel
theorem dX7_variable_85 : decode cX7_variable 85 = .ok (.bipush 13, 2) := by decide +kernel
theorem dX7_variable_87 : decode cX7_variable 87 = .ok (.iload_n 1, 1) := by decide +kernel
theorem dX7_variable_88 : decode cX7_variable 88 = .ok (.imul, 1) := by decide +kernel
theorem dX7_variable_89 : decode cX7_variable 89 = .ok (.aload_n 0, 1) := by decide +kernel
theorem dX7_variable_90 : decode cX7_variable 90 = .ok (.getfield 127, 3) := by decide +kernel
theorem dX7_variable_93 : decode cX7_variable 93 = .ok (.iastore, 1) := by decide +kernel
theorem dX7_variable_94 : decode cX7_variable 94 = .ok (.iconst 0, 1) := by decide +kernel
theorem dX7_variable_95 : decode cX7_variable 95 = .ok (.istore_n 3, 1) := by decide +kernel
theorem dX7_variable_96 : decode cX7_variable 96 = .ok (.iload_n 3, 1) := by decide +kernel
theorem dX7_variable_97 : decode cX7_variable 97 = .ok (.aload_n 0, 1) := by decide +kernel
theorem dX7_variable_98 : decode cX7_variable 98 = .ok (.getfield 127, 3) := by decide +kernel
theorem dX7_variable_101 : decode cX7_variable 101 = .ok (.if_icmp .ge 28, 3) := by decide +kernel
theorem dX7_variable_104 : decode cX7_variable 104 = .ok (.aload_n 0, 1) := by decide +kernel
theorem dX7_variable_105 : decode cX7_variable 105 = .ok (.getfield 16, 3) := by decide +kernel
theorem dX7_variable_108 : decode cX7_variable 108 = .ok (.bipush 13, 2) := by decide +kernel
theorem dX7_variable_110 : decode cX7_variable 110 = .ok (.iload_n 1, 1) := by decide +kernel
theorem dX7_variable_111 : decode cX7_variable 111 = .ok (.imul, 1) := by decide +kernel
theorem dX7_variable_112 : decode cX7_variable 112 = .ok (.iconst 1, 1) := by decide +kernel
theorem dX7_variable_113 : decode cX7_variable 113 = .ok (.iadd, 1) := by decide +kernel
theorem dX7_variable_114 : decode cX7_variable 114 = .ok (.iload_n 3, 1) := by decide +kernel
theorem dX7_variable_115 : decode cX7_variable 115 = .ok (.iadd, 1) := by decide +kernel
theorem dX7_variable_116 : decode cX7_variable 116 = .ok (.aload_n 0, 1) := by decide +kernel
theorem dX7_variable_117 : decode cX7_variable 117 = .ok (.getfield 65, 3) := by decide +kernel
theorem dX7_variable_120 : decode cX7_variable 120 = .ok (.iload_n 3, 1) := by decide +kernel
theorem dX7_variable_121 : decode cX7_variable 121 = .ok (.iaload, 1) := by decide +kernel
theorem dX7_variable_122 : decode cX7_variable 122 = .ok (.iastore, 1) := by decide +kernel
theorem dX7_variable_123 : decode cX7_variable 123 = .ok (.iinc 3 1, 3) := by decide +kernel
theorem dX7_variable_126 : decode cX7_variable 126 = .ok (.goto (-30), 3) := by decide +kernel
theorem dX7_variable_129 : decode cX7_variable 129 = .ok (.aload_n 0, 1) := by decide +kernel
theorem dX7_variable_130 : decode cX7_variable 130 = .ok (.invokevirtual 316, 3) := by decide +kernel
theorem dX7_variable_133 : decode cX7_variable 133 = .ok (.aload_n 0, 1) := by decide +kernel
theorem dX7_variable_134 : decode cX7_variable 134 = .ok (.getfield 127, 3) := by decide +kernel
theorem dX7_variable_137 : decode cX7_variable 137 = .ok (.ireturn, 1) := by decide +kernel
theorem dX7_begun_0 : decode cX7_begun 0 = .ok (.aload_n 0, 1) := by decide +kernel
theorem dX7_begun_1 : decode cX7_begun 1 = .ok (.iload_n 1, 1) := by decide +kernel
theorem dX7_begun_2 : decode cX7_begun 2 = .ok (.invokevirtual 337, 3) := by decide +kernel
theorem dX7_begun_5 : decode cX7_begun 5 = .ok (.iconst 0, 1) := by decide +kernel
theorem dX7_begun_6 : decode cX7_begun 6 = .ok (.istore_n 2, 1) := by decide +kernel
theorem dX7_begun_7 : decode cX7_begun 7 = .ok (.iload_n 2, 1) := by decide +kernel
theorem dX7_begun_8 : decode cX7_begun 8 = .ok (.bipush 10, 2) := by decide +kernel
theorem dX7_begun_10 : decode cX7_begun 10 = .ok (.if_icmp .ge 45, 3) := by decide +kernel
theorem dX7_begun_13 : decode cX7_begun 13 = .ok (.aload_n 0, 1) := by decide +kernel
theorem dX7_begun_14 : decode cX7_begun 14 = .ok (.getfield 28, 3) := by decide +kernel
theorem dX7_begun_17 : decode cX7_begun 17 = .ok (.bipush 10, 2) := by decide +kernel
theorem dX7_begun_19 : decode cX7_begun 19 = .ok (.iload_n 1, 1) := by decide +kernel
theorem dX7_begun_20 : decode cX7_begun 20 = .ok (.imul, 1) := by decide +kernel
theorem dX7_begun_21 : decode cX7_begun 21 = .ok (.iload_n 2, 1) := by decide +kernel
theorem dX7_begun_22 : decode cX7_begun 22 = .ok (.iadd, 1) := by decide +kernel
theorem dX7_begun_23 : decode cX7_begun 23 = .ok (.iconst 0, 1) := by decide +kernel
theorem dX7_begun_24 : decode cX7_begun 24 = .ok (.iastore, 1) := by decide +kernel
theorem dX7_begun_25 : decode cX7_begun 25 = .ok (.aload_n 0, 1) := by decide +kernel
theorem dX7_begun_26 : decode cX7_begun 26 = .ok (.getfield 31, 3) := by decide +kernel
theorem dX7_begun_29 : decode cX7_begun 29 = .ok (.bipush 10, 2) := by decide +kernel
theorem dX7_begun_31 : decode cX7_begun 31 = .ok (.iload_n 1, 1) := by decide +kernel
theorem dX7_begun_32 : decode cX7_begun 32 = .ok (.imul, 1) := by decide +kernel
theorem dX7_begun_33 : decode cX7_begun 33 = .ok (.iload_n 2, 1) := by decide +kernel
theorem dX7_begun_34 : decode cX7_begun 34 = .ok (.iadd, 1) := by decide +kernel
theorem dX7_begun_35 : decode cX7_begun 35 = .ok (.iconst 0, 1) := by decide +kernel
theorem dX7_begun_36 : decode cX7_begun 36 = .ok (.iastore, 1) := by decide +kernel
theorem dX7_begun_37 : decode cX7_begun 37 = .ok (.aload_n 0, 1) := by decide +kernel
theorem dX7_begun_38 : decode cX7_begun 38 = .ok (.getfield 34, 3) := by decide +kernel
theorem dX7_begun_41 : decode cX7_begun 41 = .ok (.bipush 10, 2) := by decide +kernel
theorem dX7_begun_43 : decode cX7_begun 43 = .ok (.iload_n 1, 1) := by decide +kernel
theorem dX7_begun_44 : decode cX7_begun 44 = .ok (.imul, 1) := by decide +kernel
theorem dX7_begun_45 : decode cX7_begun 45 = .ok (.iload_n 2, 1) := by decide +kernel
theorem dX7_begun_46 : decode cX7_begun 46 = .ok (.iadd, 1) := by decide +kernel
theorem dX7_begun_47 : decode cX7_begun 47 = .ok (.iconst 0, 1) := by decide +kernel
theorem dX7_begun_48 : decode cX7_begun 48 = .ok (.iastore, 1) := by decide +kernel
theorem dX7_begun_49 : decode cX7_begun 49 = .ok (.iinc 2 1, 3) := by decide +kernel
theorem dX7_begun_52 : decode cX7_begun 52 = .ok (.goto (-45), 3) := by decide +kernel
theorem dX7_begun_55 : decode cX7_begun 55 = .ok (.aload_n 0, 1) := by decide +kernel
theorem dX7_begun_56 : decode cX7_begun 56 = .ok (.getfield 37, 3) := by decide +kernel
theorem dX7_begun_59 : decode cX7_begun 59 = .ok (.iload_n 1, 1) := by decide +kernel
theorem dX7_begun_60 : decode cX7_begun 60 = .ok (.iconst 0, 1) := by decide +kernel
theorem dX7_begun_61 : decode cX7_begun 61 = .ok (.iastore, 1) := by decide +kernel
theorem dX7_begun_62 : decode cX7_begun 62 = .ok (.iconst 0, 1) := by decide +kernel
theorem dX7_begun_63 : decode cX7_begun 63 = .ok (.istore_n 2, 1) := by decide +kernel
theorem dX7_begun_64 : decode cX7_begun 64 = .ok (.iload_n 2, 1) := by decide +kernel
theorem dX7_begun_65 : decode cX7_begun 65 = .ok (.bipush 52, 2) := by decide +kernel
theorem dX7_begun_67 : decode cX7_begun 67 = .ok (.if_icmp .ge 26, 3) := by decide +kernel
theorem dX7_begun_70 : decode cX7_begun 70 = .ok (.aload_n 0, 1) := by decide +kernel
theorem dX7_begun_71 : decode cX7_begun 71 = .ok (.getfield 50, 3) := by decide +kernel
theorem dX7_begun_74 : decode cX7_begun 74 = .ok (.bipush 52, 2) := by decide +kernel
theorem dX7_begun_76 : decode cX7_begun 76 = .ok (.iload_n 1, 1) := by decide +kernel
theorem dX7_begun_77 : decode cX7_begun 77 = .ok (.imul, 1) := by decide +kernel
theorem dX7_begun_78 : decode cX7_begun 78 = .ok (.iload_n 2, 1) := by decide +kernel
theorem dX7_begun_79 : decode cX7_begun 79 = .ok (.iadd, 1) := by decide +kernel
theorem dX7_begun_80 : decode cX7_begun 80 = .ok (.aload_n 0, 1) := by decide +kernel
theorem dX7_begun_81 : decode cX7_begun 81 = .ok (.getfield 16, 3) := by decide +kernel
theorem dX7_begun_84 : decode cX7_begun 84 = .ok (.iload_n 2, 1) := by decide +kernel
theorem dX7_begun_85 : decode cX7_begun 85 = .ok (.iaload, 1) := by decide +kernel
theorem dX7_begun_86 : decode cX7_begun 86 = .ok (.iastore, 1) := by decide +kernel
theorem dX7_begun_87 : decode cX7_begun 87 = .ok (.iinc 2 1, 3) := by decide +kernel
theorem dX7_begun_90 : decode cX7_begun 90 = .ok (.goto (-26), 3) := by decide +kernel
theorem dX7_begun_93 : decode cX7_begun 93 = .ok (.aload_n 0, 1) := by decide +kernel
theorem dX7_begun_94 : decode cX7_begun 94 = .ok (.getfield 44, 3) := by decide +kernel
theorem dX7_begun_97 : decode cX7_begun 97 = .ok (.iload_n 1, 1) := by decide +kernel
theorem dX7_begun_98 : decode cX7_begun 98 = .ok (.aload_n 0, 1) := by decide +kernel
theorem dX7_begun_99 : decode cX7_begun 99 = .ok (.iload_n 1, 1) := by decide +kernel
theorem dX7_begun_100 : decode cX7_begun 100 = .ok (.iconst 0, 1) := by decide +kernel
theorem dX7_begun_101 : decode cX7_begun 101 = .ok (.iconst 1, 1) := by decide +kernel
theorem dX7_begun_102 : decode cX7_begun 102 = .ok (.invokevirtual 340, 3) := by decide +kernel
theorem dX7_begun_105 : decode cX7_begun 105 = .ok (.iastore, 1) := by decide +kernel
theorem dX7_begun_106 : decode cX7_begun 106 = .ok (.aload_n 0, 1) := by decide +kernel
theorem dX7_begun_107 : decode cX7_begun 107 = .ok (.getfield 47, 3) := by decide +kernel
theorem dX7_begun_110 : decode cX7_begun 110 = .ok (.iload_n 1, 1) := by decide +kernel
theorem dX7_begun_111 : decode cX7_begun 111 = .ok (.iconst 1, 1) := by decide +kernel
theorem dX7_begun_112 : decode cX7_begun 112 = .ok (.iastore, 1) := by decide +kernel
theorem dX7_begun_113 : decode cX7_begun 113 = .ok (.aload_n 0, 1) := by decide +kernel
theorem dX7_begun_114 : decode cX7_begun 114 = .ok (.iload_n 1, 1) := by decide +kernel
theorem dX7_begun_115 : decode cX7_begun 115 = .ok (.ifCond .ne 10, 3) := by decide +kernel
theorem dX7_begun_118 : decode cX7_begun 118 = .ok (.aload_n 0, 1) := by decide +kernel
theorem dX7_begun_119 : decode cX7_begun 119 = .ok (.getfield 282, 3) := by decide +kernel
theorem dX7_begun_122 : decode cX7_begun 122 = .ok (.goto 7, 3) := by decide +kernel
theorem dX7_begun_125 : decode cX7_begun 125 = .ok (.aload_n 0, 1) := by decide +kernel
theorem dX7_begun_126 : decode cX7_begun 126 = .ok (.getfield 285, 3) := by decide +kernel
theorem dX7_begun_129 : decode cX7_begun 129 = .ok (.putfield 285, 3) := by decide +kernel
theorem dX7_begun_132 : decode cX7_begun 132 = .ok (.aload_n 0, 1) := by decide +kernel
theorem dX7_begun_133 : decode cX7_begun 133 = .ok (.dup, 1) := by decide +kernel
theorem dX7_begun_134 : decode cX7_begun 134 = .ok (.getfield 257, 3) := by decide +kernel
theorem dX7_begun_137 : decode cX7_begun 137 = .ok (.iconst 1, 1) := by decide +kernel
theorem dX7_begun_138 : decode cX7_begun 138 = .ok (.iadd, 1) := by decide +kernel
theorem dX7_begun_139 : decode cX7_begun 139 = .ok (.putfield 257, 3) := by decide +kernel
theorem dX7_begun_142 : decode cX7_begun 142 = .ok (.aload_n 0, 1) := by decide +kernel
theorem dX7_begun_143 : decode cX7_begun 143 = .ok (.invokevirtual 343, 3) := by decide +kernel
theorem dX7_begun_146 : decode cX7_begun 146 = .ok (.return_, 1) := by decide +kernel
theorem dX7_begins_0 : decode cX7_begins 0 = .ok (.aload_n 0, 1) := by decide +kernel
theorem dX7_begins_1 : decode cX7_begins 1 = .ok (.bipush 8, 2) := by decide +kernel
theorem dX7_begins_3 : decode cX7_begins 3 = .ok (.invokevirtual 334, 3) := by decide +kernel
theorem dX7_begins_6 : decode cX7_begins 6 = .ok (.aload_n 0, 1) := by decide +kernel
theorem dX7_begins_7 : decode cX7_begins 7 = .ok (.aload_n 0, 1) := by decide +kernel
theorem dX7_begins_8 : decode cX7_begins 8 = .ok (.getfield 257, 3) := by decide +kernel
theorem dX7_begins_11 : decode cX7_begins 11 = .ok (.invokevirtual 346, 3) := by decide +kernel
theorem dX7_begins_14 : decode cX7_begins 14 = .ok (.ifCond .ne 11, 3) := by decide +kernel
theorem dX7_begins_17 : decode cX7_begins 17 = .ok (.bipush (-10), 2) := by decide +kernel
theorem dX7_begins_19 : decode cX7_begins 19 = .ok (.aload_n 0, 1) := by decide +kernel
theorem dX7_begins_20 : decode cX7_begins 20 = .ok (.getfield 123, 3) := by decide +kernel
theorem dX7_begins_23 : decode cX7_begins 23 = .ok (.isub, 1) := by decide +kernel
theorem dX7_begins_24 : decode cX7_begins 24 = .ok (.ireturn, 1) := by decide +kernel
theorem dX7_begins_25 : decode cX7_begins 25 = .ok (.aload_n 0, 1) := by decide +kernel
theorem dX7_begins_26 : decode cX7_begins 26 = .ok (.getfield 257, 3) := by decide +kernel
theorem dX7_begins_29 : decode cX7_begins 29 = .ok (.iconst 3, 1) := by decide +kernel
theorem dX7_begins_30 : decode cX7_begins 30 = .ok (.if_icmp .ne 8, 3) := by decide +kernel
theorem dX7_begins_33 : decode cX7_begins 33 = .ok (.aload_n 0, 1) := by decide +kernel
theorem dX7_begins_34 : decode cX7_begins 34 = .ok (.invokevirtual 300, 3) := by decide +kernel
theorem dX7_begins_37 : decode cX7_begins 37 = .ok (.ireturn, 1) := by decide +kernel
theorem dX7_begins_38 : decode cX7_begins 38 = .ok (.aload_n 0, 1) := by decide +kernel
theorem dX7_begins_39 : decode cX7_begins 39 = .ok (.getfield 257, 3) := by decide +kernel
theorem dX7_begins_42 : decode cX7_begins 42 = .ok (.istore_n 1, 1) := by decide +kernel
theorem dX7_begins_43 : decode cX7_begins 43 = .ok (.aload_n 0, 1) := by decide +kernel
theorem dX7_begins_44 : decode cX7_begins 44 = .ok (.iload_n 1, 1) := by decide +kernel
theorem dX7_begins_45 : decode cX7_begins 45 = .ok (.invokevirtual 349, 3) := by decide +kernel
theorem dX7_begins_48 : decode cX7_begins 48 = .ok (.aload_n 0, 1) := by decide +kernel
theorem dX7_begins_49 : decode cX7_begins 49 = .ok (.invokevirtual 309, 3) := by decide +kernel
theorem dX7_begins_52 : decode cX7_begins 52 = .ok (.ifCond .eq 14, 3) := by decide +kernel
theorem dX7_begins_55 : decode cX7_begins 55 = .ok (.aload_n 0, 1) := by decide +kernel
theorem dX7_begins_56 : decode cX7_begins 56 = .ok (.bipush 8, 2) := by decide +kernel
theorem dX7_begins_58 : decode cX7_begins 58 = .ok (.invokevirtual 303, 3) := by decide +kernel
theorem dX7_begins_61 : decode cX7_begins 61 = .ok (.aload_n 0, 1) := by decide +kernel
theorem dX7_begins_62 : decode cX7_begins 62 = .ok (.invokevirtual 313, 3) := by decide +kernel
theorem dX7_begins_65 : decode cX7_begins 65 = .ok (.ireturn, 1) := by decide +kernel
theorem dX7_begins_66 : decode cX7_begins 66 = .ok (.aload_n 0, 1) := by decide +kernel
theorem dX7_begins_67 : decode cX7_begins 67 = .ok (.getfield 44, 3) := by decide +kernel
theorem dX7_begins_70 : decode cX7_begins 70 = .ok (.iload_n 1, 1) := by decide +kernel
theorem dX7_begins_71 : decode cX7_begins 71 = .ok (.iaload, 1) := by decide +kernel
theorem dX7_begins_72 : decode cX7_begins 72 = .ok (.istore_n 2, 1) := by decide +kernel
theorem dX7_begins_73 : decode cX7_begins 73 = .ok (.iload_n 2, 1) := by decide +kernel
theorem dX7_begins_74 : decode cX7_begins 74 = .ok (.iconst (-1), 1) := by decide +kernel
theorem dX7_begins_75 : decode cX7_begins 75 = .ok (.if_icmp .ne 10, 3) := by decide +kernel
theorem dX7_begins_78 : decode cX7_begins 78 = .ok (.aload_n 0, 1) := by decide +kernel
theorem dX7_begins_79 : decode cX7_begins 79 = .ok (.invokevirtual 352, 3) := by decide +kernel
theorem dX7_begins_82 : decode cX7_begins 82 = .ok (.bipush (-5), 2) := by decide +kernel
theorem dX7_begins_84 : decode cX7_begins 84 = .ok (.istore_n 2, 1) := by decide +kernel
theorem dX7_begins_85 : decode cX7_begins 85 = .ok (.aload_n 0, 1) := by decide +kernel
theorem dX7_begins_86 : decode cX7_begins 86 = .ok (.invokevirtual 316, 3) := by decide +kernel
theorem dX7_begins_89 : decode cX7_begins 89 = .ok (.iload_n 2, 1) := by decide +kernel
theorem dX7_begins_90 : decode cX7_begins 90 = .ok (.ireturn, 1) := by decide +kernel
theorem dX7_key_0 : decode cX7_key 0 = .ok (.iload_n 1, 1) := by decide +kernel
theorem dX7_key_1 : decode cX7_key 1 = .ok (.bipush 32, 2) := by decide +kernel
theorem dX7_key_3 : decode cX7_key 3 = .ok (.bipush 126, 2) := by decide +kernel
theorem dX7_key_5 : decode cX7_key 5 = .ok (.invokestatic 138, 3) := by decide +kernel
theorem dX7_key_8 : decode cX7_key 8 = .ok (.ifCond .ne 8, 3) := by decide +kernel
theorem dX7_key_11 : decode cX7_key 11 = .ok (.aload_n 0, 1) := by decide +kernel
theorem dX7_key_12 : decode cX7_key 12 = .ok (.invokevirtual 331, 3) := by decide +kernel
theorem dX7_key_15 : decode cX7_key 15 = .ok (.ireturn, 1) := by decide +kernel
theorem dX7_key_16 : decode cX7_key 16 = .ok (.aload_n 0, 1) := by decide +kernel
theorem dX7_key_17 : decode cX7_key 17 = .ok (.getfield 257, 3) := by decide +kernel
theorem dX7_key_20 : decode cX7_key 20 = .ok (.ifCond .ne 18, 3) := by decide +kernel
theorem dX7_key_23 : decode cX7_key 23 = .ok (.aload_n 0, 1) := by decide +kernel
theorem dX7_key_24 : decode cX7_key 24 = .ok (.getfield 279, 3) := by decide +kernel
theorem dX7_key_27 : decode cX7_key 27 = .ok (.sipush 240, 3) := by decide +kernel
theorem dX7_key_30 : decode cX7_key 30 = .ok (.if_icmp .ne 8, 3) := by decide +kernel
theorem dX7_key_33 : decode cX7_key 33 = .ok (.aload_n 0, 1) := by decide +kernel
theorem dX7_key_34 : decode cX7_key 34 = .ok (.invokevirtual 313, 3) := by decide +kernel
theorem dX7_key_37 : decode cX7_key 37 = .ok (.ireturn, 1) := by decide +kernel
theorem dX7_key_38 : decode cX7_key 38 = .ok (.aload_n 0, 1) := by decide +kernel
theorem dX7_key_39 : decode cX7_key 39 = .ok (.bipush 8, 2) := by decide +kernel
theorem dX7_key_41 : decode cX7_key 41 = .ok (.invokevirtual 334, 3) := by decide +kernel
theorem dX7_key_44 : decode cX7_key 44 = .ok (.aload_n 0, 1) := by decide +kernel
theorem dX7_key_45 : decode cX7_key 45 = .ok (.getfield 257, 3) := by decide +kernel
theorem dX7_key_48 : decode cX7_key 48 = .ok (.ifCond .le 9, 3) := by decide +kernel
theorem dX7_key_51 : decode cX7_key 51 = .ok (.aload_n 0, 1) := by decide +kernel
theorem dX7_key_52 : decode cX7_key 52 = .ok (.iload_n 1, 1) := by decide +kernel
theorem dX7_key_53 : decode cX7_key 53 = .ok (.invokevirtual 358, 3) := by decide +kernel
theorem dX7_key_56 : decode cX7_key 56 = .ok (.ireturn, 1) := by decide +kernel
theorem dX7_key_57 : decode cX7_key 57 = .ok (.aload_n 0, 1) := by decide +kernel
theorem dX7_key_58 : decode cX7_key 58 = .ok (.aload_n 0, 1) := by decide +kernel
theorem dX7_key_59 : decode cX7_key 59 = .ok (.getfield 282, 3) := by decide +kernel
theorem dX7_key_62 : decode cX7_key 62 = .ok (.iload_n 1, 1) := by decide +kernel
theorem dX7_key_63 : decode cX7_key 63 = .ok (.invokevirtual 325, 3) := by decide +kernel
theorem dX7_key_66 : decode cX7_key 66 = .ok (.aload_n 0, 1) := by decide +kernel
theorem dX7_key_67 : decode cX7_key 67 = .ok (.dup, 1) := by decide +kernel
theorem dX7_key_68 : decode cX7_key 68 = .ok (.getfield 282, 3) := by decide +kernel
theorem dX7_key_71 : decode cX7_key 71 = .ok (.iconst 1, 1) := by decide +kernel
theorem dX7_key_72 : decode cX7_key 72 = .ok (.iadd, 1) := by decide +kernel
theorem dX7_key_73 : decode cX7_key 73 = .ok (.putfield 282, 3) := by decide +kernel
theorem dX7_key_76 : decode cX7_key 76 = .ok (.aload_n 0, 1) := by decide +kernel
theorem dX7_key_77 : decode cX7_key 77 = .ok (.invokevirtual 316, 3) := by decide +kernel
theorem dX7_key_80 : decode cX7_key 80 = .ok (.aload_n 0, 1) := by decide +kernel
theorem dX7_key_81 : decode cX7_key 81 = .ok (.getfield 279, 3) := by decide +kernel
theorem dX7_key_84 : decode cX7_key 84 = .ok (.ireturn, 1) := by decide +kernel
theorem dX7_rubs_0 : decode cX7_rubs 0 = .ok (.aload_n 0, 1) := by decide +kernel
theorem dX7_rubs_1 : decode cX7_rubs 1 = .ok (.getfield 257, 3) := by decide +kernel
theorem dX7_rubs_4 : decode cX7_rubs 4 = .ok (.ifCond .le 8, 3) := by decide +kernel
theorem dX7_rubs_7 : decode cX7_rubs 7 = .ok (.aload_n 0, 1) := by decide +kernel
theorem dX7_rubs_8 : decode cX7_rubs 8 = .ok (.invokevirtual 361, 3) := by decide +kernel
theorem dX7_rubs_11 : decode cX7_rubs 11 = .ok (.ireturn, 1) := by decide +kernel
theorem dX7_rubs_12 : decode cX7_rubs 12 = .ok (.aload_n 0, 1) := by decide +kernel
theorem dX7_rubs_13 : decode cX7_rubs 13 = .ok (.getfield 282, 3) := by decide +kernel
theorem dX7_rubs_16 : decode cX7_rubs 16 = .ok (.ifCond .ne 8, 3) := by decide +kernel
theorem dX7_rubs_19 : decode cX7_rubs 19 = .ok (.aload_n 0, 1) := by decide +kernel
theorem dX7_rubs_20 : decode cX7_rubs 20 = .ok (.invokevirtual 300, 3) := by decide +kernel
theorem dX7_rubs_23 : decode cX7_rubs 23 = .ok (.ireturn, 1) := by decide +kernel
theorem dX7_rubs_24 : decode cX7_rubs 24 = .ok (.aload_n 0, 1) := by decide +kernel
theorem dX7_rubs_25 : decode cX7_rubs 25 = .ok (.bipush 8, 2) := by decide +kernel
theorem dX7_rubs_27 : decode cX7_rubs 27 = .ok (.invokevirtual 334, 3) := by decide +kernel
theorem dX7_rubs_30 : decode cX7_rubs 30 = .ok (.aload_n 0, 1) := by decide +kernel
theorem dX7_rubs_31 : decode cX7_rubs 31 = .ok (.aload_n 0, 1) := by decide +kernel
theorem dX7_rubs_32 : decode cX7_rubs 32 = .ok (.getfield 282, 3) := by decide +kernel
theorem dX7_rubs_35 : decode cX7_rubs 35 = .ok (.iconst 1, 1) := by decide +kernel
theorem dX7_rubs_36 : decode cX7_rubs 36 = .ok (.isub, 1) := by decide +kernel
theorem dX7_rubs_37 : decode cX7_rubs 37 = .ok (.iconst 1, 1) := by decide +kernel
theorem dX7_rubs_38 : decode cX7_rubs 38 = .ok (.invokevirtual 364, 3) := by decide +kernel
theorem dX7_rubs_41 : decode cX7_rubs 41 = .ok (.aload_n 0, 1) := by decide +kernel
theorem dX7_rubs_42 : decode cX7_rubs 42 = .ok (.dup, 1) := by decide +kernel
theorem dX7_rubs_43 : decode cX7_rubs 43 = .ok (.getfield 282, 3) := by decide +kernel
theorem dX7_rubs_46 : decode cX7_rubs 46 = .ok (.iconst 1, 1) := by decide +kernel
theorem dX7_rubs_47 : decode cX7_rubs 47 = .ok (.isub, 1) := by decide +kernel
theorem dX7_rubs_48 : decode cX7_rubs 48 = .ok (.putfield 282, 3) := by decide +kernel
theorem dX7_rubs_51 : decode cX7_rubs 51 = .ok (.aload_n 0, 1) := by decide +kernel
theorem dX7_rubs_52 : decode cX7_rubs 52 = .ok (.invokevirtual 316, 3) := by decide +kernel
theorem dX7_rubs_55 : decode cX7_rubs 55 = .ok (.aload_n 0, 1) := by decide +kernel
theorem dX7_rubs_56 : decode cX7_rubs 56 = .ok (.getfield 279, 3) := by decide +kernel
theorem dX7_rubs_59 : decode cX7_rubs 59 = .ok (.ireturn, 1) := by decide +kernel
theorem dX7_nexts_0 : decode cX7_nexts 0 = .ok (.aload_n 0, 1) := by decide +kernel
theorem dX7_nexts_1 : decode cX7_nexts 1 = .ok (.getfield 257, 3) := by decide +kernel
theorem dX7_nexts_4 : decode cX7_nexts 4 = .ok (.ifCond .ne 8, 3) := by decide +kernel
theorem dX7_nexts_7 : decode cX7_nexts 7 = .ok (.aload_n 0, 1) := by decide +kernel
theorem dX7_nexts_8 : decode cX7_nexts 8 = .ok (.invokevirtual 300, 3) := by decide +kernel
theorem dX7_nexts_11 : decode cX7_nexts 11 = .ok (.ireturn, 1) := by decide +kernel
theorem dX7_nexts_12 : decode cX7_nexts 12 = .ok (.aload_n 0, 1) := by decide +kernel
theorem dX7_nexts_13 : decode cX7_nexts 13 = .ok (.bipush 8, 2) := by decide +kernel
theorem dX7_nexts_15 : decode cX7_nexts 15 = .ok (.invokevirtual 334, 3) := by decide +kernel
theorem dX7_nexts_18 : decode cX7_nexts 18 = .ok (.aload_n 0, 1) := by decide +kernel
theorem dX7_nexts_19 : decode cX7_nexts 19 = .ok (.aload_n 0, 1) := by decide +kernel
theorem dX7_nexts_20 : decode cX7_nexts 20 = .ok (.getfield 257, 3) := by decide +kernel
theorem dX7_nexts_23 : decode cX7_nexts 23 = .ok (.iconst 1, 1) := by decide +kernel
theorem dX7_nexts_24 : decode cX7_nexts 24 = .ok (.isub, 1) := by decide +kernel
theorem dX7_nexts_25 : decode cX7_nexts 25 = .ok (.aload_n 0, 1) := by decide +kernel
theorem dX7_nexts_26 : decode cX7_nexts 26 = .ok (.getfield 44, 3) := by decide +kernel
theorem dX7_nexts_29 : decode cX7_nexts 29 = .ok (.aload_n 0, 1) := by decide +kernel
theorem dX7_nexts_30 : decode cX7_nexts 30 = .ok (.getfield 257, 3) := by decide +kernel
theorem dX7_nexts_33 : decode cX7_nexts 33 = .ok (.iconst 1, 1) := by decide +kernel
theorem dX7_nexts_34 : decode cX7_nexts 34 = .ok (.isub, 1) := by decide +kernel
theorem dX7_nexts_35 : decode cX7_nexts 35 = .ok (.iaload, 1) := by decide +kernel
theorem dX7_nexts_36 : decode cX7_nexts 36 = .ok (.iconst 1, 1) := by decide +kernel
theorem dX7_nexts_37 : decode cX7_nexts 37 = .ok (.invokevirtual 340, 3) := by decide +kernel
theorem dX7_nexts_40 : decode cX7_nexts 40 = .ok (.istore_n 1, 1) := by decide +kernel
theorem dX7_nexts_41 : decode cX7_nexts 41 = .ok (.iload_n 1, 1) := by decide +kernel
theorem dX7_nexts_42 : decode cX7_nexts 42 = .ok (.iconst (-1), 1) := by decide +kernel
theorem dX7_nexts_43 : decode cX7_nexts 43 = .ok (.if_icmp .ne 10, 3) := by decide +kernel
theorem dX7_nexts_46 : decode cX7_nexts 46 = .ok (.aload_n 0, 1) := by decide +kernel
theorem dX7_nexts_47 : decode cX7_nexts 47 = .ok (.invokevirtual 352, 3) := by decide +kernel
theorem dX7_nexts_50 : decode cX7_nexts 50 = .ok (.goto 8, 3) := by decide +kernel
theorem dX7_nexts_53 : decode cX7_nexts 53 = .ok (.aload_n 0, 1) := by decide +kernel
theorem dX7_nexts_54 : decode cX7_nexts 54 = .ok (.iload_n 1, 1) := by decide +kernel
theorem dX7_nexts_55 : decode cX7_nexts 55 = .ok (.invokevirtual 367, 3) := by decide +kernel
theorem dX7_nexts_58 : decode cX7_nexts 58 = .ok (.aload_n 0, 1) := by decide +kernel
theorem dX7_nexts_59 : decode cX7_nexts 59 = .ok (.invokevirtual 316, 3) := by decide +kernel
theorem dX7_nexts_62 : decode cX7_nexts 62 = .ok (.iload_n 1, 1) := by decide +kernel
theorem dX7_nexts_63 : decode cX7_nexts 63 = .ok (.iconst (-1), 1) := by decide +kernel
theorem dX7_nexts_64 : decode cX7_nexts 64 = .ok (.if_icmp .ne 8, 3) := by decide +kernel
theorem dX7_nexts_67 : decode cX7_nexts 67 = .ok (.bipush (-5), 2) := by decide +kernel
theorem dX7_nexts_69 : decode cX7_nexts 69 = .ok (.goto 4, 3) := by decide +kernel
theorem dX7_nexts_72 : decode cX7_nexts 72 = .ok (.iload_n 1, 1) := by decide +kernel
theorem dX7_nexts_73 : decode cX7_nexts 73 = .ok (.ireturn, 1) := by decide +kernel
theorem dX7_prevs_0 : decode cX7_prevs 0 = .ok (.aload_n 0, 1) := by decide +kernel
theorem dX7_prevs_1 : decode cX7_prevs 1 = .ok (.getfield 257, 3) := by decide +kernel
theorem dX7_prevs_4 : decode cX7_prevs 4 = .ok (.ifCond .ne 7, 3) := by decide +kernel
theorem dX7_prevs_7 : decode cX7_prevs 7 = .ok (.iconst (-1), 1) := by decide +kernel
theorem dX7_prevs_8 : decode cX7_prevs 8 = .ok (.goto 25, 3) := by decide +kernel
theorem dX7_prevs_11 : decode cX7_prevs 11 = .ok (.aload_n 0, 1) := by decide +kernel
theorem dX7_prevs_12 : decode cX7_prevs 12 = .ok (.aload_n 0, 1) := by decide +kernel
theorem dX7_prevs_13 : decode cX7_prevs 13 = .ok (.getfield 257, 3) := by decide +kernel
theorem dX7_prevs_16 : decode cX7_prevs 16 = .ok (.iconst 1, 1) := by decide +kernel
theorem dX7_prevs_17 : decode cX7_prevs 17 = .ok (.isub, 1) := by decide +kernel
theorem dX7_prevs_18 : decode cX7_prevs 18 = .ok (.aload_n 0, 1) := by decide +kernel
theorem dX7_prevs_19 : decode cX7_prevs 19 = .ok (.getfield 44, 3) := by decide +kernel
theorem dX7_prevs_22 : decode cX7_prevs 22 = .ok (.aload_n 0, 1) := by decide +kernel
theorem dX7_prevs_23 : decode cX7_prevs 23 = .ok (.getfield 257, 3) := by decide +kernel
theorem dX7_prevs_26 : decode cX7_prevs 26 = .ok (.iconst 1, 1) := by decide +kernel
theorem dX7_prevs_27 : decode cX7_prevs 27 = .ok (.isub, 1) := by decide +kernel
theorem dX7_prevs_28 : decode cX7_prevs 28 = .ok (.iaload, 1) := by decide +kernel
theorem dX7_prevs_29 : decode cX7_prevs 29 = .ok (.iconst (-1), 1) := by decide +kernel
theorem dX7_prevs_30 : decode cX7_prevs 30 = .ok (.invokevirtual 340, 3) := by decide +kernel
theorem dX7_prevs_33 : decode cX7_prevs 33 = .ok (.istore_n 1, 1) := by decide +kernel
theorem dX7_prevs_34 : decode cX7_prevs 34 = .ok (.iload_n 1, 1) := by decide +kernel
theorem dX7_prevs_35 : decode cX7_prevs 35 = .ok (.iconst (-1), 1) := by decide +kernel
theorem dX7_prevs_36 : decode cX7_prevs 36 = .ok (.if_icmp .ne 8, 3) := by decide +kernel
theorem dX7_prevs_39 : decode cX7_prevs 39 = .ok (.aload_n 0, 1) := by decide +kernel
theorem dX7_prevs_40 : decode cX7_prevs 40 = .ok (.invokevirtual 300, 3) := by decide +kernel
theorem dX7_prevs_43 : decode cX7_prevs 43 = .ok (.ireturn, 1) := by decide +kernel
theorem dX7_prevs_44 : decode cX7_prevs 44 = .ok (.aload_n 0, 1) := by decide +kernel
theorem dX7_prevs_45 : decode cX7_prevs 45 = .ok (.bipush 8, 2) := by decide +kernel
theorem dX7_prevs_47 : decode cX7_prevs 47 = .ok (.invokevirtual 334, 3) := by decide +kernel
theorem dX7_prevs_50 : decode cX7_prevs 50 = .ok (.aload_n 0, 1) := by decide +kernel
theorem dX7_prevs_51 : decode cX7_prevs 51 = .ok (.iload_n 1, 1) := by decide +kernel
theorem dX7_prevs_52 : decode cX7_prevs 52 = .ok (.invokevirtual 367, 3) := by decide +kernel
theorem dX7_prevs_55 : decode cX7_prevs 55 = .ok (.aload_n 0, 1) := by decide +kernel
theorem dX7_prevs_56 : decode cX7_prevs 56 = .ok (.invokevirtual 316, 3) := by decide +kernel
theorem dX7_prevs_59 : decode cX7_prevs 59 = .ok (.iload_n 1, 1) := by decide +kernel
theorem dX7_prevs_60 : decode cX7_prevs 60 = .ok (.ireturn, 1) := by decide +kernel
theorem dX7_picks_0 : decode cX7_picks 0 = .ok (.iload_n 1, 1) := by decide +kernel
theorem dX7_picks_1 : decode cX7_picks 1 = .ok (.ifCond .ge 8, 3) := by decide +kernel
theorem dX7_picks_4 : decode cX7_picks 4 = .ok (.aload_n 0, 1) := by decide +kernel
theorem dX7_picks_5 : decode cX7_picks 5 = .ok (.invokevirtual 331, 3) := by decide +kernel
theorem dX7_picks_8 : decode cX7_picks 8 = .ok (.ireturn, 1) := by decide +kernel
theorem dX7_picks_9 : decode cX7_picks 9 = .ok (.aload_n 0, 1) := by decide +kernel
theorem dX7_picks_10 : decode cX7_picks 10 = .ok (.getfield 257, 3) := by decide +kernel
theorem dX7_picks_13 : decode cX7_picks 13 = .ok (.iconst 1, 1) := by decide +kernel
theorem dX7_picks_14 : decode cX7_picks 14 = .ok (.isub, 1) := by decide +kernel
theorem dX7_picks_15 : decode cX7_picks 15 = .ok (.istore_n 2, 1) := by decide +kernel
theorem dX7_picks_16 : decode cX7_picks 16 = .ok (.aload_n 0, 1) := by decide +kernel
theorem dX7_picks_17 : decode cX7_picks 17 = .ok (.getfield 257, 3) := by decide +kernel
theorem dX7_picks_20 : decode cX7_picks 20 = .ok (.ifCond .eq 18, 3) := by decide +kernel
theorem dX7_picks_23 : decode cX7_picks 23 = .ok (.iload_n 1, 1) := by decide +kernel
theorem dX7_picks_24 : decode cX7_picks 24 = .ok (.aload_n 0, 1) := by decide +kernel
theorem dX7_picks_25 : decode cX7_picks 25 = .ok (.iload_n 2, 1) := by decide +kernel
theorem dX7_picks_26 : decode cX7_picks 26 = .ok (.aload_n 0, 1) := by decide +kernel
theorem dX7_picks_27 : decode cX7_picks 27 = .ok (.getfield 44, 3) := by decide +kernel
theorem dX7_picks_30 : decode cX7_picks 30 = .ok (.iload_n 2, 1) := by decide +kernel
theorem dX7_picks_31 : decode cX7_picks 31 = .ok (.iaload, 1) := by decide +kernel
theorem dX7_picks_32 : decode cX7_picks 32 = .ok (.invokevirtual 370, 3) := by decide +kernel
theorem dX7_picks_35 : decode cX7_picks 35 = .ok (.if_icmp .lt 8, 3) := by decide +kernel
theorem dX7_picks_38 : decode cX7_picks 38 = .ok (.aload_n 0, 1) := by decide +kernel
theorem dX7_picks_39 : decode cX7_picks 39 = .ok (.invokevirtual 300, 3) := by decide +kernel
theorem dX7_picks_42 : decode cX7_picks 42 = .ok (.ireturn, 1) := by decide +kernel
theorem dX7_picks_43 : decode cX7_picks 43 = .ok (.aload_n 0, 1) := by decide +kernel
theorem dX7_picks_44 : decode cX7_picks 44 = .ok (.bipush 8, 2) := by decide +kernel
theorem dX7_picks_46 : decode cX7_picks 46 = .ok (.invokevirtual 334, 3) := by decide +kernel
theorem dX7_picks_49 : decode cX7_picks 49 = .ok (.aload_n 0, 1) := by decide +kernel
theorem dX7_picks_50 : decode cX7_picks 50 = .ok (.iload_n 2, 1) := by decide +kernel
theorem dX7_picks_51 : decode cX7_picks 51 = .ok (.aload_n 0, 1) := by decide +kernel
theorem dX7_picks_52 : decode cX7_picks 52 = .ok (.getfield 44, 3) := by decide +kernel
theorem dX7_picks_55 : decode cX7_picks 55 = .ok (.iload_n 2, 1) := by decide +kernel
theorem dX7_picks_56 : decode cX7_picks 56 = .ok (.iaload, 1) := by decide +kernel
theorem dX7_picks_57 : decode cX7_picks 57 = .ok (.iload_n 1, 1) := by decide +kernel
theorem dX7_picks_58 : decode cX7_picks 58 = .ok (.invokevirtual 373, 3) := by decide +kernel
theorem dX7_picks_61 : decode cX7_picks 61 = .ok (.istore_n 3, 1) := by decide +kernel
theorem dX7_picks_62 : decode cX7_picks 62 = .ok (.iconst 0, 1) := by decide +kernel
theorem dX7_picks_63 : decode cX7_picks 63 = .ok (.istore 4, 2) := by decide +kernel
theorem dX7_picks_65 : decode cX7_picks 65 = .ok (.iload 4, 2) := by decide +kernel
theorem dX7_picks_67 : decode cX7_picks 67 = .ok (.aload_n 0, 1) := by decide +kernel
theorem dX7_picks_68 : decode cX7_picks 68 = .ok (.getfield 59, 3) := by decide +kernel
theorem dX7_picks_71 : decode cX7_picks 71 = .ok (.iload_n 3, 1) := by decide +kernel
theorem dX7_picks_72 : decode cX7_picks 72 = .ok (.iaload, 1) := by decide +kernel
theorem dX7_picks_73 : decode cX7_picks 73 = .ok (.if_icmp .ge 35, 3) := by decide +kernel
theorem dX7_picks_76 : decode cX7_picks 76 = .ok (.aload_n 0, 1) := by decide +kernel
theorem dX7_picks_77 : decode cX7_picks 77 = .ok (.getfield 98, 3) := by decide +kernel
theorem dX7_picks_80 : decode cX7_picks 80 = .ok (.iload 4, 2) := by decide +kernel
theorem dX7_picks_82 : decode cX7_picks 82 = .ok (.aload_n 0, 1) := by decide +kernel
theorem dX7_picks_83 : decode cX7_picks 83 = .ok (.getfield 62, 3) := by decide +kernel
theorem dX7_picks_86 : decode cX7_picks 86 = .ok (.bipush 120, 2) := by decide +kernel
theorem dX7_picks_88 : decode cX7_picks 88 = .ok (.iload_n 2, 1) := by decide +kernel
theorem dX7_picks_89 : decode cX7_picks 89 = .ok (.imul, 1) := by decide +kernel
theorem dX7_picks_90 : decode cX7_picks 90 = .ok (.aload_n 0, 1) := by decide +kernel
theorem dX7_picks_91 : decode cX7_picks 91 = .ok (.getfield 56, 3) := by decide +kernel
theorem dX7_picks_94 : decode cX7_picks 94 = .ok (.iload_n 3, 1) := by decide +kernel
theorem dX7_picks_95 : decode cX7_picks 95 = .ok (.iaload, 1) := by decide +kernel
theorem dX7_picks_96 : decode cX7_picks 96 = .ok (.iadd, 1) := by decide +kernel
theorem dX7_picks_97 : decode cX7_picks 97 = .ok (.iload 4, 2) := by decide +kernel
theorem dX7_picks_99 : decode cX7_picks 99 = .ok (.iadd, 1) := by decide +kernel
theorem dX7_picks_100 : decode cX7_picks 100 = .ok (.iaload, 1) := by decide +kernel
theorem dX7_picks_101 : decode cX7_picks 101 = .ok (.iastore, 1) := by decide +kernel
theorem dX7_picks_102 : decode cX7_picks 102 = .ok (.iinc 4 1, 3) := by decide +kernel
theorem dX7_picks_105 : decode cX7_picks 105 = .ok (.goto (-40), 3) := by decide +kernel
theorem dX7_picks_108 : decode cX7_picks 108 = .ok (.aload_n 0, 1) := by decide +kernel
theorem dX7_picks_109 : decode cX7_picks 109 = .ok (.iload_n 2, 1) := by decide +kernel
theorem dX7_picks_110 : decode cX7_picks 110 = .ok (.aload_n 0, 1) := by decide +kernel
theorem dX7_picks_111 : decode cX7_picks 111 = .ok (.getfield 44, 3) := by decide +kernel
theorem dX7_picks_114 : decode cX7_picks 114 = .ok (.iload_n 2, 1) := by decide +kernel
theorem dX7_picks_115 : decode cX7_picks 115 = .ok (.iaload, 1) := by decide +kernel
theorem dX7_picks_116 : decode cX7_picks 116 = .ok (.aload_n 0, 1) := by decide +kernel
theorem dX7_picks_117 : decode cX7_picks 117 = .ok (.getfield 59, 3) := by decide +kernel
theorem dX7_picks_120 : decode cX7_picks 120 = .ok (.iload_n 3, 1) := by decide +kernel
theorem dX7_picks_121 : decode cX7_picks 121 = .ok (.iaload, 1) := by decide +kernel
theorem dX7_picks_122 : decode cX7_picks 122 = .ok (.invokevirtual 266, 3) := by decide +kernel
theorem dX7_picks_125 : decode cX7_picks 125 = .ok (.aload_n 0, 1) := by decide +kernel
theorem dX7_picks_126 : decode cX7_picks 126 = .ok (.getfield 47, 3) := by decide +kernel
theorem dX7_picks_129 : decode cX7_picks 129 = .ok (.iload_n 2, 1) := by decide +kernel
theorem dX7_picks_130 : decode cX7_picks 130 = .ok (.iconst 1, 1) := by decide +kernel
theorem dX7_picks_131 : decode cX7_picks 131 = .ok (.iastore, 1) := by decide +kernel
theorem dX7_picks_132 : decode cX7_picks 132 = .ok (.aload_n 0, 1) := by decide +kernel
theorem dX7_picks_133 : decode cX7_picks 133 = .ok (.invokevirtual 343, 3) := by decide +kernel
theorem dX7_picks_136 : decode cX7_picks 136 = .ok (.aload_n 0, 1) := by decide +kernel
theorem dX7_picks_137 : decode cX7_picks 137 = .ok (.invokevirtual 355, 3) := by decide +kernel
theorem dX7_picks_140 : decode cX7_picks 140 = .ok (.ireturn, 1) := by decide +kernel
theorem dX7_ends_0 : decode cX7_ends 0 = .ok (.aload_n 0, 1) := by decide +kernel
theorem dX7_ends_1 : decode cX7_ends 1 = .ok (.getfield 257, 3) := by decide +kernel
theorem dX7_ends_4 : decode cX7_ends 4 = .ok (.ifCond .ne 8, 3) := by decide +kernel
theorem dX7_ends_7 : decode cX7_ends 7 = .ok (.aload_n 0, 1) := by decide +kernel
theorem dX7_ends_8 : decode cX7_ends 8 = .ok (.invokevirtual 300, 3) := by decide +kernel
theorem dX7_ends_11 : decode cX7_ends 11 = .ok (.ireturn, 1) := by decide +kernel
theorem dX7_ends_12 : decode cX7_ends 12 = .ok (.aload_n 0, 1) := by decide +kernel
theorem dX7_ends_13 : decode cX7_ends 13 = .ok (.bipush 8, 2) := by decide +kernel
theorem dX7_ends_15 : decode cX7_ends 15 = .ok (.invokevirtual 334, 3) := by decide +kernel
theorem dX7_ends_18 : decode cX7_ends 18 = .ok (.aload_n 0, 1) := by decide +kernel
theorem dX7_ends_19 : decode cX7_ends 19 = .ok (.invokevirtual 352, 3) := by decide +kernel
theorem dX7_ends_22 : decode cX7_ends 22 = .ok (.aload_n 0, 1) := by decide +kernel
theorem dX7_ends_23 : decode cX7_ends 23 = .ok (.invokevirtual 316, 3) := by decide +kernel
theorem dX7_ends_26 : decode cX7_ends 26 = .ok (.aload_n 0, 1) := by decide +kernel
theorem dX7_ends_27 : decode cX7_ends 27 = .ok (.getfield 257, 3) := by decide +kernel
theorem dX7_ends_30 : decode cX7_ends 30 = .ok (.ireturn, 1) := by decide +kernel
theorem dX7_caret_0 : decode cX7_caret 0 = .ok (.iload_n 1, 1) := by decide +kernel
theorem dX7_caret_1 : decode cX7_caret 1 = .ok (.iconst 0, 1) := by decide +kernel
theorem dX7_caret_2 : decode cX7_caret 2 = .ok (.aload_n 0, 1) := by decide +kernel
theorem dX7_caret_3 : decode cX7_caret 3 = .ok (.invokevirtual 306, 3) := by decide +kernel
theorem dX7_caret_6 : decode cX7_caret 6 = .ok (.invokestatic 138, 3) := by decide +kernel
theorem dX7_caret_9 : decode cX7_caret 9 = .ok (.ifCond .ne 8, 3) := by decide +kernel
theorem dX7_caret_12 : decode cX7_caret 12 = .ok (.aload_n 0, 1) := by decide +kernel
theorem dX7_caret_13 : decode cX7_caret 13 = .ok (.invokevirtual 331, 3) := by decide +kernel
theorem dX7_caret_16 : decode cX7_caret 16 = .ok (.ireturn, 1) := by decide +kernel
theorem dX7_caret_17 : decode cX7_caret 17 = .ok (.aload_n 0, 1) := by decide +kernel
theorem dX7_caret_18 : decode cX7_caret 18 = .ok (.getfield 257, 3) := by decide +kernel
theorem dX7_caret_21 : decode cX7_caret 21 = .ok (.ifCond .le 8, 3) := by decide +kernel
theorem dX7_caret_24 : decode cX7_caret 24 = .ok (.aload_n 0, 1) := by decide +kernel
theorem dX7_caret_25 : decode cX7_caret 25 = .ok (.invokevirtual 300, 3) := by decide +kernel
theorem dX7_caret_28 : decode cX7_caret 28 = .ok (.ireturn, 1) := by decide +kernel
theorem dX7_caret_29 : decode cX7_caret 29 = .ok (.aload_n 0, 1) := by decide +kernel
theorem dX7_caret_30 : decode cX7_caret 30 = .ok (.bipush 8, 2) := by decide +kernel
theorem dX7_caret_32 : decode cX7_caret 32 = .ok (.invokevirtual 334, 3) := by decide +kernel
theorem dX7_caret_35 : decode cX7_caret 35 = .ok (.aload_n 0, 1) := by decide +kernel
theorem dX7_caret_36 : decode cX7_caret 36 = .ok (.getfield 282, 3) := by decide +kernel
theorem dX7_caret_39 : decode cX7_caret 39 = .ok (.istore_n 2, 1) := by decide +kernel
theorem dX7_caret_40 : decode cX7_caret 40 = .ok (.aload_n 0, 1) := by decide +kernel
theorem dX7_caret_41 : decode cX7_caret 41 = .ok (.iload_n 1, 1) := by decide +kernel
theorem dX7_caret_42 : decode cX7_caret 42 = .ok (.putfield 282, 3) := by decide +kernel
theorem dX7_caret_45 : decode cX7_caret 45 = .ok (.aload_n 0, 1) := by decide +kernel
theorem dX7_caret_46 : decode cX7_caret 46 = .ok (.invokevirtual 316, 3) := by decide +kernel
theorem dX7_caret_49 : decode cX7_caret 49 = .ok (.iload_n 2, 1) := by decide +kernel
theorem dX7_caret_50 : decode cX7_caret 50 = .ok (.ireturn, 1) := by decide +kernel
theorem dX7_cuts_0 : decode cX7_cuts 0 = .ok (.aload_n 0, 1) := by decide +kernel
theorem dX7_cuts_1 : decode cX7_cuts 1 = .ok (.invokevirtual 306, 3) := by decide +kernel
theorem dX7_cuts_4 : decode cX7_cuts 4 = .ok (.istore_n 3, 1) := by decide +kernel
theorem dX7_cuts_5 : decode cX7_cuts 5 = .ok (.iload_n 1, 1) := by decide +kernel
theorem dX7_cuts_6 : decode cX7_cuts 6 = .ok (.iconst 0, 1) := by decide +kernel
theorem dX7_cuts_7 : decode cX7_cuts 7 = .ok (.iload_n 3, 1) := by decide +kernel
theorem dX7_cuts_8 : decode cX7_cuts 8 = .ok (.invokestatic 138, 3) := by decide +kernel
theorem dX7_cuts_11 : decode cX7_cuts 11 = .ok (.ifCond .eq 15, 3) := by decide +kernel
theorem dX7_cuts_14 : decode cX7_cuts 14 = .ok (.iload_n 2, 1) := by decide +kernel
theorem dX7_cuts_15 : decode cX7_cuts 15 = .ok (.iconst 1, 1) := by decide +kernel
theorem dX7_cuts_16 : decode cX7_cuts 16 = .ok (.if_icmp .lt 10, 3) := by decide +kernel
theorem dX7_cuts_19 : decode cX7_cuts 19 = .ok (.iload_n 2, 1) := by decide +kernel
theorem dX7_cuts_20 : decode cX7_cuts 20 = .ok (.iload_n 3, 1) := by decide +kernel
theorem dX7_cuts_21 : decode cX7_cuts 21 = .ok (.iload_n 1, 1) := by decide +kernel
theorem dX7_cuts_22 : decode cX7_cuts 22 = .ok (.isub, 1) := by decide +kernel
theorem dX7_cuts_23 : decode cX7_cuts 23 = .ok (.if_icmp .le 8, 3) := by decide +kernel
theorem dX7_cuts_26 : decode cX7_cuts 26 = .ok (.aload_n 0, 1) := by decide +kernel
theorem dX7_cuts_27 : decode cX7_cuts 27 = .ok (.invokevirtual 331, 3) := by decide +kernel
theorem dX7_cuts_30 : decode cX7_cuts 30 = .ok (.ireturn, 1) := by decide +kernel
theorem dX7_cuts_31 : decode cX7_cuts 31 = .ok (.aload_n 0, 1) := by decide +kernel
theorem dX7_cuts_32 : decode cX7_cuts 32 = .ok (.getfield 257, 3) := by decide +kernel
theorem dX7_cuts_35 : decode cX7_cuts 35 = .ok (.ifCond .le 8, 3) := by decide +kernel
theorem dX7_cuts_38 : decode cX7_cuts 38 = .ok (.aload_n 0, 1) := by decide +kernel
theorem dX7_cuts_39 : decode cX7_cuts 39 = .ok (.invokevirtual 300, 3) := by decide +kernel
theorem dX7_cuts_42 : decode cX7_cuts 42 = .ok (.ireturn, 1) := by decide +kernel
theorem dX7_cuts_43 : decode cX7_cuts 43 = .ok (.aload_n 0, 1) := by decide +kernel
theorem dX7_cuts_44 : decode cX7_cuts 44 = .ok (.bipush 8, 2) := by decide +kernel
theorem dX7_cuts_46 : decode cX7_cuts 46 = .ok (.invokevirtual 334, 3) := by decide +kernel
theorem dX7_cuts_49 : decode cX7_cuts 49 = .ok (.aload_n 0, 1) := by decide +kernel
theorem dX7_cuts_50 : decode cX7_cuts 50 = .ok (.iload_n 1, 1) := by decide +kernel
theorem dX7_cuts_51 : decode cX7_cuts 51 = .ok (.iload_n 2, 1) := by decide +kernel
theorem dX7_cuts_52 : decode cX7_cuts 52 = .ok (.invokevirtual 364, 3) := by decide +kernel
theorem dX7_cuts_55 : decode cX7_cuts 55 = .ok (.aload_n 0, 1) := by decide +kernel
theorem dX7_cuts_56 : decode cX7_cuts 56 = .ok (.getfield 282, 3) := by decide +kernel
theorem dX7_cuts_59 : decode cX7_cuts 59 = .ok (.iload_n 1, 1) := by decide +kernel
theorem dX7_cuts_60 : decode cX7_cuts 60 = .ok (.isub, 1) := by decide +kernel
theorem dX7_cuts_61 : decode cX7_cuts 61 = .ok (.istore 4, 2) := by decide +kernel
theorem dX7_cuts_63 : decode cX7_cuts 63 = .ok (.aload_n 0, 1) := by decide +kernel
theorem dX7_cuts_64 : decode cX7_cuts 64 = .ok (.dup, 1) := by decide +kernel
theorem dX7_cuts_65 : decode cX7_cuts 65 = .ok (.getfield 282, 3) := by decide +kernel
theorem dX7_cuts_68 : decode cX7_cuts 68 = .ok (.iload 4, 2) := by decide +kernel
theorem dX7_cuts_70 : decode cX7_cuts 70 = .ok (.ifCond .ge 7, 3) := by decide +kernel
theorem dX7_cuts_73 : decode cX7_cuts 73 = .ok (.iconst 0, 1) := by decide +kernel
theorem dX7_cuts_74 : decode cX7_cuts 74 = .ok (.goto 15, 3) := by decide +kernel
theorem dX7_cuts_77 : decode cX7_cuts 77 = .ok (.iload 4, 2) := by decide +kernel
theorem dX7_cuts_79 : decode cX7_cuts 79 = .ok (.iload_n 2, 1) := by decide +kernel
theorem dX7_cuts_80 : decode cX7_cuts 80 = .ok (.if_icmp .ge 8, 3) := by decide +kernel
theorem dX7_cuts_83 : decode cX7_cuts 83 = .ok (.iload 4, 2) := by decide +kernel
theorem dX7_cuts_85 : decode cX7_cuts 85 = .ok (.goto 4, 3) := by decide +kernel
theorem dX7_cuts_88 : decode cX7_cuts 88 = .ok (.iload_n 2, 1) := by decide +kernel
theorem dX7_cuts_89 : decode cX7_cuts 89 = .ok (.isub, 1) := by decide +kernel
theorem dX7_cuts_90 : decode cX7_cuts 90 = .ok (.putfield 282, 3) := by decide +kernel
theorem dX7_cuts_93 : decode cX7_cuts 93 = .ok (.aload_n 0, 1) := by decide +kernel
theorem dX7_cuts_94 : decode cX7_cuts 94 = .ok (.invokevirtual 316, 3) := by decide +kernel
theorem dX7_cuts_97 : decode cX7_cuts 97 = .ok (.aload_n 0, 1) := by decide +kernel
theorem dX7_cuts_98 : decode cX7_cuts 98 = .ok (.getfield 279, 3) := by decide +kernel
theorem dX7_cuts_101 : decode cX7_cuts 101 = .ok (.ireturn, 1) := by decide +kernel
theorem dX7_at_0 : decode cX7_at 0 = .ok (.iload_n 1, 1) := by decide +kernel
theorem dX7_at_1 : decode cX7_at 1 = .ok (.ifCond .ge 8, 3) := by decide +kernel
theorem dX7_at_4 : decode cX7_at 4 = .ok (.aload_n 0, 1) := by decide +kernel
theorem dX7_at_5 : decode cX7_at 5 = .ok (.invokevirtual 331, 3) := by decide +kernel
theorem dX7_at_8 : decode cX7_at 8 = .ok (.ireturn, 1) := by decide +kernel
theorem dX7_at_9 : decode cX7_at 9 = .ok (.iload_n 1, 1) := by decide +kernel
theorem dX7_at_10 : decode cX7_at 10 = .ok (.aload_n 0, 1) := by decide +kernel
theorem dX7_at_11 : decode cX7_at 11 = .ok (.invokevirtual 306, 3) := by decide +kernel
theorem dX7_at_14 : decode cX7_at 14 = .ok (.if_icmp .ge 11, 3) := by decide +kernel
theorem dX7_at_17 : decode cX7_at 17 = .ok (.aload_n 0, 1) := by decide +kernel
theorem dX7_at_18 : decode cX7_at 18 = .ok (.iload_n 1, 1) := by decide +kernel
theorem dX7_at_19 : decode cX7_at 19 = .ok (.invokevirtual 376, 3) := by decide +kernel
theorem dX7_at_22 : decode cX7_at 22 = .ok (.goto 4, 3) := by decide +kernel
theorem dX7_at_25 : decode cX7_at 25 = .ok (.iconst (-1), 1) := by decide +kernel
theorem dX7_at_26 : decode cX7_at 26 = .ok (.ireturn, 1) := by decide +kernel
theorem dX7_countOf_0 : decode cX7_countOf 0 = .ok (.aload_n 0, 1) := by decide +kernel
theorem dX7_countOf_1 : decode cX7_countOf 1 = .ok (.getfield 257, 3) := by decide +kernel
theorem dX7_countOf_4 : decode cX7_countOf 4 = .ok (.iconst 1, 1) := by decide +kernel
theorem dX7_countOf_5 : decode cX7_countOf 5 = .ok (.isub, 1) := by decide +kernel
theorem dX7_countOf_6 : decode cX7_countOf 6 = .ok (.istore_n 2, 1) := by decide +kernel
theorem dX7_countOf_7 : decode cX7_countOf 7 = .ok (.iload_n 1, 1) := by decide +kernel
theorem dX7_countOf_8 : decode cX7_countOf 8 = .ok (.tableswitch 98 0 4 #[36, 41, 57, 62, 80], 36) := by decide +kernel
theorem dX7_countOf_44 : decode cX7_countOf 44 = .ok (.aload_n 0, 1) := by decide +kernel
theorem dX7_countOf_45 : decode cX7_countOf 45 = .ok (.invokevirtual 306, 3) := by decide +kernel
theorem dX7_countOf_48 : decode cX7_countOf 48 = .ok (.ireturn, 1) := by decide +kernel
theorem dX7_countOf_49 : decode cX7_countOf 49 = .ok (.aload_n 0, 1) := by decide +kernel
theorem dX7_countOf_50 : decode cX7_countOf 50 = .ok (.getfield 257, 3) := by decide +kernel
theorem dX7_countOf_53 : decode cX7_countOf 53 = .ok (.ifCond .le 7, 3) := by decide +kernel
theorem dX7_countOf_56 : decode cX7_countOf 56 = .ok (.iconst (-1), 1) := by decide +kernel
theorem dX7_countOf_57 : decode cX7_countOf 57 = .ok (.goto 7, 3) := by decide +kernel
theorem dX7_countOf_60 : decode cX7_countOf 60 = .ok (.aload_n 0, 1) := by decide +kernel
theorem dX7_countOf_61 : decode cX7_countOf 61 = .ok (.getfield 282, 3) := by decide +kernel
theorem dX7_countOf_64 : decode cX7_countOf 64 = .ok (.ireturn, 1) := by decide +kernel
theorem dX7_countOf_65 : decode cX7_countOf 65 = .ok (.aload_n 0, 1) := by decide +kernel
theorem dX7_countOf_66 : decode cX7_countOf 66 = .ok (.getfield 257, 3) := by decide +kernel
theorem dX7_countOf_69 : decode cX7_countOf 69 = .ok (.ireturn, 1) := by decide +kernel
theorem dX7_countOf_70 : decode cX7_countOf 70 = .ok (.aload_n 0, 1) := by decide +kernel
theorem dX7_countOf_71 : decode cX7_countOf 71 = .ok (.getfield 257, 3) := by decide +kernel
theorem dX7_countOf_74 : decode cX7_countOf 74 = .ok (.ifCond .le 12, 3) := by decide +kernel
theorem dX7_countOf_77 : decode cX7_countOf 77 = .ok (.aload_n 0, 1) := by decide +kernel
theorem dX7_countOf_78 : decode cX7_countOf 78 = .ok (.getfield 44, 3) := by decide +kernel
theorem dX7_countOf_81 : decode cX7_countOf 81 = .ok (.iload_n 2, 1) := by decide +kernel
theorem dX7_countOf_82 : decode cX7_countOf 82 = .ok (.iaload, 1) := by decide +kernel
theorem dX7_countOf_83 : decode cX7_countOf 83 = .ok (.goto 4, 3) := by decide +kernel
theorem dX7_countOf_86 : decode cX7_countOf 86 = .ok (.iconst (-1), 1) := by decide +kernel
theorem dX7_countOf_87 : decode cX7_countOf 87 = .ok (.ireturn, 1) := by decide +kernel
theorem dX7_countOf_88 : decode cX7_countOf 88 = .ok (.aload_n 0, 1) := by decide +kernel
theorem dX7_countOf_89 : decode cX7_countOf 89 = .ok (.getfield 257, 3) := by decide +kernel
theorem dX7_countOf_92 : decode cX7_countOf 92 = .ok (.ifCond .le 12, 3) := by decide +kernel
theorem dX7_countOf_95 : decode cX7_countOf 95 = .ok (.aload_n 0, 1) := by decide +kernel
theorem dX7_countOf_96 : decode cX7_countOf 96 = .ok (.getfield 47, 3) := by decide +kernel
theorem dX7_countOf_99 : decode cX7_countOf 99 = .ok (.iload_n 2, 1) := by decide +kernel
theorem dX7_countOf_100 : decode cX7_countOf 100 = .ok (.iaload, 1) := by decide +kernel
theorem dX7_countOf_101 : decode cX7_countOf 101 = .ok (.goto 4, 3) := by decide +kernel
theorem dX7_countOf_104 : decode cX7_countOf 104 = .ok (.iconst 0, 1) := by decide +kernel
theorem dX7_countOf_105 : decode cX7_countOf 105 = .ok (.ireturn, 1) := by decide +kernel
theorem dX7_countOf_106 : decode cX7_countOf 106 = .ok (.aload_n 0, 1) := by decide +kernel
theorem dX7_countOf_107 : decode cX7_countOf 107 = .ok (.getfield 257, 3) := by decide +kernel
theorem dX7_countOf_110 : decode cX7_countOf 110 = .ok (.ifCond .le 11, 3) := by decide +kernel
theorem dX7_countOf_113 : decode cX7_countOf 113 = .ok (.aload_n 0, 1) := by decide +kernel
theorem dX7_countOf_114 : decode cX7_countOf 114 = .ok (.iload_n 2, 1) := by decide +kernel
theorem dX7_countOf_115 : decode cX7_countOf 115 = .ok (.invokevirtual 379, 3) := by decide +kernel
theorem dX7_countOf_118 : decode cX7_countOf 118 = .ok (.goto 4, 3) := by decide +kernel
theorem dX7_countOf_121 : decode cX7_countOf 121 = .ok (.iconst 0, 1) := by decide +kernel
theorem dX7_countOf_122 : decode cX7_countOf 122 = .ok (.ireturn, 1) := by decide +kernel
theorem dX7_count_0 : decode cX7_count 0 = .ok (.iload_n 1, 1) := by decide +kernel
theorem dX7_count_1 : decode cX7_count 1 = .ok (.iconst 0, 1) := by decide +kernel
theorem dX7_count_2 : decode cX7_count 2 = .ok (.iconst 5, 1) := by decide +kernel
theorem dX7_count_3 : decode cX7_count 3 = .ok (.invokestatic 138, 3) := by decide +kernel
theorem dX7_count_6 : decode cX7_count 6 = .ok (.ifCond .eq 11, 3) := by decide +kernel
theorem dX7_count_9 : decode cX7_count 9 = .ok (.aload_n 0, 1) := by decide +kernel
theorem dX7_count_10 : decode cX7_count 10 = .ok (.iload_n 1, 1) := by decide +kernel
theorem dX7_count_11 : decode cX7_count 11 = .ok (.invokevirtual 382, 3) := by decide +kernel
theorem dX7_count_14 : decode cX7_count 14 = .ok (.goto 7, 3) := by decide +kernel
theorem dX7_count_17 : decode cX7_count 17 = .ok (.aload_n 0, 1) := by decide +kernel
theorem dX7_count_18 : decode cX7_count 18 = .ok (.invokevirtual 331, 3) := by decide +kernel
theorem dX7_count_21 : decode cX7_count 21 = .ok (.ireturn, 1) := by decide +kernel
theorem dX7_stop_0 : decode cX7_stop 0 = .ok (.iload_n 1, 1) := by decide +kernel
theorem dX7_stop_1 : decode cX7_stop 1 = .ok (.iconst 0, 1) := by decide +kernel
theorem dX7_stop_2 : decode cX7_stop 2 = .ok (.bipush 9, 2) := by decide +kernel
theorem dX7_stop_4 : decode cX7_stop 4 = .ok (.invokestatic 138, 3) := by decide +kernel
theorem dX7_stop_7 : decode cX7_stop 7 = .ok (.ifCond .eq 12, 3) := by decide +kernel
theorem dX7_stop_10 : decode cX7_stop 10 = .ok (.iload_n 2, 1) := by decide +kernel
theorem dX7_stop_11 : decode cX7_stop 11 = .ok (.iconst 0, 1) := by decide +kernel
theorem dX7_stop_12 : decode cX7_stop 12 = .ok (.iconst 4, 1) := by decide +kernel
theorem dX7_stop_13 : decode cX7_stop 13 = .ok (.invokestatic 138, 3) := by decide +kernel
theorem dX7_stop_16 : decode cX7_stop 16 = .ok (.ifCond .ne 8, 3) := by decide +kernel
theorem dX7_stop_19 : decode cX7_stop 19 = .ok (.aload_n 0, 1) := by decide +kernel
theorem dX7_stop_20 : decode cX7_stop 20 = .ok (.invokevirtual 331, 3) := by decide +kernel
theorem dX7_stop_23 : decode cX7_stop 23 = .ok (.ireturn, 1) := by decide +kernel
theorem dX7_stop_24 : decode cX7_stop 24 = .ok (.aload_n 0, 1) := by decide +kernel
theorem dX7_stop_25 : decode cX7_stop 25 = .ok (.getfield 257, 3) := by decide +kernel
theorem dX7_stop_28 : decode cX7_stop 28 = .ok (.ifCond .ne 10, 3) := by decide +kernel
theorem dX7_stop_31 : decode cX7_stop 31 = .ok (.aload_n 0, 1) := by decide +kernel
theorem dX7_stop_32 : decode cX7_stop 32 = .ok (.invokevirtual 300, 3) := by decide +kernel
theorem dX7_stop_35 : decode cX7_stop 35 = .ok (.goto 15, 3) := by decide +kernel
theorem dX7_stop_38 : decode cX7_stop 38 = .ok (.aload_n 0, 1) := by decide +kernel
theorem dX7_stop_39 : decode cX7_stop 39 = .ok (.aload_n 0, 1) := by decide +kernel
theorem dX7_stop_40 : decode cX7_stop 40 = .ok (.getfield 257, 3) := by decide +kernel
theorem dX7_stop_43 : decode cX7_stop 43 = .ok (.iconst 1, 1) := by decide +kernel
theorem dX7_stop_44 : decode cX7_stop 44 = .ok (.isub, 1) := by decide +kernel
theorem dX7_stop_45 : decode cX7_stop 45 = .ok (.iload_n 1, 1) := by decide +kernel
theorem dX7_stop_46 : decode cX7_stop 46 = .ok (.iload_n 2, 1) := by decide +kernel
theorem dX7_stop_47 : decode cX7_stop 47 = .ok (.invokevirtual 391, 3) := by decide +kernel
theorem dX7_stop_50 : decode cX7_stop 50 = .ok (.ireturn, 1) := by decide +kernel
theorem dX7_held_0 : decode cX7_held 0 = .ok (.iload_n 1, 1) := by decide +kernel
theorem dX7_held_1 : decode cX7_held 1 = .ok (.iconst 0, 1) := by decide +kernel
theorem dX7_held_2 : decode cX7_held 2 = .ok (.bipush 9, 2) := by decide +kernel
theorem dX7_held_4 : decode cX7_held 4 = .ok (.invokestatic 138, 3) := by decide +kernel
theorem dX7_held_7 : decode cX7_held 7 = .ok (.ifCond .eq 7, 3) := by decide +kernel
theorem dX7_held_10 : decode cX7_held 10 = .ok (.iload_n 2, 1) := by decide +kernel
theorem dX7_held_11 : decode cX7_held 11 = .ok (.ifCond .ge 8, 3) := by decide +kernel
theorem dX7_held_14 : decode cX7_held 14 = .ok (.aload_n 0, 1) := by decide +kernel
theorem dX7_held_15 : decode cX7_held 15 = .ok (.invokevirtual 331, 3) := by decide +kernel
theorem dX7_held_18 : decode cX7_held 18 = .ok (.ireturn, 1) := by decide +kernel
theorem dX7_held_19 : decode cX7_held 19 = .ok (.aload_n 0, 1) := by decide +kernel
theorem dX7_held_20 : decode cX7_held 20 = .ok (.getfield 257, 3) := by decide +kernel
theorem dX7_held_23 : decode cX7_held 23 = .ok (.ifCond .ne 8, 3) := by decide +kernel
theorem dX7_held_26 : decode cX7_held 26 = .ok (.aload_n 0, 1) := by decide +kernel
theorem dX7_held_27 : decode cX7_held 27 = .ok (.invokevirtual 300, 3) := by decide +kernel
theorem dX7_held_30 : decode cX7_held 30 = .ok (.ireturn, 1) := by decide +kernel
theorem dX7_held_31 : decode cX7_held 31 = .ok (.iload_n 2, 1) := by decide +kernel
theorem dX7_held_32 : decode cX7_held 32 = .ok (.aload_n 0, 1) := by decide +kernel
theorem dX7_held_33 : decode cX7_held 33 = .ok (.aload_n 0, 1) := by decide +kernel
theorem dX7_held_34 : decode cX7_held 34 = .ok (.getfield 257, 3) := by decide +kernel
theorem dX7_held_37 : decode cX7_held 37 = .ok (.iconst 1, 1) := by decide +kernel
theorem dX7_held_38 : decode cX7_held 38 = .ok (.isub, 1) := by decide +kernel
theorem dX7_held_39 : decode cX7_held 39 = .ok (.iload_n 1, 1) := by decide +kernel
theorem dX7_held_40 : decode cX7_held 40 = .ok (.invokevirtual 385, 3) := by decide +kernel
theorem dX7_held_43 : decode cX7_held 43 = .ok (.if_icmp .ge 12, 3) := by decide +kernel
theorem dX7_held_46 : decode cX7_held 46 = .ok (.aload_n 0, 1) := by decide +kernel
theorem dX7_held_47 : decode cX7_held 47 = .ok (.getfield 71, 3) := by decide +kernel
theorem dX7_held_50 : decode cX7_held 50 = .ok (.iload_n 2, 1) := by decide +kernel
theorem dX7_held_51 : decode cX7_held 51 = .ok (.iaload, 1) := by decide +kernel
theorem dX7_held_52 : decode cX7_held 52 = .ok (.goto 4, 3) := by decide +kernel
theorem dX7_held_55 : decode cX7_held 55 = .ok (.iconst (-1), 1) := by decide +kernel
theorem dX7_held_56 : decode cX7_held 56 = .ok (.ireturn, 1) := by decide +kernel
theorem dX7_choice_0 : decode cX7_choice 0 = .ok (.iload_n 1, 1) := by decide +kernel
theorem dX7_choice_1 : decode cX7_choice 1 = .ok (.iconst 0, 1) := by decide +kernel
theorem dX7_choice_2 : decode cX7_choice 2 = .ok (.bipush 9, 2) := by decide +kernel
theorem dX7_choice_4 : decode cX7_choice 4 = .ok (.invokestatic 138, 3) := by decide +kernel
theorem dX7_choice_7 : decode cX7_choice 7 = .ok (.ifCond .eq 11, 3) := by decide +kernel
theorem dX7_choice_10 : decode cX7_choice 10 = .ok (.iload_n 2, 1) := by decide +kernel
theorem dX7_choice_11 : decode cX7_choice 11 = .ok (.ifCond .lt 7, 3) := by decide +kernel
theorem dX7_choice_14 : decode cX7_choice 14 = .ok (.iload_n 3, 1) := by decide +kernel
theorem dX7_choice_15 : decode cX7_choice 15 = .ok (.ifCond .ge 8, 3) := by decide +kernel
theorem dX7_choice_18 : decode cX7_choice 18 = .ok (.aload_n 0, 1) := by decide +kernel
theorem dX7_choice_19 : decode cX7_choice 19 = .ok (.invokevirtual 331, 3) := by decide +kernel
theorem dX7_choice_22 : decode cX7_choice 22 = .ok (.ireturn, 1) := by decide +kernel
theorem dX7_choice_23 : decode cX7_choice 23 = .ok (.aload_n 0, 1) := by decide +kernel
theorem dX7_choice_24 : decode cX7_choice 24 = .ok (.getfield 257, 3) := by decide +kernel
theorem dX7_choice_27 : decode cX7_choice 27 = .ok (.ifCond .ne 8, 3) := by decide +kernel
theorem dX7_choice_30 : decode cX7_choice 30 = .ok (.aload_n 0, 1) := by decide +kernel
theorem dX7_choice_31 : decode cX7_choice 31 = .ok (.invokevirtual 300, 3) := by decide +kernel
theorem dX7_choice_34 : decode cX7_choice 34 = .ok (.ireturn, 1) := by decide +kernel
theorem dX7_choice_35 : decode cX7_choice 35 = .ok (.aload_n 0, 1) := by decide +kernel
theorem dX7_choice_36 : decode cX7_choice 36 = .ok (.getfield 257, 3) := by decide +kernel
theorem dX7_choice_39 : decode cX7_choice 39 = .ok (.iconst 1, 1) := by decide +kernel
theorem dX7_choice_40 : decode cX7_choice 40 = .ok (.isub, 1) := by decide +kernel
theorem dX7_choice_41 : decode cX7_choice 41 = .ok (.istore 4, 2) := by decide +kernel
theorem dX7_choice_43 : decode cX7_choice 43 = .ok (.iload_n 2, 1) := by decide +kernel
theorem dX7_choice_44 : decode cX7_choice 44 = .ok (.aload_n 0, 1) := by decide +kernel
theorem dX7_choice_45 : decode cX7_choice 45 = .ok (.iload 4, 2) := by decide +kernel
theorem dX7_choice_47 : decode cX7_choice 47 = .ok (.iload_n 1, 1) := by decide +kernel
theorem dX7_choice_48 : decode cX7_choice 48 = .ok (.invokevirtual 370, 3) := by decide +kernel
theorem dX7_choice_51 : decode cX7_choice 51 = .ok (.if_icmp .lt 5, 3) := by decide +kernel
theorem dX7_choice_54 : decode cX7_choice 54 = .ok (.iconst (-1), 1) := by decide +kernel
theorem dX7_choice_55 : decode cX7_choice 55 = .ok (.ireturn, 1) := by decide +kernel
theorem dX7_choice_56 : decode cX7_choice 56 = .ok (.aload_n 0, 1) := by decide +kernel
theorem dX7_choice_57 : decode cX7_choice 57 = .ok (.iload 4, 2) := by decide +kernel
theorem dX7_choice_59 : decode cX7_choice 59 = .ok (.iload_n 1, 1) := by decide +kernel
theorem dX7_choice_60 : decode cX7_choice 60 = .ok (.iload_n 2, 1) := by decide +kernel
theorem dX7_choice_61 : decode cX7_choice 61 = .ok (.invokevirtual 373, 3) := by decide +kernel
theorem dX7_choice_64 : decode cX7_choice 64 = .ok (.istore 5, 2) := by decide +kernel
theorem dX7_choice_66 : decode cX7_choice 66 = .ok (.iload_n 3, 1) := by decide +kernel
theorem dX7_choice_67 : decode cX7_choice 67 = .ok (.aload_n 0, 1) := by decide +kernel
theorem dX7_choice_68 : decode cX7_choice 68 = .ok (.getfield 59, 3) := by decide +kernel
theorem dX7_choice_71 : decode cX7_choice 71 = .ok (.iload 5, 2) := by decide +kernel
theorem dX7_choice_73 : decode cX7_choice 73 = .ok (.iaload, 1) := by decide +kernel
theorem dX7_choice_74 : decode cX7_choice 74 = .ok (.if_icmp .ge 26, 3) := by decide +kernel
theorem dX7_choice_77 : decode cX7_choice 77 = .ok (.aload_n 0, 1) := by decide +kernel
theorem dX7_choice_78 : decode cX7_choice 78 = .ok (.getfield 62, 3) := by decide +kernel
theorem dX7_choice_81 : decode cX7_choice 81 = .ok (.bipush 120, 2) := by decide +kernel
theorem dX7_choice_83 : decode cX7_choice 83 = .ok (.iload 4, 2) := by decide +kernel
theorem dX7_choice_85 : decode cX7_choice 85 = .ok (.imul, 1) := by decide +kernel
theorem dX7_choice_86 : decode cX7_choice 86 = .ok (.aload_n 0, 1) := by decide +kernel
theorem dX7_choice_87 : decode cX7_choice 87 = .ok (.getfield 56, 3) := by decide +kernel
theorem dX7_choice_90 : decode cX7_choice 90 = .ok (.iload 5, 2) := by decide +kernel
theorem dX7_choice_92 : decode cX7_choice 92 = .ok (.iaload, 1) := by decide +kernel
theorem dX7_choice_93 : decode cX7_choice 93 = .ok (.iadd, 1) := by decide +kernel
theorem dX7_choice_94 : decode cX7_choice 94 = .ok (.iload_n 3, 1) := by decide +kernel
theorem dX7_choice_95 : decode cX7_choice 95 = .ok (.iadd, 1) := by decide +kernel
theorem dX7_choice_96 : decode cX7_choice 96 = .ok (.iaload, 1) := by decide +kernel
theorem dX7_choice_97 : decode cX7_choice 97 = .ok (.goto 4, 3) := by decide +kernel
theorem dX7_choice_100 : decode cX7_choice 100 = .ok (.iconst (-1), 1) := by decide +kernel
theorem dX7_choice_101 : decode cX7_choice 101 = .ok (.ireturn, 1) := by decide +kernel
theorem dX7_occurrence_0 : decode cX7_occurrence 0 = .ok (.iload_n 1, 1) := by decide +kernel
theorem dX7_occurrence_1 : decode cX7_occurrence 1 = .ok (.iconst 0, 1) := by decide +kernel
theorem dX7_occurrence_2 : decode cX7_occurrence 2 = .ok (.bipush 9, 2) := by decide +kernel
theorem dX7_occurrence_4 : decode cX7_occurrence 4 = .ok (.invokestatic 138, 3) := by decide +kernel
theorem dX7_occurrence_7 : decode cX7_occurrence 7 = .ok (.ifCond .eq 16, 3) := by decide +kernel
theorem dX7_occurrence_10 : decode cX7_occurrence 10 = .ok (.iload_n 2, 1) := by decide +kernel
theorem dX7_occurrence_11 : decode cX7_occurrence 11 = .ok (.ifCond .lt 12, 3) := by decide +kernel
theorem dX7_occurrence_14 : decode cX7_occurrence 14 = .ok (.iload_n 3, 1) := by decide +kernel
theorem dX7_occurrence_15 : decode cX7_occurrence 15 = .ok (.iconst 0, 1) := by decide +kernel
theorem dX7_occurrence_16 : decode cX7_occurrence 16 = .ok (.iconst 3, 1) := by decide +kernel
theorem dX7_occurrence_17 : decode cX7_occurrence 17 = .ok (.invokestatic 138, 3) := by decide +kernel
theorem dX7_occurrence_20 : decode cX7_occurrence 20 = .ok (.ifCond .ne 8, 3) := by decide +kernel
theorem dX7_occurrence_23 : decode cX7_occurrence 23 = .ok (.aload_n 0, 1) := by decide +kernel
theorem dX7_occurrence_24 : decode cX7_occurrence 24 = .ok (.invokevirtual 331, 3) := by decide +kernel
theorem dX7_occurrence_27 : decode cX7_occurrence 27 = .ok (.ireturn, 1) := by decide +kernel
theorem dX7_occurrence_28 : decode cX7_occurrence 28 = .ok (.aload_n 0, 1) := by decide +kernel
theorem dX7_occurrence_29 : decode cX7_occurrence 29 = .ok (.getfield 257, 3) := by decide +kernel
theorem dX7_occurrence_32 : decode cX7_occurrence 32 = .ok (.ifCond .ne 8, 3) := by decide +kernel
theorem dX7_occurrence_35 : decode cX7_occurrence 35 = .ok (.aload_n 0, 1) := by decide +kernel
theorem dX7_occurrence_36 : decode cX7_occurrence 36 = .ok (.invokevirtual 300, 3) := by decide +kernel
theorem dX7_occurrence_39 : decode cX7_occurrence 39 = .ok (.ireturn, 1) := by decide +kernel
theorem dX7_occurrence_40 : decode cX7_occurrence 40 = .ok (.aload_n 0, 1) := by decide +kernel
theorem dX7_occurrence_41 : decode cX7_occurrence 41 = .ok (.getfield 257, 3) := by decide +kernel
theorem dX7_occurrence_44 : decode cX7_occurrence 44 = .ok (.iconst 1, 1) := by decide +kernel
theorem dX7_occurrence_45 : decode cX7_occurrence 45 = .ok (.isub, 1) := by decide +kernel
theorem dX7_occurrence_46 : decode cX7_occurrence 46 = .ok (.istore 4, 2) := by decide +kernel
theorem dX7_occurrence_48 : decode cX7_occurrence 48 = .ok (.iload_n 2, 1) := by decide +kernel
theorem dX7_occurrence_49 : decode cX7_occurrence 49 = .ok (.istore 5, 2) := by decide +kernel
theorem dX7_occurrence_51 : decode cX7_occurrence 51 = .ok (.iconst 0, 1) := by decide +kernel
theorem dX7_occurrence_52 : decode cX7_occurrence 52 = .ok (.istore 6, 2) := by decide +kernel
theorem dX7_occurrence_54 : decode cX7_occurrence 54 = .ok (.iload 6, 2) := by decide +kernel
theorem dX7_occurrence_56 : decode cX7_occurrence 56 = .ok (.aload_n 0, 1) := by decide +kernel
theorem dX7_occurrence_57 : decode cX7_occurrence 57 = .ok (.getfield 19, 3) := by decide +kernel
theorem dX7_occurrence_60 : decode cX7_occurrence 60 = .ok (.iload 4, 2) := by decide +kernel
theorem dX7_occurrence_62 : decode cX7_occurrence 62 = .ok (.iaload, 1) := by decide +kernel
theorem dX7_occurrence_63 : decode cX7_occurrence 63 = .ok (.if_icmp .ge 61, 3) := by decide +kernel
theorem dX7_occurrence_66 : decode cX7_occurrence 66 = .ok (.aload_n 0, 1) := by decide +kernel
theorem dX7_occurrence_67 : decode cX7_occurrence 67 = .ok (.iload 4, 2) := by decide +kernel
theorem dX7_occurrence_69 : decode cX7_occurrence 69 = .ok (.iload 6, 2) := by decide +kernel
theorem dX7_occurrence_71 : decode cX7_occurrence 71 = .ok (.invokevirtual 113, 3) := by decide +kernel
theorem dX7_occurrence_74 : decode cX7_occurrence 74 = .ok (.ifCond .eq 44, 3) := by decide +kernel
theorem dX7_occurrence_77 : decode cX7_occurrence 77 = .ok (.aload_n 0, 1) := by decide +kernel
theorem dX7_occurrence_78 : decode cX7_occurrence 78 = .ok (.iload 4, 2) := by decide +kernel
theorem dX7_occurrence_80 : decode cX7_occurrence 80 = .ok (.iload 6, 2) := by decide +kernel
theorem dX7_occurrence_82 : decode cX7_occurrence 82 = .ok (.invokevirtual 117, 3) := by decide +kernel
theorem dX7_occurrence_85 : decode cX7_occurrence 85 = .ok (.iload_n 1, 1) := by decide +kernel
theorem dX7_occurrence_86 : decode cX7_occurrence 86 = .ok (.if_icmp .ne 32, 3) := by decide +kernel
theorem dX7_occurrence_89 : decode cX7_occurrence 89 = .ok (.aload_n 0, 1) := by decide +kernel
theorem dX7_occurrence_90 : decode cX7_occurrence 90 = .ok (.iload 4, 2) := by decide +kernel
theorem dX7_occurrence_92 : decode cX7_occurrence 92 = .ok (.iload 6, 2) := by decide +kernel
theorem dX7_occurrence_94 : decode cX7_occurrence 94 = .ok (.invokevirtual 120, 3) := by decide +kernel
theorem dX7_occurrence_97 : decode cX7_occurrence 97 = .ok (.ifCond .eq 21, 3) := by decide +kernel
theorem dX7_occurrence_100 : decode cX7_occurrence 100 = .ok (.iload 5, 2) := by decide +kernel
theorem dX7_occurrence_102 : decode cX7_occurrence 102 = .ok (.ifCond .ne 13, 3) := by decide +kernel
theorem dX7_occurrence_105 : decode cX7_occurrence 105 = .ok (.aload_n 0, 1) := by decide +kernel
theorem dX7_occurrence_106 : decode cX7_occurrence 106 = .ok (.iload 4, 2) := by decide +kernel
theorem dX7_occurrence_108 : decode cX7_occurrence 108 = .ok (.iload 6, 2) := by decide +kernel
theorem dX7_occurrence_110 : decode cX7_occurrence 110 = .ok (.iload_n 3, 1) := by decide +kernel
theorem dX7_occurrence_111 : decode cX7_occurrence 111 = .ok (.invokevirtual 397, 3) := by decide +kernel
theorem dX7_occurrence_114 : decode cX7_occurrence 114 = .ok (.ireturn, 1) := by decide +kernel
theorem dX7_occurrence_115 : decode cX7_occurrence 115 = .ok (.iinc 5 (-1), 3) := by decide +kernel
theorem dX7_occurrence_118 : decode cX7_occurrence 118 = .ok (.iinc 6 1, 3) := by decide +kernel
theorem dX7_occurrence_121 : decode cX7_occurrence 121 = .ok (.goto (-67), 3) := by decide +kernel
theorem dX7_occurrence_124 : decode cX7_occurrence 124 = .ok (.iconst (-1), 1) := by decide +kernel
theorem dX7_occurrence_125 : decode cX7_occurrence 125 = .ok (.ireturn, 1) := by decide +kernel
theorem dX7_unlike_0 : decode cX7_unlike 0 = .ok (.aload_n 0, 1) := by decide +kernel
theorem dX7_unlike_1 : decode cX7_unlike 1 = .ok (.getfield 257, 3) := by decide +kernel
theorem dX7_unlike_4 : decode cX7_unlike 4 = .ok (.ifCond .ne 5, 3) := by decide +kernel
theorem dX7_unlike_7 : decode cX7_unlike 7 = .ok (.iconst 0, 1) := by decide +kernel
theorem dX7_unlike_8 : decode cX7_unlike 8 = .ok (.ireturn, 1) := by decide +kernel
theorem dX7_unlike_9 : decode cX7_unlike 9 = .ok (.aload_n 0, 1) := by decide +kernel
theorem dX7_unlike_10 : decode cX7_unlike 10 = .ok (.getfield 257, 3) := by decide +kernel
theorem dX7_unlike_13 : decode cX7_unlike 13 = .ok (.iconst 1, 1) := by decide +kernel
theorem dX7_unlike_14 : decode cX7_unlike 14 = .ok (.isub, 1) := by decide +kernel
theorem dX7_unlike_15 : decode cX7_unlike 15 = .ok (.istore_n 1, 1) := by decide +kernel
theorem dX7_unlike_16 : decode cX7_unlike 16 = .ok (.aload_n 0, 1) := by decide +kernel
theorem dX7_unlike_17 : decode cX7_unlike 17 = .ok (.iload_n 1, 1) := by decide +kernel
theorem dX7_unlike_18 : decode cX7_unlike 18 = .ok (.invokevirtual 260, 3) := by decide +kernel
theorem dX7_unlike_21 : decode cX7_unlike 21 = .ok (.iconst 0, 1) := by decide +kernel
theorem dX7_unlike_22 : decode cX7_unlike 22 = .ok (.istore_n 2, 1) := by decide +kernel
theorem dX7_unlike_23 : decode cX7_unlike 23 = .ok (.iconst 0, 1) := by decide +kernel
theorem dX7_unlike_24 : decode cX7_unlike 24 = .ok (.istore_n 3, 1) := by decide +kernel
theorem dX7_unlike_25 : decode cX7_unlike 25 = .ok (.iload_n 3, 1) := by decide +kernel
theorem dX7_unlike_26 : decode cX7_unlike 26 = .ok (.aload_n 0, 1) := by decide +kernel
theorem dX7_unlike_27 : decode cX7_unlike 27 = .ok (.getfield 19, 3) := by decide +kernel
theorem dX7_unlike_30 : decode cX7_unlike 30 = .ok (.iload_n 1, 1) := by decide +kernel
theorem dX7_unlike_31 : decode cX7_unlike 31 = .ok (.iaload, 1) := by decide +kernel
theorem dX7_unlike_32 : decode cX7_unlike 32 = .ok (.if_icmp .ge 105, 3) := by decide +kernel
theorem dX7_unlike_35 : decode cX7_unlike 35 = .ok (.aload_n 0, 1) := by decide +kernel
theorem dX7_unlike_36 : decode cX7_unlike 36 = .ok (.iload_n 1, 1) := by decide +kernel
theorem dX7_unlike_37 : decode cX7_unlike 37 = .ok (.iload_n 3, 1) := by decide +kernel
theorem dX7_unlike_38 : decode cX7_unlike 38 = .ok (.invokevirtual 113, 3) := by decide +kernel
theorem dX7_unlike_41 : decode cX7_unlike 41 = .ok (.ifCond .eq 16, 3) := by decide +kernel
theorem dX7_unlike_44 : decode cX7_unlike 44 = .ok (.aload_n 0, 1) := by decide +kernel
theorem dX7_unlike_45 : decode cX7_unlike 45 = .ok (.iload_n 1, 1) := by decide +kernel
theorem dX7_unlike_46 : decode cX7_unlike 46 = .ok (.iload_n 3, 1) := by decide +kernel
theorem dX7_unlike_47 : decode cX7_unlike 47 = .ok (.invokevirtual 120, 3) := by decide +kernel
theorem dX7_unlike_50 : decode cX7_unlike 50 = .ok (.ifCond .eq 7, 3) := by decide +kernel
theorem dX7_unlike_53 : decode cX7_unlike 53 = .ok (.iconst 1, 1) := by decide +kernel
theorem dX7_unlike_54 : decode cX7_unlike 54 = .ok (.goto 4, 3) := by decide +kernel
theorem dX7_unlike_57 : decode cX7_unlike 57 = .ok (.iconst 0, 1) := by decide +kernel
theorem dX7_unlike_58 : decode cX7_unlike 58 = .ok (.istore 4, 2) := by decide +kernel
theorem dX7_unlike_60 : decode cX7_unlike 60 = .ok (.iconst 0, 1) := by decide +kernel
theorem dX7_unlike_61 : decode cX7_unlike 61 = .ok (.istore 5, 2) := by decide +kernel
theorem dX7_unlike_63 : decode cX7_unlike 63 = .ok (.iload 5, 2) := by decide +kernel
theorem dX7_unlike_65 : decode cX7_unlike 65 = .ok (.iload_n 3, 1) := by decide +kernel
theorem dX7_unlike_66 : decode cX7_unlike 66 = .ok (.if_icmp .ge 52, 3) := by decide +kernel
theorem dX7_unlike_69 : decode cX7_unlike 69 = .ok (.iload 4, 2) := by decide +kernel
theorem dX7_unlike_71 : decode cX7_unlike 71 = .ok (.ifCond .eq 47, 3) := by decide +kernel
theorem dX7_unlike_74 : decode cX7_unlike 74 = .ok (.aload_n 0, 1) := by decide +kernel
theorem dX7_unlike_75 : decode cX7_unlike 75 = .ok (.iload_n 1, 1) := by decide +kernel
theorem dX7_unlike_76 : decode cX7_unlike 76 = .ok (.iload 5, 2) := by decide +kernel
theorem dX7_unlike_78 : decode cX7_unlike 78 = .ok (.invokevirtual 113, 3) := by decide +kernel
theorem dX7_unlike_81 : decode cX7_unlike 81 = .ok (.ifCond .eq 24, 3) := by decide +kernel
theorem dX7_unlike_84 : decode cX7_unlike 84 = .ok (.aload_n 0, 1) := by decide +kernel
theorem dX7_unlike_85 : decode cX7_unlike 85 = .ok (.iload_n 1, 1) := by decide +kernel
theorem dX7_unlike_86 : decode cX7_unlike 86 = .ok (.iload 5, 2) := by decide +kernel
theorem dX7_unlike_88 : decode cX7_unlike 88 = .ok (.invokevirtual 120, 3) := by decide +kernel
theorem dX7_unlike_91 : decode cX7_unlike 91 = .ok (.ifCond .eq 14, 3) := by decide +kernel
theorem dX7_unlike_94 : decode cX7_unlike 94 = .ok (.aload_n 0, 1) := by decide +kernel
theorem dX7_unlike_95 : decode cX7_unlike 95 = .ok (.iload_n 1, 1) := by decide +kernel
theorem dX7_unlike_96 : decode cX7_unlike 96 = .ok (.iload_n 3, 1) := by decide +kernel
theorem dX7_unlike_97 : decode cX7_unlike 97 = .ok (.iload 5, 2) := by decide +kernel
theorem dX7_unlike_99 : decode cX7_unlike 99 = .ok (.invokevirtual 400, 3) := by decide +kernel
theorem dX7_unlike_102 : decode cX7_unlike 102 = .ok (.ifCond .ne 7, 3) := by decide +kernel
theorem dX7_unlike_105 : decode cX7_unlike 105 = .ok (.iconst 1, 1) := by decide +kernel
theorem dX7_unlike_106 : decode cX7_unlike 106 = .ok (.goto 4, 3) := by decide +kernel
theorem dX7_unlike_109 : decode cX7_unlike 109 = .ok (.iconst 0, 1) := by decide +kernel
theorem dX7_unlike_110 : decode cX7_unlike 110 = .ok (.istore 4, 2) := by decide +kernel
theorem dX7_unlike_112 : decode cX7_unlike 112 = .ok (.iinc 5 1, 3) := by decide +kernel
theorem dX7_unlike_115 : decode cX7_unlike 115 = .ok (.goto (-52), 3) := by decide +kernel
theorem dX7_unlike_118 : decode cX7_unlike 118 = .ok (.iload_n 2, 1) := by decide +kernel
theorem dX7_unlike_119 : decode cX7_unlike 119 = .ok (.iload 4, 2) := by decide +kernel
theorem dX7_unlike_121 : decode cX7_unlike 121 = .ok (.ifCond .eq 7, 3) := by decide +kernel
theorem dX7_unlike_124 : decode cX7_unlike 124 = .ok (.iconst 1, 1) := by decide +kernel
theorem dX7_unlike_125 : decode cX7_unlike 125 = .ok (.goto 4, 3) := by decide +kernel
theorem dX7_unlike_128 : decode cX7_unlike 128 = .ok (.iconst 0, 1) := by decide +kernel
theorem dX7_unlike_129 : decode cX7_unlike 129 = .ok (.iadd, 1) := by decide +kernel
theorem dX7_unlike_130 : decode cX7_unlike 130 = .ok (.istore_n 2, 1) := by decide +kernel
theorem dX7_unlike_131 : decode cX7_unlike 131 = .ok (.iinc 3 1, 3) := by decide +kernel
theorem dX7_unlike_134 : decode cX7_unlike 134 = .ok (.goto (-109), 3) := by decide +kernel
theorem dX7_unlike_137 : decode cX7_unlike 137 = .ok (.iload_n 2, 1) := by decide +kernel
theorem dX7_unlike_138 : decode cX7_unlike 138 = .ok (.ireturn, 1) := by decide +kernel
theorem dX7_variableAt_0 : decode cX7_variableAt 0 = .ok (.iload_n 1, 1) := by decide +kernel
theorem dX7_variableAt_1 : decode cX7_variableAt 1 = .ok (.iconst 0, 1) := by decide +kernel
theorem dX7_variableAt_2 : decode cX7_variableAt 2 = .ok (.iconst 3, 1) := by decide +kernel
theorem dX7_variableAt_3 : decode cX7_variableAt 3 = .ok (.invokestatic 138, 3) := by decide +kernel
theorem dX7_variableAt_6 : decode cX7_variableAt 6 = .ok (.ifCond .eq 7, 3) := by decide +kernel
theorem dX7_variableAt_9 : decode cX7_variableAt 9 = .ok (.iload_n 2, 1) := by decide +kernel
theorem dX7_variableAt_10 : decode cX7_variableAt 10 = .ok (.ifCond .ge 8, 3) := by decide +kernel
theorem dX7_variableAt_13 : decode cX7_variableAt 13 = .ok (.aload_n 0, 1) := by decide +kernel
theorem dX7_variableAt_14 : decode cX7_variableAt 14 = .ok (.invokevirtual 331, 3) := by decide +kernel
theorem dX7_variableAt_17 : decode cX7_variableAt 17 = .ok (.ireturn, 1) := by decide +kernel
theorem dX7_variableAt_18 : decode cX7_variableAt 18 = .ok (.iload_n 2, 1) := by decide +kernel
theorem dX7_variableAt_19 : decode cX7_variableAt 19 = .ok (.aload_n 0, 1) := by decide +kernel
theorem dX7_variableAt_20 : decode cX7_variableAt 20 = .ok (.getfield 16, 3) := by decide +kernel
theorem dX7_variableAt_23 : decode cX7_variableAt 23 = .ok (.bipush 13, 2) := by decide +kernel
theorem dX7_variableAt_25 : decode cX7_variableAt 25 = .ok (.iload_n 1, 1) := by decide +kernel
theorem dX7_variableAt_26 : decode cX7_variableAt 26 = .ok (.imul, 1) := by decide +kernel
theorem dX7_variableAt_27 : decode cX7_variableAt 27 = .ok (.iaload, 1) := by decide +kernel
theorem dX7_variableAt_28 : decode cX7_variableAt 28 = .ok (.if_icmp .ge 19, 3) := by decide +kernel
theorem dX7_variableAt_31 : decode cX7_variableAt 31 = .ok (.aload_n 0, 1) := by decide +kernel
theorem dX7_variableAt_32 : decode cX7_variableAt 32 = .ok (.getfield 16, 3) := by decide +kernel
theorem dX7_variableAt_35 : decode cX7_variableAt 35 = .ok (.bipush 13, 2) := by decide +kernel
theorem dX7_variableAt_37 : decode cX7_variableAt 37 = .ok (.iload_n 1, 1) := by decide +kernel
theorem dX7_variableAt_38 : decode cX7_variableAt 38 = .ok (.imul, 1) := by decide +kernel
theorem dX7_variableAt_39 : decode cX7_variableAt 39 = .ok (.iconst 1, 1) := by decide +kernel
theorem dX7_variableAt_40 : decode cX7_variableAt 40 = .ok (.iadd, 1) := by decide +kernel
theorem dX7_variableAt_41 : decode cX7_variableAt 41 = .ok (.iload_n 2, 1) := by decide +kernel
theorem dX7_variableAt_42 : decode cX7_variableAt 42 = .ok (.iadd, 1) := by decide +kernel
theorem dX7_variableAt_43 : decode cX7_variableAt 43 = .ok (.iaload, 1) := by decide +kernel
theorem dX7_variableAt_44 : decode cX7_variableAt 44 = .ok (.goto 4, 3) := by decide +kernel
theorem dX7_variableAt_47 : decode cX7_variableAt 47 = .ok (.iconst (-1), 1) := by decide +kernel
theorem dX7_variableAt_48 : decode cX7_variableAt 48 = .ok (.ireturn, 1) := by decide +kernel
theorem dX7_toldOf_0 : decode cX7_toldOf 0 = .ok (.iload_n 1, 1) := by decide +kernel
theorem dX7_toldOf_1 : decode cX7_toldOf 1 = .ok (.iconst 3, 1) := by decide +kernel
theorem dX7_toldOf_2 : decode cX7_toldOf 2 = .ok (.if_icmp .ge 12, 3) := by decide +kernel
theorem dX7_toldOf_5 : decode cX7_toldOf 5 = .ok (.aload_n 0, 1) := by decide +kernel
theorem dX7_toldOf_6 : decode cX7_toldOf 6 = .ok (.getfield 7, 3) := by decide +kernel
theorem dX7_toldOf_9 : decode cX7_toldOf 9 = .ok (.iload_n 1, 1) := by decide +kernel
theorem dX7_toldOf_10 : decode cX7_toldOf 10 = .ok (.iaload, 1) := by decide +kernel
theorem dX7_toldOf_11 : decode cX7_toldOf 11 = .ok (.goto 19, 3) := by decide +kernel
theorem dX7_toldOf_14 : decode cX7_toldOf 14 = .ok (.iload_n 1, 1) := by decide +kernel
theorem dX7_toldOf_15 : decode cX7_toldOf 15 = .ok (.iconst 3, 1) := by decide +kernel
theorem dX7_toldOf_16 : decode cX7_toldOf 16 = .ok (.if_icmp .ne 10, 3) := by decide +kernel
theorem dX7_toldOf_19 : decode cX7_toldOf 19 = .ok (.aload_n 0, 1) := by decide +kernel
theorem dX7_toldOf_20 : decode cX7_toldOf 20 = .ok (.getfield 127, 3) := by decide +kernel
theorem dX7_toldOf_23 : decode cX7_toldOf 23 = .ok (.goto 7, 3) := by decide +kernel
theorem dX7_toldOf_26 : decode cX7_toldOf 26 = .ok (.aload_n 0, 1) := by decide +kernel
theorem dX7_toldOf_27 : decode cX7_toldOf 27 = .ok (.getfield 294, 3) := by decide +kernel
theorem dX7_toldOf_30 : decode cX7_toldOf 30 = .ok (.ireturn, 1) := by decide +kernel
theorem dX7_told_0 : decode cX7_told 0 = .ok (.iload_n 1, 1) := by decide +kernel
theorem dX7_told_1 : decode cX7_told 1 = .ok (.iconst 0, 1) := by decide +kernel
theorem dX7_told_2 : decode cX7_told 2 = .ok (.iconst 4, 1) := by decide +kernel
theorem dX7_told_3 : decode cX7_told 3 = .ok (.invokestatic 138, 3) := by decide +kernel
theorem dX7_told_6 : decode cX7_told 6 = .ok (.ifCond .eq 11, 3) := by decide +kernel
theorem dX7_told_9 : decode cX7_told 9 = .ok (.aload_n 0, 1) := by decide +kernel
theorem dX7_told_10 : decode cX7_told 10 = .ok (.iload_n 1, 1) := by decide +kernel
theorem dX7_told_11 : decode cX7_told 11 = .ok (.invokevirtual 403, 3) := by decide +kernel
theorem dX7_told_14 : decode cX7_told 14 = .ok (.goto 7, 3) := by decide +kernel
theorem dX7_told_17 : decode cX7_told 17 = .ok (.aload_n 0, 1) := by decide +kernel
theorem dX7_told_18 : decode cX7_told 18 = .ok (.invokevirtual 331, 3) := by decide +kernel
theorem dX7_told_21 : decode cX7_told 21 = .ok (.ireturn, 1) := by decide +kernel
theorem dX7_digest_0 : decode cX7_digest 0 = .ok (.ldc2_w 406, 3) := by decide +kernel
theorem dX7_digest_3 : decode cX7_digest 3 = .ok (.lstore_n 1, 1) := by decide +kernel
theorem dX7_digest_4 : decode cX7_digest 4 = .ok (.iconst 0, 1) := by decide +kernel
theorem dX7_digest_5 : decode cX7_digest 5 = .ok (.istore_n 3, 1) := by decide +kernel
theorem dX7_digest_6 : decode cX7_digest 6 = .ok (.iload_n 3, 1) := by decide +kernel
theorem dX7_digest_7 : decode cX7_digest 7 = .ok (.iconst 5, 1) := by decide +kernel
theorem dX7_digest_8 : decode cX7_digest 8 = .ok (.if_icmp .ge 22, 3) := by decide +kernel
theorem dX7_digest_11 : decode cX7_digest 11 = .ok (.ldc2_w 408, 3) := by decide +kernel
theorem dX7_digest_14 : decode cX7_digest 14 = .ok (.lload_n 1, 1) := by decide +kernel
theorem dX7_digest_15 : decode cX7_digest 15 = .ok (.lmul, 1) := by decide +kernel
theorem dX7_digest_16 : decode cX7_digest 16 = .ok (.aload_n 0, 1) := by decide +kernel
theorem dX7_digest_17 : decode cX7_digest 17 = .ok (.iload_n 3, 1) := by decide +kernel
theorem dX7_digest_18 : decode cX7_digest 18 = .ok (.invokevirtual 403, 3) := by decide +kernel
theorem dX7_digest_21 : decode cX7_digest 21 = .ok (.i2l, 1) := by decide +kernel
theorem dX7_digest_22 : decode cX7_digest 22 = .ok (.ladd, 1) := by decide +kernel
theorem dX7_digest_23 : decode cX7_digest 23 = .ok (.lstore_n 1, 1) := by decide +kernel
theorem dX7_digest_24 : decode cX7_digest 24 = .ok (.iinc 3 1, 3) := by decide +kernel
theorem dX7_digest_27 : decode cX7_digest 27 = .ok (.goto (-21), 3) := by decide +kernel
theorem dX7_digest_30 : decode cX7_digest 30 = .ok (.iconst 0, 1) := by decide +kernel
theorem dX7_digest_31 : decode cX7_digest 31 = .ok (.istore_n 3, 1) := by decide +kernel
theorem dX7_digest_32 : decode cX7_digest 32 = .ok (.iload_n 3, 1) := by decide +kernel
theorem dX7_digest_33 : decode cX7_digest 33 = .ok (.bipush 6, 2) := by decide +kernel
theorem dX7_digest_35 : decode cX7_digest 35 = .ok (.if_icmp .ge 22, 3) := by decide +kernel
theorem dX7_digest_38 : decode cX7_digest 38 = .ok (.ldc2_w 408, 3) := by decide +kernel
theorem dX7_digest_41 : decode cX7_digest 41 = .ok (.lload_n 1, 1) := by decide +kernel
theorem dX7_digest_42 : decode cX7_digest 42 = .ok (.lmul, 1) := by decide +kernel
theorem dX7_digest_43 : decode cX7_digest 43 = .ok (.aload_n 0, 1) := by decide +kernel
theorem dX7_digest_44 : decode cX7_digest 44 = .ok (.iload_n 3, 1) := by decide +kernel
theorem dX7_digest_45 : decode cX7_digest 45 = .ok (.invokevirtual 382, 3) := by decide +kernel
theorem dX7_digest_48 : decode cX7_digest 48 = .ok (.i2l, 1) := by decide +kernel
theorem dX7_digest_49 : decode cX7_digest 49 = .ok (.ladd, 1) := by decide +kernel
theorem dX7_digest_50 : decode cX7_digest 50 = .ok (.lstore_n 1, 1) := by decide +kernel
theorem dX7_digest_51 : decode cX7_digest 51 = .ok (.iinc 3 1, 3) := by decide +kernel
theorem dX7_digest_54 : decode cX7_digest 54 = .ok (.goto (-22), 3) := by decide +kernel
theorem dX7_digest_57 : decode cX7_digest 57 = .ok (.aload_n 0, 1) := by decide +kernel
theorem dX7_digest_58 : decode cX7_digest 58 = .ok (.invokevirtual 306, 3) := by decide +kernel
theorem dX7_digest_61 : decode cX7_digest 61 = .ok (.istore_n 3, 1) := by decide +kernel
theorem dX7_digest_62 : decode cX7_digest 62 = .ok (.iconst 0, 1) := by decide +kernel
theorem dX7_digest_63 : decode cX7_digest 63 = .ok (.istore 4, 2) := by decide +kernel
theorem dX7_digest_65 : decode cX7_digest 65 = .ok (.iload 4, 2) := by decide +kernel
theorem dX7_digest_67 : decode cX7_digest 67 = .ok (.iload_n 3, 1) := by decide +kernel
theorem dX7_digest_68 : decode cX7_digest 68 = .ok (.if_icmp .ge 23, 3) := by decide +kernel
theorem dX7_digest_71 : decode cX7_digest 71 = .ok (.ldc2_w 408, 3) := by decide +kernel
theorem dX7_digest_74 : decode cX7_digest 74 = .ok (.lload_n 1, 1) := by decide +kernel
theorem dX7_digest_75 : decode cX7_digest 75 = .ok (.lmul, 1) := by decide +kernel
theorem dX7_digest_76 : decode cX7_digest 76 = .ok (.aload_n 0, 1) := by decide +kernel
theorem dX7_digest_77 : decode cX7_digest 77 = .ok (.iload 4, 2) := by decide +kernel
theorem dX7_digest_79 : decode cX7_digest 79 = .ok (.invokevirtual 376, 3) := by decide +kernel
theorem dX7_digest_82 : decode cX7_digest 82 = .ok (.i2l, 1) := by decide +kernel
theorem dX7_digest_83 : decode cX7_digest 83 = .ok (.ladd, 1) := by decide +kernel
theorem dX7_digest_84 : decode cX7_digest 84 = .ok (.lstore_n 1, 1) := by decide +kernel
theorem dX7_digest_85 : decode cX7_digest 85 = .ok (.iinc 4 1, 3) := by decide +kernel
theorem dX7_digest_88 : decode cX7_digest 88 = .ok (.goto (-23), 3) := by decide +kernel
theorem dX7_digest_91 : decode cX7_digest 91 = .ok (.iconst 0, 1) := by decide +kernel
theorem dX7_digest_92 : decode cX7_digest 92 = .ok (.istore 4, 2) := by decide +kernel
theorem dX7_digest_94 : decode cX7_digest 94 = .ok (.iload 4, 2) := by decide +kernel
theorem dX7_digest_96 : decode cX7_digest 96 = .ok (.bipush 50, 2) := by decide +kernel
theorem dX7_digest_98 : decode cX7_digest 98 = .ok (.if_icmp .ge 42, 3) := by decide +kernel
theorem dX7_digest_101 : decode cX7_digest 101 = .ok (.aload_n 0, 1) := by decide +kernel
theorem dX7_digest_102 : decode cX7_digest 102 = .ok (.getfield 257, 3) := by decide +kernel
theorem dX7_digest_105 : decode cX7_digest 105 = .ok (.ifCond .le 35, 3) := by decide +kernel
theorem dX7_digest_108 : decode cX7_digest 108 = .ok (.ldc2_w 408, 3) := by decide +kernel
theorem dX7_digest_111 : decode cX7_digest 111 = .ok (.lload_n 1, 1) := by decide +kernel
theorem dX7_digest_112 : decode cX7_digest 112 = .ok (.lmul, 1) := by decide +kernel
theorem dX7_digest_113 : decode cX7_digest 113 = .ok (.aload_n 0, 1) := by decide +kernel
theorem dX7_digest_114 : decode cX7_digest 114 = .ok (.aload_n 0, 1) := by decide +kernel
theorem dX7_digest_115 : decode cX7_digest 115 = .ok (.getfield 257, 3) := by decide +kernel
theorem dX7_digest_118 : decode cX7_digest 118 = .ok (.iconst 1, 1) := by decide +kernel
theorem dX7_digest_119 : decode cX7_digest 119 = .ok (.isub, 1) := by decide +kernel
theorem dX7_digest_120 : decode cX7_digest 120 = .ok (.iload 4, 2) := by decide +kernel
theorem dX7_digest_122 : decode cX7_digest 122 = .ok (.iconst 5, 1) := by decide +kernel
theorem dX7_digest_123 : decode cX7_digest 123 = .ok (.idiv, 1) := by decide +kernel
theorem dX7_digest_124 : decode cX7_digest 124 = .ok (.iload 4, 2) := by decide +kernel
theorem dX7_digest_126 : decode cX7_digest 126 = .ok (.iconst 5, 1) := by decide +kernel
theorem dX7_digest_127 : decode cX7_digest 127 = .ok (.irem, 1) := by decide +kernel
theorem dX7_digest_128 : decode cX7_digest 128 = .ok (.invokevirtual 391, 3) := by decide +kernel
theorem dX7_digest_131 : decode cX7_digest 131 = .ok (.i2l, 1) := by decide +kernel
theorem dX7_digest_132 : decode cX7_digest 132 = .ok (.ladd, 1) := by decide +kernel
theorem dX7_digest_133 : decode cX7_digest 133 = .ok (.lstore_n 1, 1) := by decide +kernel
theorem dX7_digest_134 : decode cX7_digest 134 = .ok (.iinc 4 1, 3) := by decide +kernel
theorem dX7_digest_137 : decode cX7_digest 137 = .ok (.goto (-43), 3) := by decide +kernel
theorem dX7_digest_140 : decode cX7_digest 140 = .ok (.lload_n 1, 1) := by decide +kernel
theorem dX7_digest_141 : decode cX7_digest 141 = .ok (.lreturn, 1) := by decide +kernel
theorem dL_law_0 : decode cL_law 0 = .ok (.new 7, 3) := by decide +kernel
theorem dL_law_3 : decode cL_law 3 = .ok (.dup, 1) := by decide +kernel
theorem dL_law_4 : decode cL_law 4 = .ok (.invokespecial 9, 3) := by decide +kernel
theorem dL_law_7 : decode cL_law 7 = .ok (.astore_n 1, 1) := by decide +kernel
theorem dL_law_8 : decode cL_law 8 = .ok (.new 10, 3) := by decide +kernel
theorem dL_law_11 : decode cL_law 11 = .ok (.dup, 1) := by decide +kernel
theorem dL_law_12 : decode cL_law 12 = .ok (.invokespecial 12, 3) := by decide +kernel
theorem dL_law_15 : decode cL_law 15 = .ok (.astore_n 2, 1) := by decide +kernel
theorem dL_law_16 : decode cL_law 16 = .ok (.iconst 0, 1) := by decide +kernel
theorem dL_law_17 : decode cL_law 17 = .ok (.istore_n 3, 1) := by decide +kernel
theorem dL_law_18 : decode cL_law 18 = .ok (.iload_n 3, 1) := by decide +kernel
theorem dL_law_19 : decode cL_law 19 = .ok (.aload_n 0, 1) := by decide +kernel
theorem dL_law_20 : decode cL_law 20 = .ok (.arraylength, 1) := by decide +kernel
theorem dL_law_21 : decode cL_law 21 = .ok (.iconst 4, 1) := by decide +kernel
theorem dL_law_22 : decode cL_law 22 = .ok (.isub, 1) := by decide +kernel
theorem dL_law_23 : decode cL_law 23 = .ok (.if_icmp .gt 643, 3) := by decide +kernel
theorem dL_law_26 : decode cL_law 26 = .ok (.aload_n 0, 1) := by decide +kernel
theorem dL_law_27 : decode cL_law 27 = .ok (.iload_n 3, 1) := by decide +kernel
theorem dL_law_28 : decode cL_law 28 = .ok (.iaload, 1) := by decide +kernel
theorem dL_law_29 : decode cL_law 29 = .ok (.bipush 31, 2) := by decide +kernel
theorem dL_law_31 : decode cL_law 31 = .ok (.iand, 1) := by decide +kernel
theorem dL_law_32 : decode cL_law 32 = .ok (.tableswitch 628 0 22 #[108, 131, 144, 167, 180, 203, 216, 229, 242, 265, 278, 301, 334, 357, 380, 413, 446, 489, 532, 545, 578, 591, 614], 108) := by decide +kernel
theorem dL_law_140 : decode cL_law 140 = .ok (.aload_n 1, 1) := by decide +kernel
theorem dL_law_141 : decode cL_law 141 = .ok (.aload_n 0, 1) := by decide +kernel
theorem dL_law_142 : decode cL_law 142 = .ok (.iload_n 3, 1) := by decide +kernel
theorem dL_law_143 : decode cL_law 143 = .ok (.iconst 1, 1) := by decide +kernel
theorem dL_law_144 : decode cL_law 144 = .ok (.iadd, 1) := by decide +kernel
theorem dL_law_145 : decode cL_law 145 = .ok (.iaload, 1) := by decide +kernel
theorem dL_law_146 : decode cL_law 146 = .ok (.invokevirtual 13, 3) := by decide +kernel
theorem dL_law_149 : decode cL_law 149 = .ok (.aload_n 2, 1) := by decide +kernel
theorem dL_law_150 : decode cL_law 150 = .ok (.aload_n 0, 1) := by decide +kernel
theorem dL_law_151 : decode cL_law 151 = .ok (.iload_n 3, 1) := by decide +kernel
theorem dL_law_152 : decode cL_law 152 = .ok (.iconst 1, 1) := by decide +kernel
theorem dL_law_153 : decode cL_law 153 = .ok (.iadd, 1) := by decide +kernel
theorem dL_law_154 : decode cL_law 154 = .ok (.iaload, 1) := by decide +kernel
theorem dL_law_155 : decode cL_law 155 = .ok (.invokevirtual 17, 3) := by decide +kernel
theorem dL_law_158 : decode cL_law 158 = .ok (.if_icmp .eq 502, 3) := by decide +kernel
theorem dL_law_161 : decode cL_law 161 = .ok (.iconst 0, 1) := by decide +kernel
theorem dL_law_162 : decode cL_law 162 = .ok (.ireturn, 1) := by decide +kernel
theorem dL_law_163 : decode cL_law 163 = .ok (.aload_n 1, 1) := by decide +kernel
theorem dL_law_164 : decode cL_law 164 = .ok (.invokevirtual 18, 3) := by decide +kernel
theorem dL_law_167 : decode cL_law 167 = .ok (.aload_n 2, 1) := by decide +kernel
theorem dL_law_168 : decode cL_law 168 = .ok (.invokevirtual 22, 3) := by decide +kernel
theorem dL_law_171 : decode cL_law 171 = .ok (.if_icmp .eq 489, 3) := by decide +kernel
theorem dL_law_174 : decode cL_law 174 = .ok (.iconst 0, 1) := by decide +kernel
theorem dL_law_175 : decode cL_law 175 = .ok (.ireturn, 1) := by decide +kernel
theorem dL_law_176 : decode cL_law 176 = .ok (.aload_n 1, 1) := by decide +kernel
theorem dL_law_177 : decode cL_law 177 = .ok (.aload_n 0, 1) := by decide +kernel
theorem dL_law_178 : decode cL_law 178 = .ok (.iload_n 3, 1) := by decide +kernel
theorem dL_law_179 : decode cL_law 179 = .ok (.iconst 1, 1) := by decide +kernel
theorem dL_law_180 : decode cL_law 180 = .ok (.iadd, 1) := by decide +kernel
theorem dL_law_181 : decode cL_law 181 = .ok (.iaload, 1) := by decide +kernel
theorem dL_law_182 : decode cL_law 182 = .ok (.invokevirtual 23, 3) := by decide +kernel
theorem dL_law_185 : decode cL_law 185 = .ok (.aload_n 2, 1) := by decide +kernel
theorem dL_law_186 : decode cL_law 186 = .ok (.aload_n 0, 1) := by decide +kernel
theorem dL_law_187 : decode cL_law 187 = .ok (.iload_n 3, 1) := by decide +kernel
theorem dL_law_188 : decode cL_law 188 = .ok (.iconst 1, 1) := by decide +kernel
theorem dL_law_189 : decode cL_law 189 = .ok (.iadd, 1) := by decide +kernel
theorem dL_law_190 : decode cL_law 190 = .ok (.iaload, 1) := by decide +kernel
theorem dL_law_191 : decode cL_law 191 = .ok (.invokevirtual 26, 3) := by decide +kernel
theorem dL_law_194 : decode cL_law 194 = .ok (.if_icmp .eq 466, 3) := by decide +kernel
theorem dL_law_197 : decode cL_law 197 = .ok (.iconst 0, 1) := by decide +kernel
theorem dL_law_198 : decode cL_law 198 = .ok (.ireturn, 1) := by decide +kernel
theorem dL_law_199 : decode cL_law 199 = .ok (.aload_n 1, 1) := by decide +kernel
theorem dL_law_200 : decode cL_law 200 = .ok (.invokevirtual 27, 3) := by decide +kernel
theorem dL_law_203 : decode cL_law 203 = .ok (.aload_n 2, 1) := by decide +kernel
theorem dL_law_204 : decode cL_law 204 = .ok (.invokevirtual 30, 3) := by decide +kernel
theorem dL_law_207 : decode cL_law 207 = .ok (.if_icmp .eq 453, 3) := by decide +kernel
theorem dL_law_210 : decode cL_law 210 = .ok (.iconst 0, 1) := by decide +kernel
theorem dL_law_211 : decode cL_law 211 = .ok (.ireturn, 1) := by decide +kernel
theorem dL_law_212 : decode cL_law 212 = .ok (.aload_n 1, 1) := by decide +kernel
theorem dL_law_213 : decode cL_law 213 = .ok (.aload_n 0, 1) := by decide +kernel
theorem dL_law_214 : decode cL_law 214 = .ok (.iload_n 3, 1) := by decide +kernel
theorem dL_law_215 : decode cL_law 215 = .ok (.iconst 1, 1) := by decide +kernel
theorem dL_law_216 : decode cL_law 216 = .ok (.iadd, 1) := by decide +kernel
theorem dL_law_217 : decode cL_law 217 = .ok (.iaload, 1) := by decide +kernel
theorem dL_law_218 : decode cL_law 218 = .ok (.invokevirtual 31, 3) := by decide +kernel
theorem dL_law_221 : decode cL_law 221 = .ok (.aload_n 2, 1) := by decide +kernel
theorem dL_law_222 : decode cL_law 222 = .ok (.aload_n 0, 1) := by decide +kernel
theorem dL_law_223 : decode cL_law 223 = .ok (.iload_n 3, 1) := by decide +kernel
theorem dL_law_224 : decode cL_law 224 = .ok (.iconst 1, 1) := by decide +kernel
theorem dL_law_225 : decode cL_law 225 = .ok (.iadd, 1) := by decide +kernel
theorem dL_law_226 : decode cL_law 226 = .ok (.iaload, 1) := by decide +kernel
theorem dL_law_227 : decode cL_law 227 = .ok (.invokevirtual 34, 3) := by decide +kernel
theorem dL_law_230 : decode cL_law 230 = .ok (.if_icmp .eq 430, 3) := by decide +kernel
theorem dL_law_233 : decode cL_law 233 = .ok (.iconst 0, 1) := by decide +kernel
theorem dL_law_234 : decode cL_law 234 = .ok (.ireturn, 1) := by decide +kernel
theorem dL_law_235 : decode cL_law 235 = .ok (.aload_n 1, 1) := by decide +kernel
theorem dL_law_236 : decode cL_law 236 = .ok (.invokevirtual 35, 3) := by decide +kernel
theorem dL_law_239 : decode cL_law 239 = .ok (.aload_n 2, 1) := by decide +kernel
theorem dL_law_240 : decode cL_law 240 = .ok (.invokevirtual 38, 3) := by decide +kernel
theorem dL_law_243 : decode cL_law 243 = .ok (.if_icmp .eq 417, 3) := by decide +kernel
theorem dL_law_246 : decode cL_law 246 = .ok (.iconst 0, 1) := by decide +kernel
theorem dL_law_247 : decode cL_law 247 = .ok (.ireturn, 1) := by decide +kernel
theorem dL_law_248 : decode cL_law 248 = .ok (.aload_n 1, 1) := by decide +kernel
theorem dL_law_249 : decode cL_law 249 = .ok (.invokevirtual 39, 3) := by decide +kernel
theorem dL_law_252 : decode cL_law 252 = .ok (.aload_n 2, 1) := by decide +kernel
theorem dL_law_253 : decode cL_law 253 = .ok (.invokevirtual 42, 3) := by decide +kernel
theorem dL_law_256 : decode cL_law 256 = .ok (.if_icmp .eq 404, 3) := by decide +kernel
theorem dL_law_259 : decode cL_law 259 = .ok (.iconst 0, 1) := by decide +kernel
theorem dL_law_260 : decode cL_law 260 = .ok (.ireturn, 1) := by decide +kernel
theorem dL_law_261 : decode cL_law 261 = .ok (.aload_n 1, 1) := by decide +kernel
theorem dL_law_262 : decode cL_law 262 = .ok (.invokevirtual 43, 3) := by decide +kernel
theorem dL_law_265 : decode cL_law 265 = .ok (.aload_n 2, 1) := by decide +kernel
theorem dL_law_266 : decode cL_law 266 = .ok (.invokevirtual 46, 3) := by decide +kernel
theorem dL_law_269 : decode cL_law 269 = .ok (.if_icmp .eq 391, 3) := by decide +kernel
theorem dL_law_272 : decode cL_law 272 = .ok (.iconst 0, 1) := by decide +kernel
theorem dL_law_273 : decode cL_law 273 = .ok (.ireturn, 1) := by decide +kernel
theorem dL_law_274 : decode cL_law 274 = .ok (.aload_n 1, 1) := by decide +kernel
theorem dL_law_275 : decode cL_law 275 = .ok (.aload_n 0, 1) := by decide +kernel
theorem dL_law_276 : decode cL_law 276 = .ok (.iload_n 3, 1) := by decide +kernel
theorem dL_law_277 : decode cL_law 277 = .ok (.iconst 1, 1) := by decide +kernel
theorem dL_law_278 : decode cL_law 278 = .ok (.iadd, 1) := by decide +kernel
theorem dL_law_279 : decode cL_law 279 = .ok (.iaload, 1) := by decide +kernel
theorem dL_law_280 : decode cL_law 280 = .ok (.invokevirtual 47, 3) := by decide +kernel
theorem dL_law_283 : decode cL_law 283 = .ok (.aload_n 2, 1) := by decide +kernel
theorem dL_law_284 : decode cL_law 284 = .ok (.aload_n 0, 1) := by decide +kernel
theorem dL_law_285 : decode cL_law 285 = .ok (.iload_n 3, 1) := by decide +kernel
theorem dL_law_286 : decode cL_law 286 = .ok (.iconst 1, 1) := by decide +kernel
theorem dL_law_287 : decode cL_law 287 = .ok (.iadd, 1) := by decide +kernel
theorem dL_law_288 : decode cL_law 288 = .ok (.iaload, 1) := by decide +kernel
theorem dL_law_289 : decode cL_law 289 = .ok (.invokevirtual 50, 3) := by decide +kernel
theorem dL_law_292 : decode cL_law 292 = .ok (.if_icmp .eq 368, 3) := by decide +kernel
theorem dL_law_295 : decode cL_law 295 = .ok (.iconst 0, 1) := by decide +kernel
theorem dL_law_296 : decode cL_law 296 = .ok (.ireturn, 1) := by decide +kernel
theorem dL_law_297 : decode cL_law 297 = .ok (.aload_n 1, 1) := by decide +kernel
theorem dL_law_298 : decode cL_law 298 = .ok (.invokevirtual 51, 3) := by decide +kernel
theorem dL_law_301 : decode cL_law 301 = .ok (.aload_n 2, 1) := by decide +kernel
theorem dL_law_302 : decode cL_law 302 = .ok (.invokevirtual 54, 3) := by decide +kernel
theorem dL_law_305 : decode cL_law 305 = .ok (.if_icmp .eq 355, 3) := by decide +kernel
theorem dL_law_308 : decode cL_law 308 = .ok (.iconst 0, 1) := by decide +kernel
theorem dL_law_309 : decode cL_law 309 = .ok (.ireturn, 1) := by decide +kernel
theorem dL_law_310 : decode cL_law 310 = .ok (.aload_n 1, 1) := by decide +kernel
theorem dL_law_311 : decode cL_law 311 = .ok (.aload_n 0, 1) := by decide +kernel
theorem dL_law_312 : decode cL_law 312 = .ok (.iload_n 3, 1) := by decide +kernel
theorem dL_law_313 : decode cL_law 313 = .ok (.iconst 1, 1) := by decide +kernel
theorem dL_law_314 : decode cL_law 314 = .ok (.iadd, 1) := by decide +kernel
theorem dL_law_315 : decode cL_law 315 = .ok (.iaload, 1) := by decide +kernel
theorem dL_law_316 : decode cL_law 316 = .ok (.invokevirtual 55, 3) := by decide +kernel
theorem dL_law_319 : decode cL_law 319 = .ok (.aload_n 2, 1) := by decide +kernel
theorem dL_law_320 : decode cL_law 320 = .ok (.aload_n 0, 1) := by decide +kernel
theorem dL_law_321 : decode cL_law 321 = .ok (.iload_n 3, 1) := by decide +kernel
theorem dL_law_322 : decode cL_law 322 = .ok (.iconst 1, 1) := by decide +kernel
theorem dL_law_323 : decode cL_law 323 = .ok (.iadd, 1) := by decide +kernel
theorem dL_law_324 : decode cL_law 324 = .ok (.iaload, 1) := by decide +kernel
theorem dL_law_325 : decode cL_law 325 = .ok (.invokevirtual 58, 3) := by decide +kernel
theorem dL_law_328 : decode cL_law 328 = .ok (.if_icmp .eq 332, 3) := by decide +kernel
theorem dL_law_331 : decode cL_law 331 = .ok (.iconst 0, 1) := by decide +kernel
theorem dL_law_332 : decode cL_law 332 = .ok (.ireturn, 1) := by decide +kernel
theorem dL_law_333 : decode cL_law 333 = .ok (.aload_n 1, 1) := by decide +kernel
theorem dL_law_334 : decode cL_law 334 = .ok (.aload_n 0, 1) := by decide +kernel
theorem dL_law_335 : decode cL_law 335 = .ok (.iload_n 3, 1) := by decide +kernel
theorem dL_law_336 : decode cL_law 336 = .ok (.iconst 1, 1) := by decide +kernel
theorem dL_law_337 : decode cL_law 337 = .ok (.iadd, 1) := by decide +kernel
theorem dL_law_338 : decode cL_law 338 = .ok (.iaload, 1) := by decide +kernel
theorem dL_law_339 : decode cL_law 339 = .ok (.aload_n 0, 1) := by decide +kernel
theorem dL_law_340 : decode cL_law 340 = .ok (.iload_n 3, 1) := by decide +kernel
theorem dL_law_341 : decode cL_law 341 = .ok (.iconst 2, 1) := by decide +kernel
theorem dL_law_342 : decode cL_law 342 = .ok (.iadd, 1) := by decide +kernel
theorem dL_law_343 : decode cL_law 343 = .ok (.iaload, 1) := by decide +kernel
theorem dL_law_344 : decode cL_law 344 = .ok (.invokevirtual 59, 3) := by decide +kernel
theorem dL_law_347 : decode cL_law 347 = .ok (.aload_n 2, 1) := by decide +kernel
theorem dL_law_348 : decode cL_law 348 = .ok (.aload_n 0, 1) := by decide +kernel
theorem dL_law_349 : decode cL_law 349 = .ok (.iload_n 3, 1) := by decide +kernel
theorem dL_law_350 : decode cL_law 350 = .ok (.iconst 1, 1) := by decide +kernel
theorem dL_law_351 : decode cL_law 351 = .ok (.iadd, 1) := by decide +kernel
theorem dL_law_352 : decode cL_law 352 = .ok (.iaload, 1) := by decide +kernel
theorem dL_law_353 : decode cL_law 353 = .ok (.aload_n 0, 1) := by decide +kernel
theorem dL_law_354 : decode cL_law 354 = .ok (.iload_n 3, 1) := by decide +kernel
theorem dL_law_355 : decode cL_law 355 = .ok (.iconst 2, 1) := by decide +kernel
theorem dL_law_356 : decode cL_law 356 = .ok (.iadd, 1) := by decide +kernel
theorem dL_law_357 : decode cL_law 357 = .ok (.iaload, 1) := by decide +kernel
theorem dL_law_358 : decode cL_law 358 = .ok (.invokevirtual 63, 3) := by decide +kernel
theorem dL_law_361 : decode cL_law 361 = .ok (.if_icmp .eq 299, 3) := by decide +kernel
theorem dL_law_364 : decode cL_law 364 = .ok (.iconst 0, 1) := by decide +kernel
theorem dL_law_365 : decode cL_law 365 = .ok (.ireturn, 1) := by decide +kernel
theorem dL_law_366 : decode cL_law 366 = .ok (.aload_n 1, 1) := by decide +kernel
theorem dL_law_367 : decode cL_law 367 = .ok (.aload_n 0, 1) := by decide +kernel
theorem dL_law_368 : decode cL_law 368 = .ok (.iload_n 3, 1) := by decide +kernel
theorem dL_law_369 : decode cL_law 369 = .ok (.iconst 1, 1) := by decide +kernel
theorem dL_law_370 : decode cL_law 370 = .ok (.iadd, 1) := by decide +kernel
theorem dL_law_371 : decode cL_law 371 = .ok (.iaload, 1) := by decide +kernel
theorem dL_law_372 : decode cL_law 372 = .ok (.invokevirtual 64, 3) := by decide +kernel
theorem dL_law_375 : decode cL_law 375 = .ok (.aload_n 2, 1) := by decide +kernel
theorem dL_law_376 : decode cL_law 376 = .ok (.aload_n 0, 1) := by decide +kernel
theorem dL_law_377 : decode cL_law 377 = .ok (.iload_n 3, 1) := by decide +kernel
theorem dL_law_378 : decode cL_law 378 = .ok (.iconst 1, 1) := by decide +kernel
theorem dL_law_379 : decode cL_law 379 = .ok (.iadd, 1) := by decide +kernel
theorem dL_law_380 : decode cL_law 380 = .ok (.iaload, 1) := by decide +kernel
theorem dL_law_381 : decode cL_law 381 = .ok (.invokevirtual 67, 3) := by decide +kernel
theorem dL_law_384 : decode cL_law 384 = .ok (.if_icmp .eq 276, 3) := by decide +kernel
theorem dL_law_387 : decode cL_law 387 = .ok (.iconst 0, 1) := by decide +kernel
theorem dL_law_388 : decode cL_law 388 = .ok (.ireturn, 1) := by decide +kernel
theorem dL_law_389 : decode cL_law 389 = .ok (.aload_n 1, 1) := by decide +kernel
theorem dL_law_390 : decode cL_law 390 = .ok (.aload_n 0, 1) := by decide +kernel
theorem dL_law_391 : decode cL_law 391 = .ok (.iload_n 3, 1) := by decide +kernel
theorem dL_law_392 : decode cL_law 392 = .ok (.iconst 1, 1) := by decide +kernel
theorem dL_law_393 : decode cL_law 393 = .ok (.iadd, 1) := by decide +kernel
theorem dL_law_394 : decode cL_law 394 = .ok (.iaload, 1) := by decide +kernel
theorem dL_law_395 : decode cL_law 395 = .ok (.invokevirtual 68, 3) := by decide +kernel
theorem dL_law_398 : decode cL_law 398 = .ok (.aload_n 2, 1) := by decide +kernel
theorem dL_law_399 : decode cL_law 399 = .ok (.aload_n 0, 1) := by decide +kernel
theorem dL_law_400 : decode cL_law 400 = .ok (.iload_n 3, 1) := by decide +kernel
theorem dL_law_401 : decode cL_law 401 = .ok (.iconst 1, 1) := by decide +kernel
theorem dL_law_402 : decode cL_law 402 = .ok (.iadd, 1) := by decide +kernel
theorem dL_law_403 : decode cL_law 403 = .ok (.iaload, 1) := by decide +kernel
theorem dL_law_404 : decode cL_law 404 = .ok (.invokevirtual 71, 3) := by decide +kernel
theorem dL_law_407 : decode cL_law 407 = .ok (.if_icmp .eq 253, 3) := by decide +kernel
theorem dL_law_410 : decode cL_law 410 = .ok (.iconst 0, 1) := by decide +kernel
theorem dL_law_411 : decode cL_law 411 = .ok (.ireturn, 1) := by decide +kernel
theorem dL_law_412 : decode cL_law 412 = .ok (.aload_n 1, 1) := by decide +kernel
theorem dL_law_413 : decode cL_law 413 = .ok (.aload_n 0, 1) := by decide +kernel
theorem dL_law_414 : decode cL_law 414 = .ok (.iload_n 3, 1) := by decide +kernel
theorem dL_law_415 : decode cL_law 415 = .ok (.iconst 1, 1) := by decide +kernel
theorem dL_law_416 : decode cL_law 416 = .ok (.iadd, 1) := by decide +kernel
theorem dL_law_417 : decode cL_law 417 = .ok (.iaload, 1) := by decide +kernel
theorem dL_law_418 : decode cL_law 418 = .ok (.aload_n 0, 1) := by decide +kernel
theorem dL_law_419 : decode cL_law 419 = .ok (.iload_n 3, 1) := by decide +kernel
theorem dL_law_420 : decode cL_law 420 = .ok (.iconst 2, 1) := by decide +kernel
theorem dL_law_421 : decode cL_law 421 = .ok (.iadd, 1) := by decide +kernel
theorem dL_law_422 : decode cL_law 422 = .ok (.iaload, 1) := by decide +kernel
theorem dL_law_423 : decode cL_law 423 = .ok (.invokevirtual 72, 3) := by decide +kernel
theorem dL_law_426 : decode cL_law 426 = .ok (.aload_n 2, 1) := by decide +kernel
theorem dL_law_427 : decode cL_law 427 = .ok (.aload_n 0, 1) := by decide +kernel
theorem dL_law_428 : decode cL_law 428 = .ok (.iload_n 3, 1) := by decide +kernel
theorem dL_law_429 : decode cL_law 429 = .ok (.iconst 1, 1) := by decide +kernel
theorem dL_law_430 : decode cL_law 430 = .ok (.iadd, 1) := by decide +kernel
theorem dL_law_431 : decode cL_law 431 = .ok (.iaload, 1) := by decide +kernel
theorem dL_law_432 : decode cL_law 432 = .ok (.aload_n 0, 1) := by decide +kernel
theorem dL_law_433 : decode cL_law 433 = .ok (.iload_n 3, 1) := by decide +kernel
theorem dL_law_434 : decode cL_law 434 = .ok (.iconst 2, 1) := by decide +kernel
theorem dL_law_435 : decode cL_law 435 = .ok (.iadd, 1) := by decide +kernel
theorem dL_law_436 : decode cL_law 436 = .ok (.iaload, 1) := by decide +kernel
theorem dL_law_437 : decode cL_law 437 = .ok (.invokevirtual 75, 3) := by decide +kernel
theorem dL_law_440 : decode cL_law 440 = .ok (.if_icmp .eq 220, 3) := by decide +kernel
theorem dL_law_443 : decode cL_law 443 = .ok (.iconst 0, 1) := by decide +kernel
theorem dL_law_444 : decode cL_law 444 = .ok (.ireturn, 1) := by decide +kernel
theorem dL_law_445 : decode cL_law 445 = .ok (.aload_n 1, 1) := by decide +kernel
theorem dL_law_446 : decode cL_law 446 = .ok (.aload_n 0, 1) := by decide +kernel
theorem dL_law_447 : decode cL_law 447 = .ok (.iload_n 3, 1) := by decide +kernel
theorem dL_law_448 : decode cL_law 448 = .ok (.iconst 1, 1) := by decide +kernel
theorem dL_law_449 : decode cL_law 449 = .ok (.iadd, 1) := by decide +kernel
theorem dL_law_450 : decode cL_law 450 = .ok (.iaload, 1) := by decide +kernel
theorem dL_law_451 : decode cL_law 451 = .ok (.aload_n 0, 1) := by decide +kernel
theorem dL_law_452 : decode cL_law 452 = .ok (.iload_n 3, 1) := by decide +kernel
theorem dL_law_453 : decode cL_law 453 = .ok (.iconst 2, 1) := by decide +kernel
theorem dL_law_454 : decode cL_law 454 = .ok (.iadd, 1) := by decide +kernel
theorem dL_law_455 : decode cL_law 455 = .ok (.iaload, 1) := by decide +kernel
theorem dL_law_456 : decode cL_law 456 = .ok (.invokevirtual 76, 3) := by decide +kernel
theorem dL_law_459 : decode cL_law 459 = .ok (.aload_n 2, 1) := by decide +kernel
theorem dL_law_460 : decode cL_law 460 = .ok (.aload_n 0, 1) := by decide +kernel
theorem dL_law_461 : decode cL_law 461 = .ok (.iload_n 3, 1) := by decide +kernel
theorem dL_law_462 : decode cL_law 462 = .ok (.iconst 1, 1) := by decide +kernel
theorem dL_law_463 : decode cL_law 463 = .ok (.iadd, 1) := by decide +kernel
theorem dL_law_464 : decode cL_law 464 = .ok (.iaload, 1) := by decide +kernel
theorem dL_law_465 : decode cL_law 465 = .ok (.aload_n 0, 1) := by decide +kernel
theorem dL_law_466 : decode cL_law 466 = .ok (.iload_n 3, 1) := by decide +kernel
theorem dL_law_467 : decode cL_law 467 = .ok (.iconst 2, 1) := by decide +kernel
theorem dL_law_468 : decode cL_law 468 = .ok (.iadd, 1) := by decide +kernel
theorem dL_law_469 : decode cL_law 469 = .ok (.iaload, 1) := by decide +kernel
theorem dL_law_470 : decode cL_law 470 = .ok (.invokevirtual 79, 3) := by decide +kernel
theorem dL_law_473 : decode cL_law 473 = .ok (.if_icmp .eq 187, 3) := by decide +kernel
theorem dL_law_476 : decode cL_law 476 = .ok (.iconst 0, 1) := by decide +kernel
theorem dL_law_477 : decode cL_law 477 = .ok (.ireturn, 1) := by decide +kernel
theorem dL_law_478 : decode cL_law 478 = .ok (.aload_n 1, 1) := by decide +kernel
theorem dL_law_479 : decode cL_law 479 = .ok (.aload_n 0, 1) := by decide +kernel
theorem dL_law_480 : decode cL_law 480 = .ok (.iload_n 3, 1) := by decide +kernel
theorem dL_law_481 : decode cL_law 481 = .ok (.iconst 1, 1) := by decide +kernel
theorem dL_law_482 : decode cL_law 482 = .ok (.iadd, 1) := by decide +kernel
theorem dL_law_483 : decode cL_law 483 = .ok (.iaload, 1) := by decide +kernel
theorem dL_law_484 : decode cL_law 484 = .ok (.aload_n 0, 1) := by decide +kernel
theorem dL_law_485 : decode cL_law 485 = .ok (.iload_n 3, 1) := by decide +kernel
theorem dL_law_486 : decode cL_law 486 = .ok (.iconst 2, 1) := by decide +kernel
theorem dL_law_487 : decode cL_law 487 = .ok (.iadd, 1) := by decide +kernel
theorem dL_law_488 : decode cL_law 488 = .ok (.iaload, 1) := by decide +kernel
theorem dL_law_489 : decode cL_law 489 = .ok (.aload_n 0, 1) := by decide +kernel
theorem dL_law_490 : decode cL_law 490 = .ok (.iload_n 3, 1) := by decide +kernel
theorem dL_law_491 : decode cL_law 491 = .ok (.iconst 3, 1) := by decide +kernel
theorem dL_law_492 : decode cL_law 492 = .ok (.iadd, 1) := by decide +kernel
theorem dL_law_493 : decode cL_law 493 = .ok (.iaload, 1) := by decide +kernel
theorem dL_law_494 : decode cL_law 494 = .ok (.invokevirtual 80, 3) := by decide +kernel
theorem dL_law_497 : decode cL_law 497 = .ok (.aload_n 2, 1) := by decide +kernel
theorem dL_law_498 : decode cL_law 498 = .ok (.aload_n 0, 1) := by decide +kernel
theorem dL_law_499 : decode cL_law 499 = .ok (.iload_n 3, 1) := by decide +kernel
theorem dL_law_500 : decode cL_law 500 = .ok (.iconst 1, 1) := by decide +kernel
theorem dL_law_501 : decode cL_law 501 = .ok (.iadd, 1) := by decide +kernel
theorem dL_law_502 : decode cL_law 502 = .ok (.iaload, 1) := by decide +kernel
theorem dL_law_503 : decode cL_law 503 = .ok (.aload_n 0, 1) := by decide +kernel
theorem dL_law_504 : decode cL_law 504 = .ok (.iload_n 3, 1) := by decide +kernel
theorem dL_law_505 : decode cL_law 505 = .ok (.iconst 2, 1) := by decide +kernel
theorem dL_law_506 : decode cL_law 506 = .ok (.iadd, 1) := by decide +kernel
theorem dL_law_507 : decode cL_law 507 = .ok (.iaload, 1) := by decide +kernel
theorem dL_law_508 : decode cL_law 508 = .ok (.aload_n 0, 1) := by decide +kernel
theorem dL_law_509 : decode cL_law 509 = .ok (.iload_n 3, 1) := by decide +kernel
theorem dL_law_510 : decode cL_law 510 = .ok (.iconst 3, 1) := by decide +kernel
theorem dL_law_511 : decode cL_law 511 = .ok (.iadd, 1) := by decide +kernel
theorem dL_law_512 : decode cL_law 512 = .ok (.iaload, 1) := by decide +kernel
theorem dL_law_513 : decode cL_law 513 = .ok (.invokevirtual 84, 3) := by decide +kernel
theorem dL_law_516 : decode cL_law 516 = .ok (.if_icmp .eq 144, 3) := by decide +kernel
theorem dL_law_519 : decode cL_law 519 = .ok (.iconst 0, 1) := by decide +kernel
theorem dL_law_520 : decode cL_law 520 = .ok (.ireturn, 1) := by decide +kernel
theorem dL_law_521 : decode cL_law 521 = .ok (.aload_n 1, 1) := by decide +kernel
theorem dL_law_522 : decode cL_law 522 = .ok (.aload_n 0, 1) := by decide +kernel
theorem dL_law_523 : decode cL_law 523 = .ok (.iload_n 3, 1) := by decide +kernel
theorem dL_law_524 : decode cL_law 524 = .ok (.iconst 1, 1) := by decide +kernel
theorem dL_law_525 : decode cL_law 525 = .ok (.iadd, 1) := by decide +kernel
theorem dL_law_526 : decode cL_law 526 = .ok (.iaload, 1) := by decide +kernel
theorem dL_law_527 : decode cL_law 527 = .ok (.aload_n 0, 1) := by decide +kernel
theorem dL_law_528 : decode cL_law 528 = .ok (.iload_n 3, 1) := by decide +kernel
theorem dL_law_529 : decode cL_law 529 = .ok (.iconst 2, 1) := by decide +kernel
theorem dL_law_530 : decode cL_law 530 = .ok (.iadd, 1) := by decide +kernel
theorem dL_law_531 : decode cL_law 531 = .ok (.iaload, 1) := by decide +kernel
theorem dL_law_532 : decode cL_law 532 = .ok (.aload_n 0, 1) := by decide +kernel
theorem dL_law_533 : decode cL_law 533 = .ok (.iload_n 3, 1) := by decide +kernel
theorem dL_law_534 : decode cL_law 534 = .ok (.iconst 3, 1) := by decide +kernel
theorem dL_law_535 : decode cL_law 535 = .ok (.iadd, 1) := by decide +kernel
theorem dL_law_536 : decode cL_law 536 = .ok (.iaload, 1) := by decide +kernel
theorem dL_law_537 : decode cL_law 537 = .ok (.invokevirtual 85, 3) := by decide +kernel
theorem dL_law_540 : decode cL_law 540 = .ok (.aload_n 2, 1) := by decide +kernel
theorem dL_law_541 : decode cL_law 541 = .ok (.aload_n 0, 1) := by decide +kernel
theorem dL_law_542 : decode cL_law 542 = .ok (.iload_n 3, 1) := by decide +kernel
theorem dL_law_543 : decode cL_law 543 = .ok (.iconst 1, 1) := by decide +kernel
theorem dL_law_544 : decode cL_law 544 = .ok (.iadd, 1) := by decide +kernel
theorem dL_law_545 : decode cL_law 545 = .ok (.iaload, 1) := by decide +kernel
theorem dL_law_546 : decode cL_law 546 = .ok (.aload_n 0, 1) := by decide +kernel
theorem dL_law_547 : decode cL_law 547 = .ok (.iload_n 3, 1) := by decide +kernel
theorem dL_law_548 : decode cL_law 548 = .ok (.iconst 2, 1) := by decide +kernel
theorem dL_law_549 : decode cL_law 549 = .ok (.iadd, 1) := by decide +kernel
theorem dL_law_550 : decode cL_law 550 = .ok (.iaload, 1) := by decide +kernel
theorem dL_law_551 : decode cL_law 551 = .ok (.aload_n 0, 1) := by decide +kernel
theorem dL_law_552 : decode cL_law 552 = .ok (.iload_n 3, 1) := by decide +kernel
theorem dL_law_553 : decode cL_law 553 = .ok (.iconst 3, 1) := by decide +kernel
theorem dL_law_554 : decode cL_law 554 = .ok (.iadd, 1) := by decide +kernel
theorem dL_law_555 : decode cL_law 555 = .ok (.iaload, 1) := by decide +kernel
theorem dL_law_556 : decode cL_law 556 = .ok (.invokevirtual 88, 3) := by decide +kernel
theorem dL_law_559 : decode cL_law 559 = .ok (.if_icmp .eq 101, 3) := by decide +kernel
theorem dL_law_562 : decode cL_law 562 = .ok (.iconst 0, 1) := by decide +kernel
theorem dL_law_563 : decode cL_law 563 = .ok (.ireturn, 1) := by decide +kernel
theorem dL_law_564 : decode cL_law 564 = .ok (.aload_n 1, 1) := by decide +kernel
theorem dL_law_565 : decode cL_law 565 = .ok (.invokevirtual 89, 3) := by decide +kernel
theorem dL_law_568 : decode cL_law 568 = .ok (.aload_n 2, 1) := by decide +kernel
theorem dL_law_569 : decode cL_law 569 = .ok (.invokevirtual 92, 3) := by decide +kernel
theorem dL_law_572 : decode cL_law 572 = .ok (.if_icmp .eq 88, 3) := by decide +kernel
theorem dL_law_575 : decode cL_law 575 = .ok (.iconst 0, 1) := by decide +kernel
theorem dL_law_576 : decode cL_law 576 = .ok (.ireturn, 1) := by decide +kernel
theorem dL_law_577 : decode cL_law 577 = .ok (.aload_n 1, 1) := by decide +kernel
theorem dL_law_578 : decode cL_law 578 = .ok (.aload_n 0, 1) := by decide +kernel
theorem dL_law_579 : decode cL_law 579 = .ok (.iload_n 3, 1) := by decide +kernel
theorem dL_law_580 : decode cL_law 580 = .ok (.iconst 1, 1) := by decide +kernel
theorem dL_law_581 : decode cL_law 581 = .ok (.iadd, 1) := by decide +kernel
theorem dL_law_582 : decode cL_law 582 = .ok (.iaload, 1) := by decide +kernel
theorem dL_law_583 : decode cL_law 583 = .ok (.aload_n 0, 1) := by decide +kernel
theorem dL_law_584 : decode cL_law 584 = .ok (.iload_n 3, 1) := by decide +kernel
theorem dL_law_585 : decode cL_law 585 = .ok (.iconst 2, 1) := by decide +kernel
theorem dL_law_586 : decode cL_law 586 = .ok (.iadd, 1) := by decide +kernel
theorem dL_law_587 : decode cL_law 587 = .ok (.iaload, 1) := by decide +kernel
theorem dL_law_588 : decode cL_law 588 = .ok (.invokevirtual 93, 3) := by decide +kernel
theorem dL_law_591 : decode cL_law 591 = .ok (.aload_n 2, 1) := by decide +kernel
theorem dL_law_592 : decode cL_law 592 = .ok (.aload_n 0, 1) := by decide +kernel
theorem dL_law_593 : decode cL_law 593 = .ok (.iload_n 3, 1) := by decide +kernel
theorem dL_law_594 : decode cL_law 594 = .ok (.iconst 1, 1) := by decide +kernel
theorem dL_law_595 : decode cL_law 595 = .ok (.iadd, 1) := by decide +kernel
theorem dL_law_596 : decode cL_law 596 = .ok (.iaload, 1) := by decide +kernel
theorem dL_law_597 : decode cL_law 597 = .ok (.aload_n 0, 1) := by decide +kernel
theorem dL_law_598 : decode cL_law 598 = .ok (.iload_n 3, 1) := by decide +kernel
theorem dL_law_599 : decode cL_law 599 = .ok (.iconst 2, 1) := by decide +kernel
theorem dL_law_600 : decode cL_law 600 = .ok (.iadd, 1) := by decide +kernel
theorem dL_law_601 : decode cL_law 601 = .ok (.iaload, 1) := by decide +kernel
theorem dL_law_602 : decode cL_law 602 = .ok (.invokevirtual 96, 3) := by decide +kernel
theorem dL_law_605 : decode cL_law 605 = .ok (.if_icmp .eq 55, 3) := by decide +kernel
theorem dL_law_608 : decode cL_law 608 = .ok (.iconst 0, 1) := by decide +kernel
theorem dL_law_609 : decode cL_law 609 = .ok (.ireturn, 1) := by decide +kernel
theorem dL_law_610 : decode cL_law 610 = .ok (.aload_n 1, 1) := by decide +kernel
theorem dL_law_611 : decode cL_law 611 = .ok (.invokevirtual 97, 3) := by decide +kernel
theorem dL_law_614 : decode cL_law 614 = .ok (.aload_n 2, 1) := by decide +kernel
theorem dL_law_615 : decode cL_law 615 = .ok (.invokevirtual 100, 3) := by decide +kernel
theorem dL_law_618 : decode cL_law 618 = .ok (.if_icmp .eq 42, 3) := by decide +kernel
theorem dL_law_621 : decode cL_law 621 = .ok (.iconst 0, 1) := by decide +kernel
theorem dL_law_622 : decode cL_law 622 = .ok (.ireturn, 1) := by decide +kernel
theorem dL_law_623 : decode cL_law 623 = .ok (.aload_n 1, 1) := by decide +kernel
theorem dL_law_624 : decode cL_law 624 = .ok (.aload_n 0, 1) := by decide +kernel
theorem dL_law_625 : decode cL_law 625 = .ok (.iload_n 3, 1) := by decide +kernel
theorem dL_law_626 : decode cL_law 626 = .ok (.iconst 1, 1) := by decide +kernel
theorem dL_law_627 : decode cL_law 627 = .ok (.iadd, 1) := by decide +kernel
theorem dL_law_628 : decode cL_law 628 = .ok (.iaload, 1) := by decide +kernel
theorem dL_law_629 : decode cL_law 629 = .ok (.invokevirtual 101, 3) := by decide +kernel
theorem dL_law_632 : decode cL_law 632 = .ok (.aload_n 2, 1) := by decide +kernel
theorem dL_law_633 : decode cL_law 633 = .ok (.aload_n 0, 1) := by decide +kernel
theorem dL_law_634 : decode cL_law 634 = .ok (.iload_n 3, 1) := by decide +kernel
theorem dL_law_635 : decode cL_law 635 = .ok (.iconst 1, 1) := by decide +kernel
theorem dL_law_636 : decode cL_law 636 = .ok (.iadd, 1) := by decide +kernel
theorem dL_law_637 : decode cL_law 637 = .ok (.iaload, 1) := by decide +kernel
theorem dL_law_638 : decode cL_law 638 = .ok (.invokevirtual 104, 3) := by decide +kernel
theorem dL_law_641 : decode cL_law 641 = .ok (.if_icmp .eq 19, 3) := by decide +kernel
theorem dL_law_644 : decode cL_law 644 = .ok (.iconst 0, 1) := by decide +kernel
theorem dL_law_645 : decode cL_law 645 = .ok (.ireturn, 1) := by decide +kernel
theorem dL_law_646 : decode cL_law 646 = .ok (.aload_n 1, 1) := by decide +kernel
theorem dL_law_647 : decode cL_law 647 = .ok (.invokevirtual 105, 3) := by decide +kernel
theorem dL_law_650 : decode cL_law 650 = .ok (.aload_n 2, 1) := by decide +kernel
theorem dL_law_651 : decode cL_law 651 = .ok (.invokevirtual 109, 3) := by decide +kernel
theorem dL_law_654 : decode cL_law 654 = .ok (.lcmp, 1) := by decide +kernel
theorem dL_law_655 : decode cL_law 655 = .ok (.ifCond .eq 5, 3) := by decide +kernel
theorem dL_law_658 : decode cL_law 658 = .ok (.iconst 0, 1) := by decide +kernel
theorem dL_law_659 : decode cL_law 659 = .ok (.ireturn, 1) := by decide +kernel
theorem dL_law_660 : decode cL_law 660 = .ok (.iinc 3 4, 3) := by decide +kernel
theorem dL_law_663 : decode cL_law 663 = .ok (.goto (-645), 3) := by decide +kernel
theorem dL_law_666 : decode cL_law 666 = .ok (.iconst 1, 1) := by decide +kernel
theorem dL_law_667 : decode cL_law 667 = .ok (.ireturn, 1) := by decide +kernel
end
section
theorem iT_1 : ∀ w ∈ tables_1_1, w ∈ lw_tbl := fun w h => List.mem_append_right _ (List.mem_append_left _ h)
theorem iT_2 : ∀ w ∈ tables_1_2, w ∈ lw_tbl := fun w h => List.mem_append_right _ (List.mem_append_right _ (List.mem_append_left _ h))
theorem iT_3 : ∀ w ∈ tables_1_3, w ∈ lw_tbl := fun w h => List.mem_append_right _ (List.mem_append_right _ (List.mem_append_right _ (List.mem_append_left _ h)))
theorem iT_4 : ∀ w ∈ tables_1_4, w ∈ lw_tbl := fun w h => List.mem_append_right _ (List.mem_append_right _ (List.mem_append_right _ (List.mem_append_right _ (List.mem_append_left _ h))))
theorem iT_5 : ∀ w ∈ tables_1_5, w ∈ lw_tbl := fun w h => List.mem_append_right _ (List.mem_append_right _ (List.mem_append_right _ (List.mem_append_right _ (List.mem_append_right _ (List.mem_append_left _ h)))))
theorem iT_6 : ∀ w ∈ tables_1_6, w ∈ lw_tbl := fun w h => List.mem_append_right _ (List.mem_append_right _ (List.mem_append_right _ (List.mem_append_right _ (List.mem_append_right _ (List.mem_append_right _ h)))))
theorem iP_1 : ∀ q ∈ lw_privs_1, Cond.selects q.1.cls q.1 q.1 ∈ lw_tbl := fun q h => List.mem_append_left _ (List.mem_map_of_mem (f := fun q : MethodName × Nat => Cond.selects q.1.cls q.1 q.1) (List.mem_append_left _ h))
theorem iP_2 : ∀ q ∈ lw_privs_2, Cond.selects q.1.cls q.1 q.1 ∈ lw_tbl := fun q h => List.mem_append_left _ (List.mem_map_of_mem (f := fun q : MethodName × Nat => Cond.selects q.1.cls q.1 q.1) (List.mem_append_right _ (List.mem_append_left _ h)))
theorem iP_3 : ∀ q ∈ lw_privs_3, Cond.selects q.1.cls q.1 q.1 ∈ lw_tbl := fun q h => List.mem_append_left _ (List.mem_map_of_mem (f := fun q : MethodName × Nat => Cond.selects q.1.cls q.1 q.1) (List.mem_append_right _ (List.mem_append_right _ (List.mem_append_left _ h))))
theorem iP_4 : ∀ q ∈ lw_privs_4, Cond.selects q.1.cls q.1 q.1 ∈ lw_tbl := fun q h => List.mem_append_left _ (List.mem_map_of_mem (f := fun q : MethodName × Nat => Cond.selects q.1.cls q.1 q.1) (List.mem_append_right _ (List.mem_append_right _ (List.mem_append_right _ (List.mem_append_left _ h)))))
theorem iP_5 : ∀ q ∈ lw_privs_5, Cond.selects q.1.cls q.1 q.1 ∈ lw_tbl := fun q h => List.mem_append_left _ (List.mem_map_of_mem (f := fun q : MethodName × Nat => Cond.selects q.1.cls q.1 q.1) (List.mem_append_right _ (List.mem_append_right _ (List.mem_append_right _ (List.mem_append_right _ (List.mem_append_left _ h))))))
theorem iP_6 : ∀ q ∈ lw_privs_6, Cond.selects q.1.cls q.1 q.1 ∈ lw_tbl := fun q h => List.mem_append_left _ (List.mem_map_of_mem (f := fun q : MethodName × Nat => Cond.selects q.1.cls q.1 q.1) (List.mem_append_right _ (List.mem_append_right _ (List.mem_append_right _ (List.mem_append_right _ (List.mem_append_right _ (List.mem_append_left _ h)))))))
theorem iP_7 : ∀ q ∈ lw_privs_7, Cond.selects q.1.cls q.1 q.1 ∈ lw_tbl := fun q h => List.mem_append_left _ (List.mem_map_of_mem (f := fun q : MethodName × Nat => Cond.selects q.1.cls q.1 q.1) (List.mem_append_right _ (List.mem_append_right _ (List.mem_append_right _ (List.mem_append_right _ (List.mem_append_right _ (List.mem_append_right _ h)))))))
def wl_0 : List Cond := [Cond.instanceMethod objectInit, Cond.code objectInit ⟨#[0xb1]⟩ 1 none, Cond.arrayClass .byte, Cond.arrayClass .int, Cond.arrayClass .boolean, Cond.static Lib.Math.min.name, Cond.initialized "java/lang/Math", Cond.code Lib.Math.min.name Lib.Math.min.code 2 (some .int), Cond.native arraycopyName, Cond.static arraycopyName, Cond.initialized "java/lang/System", Cond.initialized RX0, Cond.instantiable RX0 10, Cond.initialized RX1, Cond.instantiable RX1 10, Cond.initialized RX2, Cond.instantiable RX2 3, Cond.initialized RX3, Cond.instantiable RX3 8, Cond.initialized RX4, Cond.instantiable RX4 6, Cond.initialized RX5, Cond.instantiable RX5 4, Cond.initialized RX6]
def wl_1 : List Cond := [Cond.instantiable RX6 9, Cond.initialized RX7, Cond.instantiable RX7 45, Cond.methodLink RX2 3 objectInit, Cond.fieldLink RX2 9 "SnippetStops$Row" "bytes" "[B", Cond.fieldLink RX2 15 "SnippetStops$Row" "size" "I", Cond.fieldLink RX2 19 "SnippetStops$Row" "room" "I", Cond.methodLink RX2 22 yX2_widen, Cond.code yX2_widen cX2_widen 5 none, Cond.instanceMethod yX2_widen, Cond.selects RX2 yX2_widen yX2_widen, Cond.methodLink RX2 26 yX2_put, Cond.code yX2_put cX2_put 3 none, Cond.instanceMethod yX2_put, Cond.selects RX2 yX2_put yX2_put, Cond.methodLink RX2 30 Lib.Math.min.name, Cond.methodLink RX2 36 arraycopyName, Cond.methodLink RX2 42 yX2_addPart, Cond.code yX2_addPart cX2_addPart 5 none, Cond.instanceMethod yX2_addPart, Cond.selects RX2 yX2_addPart yX2_addPart, Cond.methodLink RX2 46 yX2_add, Cond.code yX2_add cX2_add 2 none, Cond.instanceMethod yX2_add]
def wl_2 : List Cond := [Cond.selects RX2 yX2_add yX2_add, Cond.methodLink RX2 49 yX2_get, Cond.code yX2_get cX2_get 2 (some .int), Cond.instanceMethod yX2_get, Cond.selects RX2 yX2_get yX2_get, Cond.methodLink RX5 3 objectInit, Cond.classLink RX5 9 RX2, Cond.methodLink RX5 11 yX2_init, Cond.code yX2_init cX2_init 2 none, Cond.instanceMethod yX2_init, Cond.fieldLink RX5 14 "SnippetStops$Template" "codes" "LSnippetStops$Row;", Cond.classLink RX5 20 RX0, Cond.fieldLink RX5 22 "SnippetStops$Template" "occurrences" "[LSnippetStops$Occurrence;", Cond.fieldLink RX5 26 "SnippetStops$Template" "occurrenceCount" "I", Cond.fieldLink RX5 30 "SnippetStops$Template" "masters" "[LSnippetStops$Occurrence;", Cond.fieldLink RX5 58 "SnippetStops$Occurrence" "hasDefault" "Z", Cond.fieldLink RX5 62 "SnippetStops$Occurrence" "choices" "I", Cond.fieldLink RX5 69 "SnippetStops$Occurrence" "rule" "I", Cond.methodLink RX3 3 objectInit, Cond.fieldLink RX3 9 "SnippetStops$Session" "stop" "I", Cond.fieldLink RX3 15 "SnippetStops$Session" "fresh" "Z", Cond.fieldLink RX3 19 "SnippetStops$Session" "set" "[Z", Cond.classLink RX3 23 RX2, Cond.fieldLink RX3 25 "SnippetStops$Session" "setTo" "[LSnippetStops$Row;"]
def wl_3 : List Cond := [Cond.classLink RX3 10 RX3, Cond.fieldLink RX3 29 "SnippetStops$Session" "before" "[LSnippetStops$Session;", Cond.fieldLink RX3 33 "SnippetStops$Session" "begins" "[I", Cond.fieldLink RX3 37 "SnippetStops$Session" "lengths" "[I", Cond.fieldLink RX3 40 "SnippetStops$Session" "template" "LSnippetStops$Template;", Cond.methodLink RX3 44 yX2_init, Cond.methodLink RX3 51 yX3_leastAbove, Cond.code yX3_leastAbove cX3_leastAbove 3 (some .int), Cond.instanceMethod yX3_leastAbove, Cond.selects RX3 yX3_leastAbove yX3_leastAbove, Cond.methodLink RX3 55 yX3_comeTo, Cond.code yX3_comeTo cX3_comeTo 2 none, Cond.instanceMethod yX3_comeTo, Cond.selects RX3 yX3_comeTo yX3_comeTo, Cond.methodLink RX3 89 yX3_occurrencesThere, Cond.code yX3_occurrencesThere cX3_occurrencesThere 5 (some .int), Cond.instanceMethod yX3_occurrencesThere, Cond.selects RX3 yX3_occurrencesThere yX3_occurrencesThere, Cond.methodLink RX3 78 yX5_size, Cond.code yX5_size cX5_size 1 (some .int), Cond.instanceMethod yX5_size, Cond.selects RX5 yX5_size yX5_size, Cond.fieldLink RX3 74 "SnippetStops$Occurrence" "stop" "I", Cond.methodLink RX3 139 yX3_putItems]
def wl_4 : List Cond := [Cond.code yX3_putItems cX3_putItems 11 none, Cond.instanceMethod yX3_putItems, Cond.selects RX3 yX3_putItems yX3_putItems, Cond.fieldLink RX3 143 "SnippetStops$Occurrence" "begin" "I", Cond.fieldLink RX3 146 "SnippetStops$Template" "codes" "LSnippetStops$Row;", Cond.methodLink RX3 104 yX2_size, Cond.code yX2_size cX2_size 1 (some .int), Cond.instanceMethod yX2_size, Cond.selects RX2 yX2_size yX2_size, Cond.fieldLink RX3 150 "SnippetStops$Occurrence" "end" "I", Cond.methodLink RX3 153 yX2_get, Cond.methodLink RX3 101 yX2_add, Cond.methodLink RX3 161 Lib.Math.max.name, Cond.methodLink RX4 3 objectInit, Cond.classLink RX4 9 RX2, Cond.methodLink RX4 11 yX2_init, Cond.fieldLink RX4 14 "SnippetStops$State" "plain" "LSnippetStops$Row;", Cond.fieldLink RX4 20 "SnippetStops$State" "caret" "I", Cond.fieldLink RX4 24 "SnippetStops$State" "variables" "[LSnippetStops$Row;", Cond.classLink RX4 28 RX3, Cond.fieldLink RX4 30 "SnippetStops$State" "sessions" "[LSnippetStops$Session;", Cond.fieldLink RX4 34 "SnippetStops$State" "open" "I", Cond.fieldLink RX4 37 "SnippetStops$State" "shown" "LSnippetStops$Row;", Cond.methodLink RX4 40 yX3_init]
def wl_5 : List Cond := [Cond.code yX3_init cX3_init 3 none, Cond.instanceMethod yX3_init, Cond.methodLink RX4 43 yX2_copyOf, Cond.code yX2_copyOf cX2_copyOf 2 none, Cond.instanceMethod yX2_copyOf, Cond.selects RX2 yX2_copyOf yX2_copyOf, Cond.methodLink RX4 50 yX3_begin, Cond.code yX3_begin cX3_begin 3 none, Cond.instanceMethod yX3_begin, Cond.selects RX3 yX3_begin yX3_begin, Cond.fieldLink RX4 53 "SnippetStops$Session" "stop" "I", Cond.methodLink RX4 56 yX4_uppermost, Cond.code yX4_uppermost cX4_uppermost 1 (some (.object "SnippetStops$Session")), Cond.instanceMethod yX4_uppermost, Cond.selects RX4 yX4_uppermost yX4_uppermost, Cond.methodLink RX4 63 yX4_settle, Cond.code yX4_settle cX4_settle 3 (some .boolean), Cond.instanceMethod yX4_settle, Cond.selects RX4 yX4_settle yX4_settle, Cond.fieldLink RX4 67 "SnippetStops$Session" "fresh" "Z", Cond.methodLink RX4 71 yX3_findThere, Cond.code yX3_findThere cX3_findThere 6 (some (.object "SnippetStops$Occurrence")), Cond.instanceMethod yX3_findThere, Cond.selects RX3 yX3_findThere yX3_findThere]
def wl_6 : List Cond := [Cond.methodLink RX4 75 yX2_size, Cond.methodLink RX4 83 yX2_insert, Cond.code yX2_insert cX2_insert 4 none, Cond.instanceMethod yX2_insert, Cond.selects RX2 yX2_insert yX2_insert, Cond.methodLink RX4 90 Lib.Math.min.name, Cond.methodLink RX4 99 yX2_empty, Cond.code yX2_empty cX2_empty 1 none, Cond.instanceMethod yX2_empty, Cond.selects RX2 yX2_empty yX2_empty, Cond.methodLink RX4 102 yX3_layOut, Cond.code yX3_layOut cX3_layOut 2 none, Cond.instanceMethod yX3_layOut, Cond.selects RX3 yX3_layOut yX3_layOut, Cond.methodLink RX4 112 yX2_addPart, Cond.methodLink RX1 3 objectInit, Cond.classLink RX1 9 RX5, Cond.fieldLink RX1 12 "SnippetStops$Reader" "template" "LSnippetStops$Template;", Cond.fieldLink RX1 18 "SnippetStops$Reader" "mode" "I", Cond.fieldLink RX1 22 "SnippetStops$Reader" "place" "I", Cond.fieldLink RX1 25 "SnippetStops$Reader" "fault" "I", Cond.fieldLink RX1 28 "SnippetStops$Reader" "number" "I", Cond.fieldLink RX1 31 "SnippetStops$Reader" "latest" "LSnippetStops$Occurrence;", Cond.fieldLink RX1 35 "SnippetStops$Reader" "within" "LSnippetStops$Occurrence;"]
def wl_7 : List Cond := [Cond.fieldLink RX1 38 "SnippetStops$Reader" "deep" "I", Cond.fieldLink RX1 41 "SnippetStops$Reader" "text" "LSnippetStops$Row;", Cond.fieldLink RX1 45 "SnippetStops$Reader" "variables" "[LSnippetStops$Row;", Cond.methodLink RX1 49 yX2_size, Cond.methodLink RX1 55 yX2_get, Cond.methodLink RX1 63 yX5_settleMasters, Cond.code yX5_settleMasters cX5_settleMasters 3 none, Cond.instanceMethod yX5_settleMasters, Cond.selects RX5 yX5_settleMasters yX5_settleMasters, Cond.methodLink RX6 3 objectInit, Cond.classLink RX6 9 RX2, Cond.methodLink RX6 11 yX2_init, Cond.fieldLink RX6 14 "SnippetStops" "text" "LSnippetStops$Row;", Cond.constant RX6 18 (65536), Cond.fieldLink RX6 19 "SnippetStops" "looked" "LSnippetStops$Row;", Cond.classLink RX6 22 RX4, Cond.fieldLink RX6 24 "SnippetStops" "past" "[LSnippetStops$State;", Cond.fieldLink RX6 28 "SnippetStops" "pastCount" "I", Cond.fieldLink RX6 32 "SnippetStops" "badCount" "I", Cond.fieldLink RX6 35 "SnippetStops" "noCount" "I", Cond.fieldLink RX6 38 "SnippetStops" "fullCount" "I", Cond.classLink RX6 41 RX5, Cond.methodLink RX6 44 yX4_init, Cond.code yX4_init cX4_init 3 none]
def wl_8 : List Cond := [Cond.instanceMethod yX4_init, Cond.fieldLink RX6 47 "SnippetStops" "now" "LSnippetStops$State;", Cond.fieldLink RX6 51 "SnippetStops" "draft" "LSnippetStops$State;", Cond.methodLink RX6 54 yX6_refuse, Cond.code yX6_refuse cX6_refuse 2 (some .int), Cond.instanceMethod yX6_refuse, Cond.selects RX6 yX6_refuse yX6_refuse, Cond.methodLink RX6 58 yX2_size, Cond.methodLink RX6 62 yX2_add, Cond.methodLink RX6 65 yX2_empty, Cond.methodLink RX6 68 yX6_isVariable, Cond.code yX6_isVariable cX6_isVariable 1 (some .boolean), Cond.static yX6_isVariable, Cond.methodLink RX6 72 yX6_canBeVariable, Cond.code yX6_canBeVariable cX6_canBeVariable 2 (some .boolean), Cond.static yX6_canBeVariable, Cond.methodLink RX6 76 yX4_copyOf, Cond.code yX4_copyOf cX4_copyOf 3 none, Cond.instanceMethod yX4_copyOf, Cond.selects RX4 yX4_copyOf yX4_copyOf, Cond.fieldLink RX6 80 "SnippetStops$State" "variables" "[LSnippetStops$Row;", Cond.methodLink RX6 84 yX2_copyOf, Cond.methodLink RX6 87 yX6_lands, Cond.code yX6_lands cX6_lands 3 (some .boolean)]
def wl_9 : List Cond := [Cond.instanceMethod yX6_lands, Cond.selects RX6 yX6_lands yX6_lands, Cond.classLink RX6 91 RX1, Cond.methodLink RX6 93 yX1_init, Cond.code yX1_init cX1_init 3 none, Cond.instanceMethod yX1_init, Cond.methodLink RX6 96 yX1_read, Cond.code yX1_read cX1_read 2 (some .int), Cond.instanceMethod yX1_read, Cond.selects RX1 yX1_read yX1_read, Cond.fieldLink RX6 99 "SnippetStops$State" "open" "I", Cond.fieldLink RX6 102 "SnippetStops$Reader" "template" "LSnippetStops$Template;", Cond.methodLink RX6 106 yX4_openSession, Cond.code yX4_openSession cX4_openSession 3 (some .int), Cond.instanceMethod yX4_openSession, Cond.selects RX4 yX4_openSession yX4_openSession, Cond.methodLink RX6 110 yX4_settle, Cond.methodLink RX6 113 yX4_endUppermost, Cond.code yX4_endUppermost cX4_endUppermost 5 none, Cond.instanceMethod yX4_endUppermost, Cond.selects RX4 yX4_endUppermost yX4_endUppermost, Cond.methodLink RX6 116 yX6_isShown, Cond.code yX6_isShown cX6_isShown 1 (some .boolean), Cond.static yX6_isShown]
def wl_10 : List Cond := [Cond.methodLink RX6 119 yX4_uppermost, Cond.methodLink RX6 123 yX4_insertAtCaret, Cond.code yX4_insertAtCaret cX4_insertAtCaret 2 none, Cond.instanceMethod yX4_insertAtCaret, Cond.selects RX4 yX4_insertAtCaret yX4_insertAtCaret, Cond.fieldLink RX6 131 "SnippetStops$State" "shown" "LSnippetStops$Row;", Cond.fieldLink RX6 134 "SnippetStops$State" "caret" "I", Cond.fieldLink RX6 137 "SnippetStops$Session" "stop" "I", Cond.methodLink RX6 151 yX3_leastAbove, Cond.methodLink RX6 166 yX2_get, Cond.fieldLink RX6 169 "SnippetStops$Session" "fresh" "Z", Cond.methodLink RX6 176 yX6_isStop, Cond.code yX6_isStop cX6_isStop 1 (some .boolean), Cond.static yX6_isStop, Cond.methodLink RX6 179 yX3_occurrencesThere, Cond.fieldLink RX6 185 "SnippetStops$Session" "template" "LSnippetStops$Template;", Cond.methodLink RX6 190 yX3_findThere, Cond.fieldLink RX6 204 "SnippetStops$Occurrence" "rule" "I", Cond.constantLong RX6 216 (1870), Cond.constantLong RX6 218 (31), Cond.methodLink RX6 220 yX6_told, Cond.code yX6_told cX6_told 2 (some .int), Cond.instanceMethod yX6_told, Cond.selects RX6 yX6_told yX6_told]
def wl_11 : List Cond := [Cond.methodLink RX6 223 yX6_count, Cond.code yX6_count cX6_count 3 (some .int), Cond.instanceMethod yX6_count, Cond.selects RX6 yX6_count yX6_count, Cond.methodLink RX6 226 yX6_stop, Cond.code yX6_stop cX6_stop 4 (some .int), Cond.instanceMethod yX6_stop, Cond.selects RX6 yX6_stop yX6_stop, Cond.methodLink RX7 1 objectInit, Cond.fieldLink RX7 7 "SnippetStopsModel" "refused" "[I", Cond.fieldLink RX7 13 "SnippetStopsModel" "document" "[I", Cond.fieldLink RX7 16 "SnippetStopsModel" "variables" "[I", Cond.fieldLink RX7 19 "SnippetStopsModel" "nodes" "[I", Cond.fieldLink RX7 22 "SnippetStopsModel" "node" "[I", Cond.fieldLink RX7 25 "SnippetStopsModel" "master" "[I", Cond.fieldLink RX7 28 "SnippetStopsModel" "isSet" "[I", Cond.fieldLink RX7 31 "SnippetStopsModel" "setMany" "[I", Cond.fieldLink RX7 34 "SnippetStopsModel" "setFrom" "[I", Cond.fieldLink RX7 37 "SnippetStopsModel" "setUsed" "[I", Cond.constant RX7 40 (72000), Cond.fieldLink RX7 41 "SnippetStopsModel" "setText" "[I", Cond.fieldLink RX7 44 "SnippetStopsModel" "atStop" "[I", Cond.fieldLink RX7 47 "SnippetStopsModel" "isFresh" "[I", Cond.fieldLink RX7 50 "SnippetStopsModel" "then" "[I"]
def wl_12 : List Cond := [Cond.fieldLink RX7 53 "SnippetStopsModel" "choiceMany" "[I", Cond.fieldLink RX7 56 "SnippetStopsModel" "choiceFrom" "[I", Cond.fieldLink RX7 59 "SnippetStopsModel" "choiceLong" "[I", Cond.fieldLink RX7 62 "SnippetStopsModel" "choiceBytes" "[I", Cond.fieldLink RX7 65 "SnippetStopsModel" "text" "[I", Cond.fieldLink RX7 68 "SnippetStopsModel" "open" "[I", Cond.fieldLink RX7 71 "SnippetStopsModel" "shown" "[I", Cond.fieldLink RX7 74 "SnippetStopsModel" "nextNode" "[I", Cond.fieldLink RX7 77 "SnippetStopsModel" "endNode" "[I", Cond.fieldLink RX7 80 "SnippetStopsModel" "made" "[I", Cond.fieldLink RX7 83 "SnippetStopsModel" "beganAt" "[I", Cond.fieldLink RX7 86 "SnippetStopsModel" "ofNode" "[I", Cond.fieldLink RX7 89 "SnippetStopsModel" "isOwn" "[I", Cond.fieldLink RX7 92 "SnippetStopsModel" "begin" "[I", Cond.fieldLink RX7 95 "SnippetStopsModel" "size" "[I", Cond.fieldLink RX7 98 "SnippetStopsModel" "holding" "[I", Cond.constant RX7 101 (630000), Cond.fieldLink RX7 102 "SnippetStopsModel" "kept" "[I", Cond.fieldLink RX7 123 "SnippetStopsModel" "readAt" "I", Cond.fieldLink RX7 134 "SnippetStopsModel" "isFaulty" "Z", Cond.fieldLink RX7 176 "SnippetStopsModel" "occurrences" "I", Cond.fieldLink RX7 167 "SnippetStopsModel" "deep" "I", Cond.fieldLink RX7 127 "SnippetStopsModel" "length" "I", Cond.fieldLink RX7 210 "SnippetStopsModel" "levels" "I"]
def wl_13 : List Cond := [Cond.fieldLink RX7 194 "SnippetStopsModel" "many" "I", Cond.methodLink RX7 232 yX7_closes, Cond.code yX7_closes cX7_closes 5 none, Cond.instanceMethod yX7_closes, Cond.selects RX7 yX7_closes yX7_closes, Cond.fieldLink RX7 197 "SnippetStopsModel" "isTooMuch" "Z", Cond.methodLink RX7 228 yX7_opens, Cond.code yX7_opens cX7_opens 6 none, Cond.instanceMethod yX7_opens, Cond.selects RX7 yX7_opens yX7_opens, Cond.methodLink RX7 242 yX7_step, Cond.code yX7_step cX7_step 4 none, Cond.instanceMethod yX7_step, Cond.selects RX7 yX7_step yX7_step, Cond.fieldLink RX7 257 "SnippetStopsModel" "sessions" "I", Cond.methodLink RX7 260 yX7_showsAll, Cond.code yX7_showsAll cX7_showsAll 2 none, Cond.instanceMethod yX7_showsAll, Cond.selects RX7 yX7_showsAll yX7_showsAll, Cond.fieldLink RX7 269 "SnippetStopsModel" "keptAt" "I", Cond.constant RX7 278 (70000), Cond.methodLink RX7 272 yX7_put, Cond.code yX7_put cX7_put 2 none, Cond.instanceMethod yX7_put]
def wl_14 : List Cond := [Cond.selects RX7 yX7_put yX7_put, Cond.fieldLink RX7 279 "SnippetStopsModel" "bytes" "I", Cond.fieldLink RX7 282 "SnippetStopsModel" "caret" "I", Cond.fieldLink RX7 285 "SnippetStopsModel" "ahead" "I", Cond.fieldLink RX7 294 "SnippetStopsModel" "states" "I", Cond.methodLink RX7 297 yX7_copiesState, Cond.code yX7_copiesState cX7_copiesState 5 none, Cond.instanceMethod yX7_copiesState, Cond.selects RX7 yX7_copiesState yX7_copiesState, Cond.methodLink RX7 306 yX7_documentBytes, Cond.code yX7_documentBytes cX7_documentBytes 1 (some .int), Cond.instanceMethod yX7_documentBytes, Cond.selects RX7 yX7_documentBytes yX7_documentBytes, Cond.methodLink RX7 322 yX7_first, Cond.code yX7_first cX7_first 5 (some .int), Cond.instanceMethod yX7_first, Cond.selects RX7 yX7_first yX7_first, Cond.methodLink RX7 325 yX7_comesIn, Cond.code yX7_comesIn cX7_comesIn 4 none, Cond.instanceMethod yX7_comesIn, Cond.selects RX7 yX7_comesIn yX7_comesIn, Cond.methodLink RX7 138 yX7_in, Cond.code yX7_in cX7_in 3 (some .boolean), Cond.static yX7_in]
def wl_15 : List Cond := [Cond.methodLink RX7 328 yX7_isStopThere, Cond.code yX7_isStopThere cX7_isStopThere 5 (some .boolean), Cond.instanceMethod yX7_isStopThere, Cond.selects RX7 yX7_isStopThere yX7_isStopThere, Cond.methodLink RX7 331 yX7_bad, Cond.code yX7_bad cX7_bad 1 (some .int), Cond.instanceMethod yX7_bad, Cond.selects RX7 yX7_bad yX7_bad, Cond.methodLink RX7 334 yX7_writes, Cond.code yX7_writes cX7_writes 3 none, Cond.instanceMethod yX7_writes, Cond.selects RX7 yX7_writes yX7_writes, Cond.methodLink RX7 316 yX7_leavesState, Cond.code yX7_leavesState cX7_leavesState 2 none, Cond.instanceMethod yX7_leavesState, Cond.selects RX7 yX7_leavesState yX7_leavesState, Cond.methodLink RX7 337 yX7_settles, Cond.code yX7_settles cX7_settles 6 none, Cond.instanceMethod yX7_settles, Cond.selects RX7 yX7_settles yX7_settles, Cond.methodLink RX7 340 yX7_nextStop, Cond.code yX7_nextStop cX7_nextStop 5 (some .int), Cond.instanceMethod yX7_nextStop, Cond.selects RX7 yX7_nextStop yX7_nextStop]
def wl_16 : List Cond := [Cond.methodLink RX7 343 yX7_passesDown, Cond.code yX7_passesDown cX7_passesDown 2 none, Cond.instanceMethod yX7_passesDown, Cond.selects RX7 yX7_passesDown yX7_passesDown, Cond.methodLink RX7 346 yX7_reads, Cond.code yX7_reads cX7_reads 4 (some .boolean), Cond.instanceMethod yX7_reads, Cond.selects RX7 yX7_reads yX7_reads, Cond.methodLink RX7 300 yX7_no, Cond.code yX7_no cX7_no 1 (some .int), Cond.instanceMethod yX7_no, Cond.selects RX7 yX7_no yX7_no, Cond.methodLink RX7 349 yX7_begun, Cond.code yX7_begun cX7_begun 3 none, Cond.instanceMethod yX7_begun, Cond.selects RX7 yX7_begun yX7_begun, Cond.methodLink RX7 309 yX7_isTooLong, Cond.code yX7_isTooLong cX7_isTooLong 2 (some .boolean), Cond.instanceMethod yX7_isTooLong, Cond.selects RX7 yX7_isTooLong yX7_isTooLong, Cond.methodLink RX7 352 yX7_finishes, Cond.code yX7_finishes cX7_finishes 4 none, Cond.instanceMethod yX7_finishes, Cond.selects RX7 yX7_finishes yX7_finishes]
def wl_17 : List Cond := [Cond.methodLink RX7 382 yX7_countOf, Cond.code yX7_countOf cX7_countOf 3 (some .int), Cond.instanceMethod yX7_countOf, Cond.selects RX7 yX7_countOf yX7_countOf, Cond.methodLink RX7 403 yX7_toldOf, Cond.code yX7_toldOf cX7_toldOf 2 (some .int), Cond.instanceMethod yX7_toldOf, Cond.selects RX7 yX7_toldOf yX7_toldOf, Cond.constantLong RX7 406 (1870), Cond.constantLong RX7 408 (31), Cond.classLink RL 7 RX6, Cond.methodLink RL 9 yX6_init, Cond.code yX6_init cX6_init 3 none, Cond.instanceMethod yX6_init, Cond.classLink RL 10 RX7, Cond.methodLink RL 12 yX7_init, Cond.code yX7_init cX7_init 1 none, Cond.instanceMethod yX7_init, Cond.methodLink RL 13 yX6_type, Cond.code yX6_type cX6_type 2 (some .int), Cond.instanceMethod yX6_type, Cond.selects RX6 yX6_type yX6_type, Cond.methodLink RL 17 yX7_type, Cond.code yX7_type cX7_type 2 (some .int)]
def wl_18 : List Cond := [Cond.instanceMethod yX7_type, Cond.selects RX7 yX7_type yX7_type, Cond.methodLink RL 18 yX6_clear, Cond.code yX6_clear cX6_clear 2 (some .int), Cond.instanceMethod yX6_clear, Cond.selects RX6 yX6_clear yX6_clear, Cond.methodLink RL 22 yX7_clear, Cond.code yX7_clear cX7_clear 2 (some .int), Cond.instanceMethod yX7_clear, Cond.selects RX7 yX7_clear yX7_clear, Cond.methodLink RL 23 yX6_variable, Cond.code yX6_variable cX6_variable 2 (some .int), Cond.instanceMethod yX6_variable, Cond.selects RX6 yX6_variable yX6_variable, Cond.methodLink RL 26 yX7_variable, Cond.code yX7_variable cX7_variable 4 (some .int), Cond.instanceMethod yX7_variable, Cond.selects RX7 yX7_variable yX7_variable, Cond.methodLink RL 27 yX6_begins, Cond.code yX6_begins cX6_begins 4 (some .int), Cond.instanceMethod yX6_begins, Cond.selects RX6 yX6_begins yX6_begins, Cond.methodLink RL 30 yX7_begins, Cond.code yX7_begins cX7_begins 3 (some .int)]
def wl_19 : List Cond := [Cond.instanceMethod yX7_begins, Cond.selects RX7 yX7_begins yX7_begins, Cond.methodLink RL 31 yX6_key, Cond.code yX6_key cX6_key 3 (some .int), Cond.instanceMethod yX6_key, Cond.selects RX6 yX6_key yX6_key, Cond.methodLink RL 34 yX7_key, Cond.code yX7_key cX7_key 2 (some .int), Cond.instanceMethod yX7_key, Cond.selects RX7 yX7_key yX7_key, Cond.methodLink RL 35 yX6_rubs, Cond.code yX6_rubs cX6_rubs 2 (some .int), Cond.instanceMethod yX6_rubs, Cond.selects RX6 yX6_rubs yX6_rubs, Cond.methodLink RL 38 yX7_rubs, Cond.code yX7_rubs cX7_rubs 1 (some .int), Cond.instanceMethod yX7_rubs, Cond.selects RX7 yX7_rubs yX7_rubs, Cond.methodLink RL 39 yX6_nexts, Cond.code yX6_nexts cX6_nexts 3 (some .int), Cond.instanceMethod yX6_nexts, Cond.selects RX6 yX6_nexts yX6_nexts, Cond.methodLink RL 42 yX7_nexts, Cond.code yX7_nexts cX7_nexts 2 (some .int)]
def wl_20 : List Cond := [Cond.instanceMethod yX7_nexts, Cond.selects RX7 yX7_nexts yX7_nexts, Cond.methodLink RL 43 yX6_prevs, Cond.code yX6_prevs cX6_prevs 3 (some .int), Cond.instanceMethod yX6_prevs, Cond.selects RX6 yX6_prevs yX6_prevs, Cond.methodLink RL 46 yX7_prevs, Cond.code yX7_prevs cX7_prevs 2 (some .int), Cond.instanceMethod yX7_prevs, Cond.selects RX7 yX7_prevs yX7_prevs, Cond.methodLink RL 47 yX6_picks, Cond.code yX6_picks cX6_picks 3 (some .int), Cond.instanceMethod yX6_picks, Cond.selects RX6 yX6_picks yX6_picks, Cond.methodLink RL 50 yX7_picks, Cond.code yX7_picks cX7_picks 5 (some .int), Cond.instanceMethod yX7_picks, Cond.selects RX7 yX7_picks yX7_picks, Cond.methodLink RL 51 yX6_ends, Cond.code yX6_ends cX6_ends 1 (some .int), Cond.instanceMethod yX6_ends, Cond.selects RX6 yX6_ends yX6_ends, Cond.methodLink RL 54 yX7_ends, Cond.code yX7_ends cX7_ends 1 (some .int)]
def wl_21 : List Cond := [Cond.instanceMethod yX7_ends, Cond.selects RX7 yX7_ends yX7_ends, Cond.methodLink RL 55 yX6_caret, Cond.code yX6_caret cX6_caret 3 (some .int), Cond.instanceMethod yX6_caret, Cond.selects RX6 yX6_caret yX6_caret, Cond.methodLink RL 58 yX7_caret, Cond.code yX7_caret cX7_caret 3 (some .int), Cond.instanceMethod yX7_caret, Cond.selects RX7 yX7_caret yX7_caret, Cond.methodLink RL 59 yX6_cuts, Cond.code yX6_cuts cX6_cuts 4 (some .int), Cond.instanceMethod yX6_cuts, Cond.selects RX6 yX6_cuts yX6_cuts, Cond.methodLink RL 63 yX7_cuts, Cond.code yX7_cuts cX7_cuts 5 (some .int), Cond.instanceMethod yX7_cuts, Cond.selects RX7 yX7_cuts yX7_cuts, Cond.methodLink RL 64 yX6_at, Cond.code yX6_at cX6_at 2 (some .int), Cond.instanceMethod yX6_at, Cond.selects RX6 yX6_at yX6_at, Cond.methodLink RL 67 yX7_at, Cond.code yX7_at cX7_at 2 (some .int)]
def wl_22 : List Cond := [Cond.instanceMethod yX7_at, Cond.selects RX7 yX7_at yX7_at, Cond.methodLink RL 68 yX6_count, Cond.methodLink RL 71 yX7_count, Cond.code yX7_count cX7_count 2 (some .int), Cond.instanceMethod yX7_count, Cond.selects RX7 yX7_count yX7_count, Cond.methodLink RL 72 yX6_stop, Cond.methodLink RL 75 yX7_stop, Cond.code yX7_stop cX7_stop 3 (some .int), Cond.instanceMethod yX7_stop, Cond.selects RX7 yX7_stop yX7_stop, Cond.methodLink RL 76 yX6_held, Cond.code yX6_held cX6_held 4 (some .int), Cond.instanceMethod yX6_held, Cond.selects RX6 yX6_held yX6_held, Cond.methodLink RL 79 yX7_held, Cond.code yX7_held cX7_held 3 (some .int), Cond.instanceMethod yX7_held, Cond.selects RX7 yX7_held yX7_held, Cond.methodLink RL 80 yX6_choice, Cond.code yX6_choice cX6_choice 5 (some .int), Cond.instanceMethod yX6_choice, Cond.selects RX6 yX6_choice yX6_choice]
def wl_23 : List Cond := [Cond.methodLink RL 84 yX7_choice, Cond.code yX7_choice cX7_choice 6 (some .int), Cond.instanceMethod yX7_choice, Cond.selects RX7 yX7_choice yX7_choice, Cond.methodLink RL 85 yX6_occurrence, Cond.code yX6_occurrence cX6_occurrence 6 (some .int), Cond.instanceMethod yX6_occurrence, Cond.selects RX6 yX6_occurrence yX6_occurrence, Cond.methodLink RL 88 yX7_occurrence, Cond.code yX7_occurrence cX7_occurrence 7 (some .int), Cond.instanceMethod yX7_occurrence, Cond.selects RX7 yX7_occurrence yX7_occurrence, Cond.methodLink RL 89 yX6_unlike, Cond.code yX6_unlike cX6_unlike 2 (some .int), Cond.instanceMethod yX6_unlike, Cond.selects RX6 yX6_unlike yX6_unlike, Cond.methodLink RL 92 yX7_unlike, Cond.code yX7_unlike cX7_unlike 6 (some .int), Cond.instanceMethod yX7_unlike, Cond.selects RX7 yX7_unlike yX7_unlike, Cond.methodLink RL 93 yX6_variableAt, Cond.code yX6_variableAt cX6_variableAt 3 (some .int), Cond.instanceMethod yX6_variableAt, Cond.selects RX6 yX6_variableAt yX6_variableAt]
def wl_24 : List Cond := [Cond.methodLink RL 96 yX7_variableAt, Cond.code yX7_variableAt cX7_variableAt 3 (some .int), Cond.instanceMethod yX7_variableAt, Cond.selects RX7 yX7_variableAt yX7_variableAt, Cond.methodLink RL 97 yX6_back, Cond.code yX6_back cX6_back 2 (some .int), Cond.instanceMethod yX6_back, Cond.selects RX6 yX6_back yX6_back, Cond.methodLink RL 100 yX7_back, Cond.code yX7_back cX7_back 1 (some .int), Cond.instanceMethod yX7_back, Cond.selects RX7 yX7_back yX7_back, Cond.methodLink RL 101 yX6_told, Cond.methodLink RL 104 yX7_told, Cond.code yX7_told cX7_told 2 (some .int), Cond.instanceMethod yX7_told, Cond.selects RX7 yX7_told yX7_told, Cond.methodLink RL 105 yX6_digest, Cond.code yX6_digest cX6_digest 5 (some .long), Cond.instanceMethod yX6_digest, Cond.selects RX6 yX6_digest yX6_digest, Cond.methodLink RL 109 yX7_digest, Cond.code yX7_digest cX7_digest 5 (some .long), Cond.instanceMethod yX7_digest]
def wl_25 : List Cond := [Cond.selects RX7 yX7_digest yX7_digest, Cond.code yX5_init cX5_init 1 none, Cond.instanceMethod yX5_init]
def WL : List Cond := wl_0 ++ (wl_1 ++ (wl_2 ++ (wl_3 ++ (wl_4 ++ (wl_5 ++ (wl_6 ++ (wl_7 ++ (wl_8 ++ (wl_9 ++ (wl_10 ++ (wl_11 ++ (wl_12 ++ (wl_13 ++ (wl_14 ++ (wl_15 ++ (wl_16 ++ (wl_17 ++ (wl_18 ++ (wl_19 ++ (wl_20 ++ (wl_21 ++ (wl_22 ++ (wl_23 ++ (wl_24 ++ (wl_25 ++ (wsX00 ++ (wsX10 ++ (wsX20 ++ (wsX30 ++ (wsX40 ++ (wsX50 ++ (wsX60 ++ (wsX70)))))))))))))))))))))))))))))))))
theorem iW_0 : ∀ w ∈ wl_0, w ∈ WL := fun w h => (List.mem_append_left _ h)
theorem iW_1 : ∀ w ∈ wl_1, w ∈ WL := fun w h => (List.mem_append_right _ (List.mem_append_left _ h))
theorem iW_2 : ∀ w ∈ wl_2, w ∈ WL := fun w h => (List.mem_append_right _ (List.mem_append_right _ (List.mem_append_left _ h)))
theorem iW_3 : ∀ w ∈ wl_3, w ∈ WL := fun w h => (List.mem_append_right _ (List.mem_append_right _ (List.mem_append_right _ (List.mem_append_left _ h))))
theorem iW_4 : ∀ w ∈ wl_4, w ∈ WL := fun w h => (List.mem_append_right _ (List.mem_append_right _ (List.mem_append_right _ (List.mem_append_right _ (List.mem_append_left _ h)))))
theorem iW_5 : ∀ w ∈ wl_5, w ∈ WL := fun w h => (List.mem_append_right _ (List.mem_append_right _ (List.mem_append_right _ (List.mem_append_right _ (List.mem_append_right _ (List.mem_append_left _ h))))))
theorem iW_6 : ∀ w ∈ wl_6, w ∈ WL := fun w h => (List.mem_append_right _ (List.mem_append_right _ (List.mem_append_right _ (List.mem_append_right _ (List.mem_append_right _ (List.mem_append_right _ (List.mem_append_left _ h)))))))
theorem iW_7 : ∀ w ∈ wl_7, w ∈ WL := fun w h => (List.mem_append_right _ (List.mem_append_right _ (List.mem_append_right _ (List.mem_append_right _ (List.mem_append_right _ (List.mem_append_right _ (List.mem_append_right _ (List.mem_append_left _ h))))))))
theorem iW_8 : ∀ w ∈ wl_8, w ∈ WL := fun w h => (List.mem_append_right _ (List.mem_append_right _ (List.mem_append_right _ (List.mem_append_right _ (List.mem_append_right _ (List.mem_append_right _ (List.mem_append_right _ (List.mem_append_right _ (List.mem_append_left _ h)))))))))
theorem iW_9 : ∀ w ∈ wl_9, w ∈ WL := fun w h => (List.mem_append_right _ (List.mem_append_right _ (List.mem_append_right _ (List.mem_append_right _ (List.mem_append_right _ (List.mem_append_right _ (List.mem_append_right _ (List.mem_append_right _ (List.mem_append_right _ (List.mem_append_left _ h))))))))))
theorem iW_10 : ∀ w ∈ wl_10, w ∈ WL := fun w h => (List.mem_append_right _ (List.mem_append_right _ (List.mem_append_right _ (List.mem_append_right _ (List.mem_append_right _ (List.mem_append_right _ (List.mem_append_right _ (List.mem_append_right _ (List.mem_append_right _ (List.mem_append_right _ (List.mem_append_left _ h)))))))))))
theorem iW_11 : ∀ w ∈ wl_11, w ∈ WL := fun w h => (List.mem_append_right _ (List.mem_append_right _ (List.mem_append_right _ (List.mem_append_right _ (List.mem_append_right _ (List.mem_append_right _ (List.mem_append_right _ (List.mem_append_right _ (List.mem_append_right _ (List.mem_append_right _ (List.mem_append_right _ (List.mem_append_left _ h))))))))))))
theorem iW_12 : ∀ w ∈ wl_12, w ∈ WL := fun w h => (List.mem_append_right _ (List.mem_append_right _ (List.mem_append_right _ (List.mem_append_right _ (List.mem_append_right _ (List.mem_append_right _ (List.mem_append_right _ (List.mem_append_right _ (List.mem_append_right _ (List.mem_append_right _ (List.mem_append_right _ (List.mem_append_right _ (List.mem_append_left _ h)))))))))))))
theorem iW_13 : ∀ w ∈ wl_13, w ∈ WL := fun w h => (List.mem_append_right _ (List.mem_append_right _ (List.mem_append_right _ (List.mem_append_right _ (List.mem_append_right _ (List.mem_append_right _ (List.mem_append_right _ (List.mem_append_right _ (List.mem_append_right _ (List.mem_append_right _ (List.mem_append_right _ (List.mem_append_right _ (List.mem_append_right _ (List.mem_append_left _ h))))))))))))))
theorem iW_14 : ∀ w ∈ wl_14, w ∈ WL := fun w h => (List.mem_append_right _ (List.mem_append_right _ (List.mem_append_right _ (List.mem_append_right _ (List.mem_append_right _ (List.mem_append_right _ (List.mem_append_right _ (List.mem_append_right _ (List.mem_append_right _ (List.mem_append_right _ (List.mem_append_right _ (List.mem_append_right _ (List.mem_append_right _ (List.mem_append_right _ (List.mem_append_left _ h)))))))))))))))
theorem iW_15 : ∀ w ∈ wl_15, w ∈ WL := fun w h => (List.mem_append_right _ (List.mem_append_right _ (List.mem_append_right _ (List.mem_append_right _ (List.mem_append_right _ (List.mem_append_right _ (List.mem_append_right _ (List.mem_append_right _ (List.mem_append_right _ (List.mem_append_right _ (List.mem_append_right _ (List.mem_append_right _ (List.mem_append_right _ (List.mem_append_right _ (List.mem_append_right _ (List.mem_append_left _ h))))))))))))))))
theorem iW_16 : ∀ w ∈ wl_16, w ∈ WL := fun w h => (List.mem_append_right _ (List.mem_append_right _ (List.mem_append_right _ (List.mem_append_right _ (List.mem_append_right _ (List.mem_append_right _ (List.mem_append_right _ (List.mem_append_right _ (List.mem_append_right _ (List.mem_append_right _ (List.mem_append_right _ (List.mem_append_right _ (List.mem_append_right _ (List.mem_append_right _ (List.mem_append_right _ (List.mem_append_right _ (List.mem_append_left _ h)))))))))))))))))
theorem iW_17 : ∀ w ∈ wl_17, w ∈ WL := fun w h => (List.mem_append_right _ (List.mem_append_right _ (List.mem_append_right _ (List.mem_append_right _ (List.mem_append_right _ (List.mem_append_right _ (List.mem_append_right _ (List.mem_append_right _ (List.mem_append_right _ (List.mem_append_right _ (List.mem_append_right _ (List.mem_append_right _ (List.mem_append_right _ (List.mem_append_right _ (List.mem_append_right _ (List.mem_append_right _ (List.mem_append_right _ (List.mem_append_left _ h))))))))))))))))))
theorem iW_18 : ∀ w ∈ wl_18, w ∈ WL := fun w h => (List.mem_append_right _ (List.mem_append_right _ (List.mem_append_right _ (List.mem_append_right _ (List.mem_append_right _ (List.mem_append_right _ (List.mem_append_right _ (List.mem_append_right _ (List.mem_append_right _ (List.mem_append_right _ (List.mem_append_right _ (List.mem_append_right _ (List.mem_append_right _ (List.mem_append_right _ (List.mem_append_right _ (List.mem_append_right _ (List.mem_append_right _ (List.mem_append_right _ (List.mem_append_left _ h)))))))))))))))))))
theorem iW_19 : ∀ w ∈ wl_19, w ∈ WL := fun w h => (List.mem_append_right _ (List.mem_append_right _ (List.mem_append_right _ (List.mem_append_right _ (List.mem_append_right _ (List.mem_append_right _ (List.mem_append_right _ (List.mem_append_right _ (List.mem_append_right _ (List.mem_append_right _ (List.mem_append_right _ (List.mem_append_right _ (List.mem_append_right _ (List.mem_append_right _ (List.mem_append_right _ (List.mem_append_right _ (List.mem_append_right _ (List.mem_append_right _ (List.mem_append_right _ (List.mem_append_left _ h))))))))))))))))))))
theorem iW_20 : ∀ w ∈ wl_20, w ∈ WL := fun w h => (List.mem_append_right _ (List.mem_append_right _ (List.mem_append_right _ (List.mem_append_right _ (List.mem_append_right _ (List.mem_append_right _ (List.mem_append_right _ (List.mem_append_right _ (List.mem_append_right _ (List.mem_append_right _ (List.mem_append_right _ (List.mem_append_right _ (List.mem_append_right _ (List.mem_append_right _ (List.mem_append_right _ (List.mem_append_right _ (List.mem_append_right _ (List.mem_append_right _ (List.mem_append_right _ (List.mem_append_right _ (List.mem_append_left _ h)))))))))))))))))))))
theorem iW_21 : ∀ w ∈ wl_21, w ∈ WL := fun w h => (List.mem_append_right _ (List.mem_append_right _ (List.mem_append_right _ (List.mem_append_right _ (List.mem_append_right _ (List.mem_append_right _ (List.mem_append_right _ (List.mem_append_right _ (List.mem_append_right _ (List.mem_append_right _ (List.mem_append_right _ (List.mem_append_right _ (List.mem_append_right _ (List.mem_append_right _ (List.mem_append_right _ (List.mem_append_right _ (List.mem_append_right _ (List.mem_append_right _ (List.mem_append_right _ (List.mem_append_right _ (List.mem_append_right _ (List.mem_append_left _ h))))))))))))))))))))))
theorem iW_22 : ∀ w ∈ wl_22, w ∈ WL := fun w h => (List.mem_append_right _ (List.mem_append_right _ (List.mem_append_right _ (List.mem_append_right _ (List.mem_append_right _ (List.mem_append_right _ (List.mem_append_right _ (List.mem_append_right _ (List.mem_append_right _ (List.mem_append_right _ (List.mem_append_right _ (List.mem_append_right _ (List.mem_append_right _ (List.mem_append_right _ (List.mem_append_right _ (List.mem_append_right _ (List.mem_append_right _ (List.mem_append_right _ (List.mem_append_right _ (List.mem_append_right _ (List.mem_append_right _ (List.mem_append_right _ (List.mem_append_left _ h)))))))))))))))))))))))
theorem iW_23 : ∀ w ∈ wl_23, w ∈ WL := fun w h => (List.mem_append_right _ (List.mem_append_right _ (List.mem_append_right _ (List.mem_append_right _ (List.mem_append_right _ (List.mem_append_right _ (List.mem_append_right _ (List.mem_append_right _ (List.mem_append_right _ (List.mem_append_right _ (List.mem_append_right _ (List.mem_append_right _ (List.mem_append_right _ (List.mem_append_right _ (List.mem_append_right _ (List.mem_append_right _ (List.mem_append_right _ (List.mem_append_right _ (List.mem_append_right _ (List.mem_append_right _ (List.mem_append_right _ (List.mem_append_right _ (List.mem_append_right _ (List.mem_append_left _ h))))))))))))))))))))))))
theorem iW_24 : ∀ w ∈ wl_24, w ∈ WL := fun w h => (List.mem_append_right _ (List.mem_append_right _ (List.mem_append_right _ (List.mem_append_right _ (List.mem_append_right _ (List.mem_append_right _ (List.mem_append_right _ (List.mem_append_right _ (List.mem_append_right _ (List.mem_append_right _ (List.mem_append_right _ (List.mem_append_right _ (List.mem_append_right _ (List.mem_append_right _ (List.mem_append_right _ (List.mem_append_right _ (List.mem_append_right _ (List.mem_append_right _ (List.mem_append_right _ (List.mem_append_right _ (List.mem_append_right _ (List.mem_append_right _ (List.mem_append_right _ (List.mem_append_right _ (List.mem_append_left _ h)))))))))))))))))))))))))
theorem iW_25 : ∀ w ∈ wl_25, w ∈ WL := fun w h => (List.mem_append_right _ (List.mem_append_right _ (List.mem_append_right _ (List.mem_append_right _ (List.mem_append_right _ (List.mem_append_right _ (List.mem_append_right _ (List.mem_append_right _ (List.mem_append_right _ (List.mem_append_right _ (List.mem_append_right _ (List.mem_append_right _ (List.mem_append_right _ (List.mem_append_right _ (List.mem_append_right _ (List.mem_append_right _ (List.mem_append_right _ (List.mem_append_right _ (List.mem_append_right _ (List.mem_append_right _ (List.mem_append_right _ (List.mem_append_right _ (List.mem_append_right _ (List.mem_append_right _ (List.mem_append_right _ (List.mem_append_left _ h))))))))))))))))))))))))))
theorem inlX0 : ∀ w ∈ wsX00, w ∈ WL := fun w h => (List.mem_append_right _ (List.mem_append_right _ (List.mem_append_right _ (List.mem_append_right _ (List.mem_append_right _ (List.mem_append_right _ (List.mem_append_right _ (List.mem_append_right _ (List.mem_append_right _ (List.mem_append_right _ (List.mem_append_right _ (List.mem_append_right _ (List.mem_append_right _ (List.mem_append_right _ (List.mem_append_right _ (List.mem_append_right _ (List.mem_append_right _ (List.mem_append_right _ (List.mem_append_right _ (List.mem_append_right _ (List.mem_append_right _ (List.mem_append_right _ (List.mem_append_right _ (List.mem_append_right _ (List.mem_append_right _ (List.mem_append_right _ (List.mem_append_left _ h)))))))))))))))))))))))))))
theorem inlX1 : ∀ w ∈ wsX10, w ∈ WL := fun w h => (List.mem_append_right _ (List.mem_append_right _ (List.mem_append_right _ (List.mem_append_right _ (List.mem_append_right _ (List.mem_append_right _ (List.mem_append_right _ (List.mem_append_right _ (List.mem_append_right _ (List.mem_append_right _ (List.mem_append_right _ (List.mem_append_right _ (List.mem_append_right _ (List.mem_append_right _ (List.mem_append_right _ (List.mem_append_right _ (List.mem_append_right _ (List.mem_append_right _ (List.mem_append_right _ (List.mem_append_right _ (List.mem_append_right _ (List.mem_append_right _ (List.mem_append_right _ (List.mem_append_right _ (List.mem_append_right _ (List.mem_append_right _ (List.mem_append_right _ (List.mem_append_left _ h))))))))))))))))))))))))))))
theorem inlX2 : ∀ w ∈ wsX20, w ∈ WL := fun w h => (List.mem_append_right _ (List.mem_append_right _ (List.mem_append_right _ (List.mem_append_right _ (List.mem_append_right _ (List.mem_append_right _ (List.mem_append_right _ (List.mem_append_right _ (List.mem_append_right _ (List.mem_append_right _ (List.mem_append_right _ (List.mem_append_right _ (List.mem_append_right _ (List.mem_append_right _ (List.mem_append_right _ (List.mem_append_right _ (List.mem_append_right _ (List.mem_append_right _ (List.mem_append_right _ (List.mem_append_right _ (List.mem_append_right _ (List.mem_append_right _ (List.mem_append_right _ (List.mem_append_right _ (List.mem_append_right _ (List.mem_append_right _ (List.mem_append_right _ (List.mem_append_right _ (List.mem_append_left _ h)))))))))))))))))))))))))))))
theorem inlX3 : ∀ w ∈ wsX30, w ∈ WL := fun w h => (List.mem_append_right _ (List.mem_append_right _ (List.mem_append_right _ (List.mem_append_right _ (List.mem_append_right _ (List.mem_append_right _ (List.mem_append_right _ (List.mem_append_right _ (List.mem_append_right _ (List.mem_append_right _ (List.mem_append_right _ (List.mem_append_right _ (List.mem_append_right _ (List.mem_append_right _ (List.mem_append_right _ (List.mem_append_right _ (List.mem_append_right _ (List.mem_append_right _ (List.mem_append_right _ (List.mem_append_right _ (List.mem_append_right _ (List.mem_append_right _ (List.mem_append_right _ (List.mem_append_right _ (List.mem_append_right _ (List.mem_append_right _ (List.mem_append_right _ (List.mem_append_right _ (List.mem_append_right _ (List.mem_append_left _ h))))))))))))))))))))))))))))))
theorem inlX4 : ∀ w ∈ wsX40, w ∈ WL := fun w h => (List.mem_append_right _ (List.mem_append_right _ (List.mem_append_right _ (List.mem_append_right _ (List.mem_append_right _ (List.mem_append_right _ (List.mem_append_right _ (List.mem_append_right _ (List.mem_append_right _ (List.mem_append_right _ (List.mem_append_right _ (List.mem_append_right _ (List.mem_append_right _ (List.mem_append_right _ (List.mem_append_right _ (List.mem_append_right _ (List.mem_append_right _ (List.mem_append_right _ (List.mem_append_right _ (List.mem_append_right _ (List.mem_append_right _ (List.mem_append_right _ (List.mem_append_right _ (List.mem_append_right _ (List.mem_append_right _ (List.mem_append_right _ (List.mem_append_right _ (List.mem_append_right _ (List.mem_append_right _ (List.mem_append_right _ (List.mem_append_left _ h)))))))))))))))))))))))))))))))
theorem inlX5 : ∀ w ∈ wsX50, w ∈ WL := fun w h => (List.mem_append_right _ (List.mem_append_right _ (List.mem_append_right _ (List.mem_append_right _ (List.mem_append_right _ (List.mem_append_right _ (List.mem_append_right _ (List.mem_append_right _ (List.mem_append_right _ (List.mem_append_right _ (List.mem_append_right _ (List.mem_append_right _ (List.mem_append_right _ (List.mem_append_right _ (List.mem_append_right _ (List.mem_append_right _ (List.mem_append_right _ (List.mem_append_right _ (List.mem_append_right _ (List.mem_append_right _ (List.mem_append_right _ (List.mem_append_right _ (List.mem_append_right _ (List.mem_append_right _ (List.mem_append_right _ (List.mem_append_right _ (List.mem_append_right _ (List.mem_append_right _ (List.mem_append_right _ (List.mem_append_right _ (List.mem_append_right _ (List.mem_append_left _ h))))))))))))))))))))))))))))))))
theorem inlX6 : ∀ w ∈ wsX60, w ∈ WL := fun w h => (List.mem_append_right _ (List.mem_append_right _ (List.mem_append_right _ (List.mem_append_right _ (List.mem_append_right _ (List.mem_append_right _ (List.mem_append_right _ (List.mem_append_right _ (List.mem_append_right _ (List.mem_append_right _ (List.mem_append_right _ (List.mem_append_right _ (List.mem_append_right _ (List.mem_append_right _ (List.mem_append_right _ (List.mem_append_right _ (List.mem_append_right _ (List.mem_append_right _ (List.mem_append_right _ (List.mem_append_right _ (List.mem_append_right _ (List.mem_append_right _ (List.mem_append_right _ (List.mem_append_right _ (List.mem_append_right _ (List.mem_append_right _ (List.mem_append_right _ (List.mem_append_right _ (List.mem_append_right _ (List.mem_append_right _ (List.mem_append_right _ (List.mem_append_right _ (List.mem_append_left _ h)))))))))))))))))))))))))))))))))
theorem inlX7 : ∀ w ∈ wsX70, w ∈ WL := fun w h => (List.mem_append_right _ (List.mem_append_right _ (List.mem_append_right _ (List.mem_append_right _ (List.mem_append_right _ (List.mem_append_right _ (List.mem_append_right _ (List.mem_append_right _ (List.mem_append_right _ (List.mem_append_right _ (List.mem_append_right _ (List.mem_append_right _ (List.mem_append_right _ (List.mem_append_right _ (List.mem_append_right _ (List.mem_append_right _ (List.mem_append_right _ (List.mem_append_right _ (List.mem_append_right _ (List.mem_append_right _ (List.mem_append_right _ (List.mem_append_right _ (List.mem_append_right _ (List.mem_append_right _ (List.mem_append_right _ (List.mem_append_right _ (List.mem_append_right _ (List.mem_append_right _ (List.mem_append_right _ (List.mem_append_right _ (List.mem_append_right _ (List.mem_append_right _ (List.mem_append_right _ h)))))))))))))))))))))))))))))))))
set_option maxRecDepth 20000 in
theorem wl_0_in : ∀ w ∈ wl_0, w ∈ lw_tbl := (List.forall_mem_cons.mpr ⟨iT_1 _ (List.mem_of_getElem? (i := 17) rfl), (List.forall_mem_cons.mpr ⟨iT_1 _ (List.mem_of_getElem? (i := 18) rfl), (List.forall_mem_cons.mpr ⟨iT_1 _ (List.mem_of_getElem? (i := 35) rfl), (List.forall_mem_cons.mpr ⟨iT_1 _ (List.mem_of_getElem? (i := 113) rfl), (List.forall_mem_cons.mpr ⟨iT_1 _ (List.mem_of_getElem? (i := 112) rfl), (List.forall_mem_cons.mpr ⟨iT_1 _ (List.mem_of_getElem? (i := 227) rfl), (List.forall_mem_cons.mpr ⟨iT_1 _ (List.mem_of_getElem? (i := 7) rfl), (List.forall_mem_cons.mpr ⟨iT_1 _ (List.mem_of_getElem? (i := 228) rfl), (List.forall_mem_cons.mpr ⟨iT_1 _ (List.mem_of_getElem? (i := 231) rfl), (List.forall_mem_cons.mpr ⟨iT_1 _ (List.mem_of_getElem? (i := 230) rfl), (List.forall_mem_cons.mpr ⟨iT_1 _ (List.mem_of_getElem? (i := 8) rfl), (List.forall_mem_cons.mpr ⟨iT_1 _ (List.mem_of_getElem? (i := 10) rfl), (List.forall_mem_cons.mpr ⟨iT_2 _ (List.mem_of_getElem? (i := 69) rfl), (List.forall_mem_cons.mpr ⟨iT_1 _ (List.mem_of_getElem? (i := 9) rfl), (List.forall_mem_cons.mpr ⟨iT_2 _ (List.mem_of_getElem? (i := 109) rfl), (List.forall_mem_cons.mpr ⟨iT_1 _ (List.mem_of_getElem? (i := 2) rfl), (List.forall_mem_cons.mpr ⟨iT_1 _ (List.mem_of_getElem? (i := 20) rfl), (List.forall_mem_cons.mpr ⟨iT_1 _ (List.mem_of_getElem? (i := 5) rfl), (List.forall_mem_cons.mpr ⟨iT_1 _ (List.mem_of_getElem? (i := 74) rfl), (List.forall_mem_cons.mpr ⟨iT_1 _ (List.mem_of_getElem? (i := 4) rfl), (List.forall_mem_cons.mpr ⟨iT_1 _ (List.mem_of_getElem? (i := 64) rfl), (List.forall_mem_cons.mpr ⟨iT_1 _ (List.mem_of_getElem? (i := 3) rfl), (List.forall_mem_cons.mpr ⟨iT_1 _ (List.mem_of_getElem? (i := 40) rfl), (List.forall_mem_cons.mpr ⟨iT_1 _ (List.mem_of_getElem? (i := 1) rfl), (fun _ h => absurd h List.not_mem_nil)⟩)⟩)⟩)⟩)⟩)⟩)⟩)⟩)⟩)⟩)⟩)⟩)⟩)⟩)⟩)⟩)⟩)⟩)⟩)⟩)⟩)⟩)⟩)⟩)
set_option maxRecDepth 20000 in
theorem wl_1_in : ∀ w ∈ wl_1, w ∈ lw_tbl := (List.forall_mem_cons.mpr ⟨iT_1 _ (List.mem_of_getElem? (i := 12) rfl), (List.forall_mem_cons.mpr ⟨iT_1 _ (List.mem_of_getElem? (i := 6) rfl), (List.forall_mem_cons.mpr ⟨iT_4 _ (List.mem_of_getElem? (i := 18) rfl), (List.forall_mem_cons.mpr ⟨iT_1 _ (List.mem_of_getElem? (i := 24) rfl), (List.forall_mem_cons.mpr ⟨iT_1 _ (List.mem_of_getElem? (i := 26) rfl), (List.forall_mem_cons.mpr ⟨iT_1 _ (List.mem_of_getElem? (i := 27) rfl), (List.forall_mem_cons.mpr ⟨iT_1 _ (List.mem_of_getElem? (i := 25) rfl), (List.forall_mem_cons.mpr ⟨iT_1 _ (List.mem_of_getElem? (i := 181) rfl), (List.forall_mem_cons.mpr ⟨iT_1 _ (List.mem_of_getElem? (i := 184) rfl), (List.forall_mem_cons.mpr ⟨iT_1 _ (List.mem_of_getElem? (i := 183) rfl), (List.forall_mem_cons.mpr ⟨iP_1 (⟨"SnippetStops$Row", "widen", "(I)V"⟩, _) (List.mem_of_getElem? (i := 1) rfl), (List.forall_mem_cons.mpr ⟨iT_1 _ (List.mem_of_getElem? (i := 185) rfl), (List.forall_mem_cons.mpr ⟨iT_1 _ (List.mem_of_getElem? (i := 188) rfl), (List.forall_mem_cons.mpr ⟨iT_1 _ (List.mem_of_getElem? (i := 186) rfl), (List.forall_mem_cons.mpr ⟨iT_1 _ (List.mem_of_getElem? (i := 187) rfl), (List.forall_mem_cons.mpr ⟨iT_1 _ (List.mem_of_getElem? (i := 226) rfl), (List.forall_mem_cons.mpr ⟨iT_1 _ (List.mem_of_getElem? (i := 229) rfl), (List.forall_mem_cons.mpr ⟨iT_1 _ (List.mem_of_getElem? (i := 222) rfl), (List.forall_mem_cons.mpr ⟨iT_1 _ (List.mem_of_getElem? (i := 225) rfl), (List.forall_mem_cons.mpr ⟨iT_1 _ (List.mem_of_getElem? (i := 223) rfl), (List.forall_mem_cons.mpr ⟨iT_1 _ (List.mem_of_getElem? (i := 224) rfl), (List.forall_mem_cons.mpr ⟨iT_3 _ (List.mem_of_getElem? (i := 96) rfl), (List.forall_mem_cons.mpr ⟨iT_1 _ (List.mem_of_getElem? (i := 180) rfl), (List.forall_mem_cons.mpr ⟨iT_1 _ (List.mem_of_getElem? (i := 178) rfl), (fun _ h => absurd h List.not_mem_nil)⟩)⟩)⟩)⟩)⟩)⟩)⟩)⟩)⟩)⟩)⟩)⟩)⟩)⟩)⟩)⟩)⟩)⟩)⟩)⟩)⟩)⟩)⟩)⟩)
set_option maxRecDepth 20000 in
theorem wl_2_in : ∀ w ∈ wl_2, w ∈ lw_tbl := (List.forall_mem_cons.mpr ⟨iT_1 _ (List.mem_of_getElem? (i := 179) rfl), (List.forall_mem_cons.mpr ⟨iT_2 _ (List.mem_of_getElem? (i := 63) rfl), (List.forall_mem_cons.mpr ⟨iT_1 _ (List.mem_of_getElem? (i := 210) rfl), (List.forall_mem_cons.mpr ⟨iT_1 _ (List.mem_of_getElem? (i := 208) rfl), (List.forall_mem_cons.mpr ⟨iT_1 _ (List.mem_of_getElem? (i := 209) rfl), (List.forall_mem_cons.mpr ⟨iT_1 _ (List.mem_of_getElem? (i := 44) rfl), (List.forall_mem_cons.mpr ⟨iT_1 _ (List.mem_of_getElem? (i := 45) rfl), (List.forall_mem_cons.mpr ⟨iT_1 _ (List.mem_of_getElem? (i := 46) rfl), (List.forall_mem_cons.mpr ⟨iT_1 _ (List.mem_of_getElem? (i := 23) rfl), (List.forall_mem_cons.mpr ⟨iT_1 _ (List.mem_of_getElem? (i := 22) rfl), (List.forall_mem_cons.mpr ⟨iT_1 _ (List.mem_of_getElem? (i := 49) rfl), (List.forall_mem_cons.mpr ⟨iT_1 _ (List.mem_of_getElem? (i := 47) rfl), (List.forall_mem_cons.mpr ⟨iT_1 _ (List.mem_of_getElem? (i := 52) rfl), (List.forall_mem_cons.mpr ⟨iT_1 _ (List.mem_of_getElem? (i := 53) rfl), (List.forall_mem_cons.mpr ⟨iT_1 _ (List.mem_of_getElem? (i := 54) rfl), (List.forall_mem_cons.mpr ⟨iT_2 _ (List.mem_of_getElem? (i := 197) rfl), (List.forall_mem_cons.mpr ⟨iT_2 _ (List.mem_of_getElem? (i := 200) rfl), (List.forall_mem_cons.mpr ⟨iT_2 _ (List.mem_of_getElem? (i := 210) rfl), (List.forall_mem_cons.mpr ⟨iT_1 _ (List.mem_of_getElem? (i := 78) rfl), (List.forall_mem_cons.mpr ⟨iT_1 _ (List.mem_of_getElem? (i := 84) rfl), (List.forall_mem_cons.mpr ⟨iT_1 _ (List.mem_of_getElem? (i := 87) rfl), (List.forall_mem_cons.mpr ⟨iT_1 _ (List.mem_of_getElem? (i := 90) rfl), (List.forall_mem_cons.mpr ⟨iT_1 _ (List.mem_of_getElem? (i := 79) rfl), (List.forall_mem_cons.mpr ⟨iT_1 _ (List.mem_of_getElem? (i := 91) rfl), (fun _ h => absurd h List.not_mem_nil)⟩)⟩)⟩)⟩)⟩)⟩)⟩)⟩)⟩)⟩)⟩)⟩)⟩)⟩)⟩)⟩)⟩)⟩)⟩)⟩)⟩)⟩)⟩)⟩)
set_option maxRecDepth 20000 in
theorem wl_3_in : ∀ w ∈ wl_3, w ∈ lw_tbl := (List.forall_mem_cons.mpr ⟨iT_1 _ (List.mem_of_getElem? (i := 80) rfl), (List.forall_mem_cons.mpr ⟨iT_1 _ (List.mem_of_getElem? (i := 92) rfl), (List.forall_mem_cons.mpr ⟨iT_1 _ (List.mem_of_getElem? (i := 93) rfl), (List.forall_mem_cons.mpr ⟨iT_1 _ (List.mem_of_getElem? (i := 94) rfl), (List.forall_mem_cons.mpr ⟨iT_1 _ (List.mem_of_getElem? (i := 82) rfl), (List.forall_mem_cons.mpr ⟨iT_1 _ (List.mem_of_getElem? (i := 81) rfl), (List.forall_mem_cons.mpr ⟨iT_3 _ (List.mem_of_getElem? (i := 49) rfl), (List.forall_mem_cons.mpr ⟨iT_3 _ (List.mem_of_getElem? (i := 52) rfl), (List.forall_mem_cons.mpr ⟨iT_3 _ (List.mem_of_getElem? (i := 50) rfl), (List.forall_mem_cons.mpr ⟨iT_3 _ (List.mem_of_getElem? (i := 51) rfl), (List.forall_mem_cons.mpr ⟨iT_3 _ (List.mem_of_getElem? (i := 62) rfl), (List.forall_mem_cons.mpr ⟨iT_3 _ (List.mem_of_getElem? (i := 65) rfl), (List.forall_mem_cons.mpr ⟨iT_3 _ (List.mem_of_getElem? (i := 63) rfl), (List.forall_mem_cons.mpr ⟨iT_3 _ (List.mem_of_getElem? (i := 64) rfl), (List.forall_mem_cons.mpr ⟨iT_3 _ (List.mem_of_getElem? (i := 53) rfl), (List.forall_mem_cons.mpr ⟨iT_3 _ (List.mem_of_getElem? (i := 56) rfl), (List.forall_mem_cons.mpr ⟨iT_3 _ (List.mem_of_getElem? (i := 54) rfl), (List.forall_mem_cons.mpr ⟨iT_3 _ (List.mem_of_getElem? (i := 55) rfl), (List.forall_mem_cons.mpr ⟨iT_3 _ (List.mem_of_getElem? (i := 57) rfl), (List.forall_mem_cons.mpr ⟨iT_3 _ (List.mem_of_getElem? (i := 60) rfl), (List.forall_mem_cons.mpr ⟨iT_3 _ (List.mem_of_getElem? (i := 58) rfl), (List.forall_mem_cons.mpr ⟨iT_3 _ (List.mem_of_getElem? (i := 59) rfl), (List.forall_mem_cons.mpr ⟨iT_2 _ (List.mem_of_getElem? (i := 189) rfl), (List.forall_mem_cons.mpr ⟨iT_2 _ (List.mem_of_getElem? (i := 12) rfl), (fun _ h => absurd h List.not_mem_nil)⟩)⟩)⟩)⟩)⟩)⟩)⟩)⟩)⟩)⟩)⟩)⟩)⟩)⟩)⟩)⟩)⟩)⟩)⟩)⟩)⟩)⟩)⟩)⟩)
set_option maxRecDepth 20000 in
theorem wl_4_in : ∀ w ∈ wl_4, w ∈ lw_tbl := (List.forall_mem_cons.mpr ⟨iT_2 _ (List.mem_of_getElem? (i := 15) rfl), (List.forall_mem_cons.mpr ⟨iT_2 _ (List.mem_of_getElem? (i := 14) rfl), (List.forall_mem_cons.mpr ⟨iP_1 (⟨"SnippetStops$Session", "putItems", "(LSnippetStops$Row;LSnippetStops$Occurrence;IIZ)V"⟩, _) (List.mem_of_getElem? (i := 3) rfl), (List.forall_mem_cons.mpr ⟨iT_2 _ (List.mem_of_getElem? (i := 204) rfl), (List.forall_mem_cons.mpr ⟨iT_1 _ (List.mem_of_getElem? (i := 51) rfl), (List.forall_mem_cons.mpr ⟨iT_2 _ (List.mem_of_getElem? (i := 16) rfl), (List.forall_mem_cons.mpr ⟨iT_1 _ (List.mem_of_getElem? (i := 176) rfl), (List.forall_mem_cons.mpr ⟨iT_1 _ (List.mem_of_getElem? (i := 174) rfl), (List.forall_mem_cons.mpr ⟨iT_1 _ (List.mem_of_getElem? (i := 175) rfl), (List.forall_mem_cons.mpr ⟨iT_2 _ (List.mem_of_getElem? (i := 208) rfl), (List.forall_mem_cons.mpr ⟨iT_2 _ (List.mem_of_getElem? (i := 17) rfl), (List.forall_mem_cons.mpr ⟨iT_2 _ (List.mem_of_getElem? (i := 26) rfl), (List.forall_mem_cons.mpr ⟨iT_2 _ (List.mem_of_getElem? (i := 72) rfl), (List.forall_mem_cons.mpr ⟨iT_1 _ (List.mem_of_getElem? (i := 68) rfl), (List.forall_mem_cons.mpr ⟨iT_1 _ (List.mem_of_getElem? (i := 69) rfl), (List.forall_mem_cons.mpr ⟨iT_1 _ (List.mem_of_getElem? (i := 70) rfl), (List.forall_mem_cons.mpr ⟨iT_1 _ (List.mem_of_getElem? (i := 114) rfl), (List.forall_mem_cons.mpr ⟨iT_1 _ (List.mem_of_getElem? (i := 115) rfl), (List.forall_mem_cons.mpr ⟨iT_1 _ (List.mem_of_getElem? (i := 117) rfl), (List.forall_mem_cons.mpr ⟨iT_1 _ (List.mem_of_getElem? (i := 72) rfl), (List.forall_mem_cons.mpr ⟨iT_1 _ (List.mem_of_getElem? (i := 119) rfl), (List.forall_mem_cons.mpr ⟨iT_1 _ (List.mem_of_getElem? (i := 120) rfl), (List.forall_mem_cons.mpr ⟨iT_1 _ (List.mem_of_getElem? (i := 122) rfl), (List.forall_mem_cons.mpr ⟨iT_1 _ (List.mem_of_getElem? (i := 75) rfl), (fun _ h => absurd h List.not_mem_nil)⟩)⟩)⟩)⟩)⟩)⟩)⟩)⟩)⟩)⟩)⟩)⟩)⟩)⟩)⟩)⟩)⟩)⟩)⟩)⟩)⟩)⟩)⟩)⟩)
set_option maxRecDepth 20000 in
theorem wl_5_in : ∀ w ∈ wl_5, w ∈ lw_tbl := (List.forall_mem_cons.mpr ⟨iT_1 _ (List.mem_of_getElem? (i := 77) rfl), (List.forall_mem_cons.mpr ⟨iT_1 _ (List.mem_of_getElem? (i := 76) rfl), (List.forall_mem_cons.mpr ⟨iT_1 _ (List.mem_of_getElem? (i := 218) rfl), (List.forall_mem_cons.mpr ⟨iT_1 _ (List.mem_of_getElem? (i := 221) rfl), (List.forall_mem_cons.mpr ⟨iT_1 _ (List.mem_of_getElem? (i := 219) rfl), (List.forall_mem_cons.mpr ⟨iT_1 _ (List.mem_of_getElem? (i := 220) rfl), (List.forall_mem_cons.mpr ⟨iT_3 _ (List.mem_of_getElem? (i := 45) rfl), (List.forall_mem_cons.mpr ⟨iT_3 _ (List.mem_of_getElem? (i := 48) rfl), (List.forall_mem_cons.mpr ⟨iT_3 _ (List.mem_of_getElem? (i := 46) rfl), (List.forall_mem_cons.mpr ⟨iT_3 _ (List.mem_of_getElem? (i := 47) rfl), (List.forall_mem_cons.mpr ⟨iT_1 _ (List.mem_of_getElem? (i := 85) rfl), (List.forall_mem_cons.mpr ⟨iT_3 _ (List.mem_of_getElem? (i := 70) rfl), (List.forall_mem_cons.mpr ⟨iT_3 _ (List.mem_of_getElem? (i := 73) rfl), (List.forall_mem_cons.mpr ⟨iT_3 _ (List.mem_of_getElem? (i := 71) rfl), (List.forall_mem_cons.mpr ⟨iT_3 _ (List.mem_of_getElem? (i := 72) rfl), (List.forall_mem_cons.mpr ⟨iT_3 _ (List.mem_of_getElem? (i := 74) rfl), (List.forall_mem_cons.mpr ⟨iT_2 _ (List.mem_of_getElem? (i := 5) rfl), (List.forall_mem_cons.mpr ⟨iT_2 _ (List.mem_of_getElem? (i := 3) rfl), (List.forall_mem_cons.mpr ⟨iT_2 _ (List.mem_of_getElem? (i := 4) rfl), (List.forall_mem_cons.mpr ⟨iT_1 _ (List.mem_of_getElem? (i := 88) rfl), (List.forall_mem_cons.mpr ⟨iT_3 _ (List.mem_of_getElem? (i := 75) rfl), (List.forall_mem_cons.mpr ⟨iT_3 _ (List.mem_of_getElem? (i := 78) rfl), (List.forall_mem_cons.mpr ⟨iT_3 _ (List.mem_of_getElem? (i := 76) rfl), (List.forall_mem_cons.mpr ⟨iT_3 _ (List.mem_of_getElem? (i := 77) rfl), (fun _ h => absurd h List.not_mem_nil)⟩)⟩)⟩)⟩)⟩)⟩)⟩)⟩)⟩)⟩)⟩)⟩)⟩)⟩)⟩)⟩)⟩)⟩)⟩)⟩)⟩)⟩)⟩)⟩)
set_option maxRecDepth 20000 in
theorem wl_6_in : ∀ w ∈ wl_6, w ∈ lw_tbl := (List.forall_mem_cons.mpr ⟨iT_2 _ (List.mem_of_getElem? (i := 75) rfl), (List.forall_mem_cons.mpr ⟨iT_3 _ (List.mem_of_getElem? (i := 92) rfl), (List.forall_mem_cons.mpr ⟨iT_3 _ (List.mem_of_getElem? (i := 95) rfl), (List.forall_mem_cons.mpr ⟨iT_3 _ (List.mem_of_getElem? (i := 93) rfl), (List.forall_mem_cons.mpr ⟨iT_3 _ (List.mem_of_getElem? (i := 94) rfl), (List.forall_mem_cons.mpr ⟨iT_2 _ (List.mem_of_getElem? (i := 6) rfl), (List.forall_mem_cons.mpr ⟨iT_2 _ (List.mem_of_getElem? (i := 7) rfl), (List.forall_mem_cons.mpr ⟨iT_1 _ (List.mem_of_getElem? (i := 196) rfl), (List.forall_mem_cons.mpr ⟨iT_1 _ (List.mem_of_getElem? (i := 194) rfl), (List.forall_mem_cons.mpr ⟨iT_1 _ (List.mem_of_getElem? (i := 195) rfl), (List.forall_mem_cons.mpr ⟨iT_2 _ (List.mem_of_getElem? (i := 8) rfl), (List.forall_mem_cons.mpr ⟨iT_2 _ (List.mem_of_getElem? (i := 11) rfl), (List.forall_mem_cons.mpr ⟨iT_2 _ (List.mem_of_getElem? (i := 9) rfl), (List.forall_mem_cons.mpr ⟨iT_2 _ (List.mem_of_getElem? (i := 10) rfl), (List.forall_mem_cons.mpr ⟨iT_2 _ (List.mem_of_getElem? (i := 103) rfl), (List.forall_mem_cons.mpr ⟨iT_2 _ (List.mem_of_getElem? (i := 113) rfl), (List.forall_mem_cons.mpr ⟨iT_2 _ (List.mem_of_getElem? (i := 114) rfl), (List.forall_mem_cons.mpr ⟨iT_2 _ (List.mem_of_getElem? (i := 116) rfl), (List.forall_mem_cons.mpr ⟨iT_2 _ (List.mem_of_getElem? (i := 120) rfl), (List.forall_mem_cons.mpr ⟨iT_2 _ (List.mem_of_getElem? (i := 121) rfl), (List.forall_mem_cons.mpr ⟨iT_2 _ (List.mem_of_getElem? (i := 122) rfl), (List.forall_mem_cons.mpr ⟨iT_2 _ (List.mem_of_getElem? (i := 123) rfl), (List.forall_mem_cons.mpr ⟨iT_2 _ (List.mem_of_getElem? (i := 124) rfl), (List.forall_mem_cons.mpr ⟨iT_2 _ (List.mem_of_getElem? (i := 125) rfl), (fun _ h => absurd h List.not_mem_nil)⟩)⟩)⟩)⟩)⟩)⟩)⟩)⟩)⟩)⟩)⟩)⟩)⟩)⟩)⟩)⟩)⟩)⟩)⟩)⟩)⟩)⟩)⟩)⟩)
set_option maxRecDepth 20000 in
theorem wl_7_in : ∀ w ∈ wl_7, w ∈ lw_tbl := (List.forall_mem_cons.mpr ⟨iT_2 _ (List.mem_of_getElem? (i := 126) rfl), (List.forall_mem_cons.mpr ⟨iT_2 _ (List.mem_of_getElem? (i := 118) rfl), (List.forall_mem_cons.mpr ⟨iT_2 _ (List.mem_of_getElem? (i := 119) rfl), (List.forall_mem_cons.mpr ⟨iT_2 _ (List.mem_of_getElem? (i := 152) rfl), (List.forall_mem_cons.mpr ⟨iT_2 _ (List.mem_of_getElem? (i := 153) rfl), (List.forall_mem_cons.mpr ⟨iT_3 _ (List.mem_of_getElem? (i := 28) rfl), (List.forall_mem_cons.mpr ⟨iT_3 _ (List.mem_of_getElem? (i := 31) rfl), (List.forall_mem_cons.mpr ⟨iT_3 _ (List.mem_of_getElem? (i := 29) rfl), (List.forall_mem_cons.mpr ⟨iT_3 _ (List.mem_of_getElem? (i := 30) rfl), (List.forall_mem_cons.mpr ⟨iT_1 _ (List.mem_of_getElem? (i := 16) rfl), (List.forall_mem_cons.mpr ⟨iT_1 _ (List.mem_of_getElem? (i := 19) rfl), (List.forall_mem_cons.mpr ⟨iT_1 _ (List.mem_of_getElem? (i := 21) rfl), (List.forall_mem_cons.mpr ⟨iT_1 _ (List.mem_of_getElem? (i := 137) rfl), (List.forall_mem_cons.mpr ⟨iT_1 _ (List.mem_of_getElem? (i := 36) rfl), (List.forall_mem_cons.mpr ⟨iT_1 _ (List.mem_of_getElem? (i := 138) rfl), (List.forall_mem_cons.mpr ⟨iT_1 _ (List.mem_of_getElem? (i := 37) rfl), (List.forall_mem_cons.mpr ⟨iT_1 _ (List.mem_of_getElem? (i := 139) rfl), (List.forall_mem_cons.mpr ⟨iT_1 _ (List.mem_of_getElem? (i := 140) rfl), (List.forall_mem_cons.mpr ⟨iT_1 _ (List.mem_of_getElem? (i := 143) rfl), (List.forall_mem_cons.mpr ⟨iT_1 _ (List.mem_of_getElem? (i := 144) rfl), (List.forall_mem_cons.mpr ⟨iT_1 _ (List.mem_of_getElem? (i := 145) rfl), (List.forall_mem_cons.mpr ⟨iT_1 _ (List.mem_of_getElem? (i := 39) rfl), (List.forall_mem_cons.mpr ⟨iT_1 _ (List.mem_of_getElem? (i := 65) rfl), (List.forall_mem_cons.mpr ⟨iT_1 _ (List.mem_of_getElem? (i := 67) rfl), (fun _ h => absurd h List.not_mem_nil)⟩)⟩)⟩)⟩)⟩)⟩)⟩)⟩)⟩)⟩)⟩)⟩)⟩)⟩)⟩)⟩)⟩)⟩)⟩)⟩)⟩)⟩)⟩)⟩)
set_option maxRecDepth 20000 in
theorem wl_8_in : ∀ w ∈ wl_8, w ∈ lw_tbl := (List.forall_mem_cons.mpr ⟨iT_1 _ (List.mem_of_getElem? (i := 66) rfl), (List.forall_mem_cons.mpr ⟨iT_1 _ (List.mem_of_getElem? (i := 141) rfl), (List.forall_mem_cons.mpr ⟨iT_1 _ (List.mem_of_getElem? (i := 142) rfl), (List.forall_mem_cons.mpr ⟨iT_1 _ (List.mem_of_getElem? (i := 169) rfl), (List.forall_mem_cons.mpr ⟨iT_1 _ (List.mem_of_getElem? (i := 172) rfl), (List.forall_mem_cons.mpr ⟨iT_1 _ (List.mem_of_getElem? (i := 171) rfl), (List.forall_mem_cons.mpr ⟨iP_1 (⟨"SnippetStops", "refuse", "(I)I"⟩, _) (List.mem_of_getElem? (i := 0) rfl), (List.forall_mem_cons.mpr ⟨iT_1 _ (List.mem_of_getElem? (i := 173) rfl), (List.forall_mem_cons.mpr ⟨iT_1 _ (List.mem_of_getElem? (i := 177) rfl), (List.forall_mem_cons.mpr ⟨iT_1 _ (List.mem_of_getElem? (i := 193) rfl), (List.forall_mem_cons.mpr ⟨iT_1 _ (List.mem_of_getElem? (i := 201) rfl), (List.forall_mem_cons.mpr ⟨iT_1 _ (List.mem_of_getElem? (i := 203) rfl), (List.forall_mem_cons.mpr ⟨iT_1 _ (List.mem_of_getElem? (i := 202) rfl), (List.forall_mem_cons.mpr ⟨iT_1 _ (List.mem_of_getElem? (i := 204) rfl), (List.forall_mem_cons.mpr ⟨iT_1 _ (List.mem_of_getElem? (i := 206) rfl), (List.forall_mem_cons.mpr ⟨iT_1 _ (List.mem_of_getElem? (i := 205) rfl), (List.forall_mem_cons.mpr ⟨iT_1 _ (List.mem_of_getElem? (i := 214) rfl), (List.forall_mem_cons.mpr ⟨iT_1 _ (List.mem_of_getElem? (i := 217) rfl), (List.forall_mem_cons.mpr ⟨iT_1 _ (List.mem_of_getElem? (i := 215) rfl), (List.forall_mem_cons.mpr ⟨iT_1 _ (List.mem_of_getElem? (i := 216) rfl), (List.forall_mem_cons.mpr ⟨iT_1 _ (List.mem_of_getElem? (i := 118) rfl), (List.forall_mem_cons.mpr ⟨iT_1 _ (List.mem_of_getElem? (i := 237) rfl), (List.forall_mem_cons.mpr ⟨iT_1 _ (List.mem_of_getElem? (i := 238) rfl), (List.forall_mem_cons.mpr ⟨iT_2 _ (List.mem_of_getElem? (i := 1) rfl), (fun _ h => absurd h List.not_mem_nil)⟩)⟩)⟩)⟩)⟩)⟩)⟩)⟩)⟩)⟩)⟩)⟩)⟩)⟩)⟩)⟩)⟩)⟩)⟩)⟩)⟩)⟩)⟩)⟩)
set_option maxRecDepth 20000 in
theorem wl_9_in : ∀ w ∈ wl_9, w ∈ lw_tbl := (List.forall_mem_cons.mpr ⟨iT_2 _ (List.mem_of_getElem? (i := 0) rfl), (List.forall_mem_cons.mpr ⟨iP_1 (⟨"SnippetStops", "lands", "()Z"⟩, _) (List.mem_of_getElem? (i := 2) rfl), (List.forall_mem_cons.mpr ⟨iT_2 _ (List.mem_of_getElem? (i := 108) rfl), (List.forall_mem_cons.mpr ⟨iT_2 _ (List.mem_of_getElem? (i := 110) rfl), (List.forall_mem_cons.mpr ⟨iT_2 _ (List.mem_of_getElem? (i := 112) rfl), (List.forall_mem_cons.mpr ⟨iT_2 _ (List.mem_of_getElem? (i := 111) rfl), (List.forall_mem_cons.mpr ⟨iT_2 _ (List.mem_of_getElem? (i := 148) rfl), (List.forall_mem_cons.mpr ⟨iT_2 _ (List.mem_of_getElem? (i := 151) rfl), (List.forall_mem_cons.mpr ⟨iT_2 _ (List.mem_of_getElem? (i := 149) rfl), (List.forall_mem_cons.mpr ⟨iT_2 _ (List.mem_of_getElem? (i := 150) rfl), (List.forall_mem_cons.mpr ⟨iT_1 _ (List.mem_of_getElem? (i := 121) rfl), (List.forall_mem_cons.mpr ⟨iT_2 _ (List.mem_of_getElem? (i := 117) rfl), (List.forall_mem_cons.mpr ⟨iT_3 _ (List.mem_of_getElem? (i := 41) rfl), (List.forall_mem_cons.mpr ⟨iT_3 _ (List.mem_of_getElem? (i := 44) rfl), (List.forall_mem_cons.mpr ⟨iT_3 _ (List.mem_of_getElem? (i := 42) rfl), (List.forall_mem_cons.mpr ⟨iT_3 _ (List.mem_of_getElem? (i := 43) rfl), (List.forall_mem_cons.mpr ⟨iT_2 _ (List.mem_of_getElem? (i := 2) rfl), (List.forall_mem_cons.mpr ⟨iT_3 _ (List.mem_of_getElem? (i := 66) rfl), (List.forall_mem_cons.mpr ⟨iT_3 _ (List.mem_of_getElem? (i := 69) rfl), (List.forall_mem_cons.mpr ⟨iT_3 _ (List.mem_of_getElem? (i := 67) rfl), (List.forall_mem_cons.mpr ⟨iT_3 _ (List.mem_of_getElem? (i := 68) rfl), (List.forall_mem_cons.mpr ⟨iT_1 _ (List.mem_of_getElem? (i := 211) rfl), (List.forall_mem_cons.mpr ⟨iT_1 _ (List.mem_of_getElem? (i := 213) rfl), (List.forall_mem_cons.mpr ⟨iT_1 _ (List.mem_of_getElem? (i := 212) rfl), (fun _ h => absurd h List.not_mem_nil)⟩)⟩)⟩)⟩)⟩)⟩)⟩)⟩)⟩)⟩)⟩)⟩)⟩)⟩)⟩)⟩)⟩)⟩)⟩)⟩)⟩)⟩)⟩)⟩)
set_option maxRecDepth 20000 in
theorem wl_10_in : ∀ w ∈ wl_10, w ∈ lw_tbl := (List.forall_mem_cons.mpr ⟨iT_3 _ (List.mem_of_getElem? (i := 87) rfl), (List.forall_mem_cons.mpr ⟨iT_3 _ (List.mem_of_getElem? (i := 88) rfl), (List.forall_mem_cons.mpr ⟨iT_3 _ (List.mem_of_getElem? (i := 91) rfl), (List.forall_mem_cons.mpr ⟨iT_3 _ (List.mem_of_getElem? (i := 89) rfl), (List.forall_mem_cons.mpr ⟨iT_3 _ (List.mem_of_getElem? (i := 90) rfl), (List.forall_mem_cons.mpr ⟨iT_1 _ (List.mem_of_getElem? (i := 123) rfl), (List.forall_mem_cons.mpr ⟨iT_1 _ (List.mem_of_getElem? (i := 116) rfl), (List.forall_mem_cons.mpr ⟨iT_1 _ (List.mem_of_getElem? (i := 86) rfl), (List.forall_mem_cons.mpr ⟨iT_3 _ (List.mem_of_getElem? (i := 136) rfl), (List.forall_mem_cons.mpr ⟨iT_1 _ (List.mem_of_getElem? (i := 207) rfl), (List.forall_mem_cons.mpr ⟨iT_1 _ (List.mem_of_getElem? (i := 89) rfl), (List.forall_mem_cons.mpr ⟨iT_3 _ (List.mem_of_getElem? (i := 190) rfl), (List.forall_mem_cons.mpr ⟨iT_2 _ (List.mem_of_getElem? (i := 37) rfl), (List.forall_mem_cons.mpr ⟨iT_2 _ (List.mem_of_getElem? (i := 36) rfl), (List.forall_mem_cons.mpr ⟨iT_3 _ (List.mem_of_getElem? (i := 191) rfl), (List.forall_mem_cons.mpr ⟨iT_1 _ (List.mem_of_getElem? (i := 83) rfl), (List.forall_mem_cons.mpr ⟨iT_3 _ (List.mem_of_getElem? (i := 206) rfl), (List.forall_mem_cons.mpr ⟨iT_2 _ (List.mem_of_getElem? (i := 212) rfl), (List.forall_mem_cons.mpr ⟨iT_4 _ (List.mem_of_getElem? (i := 12) rfl), (List.forall_mem_cons.mpr ⟨iT_4 _ (List.mem_of_getElem? (i := 13) rfl), (List.forall_mem_cons.mpr ⟨iT_4 _ (List.mem_of_getElem? (i := 14) rfl), (List.forall_mem_cons.mpr ⟨iT_4 _ (List.mem_of_getElem? (i := 7) rfl), (List.forall_mem_cons.mpr ⟨iT_4 _ (List.mem_of_getElem? (i := 5) rfl), (List.forall_mem_cons.mpr ⟨iT_4 _ (List.mem_of_getElem? (i := 6) rfl), (fun _ h => absurd h List.not_mem_nil)⟩)⟩)⟩)⟩)⟩)⟩)⟩)⟩)⟩)⟩)⟩)⟩)⟩)⟩)⟩)⟩)⟩)⟩)⟩)⟩)⟩)⟩)⟩)⟩)
set_option maxRecDepth 20000 in
theorem wl_11_in : ∀ w ∈ wl_11, w ∈ lw_tbl := (List.forall_mem_cons.mpr ⟨iT_4 _ (List.mem_of_getElem? (i := 15) rfl), (List.forall_mem_cons.mpr ⟨iT_3 _ (List.mem_of_getElem? (i := 181) rfl), (List.forall_mem_cons.mpr ⟨iT_3 _ (List.mem_of_getElem? (i := 179) rfl), (List.forall_mem_cons.mpr ⟨iT_3 _ (List.mem_of_getElem? (i := 180) rfl), (List.forall_mem_cons.mpr ⟨iT_4 _ (List.mem_of_getElem? (i := 16) rfl), (List.forall_mem_cons.mpr ⟨iT_3 _ (List.mem_of_getElem? (i := 189) rfl), (List.forall_mem_cons.mpr ⟨iT_3 _ (List.mem_of_getElem? (i := 187) rfl), (List.forall_mem_cons.mpr ⟨iT_3 _ (List.mem_of_getElem? (i := 188) rfl), (List.forall_mem_cons.mpr ⟨iT_4 _ (List.mem_of_getElem? (i := 22) rfl), (List.forall_mem_cons.mpr ⟨iT_4 _ (List.mem_of_getElem? (i := 25) rfl), (List.forall_mem_cons.mpr ⟨iT_4 _ (List.mem_of_getElem? (i := 26) rfl), (List.forall_mem_cons.mpr ⟨iT_4 _ (List.mem_of_getElem? (i := 29) rfl), (List.forall_mem_cons.mpr ⟨iT_4 _ (List.mem_of_getElem? (i := 31) rfl), (List.forall_mem_cons.mpr ⟨iT_4 _ (List.mem_of_getElem? (i := 32) rfl), (List.forall_mem_cons.mpr ⟨iT_4 _ (List.mem_of_getElem? (i := 33) rfl), (List.forall_mem_cons.mpr ⟨iT_4 _ (List.mem_of_getElem? (i := 34) rfl), (List.forall_mem_cons.mpr ⟨iT_4 _ (List.mem_of_getElem? (i := 35) rfl), (List.forall_mem_cons.mpr ⟨iT_4 _ (List.mem_of_getElem? (i := 36) rfl), (List.forall_mem_cons.mpr ⟨iT_4 _ (List.mem_of_getElem? (i := 37) rfl), (List.forall_mem_cons.mpr ⟨iT_4 _ (List.mem_of_getElem? (i := 23) rfl), (List.forall_mem_cons.mpr ⟨iT_4 _ (List.mem_of_getElem? (i := 38) rfl), (List.forall_mem_cons.mpr ⟨iT_4 _ (List.mem_of_getElem? (i := 39) rfl), (List.forall_mem_cons.mpr ⟨iT_4 _ (List.mem_of_getElem? (i := 40) rfl), (List.forall_mem_cons.mpr ⟨iT_4 _ (List.mem_of_getElem? (i := 41) rfl), (fun _ h => absurd h List.not_mem_nil)⟩)⟩)⟩)⟩)⟩)⟩)⟩)⟩)⟩)⟩)⟩)⟩)⟩)⟩)⟩)⟩)⟩)⟩)⟩)⟩)⟩)⟩)⟩)⟩)
set_option maxRecDepth 20000 in
theorem wl_12_in : ∀ w ∈ wl_12, w ∈ lw_tbl := (List.forall_mem_cons.mpr ⟨iT_4 _ (List.mem_of_getElem? (i := 42) rfl), (List.forall_mem_cons.mpr ⟨iT_4 _ (List.mem_of_getElem? (i := 43) rfl), (List.forall_mem_cons.mpr ⟨iT_4 _ (List.mem_of_getElem? (i := 44) rfl), (List.forall_mem_cons.mpr ⟨iT_4 _ (List.mem_of_getElem? (i := 45) rfl), (List.forall_mem_cons.mpr ⟨iT_4 _ (List.mem_of_getElem? (i := 47) rfl), (List.forall_mem_cons.mpr ⟨iT_4 _ (List.mem_of_getElem? (i := 52) rfl), (List.forall_mem_cons.mpr ⟨iT_4 _ (List.mem_of_getElem? (i := 54) rfl), (List.forall_mem_cons.mpr ⟨iT_4 _ (List.mem_of_getElem? (i := 57) rfl), (List.forall_mem_cons.mpr ⟨iT_4 _ (List.mem_of_getElem? (i := 58) rfl), (List.forall_mem_cons.mpr ⟨iT_4 _ (List.mem_of_getElem? (i := 59) rfl), (List.forall_mem_cons.mpr ⟨iT_4 _ (List.mem_of_getElem? (i := 60) rfl), (List.forall_mem_cons.mpr ⟨iT_4 _ (List.mem_of_getElem? (i := 61) rfl), (List.forall_mem_cons.mpr ⟨iT_4 _ (List.mem_of_getElem? (i := 62) rfl), (List.forall_mem_cons.mpr ⟨iT_4 _ (List.mem_of_getElem? (i := 64) rfl), (List.forall_mem_cons.mpr ⟨iT_4 _ (List.mem_of_getElem? (i := 65) rfl), (List.forall_mem_cons.mpr ⟨iT_4 _ (List.mem_of_getElem? (i := 66) rfl), (List.forall_mem_cons.mpr ⟨iT_4 _ (List.mem_of_getElem? (i := 24) rfl), (List.forall_mem_cons.mpr ⟨iT_4 _ (List.mem_of_getElem? (i := 68) rfl), (List.forall_mem_cons.mpr ⟨iT_4 _ (List.mem_of_getElem? (i := 49) rfl), (List.forall_mem_cons.mpr ⟨iT_4 _ (List.mem_of_getElem? (i := 50) rfl), (List.forall_mem_cons.mpr ⟨iT_4 _ (List.mem_of_getElem? (i := 51) rfl), (List.forall_mem_cons.mpr ⟨iT_4 _ (List.mem_of_getElem? (i := 53) rfl), (List.forall_mem_cons.mpr ⟨iT_4 _ (List.mem_of_getElem? (i := 48) rfl), (List.forall_mem_cons.mpr ⟨iT_4 _ (List.mem_of_getElem? (i := 63) rfl), (fun _ h => absurd h List.not_mem_nil)⟩)⟩)⟩)⟩)⟩)⟩)⟩)⟩)⟩)⟩)⟩)⟩)⟩)⟩)⟩)⟩)⟩)⟩)⟩)⟩)⟩)⟩)⟩)⟩)
set_option maxRecDepth 20000 in
theorem wl_13_in : ∀ w ∈ wl_13, w ∈ lw_tbl := (List.forall_mem_cons.mpr ⟨iT_4 _ (List.mem_of_getElem? (i := 55) rfl), (List.forall_mem_cons.mpr ⟨iT_5 _ (List.mem_of_getElem? (i := 102) rfl), (List.forall_mem_cons.mpr ⟨iT_5 _ (List.mem_of_getElem? (i := 105) rfl), (List.forall_mem_cons.mpr ⟨iT_5 _ (List.mem_of_getElem? (i := 104) rfl), (List.forall_mem_cons.mpr ⟨iP_4 (⟨"SnippetStopsModel", "closes", "(IIII)V"⟩, _) (List.mem_of_getElem? (i := 11) rfl), (List.forall_mem_cons.mpr ⟨iT_4 _ (List.mem_of_getElem? (i := 56) rfl), (List.forall_mem_cons.mpr ⟨iT_5 _ (List.mem_of_getElem? (i := 94) rfl), (List.forall_mem_cons.mpr ⟨iT_5 _ (List.mem_of_getElem? (i := 97) rfl), (List.forall_mem_cons.mpr ⟨iT_5 _ (List.mem_of_getElem? (i := 96) rfl), (List.forall_mem_cons.mpr ⟨iP_4 (⟨"SnippetStopsModel", "opens", "(IIIII)V"⟩, _) (List.mem_of_getElem? (i := 9) rfl), (List.forall_mem_cons.mpr ⟨iT_5 _ (List.mem_of_getElem? (i := 98) rfl), (List.forall_mem_cons.mpr ⟨iT_5 _ (List.mem_of_getElem? (i := 101) rfl), (List.forall_mem_cons.mpr ⟨iT_5 _ (List.mem_of_getElem? (i := 100) rfl), (List.forall_mem_cons.mpr ⟨iP_4 (⟨"SnippetStopsModel", "step", "(I)V"⟩, _) (List.mem_of_getElem? (i := 10) rfl), (List.forall_mem_cons.mpr ⟨iT_4 _ (List.mem_of_getElem? (i := 30) rfl), (List.forall_mem_cons.mpr ⟨iT_5 _ (List.mem_of_getElem? (i := 90) rfl), (List.forall_mem_cons.mpr ⟨iT_5 _ (List.mem_of_getElem? (i := 93) rfl), (List.forall_mem_cons.mpr ⟨iT_5 _ (List.mem_of_getElem? (i := 92) rfl), (List.forall_mem_cons.mpr ⟨iP_4 (⟨"SnippetStopsModel", "showsAll", "(I)V"⟩, _) (List.mem_of_getElem? (i := 8) rfl), (List.forall_mem_cons.mpr ⟨iT_4 _ (List.mem_of_getElem? (i := 69) rfl), (List.forall_mem_cons.mpr ⟨iT_4 _ (List.mem_of_getElem? (i := 173) rfl), (List.forall_mem_cons.mpr ⟨iT_4 _ (List.mem_of_getElem? (i := 209) rfl), (List.forall_mem_cons.mpr ⟨iT_4 _ (List.mem_of_getElem? (i := 212) rfl), (List.forall_mem_cons.mpr ⟨iT_4 _ (List.mem_of_getElem? (i := 211) rfl), (fun _ h => absurd h List.not_mem_nil)⟩)⟩)⟩)⟩)⟩)⟩)⟩)⟩)⟩)⟩)⟩)⟩)⟩)⟩)⟩)⟩)⟩)⟩)⟩)⟩)⟩)⟩)⟩)⟩)
set_option maxRecDepth 20000 in
theorem wl_14_in : ∀ w ∈ wl_14, w ∈ lw_tbl := (List.forall_mem_cons.mpr ⟨iP_2 (⟨"SnippetStopsModel", "put", "(I)V"⟩, _) (List.mem_of_getElem? (i := 13) rfl), (List.forall_mem_cons.mpr ⟨iT_4 _ (List.mem_of_getElem? (i := 27) rfl), (List.forall_mem_cons.mpr ⟨iT_4 _ (List.mem_of_getElem? (i := 28) rfl), (List.forall_mem_cons.mpr ⟨iT_4 _ (List.mem_of_getElem? (i := 46) rfl), (List.forall_mem_cons.mpr ⟨iT_4 _ (List.mem_of_getElem? (i := 67) rfl), (List.forall_mem_cons.mpr ⟨iT_4 _ (List.mem_of_getElem? (i := 221) rfl), (List.forall_mem_cons.mpr ⟨iT_4 _ (List.mem_of_getElem? (i := 224) rfl), (List.forall_mem_cons.mpr ⟨iT_4 _ (List.mem_of_getElem? (i := 223) rfl), (List.forall_mem_cons.mpr ⟨iP_3 (⟨"SnippetStopsModel", "copiesState", "(II)V"⟩, _) (List.mem_of_getElem? (i := 0) rfl), (List.forall_mem_cons.mpr ⟨iT_5 _ (List.mem_of_getElem? (i := 172) rfl), (List.forall_mem_cons.mpr ⟨iT_5 _ (List.mem_of_getElem? (i := 175) rfl), (List.forall_mem_cons.mpr ⟨iT_5 _ (List.mem_of_getElem? (i := 174) rfl), (List.forall_mem_cons.mpr ⟨iP_5 (⟨"SnippetStopsModel", "documentBytes", "()I"⟩, _) (List.mem_of_getElem? (i := 11) rfl), (List.forall_mem_cons.mpr ⟨iT_5 _ (List.mem_of_getElem? (i := 180) rfl), (List.forall_mem_cons.mpr ⟨iT_5 _ (List.mem_of_getElem? (i := 183) rfl), (List.forall_mem_cons.mpr ⟨iT_5 _ (List.mem_of_getElem? (i := 182) rfl), (List.forall_mem_cons.mpr ⟨iP_5 (⟨"SnippetStopsModel", "first", "(II)I"⟩, _) (List.mem_of_getElem? (i := 13) rfl), (List.forall_mem_cons.mpr ⟨iT_5 _ (List.mem_of_getElem? (i := 184) rfl), (List.forall_mem_cons.mpr ⟨iT_5 _ (List.mem_of_getElem? (i := 187) rfl), (List.forall_mem_cons.mpr ⟨iT_5 _ (List.mem_of_getElem? (i := 186) rfl), (List.forall_mem_cons.mpr ⟨iP_5 (⟨"SnippetStopsModel", "comesIn", "(II)V"⟩, _) (List.mem_of_getElem? (i := 14) rfl), (List.forall_mem_cons.mpr ⟨iT_4 _ (List.mem_of_getElem? (i := 186) rfl), (List.forall_mem_cons.mpr ⟨iT_4 _ (List.mem_of_getElem? (i := 188) rfl), (List.forall_mem_cons.mpr ⟨iT_4 _ (List.mem_of_getElem? (i := 187) rfl), (fun _ h => absurd h List.not_mem_nil)⟩)⟩)⟩)⟩)⟩)⟩)⟩)⟩)⟩)⟩)⟩)⟩)⟩)⟩)⟩)⟩)⟩)⟩)⟩)⟩)⟩)⟩)⟩)⟩)
set_option maxRecDepth 20000 in
theorem wl_15_in : ∀ w ∈ wl_15, w ∈ lw_tbl := (List.forall_mem_cons.mpr ⟨iT_5 _ (List.mem_of_getElem? (i := 82) rfl), (List.forall_mem_cons.mpr ⟨iT_5 _ (List.mem_of_getElem? (i := 85) rfl), (List.forall_mem_cons.mpr ⟨iT_5 _ (List.mem_of_getElem? (i := 84) rfl), (List.forall_mem_cons.mpr ⟨iP_4 (⟨"SnippetStopsModel", "isStopThere", "(II)Z"⟩, _) (List.mem_of_getElem? (i := 6) rfl), (List.forall_mem_cons.mpr ⟨iT_4 _ (List.mem_of_getElem? (i := 189) rfl), (List.forall_mem_cons.mpr ⟨iT_4 _ (List.mem_of_getElem? (i := 192) rfl), (List.forall_mem_cons.mpr ⟨iT_4 _ (List.mem_of_getElem? (i := 191) rfl), (List.forall_mem_cons.mpr ⟨iP_2 (⟨"SnippetStopsModel", "bad", "()I"⟩, _) (List.mem_of_getElem? (i := 10) rfl), (List.forall_mem_cons.mpr ⟨iT_4 _ (List.mem_of_getElem? (i := 205) rfl), (List.forall_mem_cons.mpr ⟨iT_4 _ (List.mem_of_getElem? (i := 208) rfl), (List.forall_mem_cons.mpr ⟨iT_4 _ (List.mem_of_getElem? (i := 207) rfl), (List.forall_mem_cons.mpr ⟨iP_2 (⟨"SnippetStopsModel", "writes", "(I)V"⟩, _) (List.mem_of_getElem? (i := 12) rfl), (List.forall_mem_cons.mpr ⟨iT_4 _ (List.mem_of_getElem? (i := 217) rfl), (List.forall_mem_cons.mpr ⟨iT_4 _ (List.mem_of_getElem? (i := 220) rfl), (List.forall_mem_cons.mpr ⟨iT_4 _ (List.mem_of_getElem? (i := 219) rfl), (List.forall_mem_cons.mpr ⟨iP_2 (⟨"SnippetStopsModel", "leavesState", "()V"⟩, _) (List.mem_of_getElem? (i := 15) rfl), (List.forall_mem_cons.mpr ⟨iT_5 _ (List.mem_of_getElem? (i := 46) rfl), (List.forall_mem_cons.mpr ⟨iT_5 _ (List.mem_of_getElem? (i := 49) rfl), (List.forall_mem_cons.mpr ⟨iT_5 _ (List.mem_of_getElem? (i := 48) rfl), (List.forall_mem_cons.mpr ⟨iP_3 (⟨"SnippetStopsModel", "settles", "(I)V"⟩, _) (List.mem_of_getElem? (i := 13) rfl), (List.forall_mem_cons.mpr ⟨iT_5 _ (List.mem_of_getElem? (i := 78) rfl), (List.forall_mem_cons.mpr ⟨iT_5 _ (List.mem_of_getElem? (i := 81) rfl), (List.forall_mem_cons.mpr ⟨iT_5 _ (List.mem_of_getElem? (i := 80) rfl), (List.forall_mem_cons.mpr ⟨iP_4 (⟨"SnippetStopsModel", "nextStop", "(III)I"⟩, _) (List.mem_of_getElem? (i := 5) rfl), (fun _ h => absurd h List.not_mem_nil)⟩)⟩)⟩)⟩)⟩)⟩)⟩)⟩)⟩)⟩)⟩)⟩)⟩)⟩)⟩)⟩)⟩)⟩)⟩)⟩)⟩)⟩)⟩)⟩)
set_option maxRecDepth 20000 in
theorem wl_16_in : ∀ w ∈ wl_16, w ∈ lw_tbl := (List.forall_mem_cons.mpr ⟨iT_5 _ (List.mem_of_getElem? (i := 86) rfl), (List.forall_mem_cons.mpr ⟨iT_5 _ (List.mem_of_getElem? (i := 89) rfl), (List.forall_mem_cons.mpr ⟨iT_5 _ (List.mem_of_getElem? (i := 88) rfl), (List.forall_mem_cons.mpr ⟨iP_4 (⟨"SnippetStopsModel", "passesDown", "()V"⟩, _) (List.mem_of_getElem? (i := 7) rfl), (List.forall_mem_cons.mpr ⟨iT_4 _ (List.mem_of_getElem? (i := 229) rfl), (List.forall_mem_cons.mpr ⟨iT_4 _ (List.mem_of_getElem? (i := 232) rfl), (List.forall_mem_cons.mpr ⟨iT_4 _ (List.mem_of_getElem? (i := 231) rfl), (List.forall_mem_cons.mpr ⟨iP_3 (⟨"SnippetStopsModel", "reads", "(I)Z"⟩, _) (List.mem_of_getElem? (i := 1) rfl), (List.forall_mem_cons.mpr ⟨iT_4 _ (List.mem_of_getElem? (i := 165) rfl), (List.forall_mem_cons.mpr ⟨iT_4 _ (List.mem_of_getElem? (i := 168) rfl), (List.forall_mem_cons.mpr ⟨iT_4 _ (List.mem_of_getElem? (i := 167) rfl), (List.forall_mem_cons.mpr ⟨iP_2 (⟨"SnippetStopsModel", "no", "()I"⟩, _) (List.mem_of_getElem? (i := 6) rfl), (List.forall_mem_cons.mpr ⟨iT_5 _ (List.mem_of_getElem? (i := 42) rfl), (List.forall_mem_cons.mpr ⟨iT_5 _ (List.mem_of_getElem? (i := 45) rfl), (List.forall_mem_cons.mpr ⟨iT_5 _ (List.mem_of_getElem? (i := 44) rfl), (List.forall_mem_cons.mpr ⟨iP_3 (⟨"SnippetStopsModel", "begun", "(I)V"⟩, _) (List.mem_of_getElem? (i := 12) rfl), (List.forall_mem_cons.mpr ⟨iT_5 _ (List.mem_of_getElem? (i := 168) rfl), (List.forall_mem_cons.mpr ⟨iT_5 _ (List.mem_of_getElem? (i := 171) rfl), (List.forall_mem_cons.mpr ⟨iT_5 _ (List.mem_of_getElem? (i := 170) rfl), (List.forall_mem_cons.mpr ⟨iP_5 (⟨"SnippetStopsModel", "isTooLong", "()Z"⟩, _) (List.mem_of_getElem? (i := 10) rfl), (List.forall_mem_cons.mpr ⟨iT_5 _ (List.mem_of_getElem? (i := 176) rfl), (List.forall_mem_cons.mpr ⟨iT_5 _ (List.mem_of_getElem? (i := 179) rfl), (List.forall_mem_cons.mpr ⟨iT_5 _ (List.mem_of_getElem? (i := 178) rfl), (List.forall_mem_cons.mpr ⟨iP_5 (⟨"SnippetStopsModel", "finishes", "()V"⟩, _) (List.mem_of_getElem? (i := 12) rfl), (fun _ h => absurd h List.not_mem_nil)⟩)⟩)⟩)⟩)⟩)⟩)⟩)⟩)⟩)⟩)⟩)⟩)⟩)⟩)⟩)⟩)⟩)⟩)⟩)⟩)⟩)⟩)⟩)⟩)
set_option maxRecDepth 20000 in
theorem wl_17_in : ∀ w ∈ wl_17, w ∈ lw_tbl := (List.forall_mem_cons.mpr ⟨iT_6 _ (List.mem_of_getElem? (i := 24) rfl), (List.forall_mem_cons.mpr ⟨iT_6 _ (List.mem_of_getElem? (i := 27) rfl), (List.forall_mem_cons.mpr ⟨iT_6 _ (List.mem_of_getElem? (i := 26) rfl), (List.forall_mem_cons.mpr ⟨iP_6 (⟨"SnippetStopsModel", "countOf", "(I)I"⟩, _) (List.mem_of_getElem? (i := 8) rfl), (List.forall_mem_cons.mpr ⟨iT_6 _ (List.mem_of_getElem? (i := 84) rfl), (List.forall_mem_cons.mpr ⟨iT_6 _ (List.mem_of_getElem? (i := 87) rfl), (List.forall_mem_cons.mpr ⟨iT_6 _ (List.mem_of_getElem? (i := 86) rfl), (List.forall_mem_cons.mpr ⟨iP_7 (⟨"SnippetStopsModel", "toldOf", "(I)I"⟩, _) (List.mem_of_getElem? (i := 0) rfl), (List.forall_mem_cons.mpr ⟨iT_6 _ (List.mem_of_getElem? (i := 92) rfl), (List.forall_mem_cons.mpr ⟨iT_6 _ (List.mem_of_getElem? (i := 93) rfl), (List.forall_mem_cons.mpr ⟨iT_1 _ (List.mem_of_getElem? (i := 11) rfl), (List.forall_mem_cons.mpr ⟨iT_1 _ (List.mem_of_getElem? (i := 13) rfl), (List.forall_mem_cons.mpr ⟨iT_1 _ (List.mem_of_getElem? (i := 15) rfl), (List.forall_mem_cons.mpr ⟨iT_1 _ (List.mem_of_getElem? (i := 14) rfl), (List.forall_mem_cons.mpr ⟨iT_4 _ (List.mem_of_getElem? (i := 17) rfl), (List.forall_mem_cons.mpr ⟨iT_4 _ (List.mem_of_getElem? (i := 19) rfl), (List.forall_mem_cons.mpr ⟨iT_4 _ (List.mem_of_getElem? (i := 21) rfl), (List.forall_mem_cons.mpr ⟨iT_4 _ (List.mem_of_getElem? (i := 20) rfl), (List.forall_mem_cons.mpr ⟨iT_1 _ (List.mem_of_getElem? (i := 165) rfl), (List.forall_mem_cons.mpr ⟨iT_1 _ (List.mem_of_getElem? (i := 168) rfl), (List.forall_mem_cons.mpr ⟨iT_1 _ (List.mem_of_getElem? (i := 166) rfl), (List.forall_mem_cons.mpr ⟨iT_1 _ (List.mem_of_getElem? (i := 167) rfl), (List.forall_mem_cons.mpr ⟨iT_4 _ (List.mem_of_getElem? (i := 182) rfl), (List.forall_mem_cons.mpr ⟨iT_4 _ (List.mem_of_getElem? (i := 185) rfl), (fun _ h => absurd h List.not_mem_nil)⟩)⟩)⟩)⟩)⟩)⟩)⟩)⟩)⟩)⟩)⟩)⟩)⟩)⟩)⟩)⟩)⟩)⟩)⟩)⟩)⟩)⟩)⟩)⟩)
set_option maxRecDepth 20000 in
theorem wl_18_in : ∀ w ∈ wl_18, w ∈ lw_tbl := (List.forall_mem_cons.mpr ⟨iT_4 _ (List.mem_of_getElem? (i := 183) rfl), (List.forall_mem_cons.mpr ⟨iT_4 _ (List.mem_of_getElem? (i := 184) rfl), (List.forall_mem_cons.mpr ⟨iT_1 _ (List.mem_of_getElem? (i := 189) rfl), (List.forall_mem_cons.mpr ⟨iT_1 _ (List.mem_of_getElem? (i := 192) rfl), (List.forall_mem_cons.mpr ⟨iT_1 _ (List.mem_of_getElem? (i := 190) rfl), (List.forall_mem_cons.mpr ⟨iT_1 _ (List.mem_of_getElem? (i := 191) rfl), (List.forall_mem_cons.mpr ⟨iT_4 _ (List.mem_of_getElem? (i := 197) rfl), (List.forall_mem_cons.mpr ⟨iT_4 _ (List.mem_of_getElem? (i := 200) rfl), (List.forall_mem_cons.mpr ⟨iT_4 _ (List.mem_of_getElem? (i := 198) rfl), (List.forall_mem_cons.mpr ⟨iT_4 _ (List.mem_of_getElem? (i := 199) rfl), (List.forall_mem_cons.mpr ⟨iT_1 _ (List.mem_of_getElem? (i := 197) rfl), (List.forall_mem_cons.mpr ⟨iT_1 _ (List.mem_of_getElem? (i := 200) rfl), (List.forall_mem_cons.mpr ⟨iT_1 _ (List.mem_of_getElem? (i := 198) rfl), (List.forall_mem_cons.mpr ⟨iT_1 _ (List.mem_of_getElem? (i := 199) rfl), (List.forall_mem_cons.mpr ⟨iT_4 _ (List.mem_of_getElem? (i := 201) rfl), (List.forall_mem_cons.mpr ⟨iT_4 _ (List.mem_of_getElem? (i := 204) rfl), (List.forall_mem_cons.mpr ⟨iT_4 _ (List.mem_of_getElem? (i := 202) rfl), (List.forall_mem_cons.mpr ⟨iT_4 _ (List.mem_of_getElem? (i := 203) rfl), (List.forall_mem_cons.mpr ⟨iT_2 _ (List.mem_of_getElem? (i := 104) rfl), (List.forall_mem_cons.mpr ⟨iT_2 _ (List.mem_of_getElem? (i := 107) rfl), (List.forall_mem_cons.mpr ⟨iT_2 _ (List.mem_of_getElem? (i := 105) rfl), (List.forall_mem_cons.mpr ⟨iT_2 _ (List.mem_of_getElem? (i := 106) rfl), (List.forall_mem_cons.mpr ⟨iT_4 _ (List.mem_of_getElem? (i := 225) rfl), (List.forall_mem_cons.mpr ⟨iT_4 _ (List.mem_of_getElem? (i := 228) rfl), (fun _ h => absurd h List.not_mem_nil)⟩)⟩)⟩)⟩)⟩)⟩)⟩)⟩)⟩)⟩)⟩)⟩)⟩)⟩)⟩)⟩)⟩)⟩)⟩)⟩)⟩)⟩)⟩)⟩)
set_option maxRecDepth 20000 in
theorem wl_19_in : ∀ w ∈ wl_19, w ∈ lw_tbl := (List.forall_mem_cons.mpr ⟨iT_4 _ (List.mem_of_getElem? (i := 226) rfl), (List.forall_mem_cons.mpr ⟨iT_4 _ (List.mem_of_getElem? (i := 227) rfl), (List.forall_mem_cons.mpr ⟨iT_3 _ (List.mem_of_getElem? (i := 83) rfl), (List.forall_mem_cons.mpr ⟨iT_3 _ (List.mem_of_getElem? (i := 86) rfl), (List.forall_mem_cons.mpr ⟨iT_3 _ (List.mem_of_getElem? (i := 84) rfl), (List.forall_mem_cons.mpr ⟨iT_3 _ (List.mem_of_getElem? (i := 85) rfl), (List.forall_mem_cons.mpr ⟨iT_5 _ (List.mem_of_getElem? (i := 188) rfl), (List.forall_mem_cons.mpr ⟨iT_5 _ (List.mem_of_getElem? (i := 191) rfl), (List.forall_mem_cons.mpr ⟨iT_5 _ (List.mem_of_getElem? (i := 189) rfl), (List.forall_mem_cons.mpr ⟨iT_5 _ (List.mem_of_getElem? (i := 190) rfl), (List.forall_mem_cons.mpr ⟨iT_3 _ (List.mem_of_getElem? (i := 106) rfl), (List.forall_mem_cons.mpr ⟨iT_3 _ (List.mem_of_getElem? (i := 109) rfl), (List.forall_mem_cons.mpr ⟨iT_3 _ (List.mem_of_getElem? (i := 107) rfl), (List.forall_mem_cons.mpr ⟨iT_3 _ (List.mem_of_getElem? (i := 108) rfl), (List.forall_mem_cons.mpr ⟨iT_5 _ (List.mem_of_getElem? (i := 204) rfl), (List.forall_mem_cons.mpr ⟨iT_5 _ (List.mem_of_getElem? (i := 207) rfl), (List.forall_mem_cons.mpr ⟨iT_5 _ (List.mem_of_getElem? (i := 205) rfl), (List.forall_mem_cons.mpr ⟨iT_5 _ (List.mem_of_getElem? (i := 206) rfl), (List.forall_mem_cons.mpr ⟨iT_3 _ (List.mem_of_getElem? (i := 132) rfl), (List.forall_mem_cons.mpr ⟨iT_3 _ (List.mem_of_getElem? (i := 135) rfl), (List.forall_mem_cons.mpr ⟨iT_3 _ (List.mem_of_getElem? (i := 133) rfl), (List.forall_mem_cons.mpr ⟨iT_3 _ (List.mem_of_getElem? (i := 134) rfl), (List.forall_mem_cons.mpr ⟨iT_5 _ (List.mem_of_getElem? (i := 216) rfl), (List.forall_mem_cons.mpr ⟨iT_5 _ (List.mem_of_getElem? (i := 219) rfl), (fun _ h => absurd h List.not_mem_nil)⟩)⟩)⟩)⟩)⟩)⟩)⟩)⟩)⟩)⟩)⟩)⟩)⟩)⟩)⟩)⟩)⟩)⟩)⟩)⟩)⟩)⟩)⟩)⟩)
set_option maxRecDepth 20000 in
theorem wl_20_in : ∀ w ∈ wl_20, w ∈ lw_tbl := (List.forall_mem_cons.mpr ⟨iT_5 _ (List.mem_of_getElem? (i := 217) rfl), (List.forall_mem_cons.mpr ⟨iT_5 _ (List.mem_of_getElem? (i := 218) rfl), (List.forall_mem_cons.mpr ⟨iT_3 _ (List.mem_of_getElem? (i := 142) rfl), (List.forall_mem_cons.mpr ⟨iT_3 _ (List.mem_of_getElem? (i := 145) rfl), (List.forall_mem_cons.mpr ⟨iT_3 _ (List.mem_of_getElem? (i := 143) rfl), (List.forall_mem_cons.mpr ⟨iT_3 _ (List.mem_of_getElem? (i := 144) rfl), (List.forall_mem_cons.mpr ⟨iT_5 _ (List.mem_of_getElem? (i := 224) rfl), (List.forall_mem_cons.mpr ⟨iT_5 _ (List.mem_of_getElem? (i := 227) rfl), (List.forall_mem_cons.mpr ⟨iT_5 _ (List.mem_of_getElem? (i := 225) rfl), (List.forall_mem_cons.mpr ⟨iT_5 _ (List.mem_of_getElem? (i := 226) rfl), (List.forall_mem_cons.mpr ⟨iT_3 _ (List.mem_of_getElem? (i := 150) rfl), (List.forall_mem_cons.mpr ⟨iT_3 _ (List.mem_of_getElem? (i := 153) rfl), (List.forall_mem_cons.mpr ⟨iT_3 _ (List.mem_of_getElem? (i := 151) rfl), (List.forall_mem_cons.mpr ⟨iT_3 _ (List.mem_of_getElem? (i := 152) rfl), (List.forall_mem_cons.mpr ⟨iT_5 _ (List.mem_of_getElem? (i := 228) rfl), (List.forall_mem_cons.mpr ⟨iT_5 _ (List.mem_of_getElem? (i := 231) rfl), (List.forall_mem_cons.mpr ⟨iT_5 _ (List.mem_of_getElem? (i := 229) rfl), (List.forall_mem_cons.mpr ⟨iT_5 _ (List.mem_of_getElem? (i := 230) rfl), (List.forall_mem_cons.mpr ⟨iT_3 _ (List.mem_of_getElem? (i := 162) rfl), (List.forall_mem_cons.mpr ⟨iT_3 _ (List.mem_of_getElem? (i := 165) rfl), (List.forall_mem_cons.mpr ⟨iT_3 _ (List.mem_of_getElem? (i := 163) rfl), (List.forall_mem_cons.mpr ⟨iT_3 _ (List.mem_of_getElem? (i := 164) rfl), (List.forall_mem_cons.mpr ⟨iT_6 _ (List.mem_of_getElem? (i := 0) rfl), (List.forall_mem_cons.mpr ⟨iT_6 _ (List.mem_of_getElem? (i := 3) rfl), (fun _ h => absurd h List.not_mem_nil)⟩)⟩)⟩)⟩)⟩)⟩)⟩)⟩)⟩)⟩)⟩)⟩)⟩)⟩)⟩)⟩)⟩)⟩)⟩)⟩)⟩)⟩)⟩)⟩)
set_option maxRecDepth 20000 in
theorem wl_21_in : ∀ w ∈ wl_21, w ∈ lw_tbl := (List.forall_mem_cons.mpr ⟨iT_6 _ (List.mem_of_getElem? (i := 1) rfl), (List.forall_mem_cons.mpr ⟨iT_6 _ (List.mem_of_getElem? (i := 2) rfl), (List.forall_mem_cons.mpr ⟨iT_3 _ (List.mem_of_getElem? (i := 166) rfl), (List.forall_mem_cons.mpr ⟨iT_3 _ (List.mem_of_getElem? (i := 169) rfl), (List.forall_mem_cons.mpr ⟨iT_3 _ (List.mem_of_getElem? (i := 167) rfl), (List.forall_mem_cons.mpr ⟨iT_3 _ (List.mem_of_getElem? (i := 168) rfl), (List.forall_mem_cons.mpr ⟨iT_6 _ (List.mem_of_getElem? (i := 4) rfl), (List.forall_mem_cons.mpr ⟨iT_6 _ (List.mem_of_getElem? (i := 7) rfl), (List.forall_mem_cons.mpr ⟨iT_6 _ (List.mem_of_getElem? (i := 5) rfl), (List.forall_mem_cons.mpr ⟨iT_6 _ (List.mem_of_getElem? (i := 6) rfl), (List.forall_mem_cons.mpr ⟨iT_3 _ (List.mem_of_getElem? (i := 170) rfl), (List.forall_mem_cons.mpr ⟨iT_3 _ (List.mem_of_getElem? (i := 173) rfl), (List.forall_mem_cons.mpr ⟨iT_3 _ (List.mem_of_getElem? (i := 171) rfl), (List.forall_mem_cons.mpr ⟨iT_3 _ (List.mem_of_getElem? (i := 172) rfl), (List.forall_mem_cons.mpr ⟨iT_6 _ (List.mem_of_getElem? (i := 8) rfl), (List.forall_mem_cons.mpr ⟨iT_6 _ (List.mem_of_getElem? (i := 11) rfl), (List.forall_mem_cons.mpr ⟨iT_6 _ (List.mem_of_getElem? (i := 9) rfl), (List.forall_mem_cons.mpr ⟨iT_6 _ (List.mem_of_getElem? (i := 10) rfl), (List.forall_mem_cons.mpr ⟨iT_3 _ (List.mem_of_getElem? (i := 174) rfl), (List.forall_mem_cons.mpr ⟨iT_3 _ (List.mem_of_getElem? (i := 177) rfl), (List.forall_mem_cons.mpr ⟨iT_3 _ (List.mem_of_getElem? (i := 175) rfl), (List.forall_mem_cons.mpr ⟨iT_3 _ (List.mem_of_getElem? (i := 176) rfl), (List.forall_mem_cons.mpr ⟨iT_6 _ (List.mem_of_getElem? (i := 12) rfl), (List.forall_mem_cons.mpr ⟨iT_6 _ (List.mem_of_getElem? (i := 15) rfl), (fun _ h => absurd h List.not_mem_nil)⟩)⟩)⟩)⟩)⟩)⟩)⟩)⟩)⟩)⟩)⟩)⟩)⟩)⟩)⟩)⟩)⟩)⟩)⟩)⟩)⟩)⟩)⟩)⟩)
set_option maxRecDepth 20000 in
theorem wl_22_in : ∀ w ∈ wl_22, w ∈ lw_tbl := (List.forall_mem_cons.mpr ⟨iT_6 _ (List.mem_of_getElem? (i := 13) rfl), (List.forall_mem_cons.mpr ⟨iT_6 _ (List.mem_of_getElem? (i := 14) rfl), (List.forall_mem_cons.mpr ⟨iT_3 _ (List.mem_of_getElem? (i := 178) rfl), (List.forall_mem_cons.mpr ⟨iT_6 _ (List.mem_of_getElem? (i := 20) rfl), (List.forall_mem_cons.mpr ⟨iT_6 _ (List.mem_of_getElem? (i := 23) rfl), (List.forall_mem_cons.mpr ⟨iT_6 _ (List.mem_of_getElem? (i := 21) rfl), (List.forall_mem_cons.mpr ⟨iT_6 _ (List.mem_of_getElem? (i := 22) rfl), (List.forall_mem_cons.mpr ⟨iT_3 _ (List.mem_of_getElem? (i := 186) rfl), (List.forall_mem_cons.mpr ⟨iT_6 _ (List.mem_of_getElem? (i := 32) rfl), (List.forall_mem_cons.mpr ⟨iT_6 _ (List.mem_of_getElem? (i := 35) rfl), (List.forall_mem_cons.mpr ⟨iT_6 _ (List.mem_of_getElem? (i := 33) rfl), (List.forall_mem_cons.mpr ⟨iT_6 _ (List.mem_of_getElem? (i := 34) rfl), (List.forall_mem_cons.mpr ⟨iT_3 _ (List.mem_of_getElem? (i := 193) rfl), (List.forall_mem_cons.mpr ⟨iT_3 _ (List.mem_of_getElem? (i := 196) rfl), (List.forall_mem_cons.mpr ⟨iT_3 _ (List.mem_of_getElem? (i := 194) rfl), (List.forall_mem_cons.mpr ⟨iT_3 _ (List.mem_of_getElem? (i := 195) rfl), (List.forall_mem_cons.mpr ⟨iT_6 _ (List.mem_of_getElem? (i := 48) rfl), (List.forall_mem_cons.mpr ⟨iT_6 _ (List.mem_of_getElem? (i := 51) rfl), (List.forall_mem_cons.mpr ⟨iT_6 _ (List.mem_of_getElem? (i := 49) rfl), (List.forall_mem_cons.mpr ⟨iT_6 _ (List.mem_of_getElem? (i := 50) rfl), (List.forall_mem_cons.mpr ⟨iT_3 _ (List.mem_of_getElem? (i := 197) rfl), (List.forall_mem_cons.mpr ⟨iT_3 _ (List.mem_of_getElem? (i := 200) rfl), (List.forall_mem_cons.mpr ⟨iT_3 _ (List.mem_of_getElem? (i := 198) rfl), (List.forall_mem_cons.mpr ⟨iT_3 _ (List.mem_of_getElem? (i := 199) rfl), (fun _ h => absurd h List.not_mem_nil)⟩)⟩)⟩)⟩)⟩)⟩)⟩)⟩)⟩)⟩)⟩)⟩)⟩)⟩)⟩)⟩)⟩)⟩)⟩)⟩)⟩)⟩)⟩)⟩)
set_option maxRecDepth 20000 in
theorem wl_23_in : ∀ w ∈ wl_23, w ∈ lw_tbl := (List.forall_mem_cons.mpr ⟨iT_6 _ (List.mem_of_getElem? (i := 52) rfl), (List.forall_mem_cons.mpr ⟨iT_6 _ (List.mem_of_getElem? (i := 55) rfl), (List.forall_mem_cons.mpr ⟨iT_6 _ (List.mem_of_getElem? (i := 53) rfl), (List.forall_mem_cons.mpr ⟨iT_6 _ (List.mem_of_getElem? (i := 54) rfl), (List.forall_mem_cons.mpr ⟨iT_3 _ (List.mem_of_getElem? (i := 202) rfl), (List.forall_mem_cons.mpr ⟨iT_3 _ (List.mem_of_getElem? (i := 205) rfl), (List.forall_mem_cons.mpr ⟨iT_3 _ (List.mem_of_getElem? (i := 203) rfl), (List.forall_mem_cons.mpr ⟨iT_3 _ (List.mem_of_getElem? (i := 204) rfl), (List.forall_mem_cons.mpr ⟨iT_6 _ (List.mem_of_getElem? (i := 56) rfl), (List.forall_mem_cons.mpr ⟨iT_6 _ (List.mem_of_getElem? (i := 59) rfl), (List.forall_mem_cons.mpr ⟨iT_6 _ (List.mem_of_getElem? (i := 57) rfl), (List.forall_mem_cons.mpr ⟨iT_6 _ (List.mem_of_getElem? (i := 58) rfl), (List.forall_mem_cons.mpr ⟨iT_3 _ (List.mem_of_getElem? (i := 223) rfl), (List.forall_mem_cons.mpr ⟨iT_3 _ (List.mem_of_getElem? (i := 226) rfl), (List.forall_mem_cons.mpr ⟨iT_3 _ (List.mem_of_getElem? (i := 224) rfl), (List.forall_mem_cons.mpr ⟨iT_3 _ (List.mem_of_getElem? (i := 225) rfl), (List.forall_mem_cons.mpr ⟨iT_6 _ (List.mem_of_getElem? (i := 68) rfl), (List.forall_mem_cons.mpr ⟨iT_6 _ (List.mem_of_getElem? (i := 71) rfl), (List.forall_mem_cons.mpr ⟨iT_6 _ (List.mem_of_getElem? (i := 69) rfl), (List.forall_mem_cons.mpr ⟨iT_6 _ (List.mem_of_getElem? (i := 70) rfl), (List.forall_mem_cons.mpr ⟨iT_3 _ (List.mem_of_getElem? (i := 236) rfl), (List.forall_mem_cons.mpr ⟨iT_3 _ (List.mem_of_getElem? (i := 239) rfl), (List.forall_mem_cons.mpr ⟨iT_3 _ (List.mem_of_getElem? (i := 237) rfl), (List.forall_mem_cons.mpr ⟨iT_3 _ (List.mem_of_getElem? (i := 238) rfl), (fun _ h => absurd h List.not_mem_nil)⟩)⟩)⟩)⟩)⟩)⟩)⟩)⟩)⟩)⟩)⟩)⟩)⟩)⟩)⟩)⟩)⟩)⟩)⟩)⟩)⟩)⟩)⟩)⟩)
set_option maxRecDepth 20000 in
theorem wl_24_in : ∀ w ∈ wl_24, w ∈ lw_tbl := (List.forall_mem_cons.mpr ⟨iT_6 _ (List.mem_of_getElem? (i := 76) rfl), (List.forall_mem_cons.mpr ⟨iT_6 _ (List.mem_of_getElem? (i := 79) rfl), (List.forall_mem_cons.mpr ⟨iT_6 _ (List.mem_of_getElem? (i := 77) rfl), (List.forall_mem_cons.mpr ⟨iT_6 _ (List.mem_of_getElem? (i := 78) rfl), (List.forall_mem_cons.mpr ⟨iT_4 _ (List.mem_of_getElem? (i := 0) rfl), (List.forall_mem_cons.mpr ⟨iT_4 _ (List.mem_of_getElem? (i := 3) rfl), (List.forall_mem_cons.mpr ⟨iT_4 _ (List.mem_of_getElem? (i := 1) rfl), (List.forall_mem_cons.mpr ⟨iT_4 _ (List.mem_of_getElem? (i := 2) rfl), (List.forall_mem_cons.mpr ⟨iT_4 _ (List.mem_of_getElem? (i := 161) rfl), (List.forall_mem_cons.mpr ⟨iT_4 _ (List.mem_of_getElem? (i := 164) rfl), (List.forall_mem_cons.mpr ⟨iT_4 _ (List.mem_of_getElem? (i := 162) rfl), (List.forall_mem_cons.mpr ⟨iT_4 _ (List.mem_of_getElem? (i := 163) rfl), (List.forall_mem_cons.mpr ⟨iT_4 _ (List.mem_of_getElem? (i := 4) rfl), (List.forall_mem_cons.mpr ⟨iT_6 _ (List.mem_of_getElem? (i := 80) rfl), (List.forall_mem_cons.mpr ⟨iT_6 _ (List.mem_of_getElem? (i := 83) rfl), (List.forall_mem_cons.mpr ⟨iT_6 _ (List.mem_of_getElem? (i := 81) rfl), (List.forall_mem_cons.mpr ⟨iT_6 _ (List.mem_of_getElem? (i := 82) rfl), (List.forall_mem_cons.mpr ⟨iT_4 _ (List.mem_of_getElem? (i := 8) rfl), (List.forall_mem_cons.mpr ⟨iT_4 _ (List.mem_of_getElem? (i := 11) rfl), (List.forall_mem_cons.mpr ⟨iT_4 _ (List.mem_of_getElem? (i := 9) rfl), (List.forall_mem_cons.mpr ⟨iT_4 _ (List.mem_of_getElem? (i := 10) rfl), (List.forall_mem_cons.mpr ⟨iT_6 _ (List.mem_of_getElem? (i := 88) rfl), (List.forall_mem_cons.mpr ⟨iT_6 _ (List.mem_of_getElem? (i := 91) rfl), (List.forall_mem_cons.mpr ⟨iT_6 _ (List.mem_of_getElem? (i := 89) rfl), (fun _ h => absurd h List.not_mem_nil)⟩)⟩)⟩)⟩)⟩)⟩)⟩)⟩)⟩)⟩)⟩)⟩)⟩)⟩)⟩)⟩)⟩)⟩)⟩)⟩)⟩)⟩)⟩)⟩)
set_option maxRecDepth 20000 in
theorem wl_25_in : ∀ w ∈ wl_25, w ∈ lw_tbl := (List.forall_mem_cons.mpr ⟨iT_6 _ (List.mem_of_getElem? (i := 90) rfl), (List.forall_mem_cons.mpr ⟨iT_1 _ (List.mem_of_getElem? (i := 43) rfl), (List.forall_mem_cons.mpr ⟨iT_1 _ (List.mem_of_getElem? (i := 42) rfl), (fun _ h => absurd h List.not_mem_nil)⟩)⟩)⟩)
def wf_0 : List Cond := [Cond.laysFinal RX0 "SnippetStops$Occurrence" "index" "I", Cond.laysFinal RX0 "SnippetStops$Occurrence" "stop" "I", Cond.laysFinal RX0 "SnippetStops$Occurrence" "outer" "LSnippetStops$Occurrence;", Cond.lays RX0 "SnippetStops$Occurrence" "hasDefault" "Z", Cond.lays RX0 "SnippetStops$Occurrence" "choices" "I", Cond.lays RX0 "SnippetStops$Occurrence" "begin" "I", Cond.lays RX0 "SnippetStops$Occurrence" "end" "I", Cond.lays RX0 "SnippetStops$Occurrence" "rule" "I", Cond.lays RX0 "SnippetStops$Occurrence" "swapped" "I", Cond.lays RX0 "SnippetStops$Occurrence" "swappedTo" "I"]
set_option maxRecDepth 20000 in
theorem wf_0_in : ∀ w ∈ wf_0, w ∈ lw_tbl := (List.forall_mem_cons.mpr ⟨iT_2 _ (List.mem_of_getElem? (i := 217) rfl), (List.forall_mem_cons.mpr ⟨iT_2 _ (List.mem_of_getElem? (i := 219) rfl), (List.forall_mem_cons.mpr ⟨iT_2 _ (List.mem_of_getElem? (i := 221) rfl), (List.forall_mem_cons.mpr ⟨iT_2 _ (List.mem_of_getElem? (i := 223) rfl), (List.forall_mem_cons.mpr ⟨iT_2 _ (List.mem_of_getElem? (i := 225) rfl), (List.forall_mem_cons.mpr ⟨iT_2 _ (List.mem_of_getElem? (i := 227) rfl), (List.forall_mem_cons.mpr ⟨iT_2 _ (List.mem_of_getElem? (i := 229) rfl), (List.forall_mem_cons.mpr ⟨iT_2 _ (List.mem_of_getElem? (i := 231) rfl), (List.forall_mem_cons.mpr ⟨iT_2 _ (List.mem_of_getElem? (i := 233) rfl), (List.forall_mem_cons.mpr ⟨iT_2 _ (List.mem_of_getElem? (i := 235) rfl), (fun _ h => absurd h List.not_mem_nil)⟩)⟩)⟩)⟩)⟩)⟩)⟩)⟩)⟩)⟩)
theorem wf_0_eq : wsX00 = wf_0 := by decide +kernel
def wf_1 : List Cond := [Cond.laysFinal RX1 "SnippetStops$Reader" "template" "LSnippetStops$Template;", Cond.laysFinal RX1 "SnippetStops$Reader" "text" "LSnippetStops$Row;", Cond.laysFinal RX1 "SnippetStops$Reader" "variables" "[LSnippetStops$Row;", Cond.lays RX1 "SnippetStops$Reader" "mode" "I", Cond.lays RX1 "SnippetStops$Reader" "place" "I", Cond.lays RX1 "SnippetStops$Reader" "fault" "I", Cond.lays RX1 "SnippetStops$Reader" "number" "I", Cond.lays RX1 "SnippetStops$Reader" "latest" "LSnippetStops$Occurrence;", Cond.lays RX1 "SnippetStops$Reader" "within" "LSnippetStops$Occurrence;", Cond.lays RX1 "SnippetStops$Reader" "deep" "I"]
set_option maxRecDepth 20000 in
theorem wf_1_in : ∀ w ∈ wf_1, w ∈ lw_tbl := (List.forall_mem_cons.mpr ⟨iT_2 _ (List.mem_of_getElem? (i := 127) rfl), (List.forall_mem_cons.mpr ⟨iT_2 _ (List.mem_of_getElem? (i := 129) rfl), (List.forall_mem_cons.mpr ⟨iT_2 _ (List.mem_of_getElem? (i := 131) rfl), (List.forall_mem_cons.mpr ⟨iT_2 _ (List.mem_of_getElem? (i := 133) rfl), (List.forall_mem_cons.mpr ⟨iT_2 _ (List.mem_of_getElem? (i := 135) rfl), (List.forall_mem_cons.mpr ⟨iT_2 _ (List.mem_of_getElem? (i := 137) rfl), (List.forall_mem_cons.mpr ⟨iT_2 _ (List.mem_of_getElem? (i := 139) rfl), (List.forall_mem_cons.mpr ⟨iT_2 _ (List.mem_of_getElem? (i := 141) rfl), (List.forall_mem_cons.mpr ⟨iT_2 _ (List.mem_of_getElem? (i := 143) rfl), (List.forall_mem_cons.mpr ⟨iT_2 _ (List.mem_of_getElem? (i := 145) rfl), (fun _ h => absurd h List.not_mem_nil)⟩)⟩)⟩)⟩)⟩)⟩)⟩)⟩)⟩)⟩)
theorem wf_1_eq : wsX10 = wf_1 := by decide +kernel
def wf_2 : List Cond := [Cond.laysFinal RX2 "SnippetStops$Row" "room" "I", Cond.lays RX2 "SnippetStops$Row" "bytes" "[B", Cond.lays RX2 "SnippetStops$Row" "size" "I"]
set_option maxRecDepth 20000 in
theorem wf_2_in : ∀ w ∈ wf_2, w ∈ lw_tbl := (List.forall_mem_cons.mpr ⟨iT_1 _ (List.mem_of_getElem? (i := 28) rfl), (List.forall_mem_cons.mpr ⟨iT_1 _ (List.mem_of_getElem? (i := 30) rfl), (List.forall_mem_cons.mpr ⟨iT_1 _ (List.mem_of_getElem? (i := 32) rfl), (fun _ h => absurd h List.not_mem_nil)⟩)⟩)⟩)
theorem wf_2_eq : wsX20 = wf_2 := by decide +kernel
def wf_3 : List Cond := [Cond.lays RX3 "SnippetStops$Session" "template" "LSnippetStops$Template;", Cond.lays RX3 "SnippetStops$Session" "stop" "I", Cond.lays RX3 "SnippetStops$Session" "fresh" "Z", Cond.laysFinal RX3 "SnippetStops$Session" "set" "[Z", Cond.laysFinal RX3 "SnippetStops$Session" "setTo" "[LSnippetStops$Row;", Cond.laysFinal RX3 "SnippetStops$Session" "before" "[LSnippetStops$Session;", Cond.laysFinal RX3 "SnippetStops$Session" "begins" "[I", Cond.laysFinal RX3 "SnippetStops$Session" "lengths" "[I"]
set_option maxRecDepth 20000 in
theorem wf_3_in : ∀ w ∈ wf_3, w ∈ lw_tbl := (List.forall_mem_cons.mpr ⟨iT_1 _ (List.mem_of_getElem? (i := 95) rfl), (List.forall_mem_cons.mpr ⟨iT_1 _ (List.mem_of_getElem? (i := 97) rfl), (List.forall_mem_cons.mpr ⟨iT_1 _ (List.mem_of_getElem? (i := 99) rfl), (List.forall_mem_cons.mpr ⟨iT_1 _ (List.mem_of_getElem? (i := 101) rfl), (List.forall_mem_cons.mpr ⟨iT_1 _ (List.mem_of_getElem? (i := 103) rfl), (List.forall_mem_cons.mpr ⟨iT_1 _ (List.mem_of_getElem? (i := 105) rfl), (List.forall_mem_cons.mpr ⟨iT_1 _ (List.mem_of_getElem? (i := 107) rfl), (List.forall_mem_cons.mpr ⟨iT_1 _ (List.mem_of_getElem? (i := 109) rfl), (fun _ h => absurd h List.not_mem_nil)⟩)⟩)⟩)⟩)⟩)⟩)⟩)⟩)
theorem wf_3_eq : wsX30 = wf_3 := by decide +kernel
def wf_4 : List Cond := [Cond.laysFinal RX4 "SnippetStops$State" "plain" "LSnippetStops$Row;", Cond.lays RX4 "SnippetStops$State" "caret" "I", Cond.laysFinal RX4 "SnippetStops$State" "variables" "[LSnippetStops$Row;", Cond.laysFinal RX4 "SnippetStops$State" "sessions" "[LSnippetStops$Session;", Cond.lays RX4 "SnippetStops$State" "open" "I", Cond.laysFinal RX4 "SnippetStops$State" "shown" "LSnippetStops$Row;"]
set_option maxRecDepth 20000 in
theorem wf_4_in : ∀ w ∈ wf_4, w ∈ lw_tbl := (List.forall_mem_cons.mpr ⟨iT_1 _ (List.mem_of_getElem? (i := 124) rfl), (List.forall_mem_cons.mpr ⟨iT_1 _ (List.mem_of_getElem? (i := 126) rfl), (List.forall_mem_cons.mpr ⟨iT_1 _ (List.mem_of_getElem? (i := 128) rfl), (List.forall_mem_cons.mpr ⟨iT_1 _ (List.mem_of_getElem? (i := 130) rfl), (List.forall_mem_cons.mpr ⟨iT_1 _ (List.mem_of_getElem? (i := 132) rfl), (List.forall_mem_cons.mpr ⟨iT_1 _ (List.mem_of_getElem? (i := 134) rfl), (fun _ h => absurd h List.not_mem_nil)⟩)⟩)⟩)⟩)⟩)⟩)
theorem wf_4_eq : wsX40 = wf_4 := by decide +kernel
def wf_5 : List Cond := [Cond.laysFinal RX5 "SnippetStops$Template" "codes" "LSnippetStops$Row;", Cond.laysFinal RX5 "SnippetStops$Template" "occurrences" "[LSnippetStops$Occurrence;", Cond.lays RX5 "SnippetStops$Template" "occurrenceCount" "I", Cond.laysFinal RX5 "SnippetStops$Template" "masters" "[LSnippetStops$Occurrence;"]
set_option maxRecDepth 20000 in
theorem wf_5_in : ∀ w ∈ wf_5, w ∈ lw_tbl := (List.forall_mem_cons.mpr ⟨iT_1 _ (List.mem_of_getElem? (i := 55) rfl), (List.forall_mem_cons.mpr ⟨iT_1 _ (List.mem_of_getElem? (i := 57) rfl), (List.forall_mem_cons.mpr ⟨iT_1 _ (List.mem_of_getElem? (i := 59) rfl), (List.forall_mem_cons.mpr ⟨iT_1 _ (List.mem_of_getElem? (i := 61) rfl), (fun _ h => absurd h List.not_mem_nil)⟩)⟩)⟩)⟩)
theorem wf_5_eq : wsX50 = wf_5 := by decide +kernel
def wf_6 : List Cond := [Cond.laysFinal RX6 "SnippetStops" "text" "LSnippetStops$Row;", Cond.laysFinal RX6 "SnippetStops" "looked" "LSnippetStops$Row;", Cond.laysFinal RX6 "SnippetStops" "past" "[LSnippetStops$State;", Cond.lays RX6 "SnippetStops" "pastCount" "I", Cond.lays RX6 "SnippetStops" "now" "LSnippetStops$State;", Cond.lays RX6 "SnippetStops" "draft" "LSnippetStops$State;", Cond.lays RX6 "SnippetStops" "badCount" "I", Cond.lays RX6 "SnippetStops" "noCount" "I", Cond.lays RX6 "SnippetStops" "fullCount" "I"]
set_option maxRecDepth 20000 in
theorem wf_6_in : ∀ w ∈ wf_6, w ∈ lw_tbl := (List.forall_mem_cons.mpr ⟨iT_1 _ (List.mem_of_getElem? (i := 146) rfl), (List.forall_mem_cons.mpr ⟨iT_1 _ (List.mem_of_getElem? (i := 148) rfl), (List.forall_mem_cons.mpr ⟨iT_1 _ (List.mem_of_getElem? (i := 150) rfl), (List.forall_mem_cons.mpr ⟨iT_1 _ (List.mem_of_getElem? (i := 152) rfl), (List.forall_mem_cons.mpr ⟨iT_1 _ (List.mem_of_getElem? (i := 154) rfl), (List.forall_mem_cons.mpr ⟨iT_1 _ (List.mem_of_getElem? (i := 156) rfl), (List.forall_mem_cons.mpr ⟨iT_1 _ (List.mem_of_getElem? (i := 158) rfl), (List.forall_mem_cons.mpr ⟨iT_1 _ (List.mem_of_getElem? (i := 160) rfl), (List.forall_mem_cons.mpr ⟨iT_1 _ (List.mem_of_getElem? (i := 162) rfl), (fun _ h => absurd h List.not_mem_nil)⟩)⟩)⟩)⟩)⟩)⟩)⟩)⟩)⟩)
theorem wf_6_eq : wsX60 = wf_6 := by decide +kernel
def wf_7 : List Cond := [Cond.laysFinal RX7 "SnippetStopsModel" "refused" "[I", Cond.laysFinal RX7 "SnippetStopsModel" "document" "[I", Cond.lays RX7 "SnippetStopsModel" "bytes" "I", Cond.lays RX7 "SnippetStopsModel" "caret" "I", Cond.laysFinal RX7 "SnippetStopsModel" "variables" "[I", Cond.lays RX7 "SnippetStopsModel" "sessions" "I", Cond.laysFinal RX7 "SnippetStopsModel" "nodes" "[I", Cond.laysFinal RX7 "SnippetStopsModel" "node" "[I", Cond.laysFinal RX7 "SnippetStopsModel" "master" "[I", Cond.laysFinal RX7 "SnippetStopsModel" "isSet" "[I", Cond.laysFinal RX7 "SnippetStopsModel" "setMany" "[I", Cond.laysFinal RX7 "SnippetStopsModel" "setFrom" "[I", Cond.laysFinal RX7 "SnippetStopsModel" "setUsed" "[I", Cond.laysFinal RX7 "SnippetStopsModel" "setText" "[I", Cond.laysFinal RX7 "SnippetStopsModel" "atStop" "[I", Cond.laysFinal RX7 "SnippetStopsModel" "isFresh" "[I", Cond.laysFinal RX7 "SnippetStopsModel" "then" "[I", Cond.laysFinal RX7 "SnippetStopsModel" "choiceMany" "[I", Cond.laysFinal RX7 "SnippetStopsModel" "choiceFrom" "[I", Cond.laysFinal RX7 "SnippetStopsModel" "choiceLong" "[I", Cond.laysFinal RX7 "SnippetStopsModel" "choiceBytes" "[I", Cond.lays RX7 "SnippetStopsModel" "ahead" "I", Cond.laysFinal RX7 "SnippetStopsModel" "text" "[I", Cond.lays RX7 "SnippetStopsModel" "length" "I", Cond.lays RX7 "SnippetStopsModel" "readAt" "I", Cond.lays RX7 "SnippetStopsModel" "isFaulty" "Z", Cond.lays RX7 "SnippetStopsModel" "occurrences" "I", Cond.laysFinal RX7 "SnippetStopsModel" "open" "[I", Cond.lays RX7 "SnippetStopsModel" "deep" "I", Cond.laysFinal RX7 "SnippetStopsModel" "shown" "[I", Cond.lays RX7 "SnippetStopsModel" "many" "I", Cond.lays RX7 "SnippetStopsModel" "isTooMuch" "Z", Cond.laysFinal RX7 "SnippetStopsModel" "nextNode" "[I", Cond.laysFinal RX7 "SnippetStopsModel" "endNode" "[I", Cond.laysFinal RX7 "SnippetStopsModel" "made" "[I", Cond.laysFinal RX7 "SnippetStopsModel" "beganAt" "[I", Cond.laysFinal RX7 "SnippetStopsModel" "ofNode" "[I", Cond.laysFinal RX7 "SnippetStopsModel" "isOwn" "[I", Cond.lays RX7 "SnippetStopsModel" "levels" "I", Cond.laysFinal RX7 "SnippetStopsModel" "begin" "[I", Cond.laysFinal RX7 "SnippetStopsModel" "size" "[I", Cond.laysFinal RX7 "SnippetStopsModel" "holding" "[I", Cond.lays RX7 "SnippetStopsModel" "states" "I", Cond.laysFinal RX7 "SnippetStopsModel" "kept" "[I", Cond.lays RX7 "SnippetStopsModel" "keptAt" "I"]
set_option maxRecDepth 20000 in
theorem wf_7_in : ∀ w ∈ wf_7, w ∈ lw_tbl := (List.forall_mem_cons.mpr ⟨iT_4 _ (List.mem_of_getElem? (i := 70) rfl), (List.forall_mem_cons.mpr ⟨iT_4 _ (List.mem_of_getElem? (i := 72) rfl), (List.forall_mem_cons.mpr ⟨iT_4 _ (List.mem_of_getElem? (i := 74) rfl), (List.forall_mem_cons.mpr ⟨iT_4 _ (List.mem_of_getElem? (i := 76) rfl), (List.forall_mem_cons.mpr ⟨iT_4 _ (List.mem_of_getElem? (i := 78) rfl), (List.forall_mem_cons.mpr ⟨iT_4 _ (List.mem_of_getElem? (i := 80) rfl), (List.forall_mem_cons.mpr ⟨iT_4 _ (List.mem_of_getElem? (i := 82) rfl), (List.forall_mem_cons.mpr ⟨iT_4 _ (List.mem_of_getElem? (i := 84) rfl), (List.forall_mem_cons.mpr ⟨iT_4 _ (List.mem_of_getElem? (i := 86) rfl), (List.forall_mem_cons.mpr ⟨iT_4 _ (List.mem_of_getElem? (i := 88) rfl), (List.forall_mem_cons.mpr ⟨iT_4 _ (List.mem_of_getElem? (i := 90) rfl), (List.forall_mem_cons.mpr ⟨iT_4 _ (List.mem_of_getElem? (i := 92) rfl), (List.forall_mem_cons.mpr ⟨iT_4 _ (List.mem_of_getElem? (i := 94) rfl), (List.forall_mem_cons.mpr ⟨iT_4 _ (List.mem_of_getElem? (i := 96) rfl), (List.forall_mem_cons.mpr ⟨iT_4 _ (List.mem_of_getElem? (i := 98) rfl), (List.forall_mem_cons.mpr ⟨iT_4 _ (List.mem_of_getElem? (i := 100) rfl), (List.forall_mem_cons.mpr ⟨iT_4 _ (List.mem_of_getElem? (i := 102) rfl), (List.forall_mem_cons.mpr ⟨iT_4 _ (List.mem_of_getElem? (i := 104) rfl), (List.forall_mem_cons.mpr ⟨iT_4 _ (List.mem_of_getElem? (i := 106) rfl), (List.forall_mem_cons.mpr ⟨iT_4 _ (List.mem_of_getElem? (i := 108) rfl), (List.forall_mem_cons.mpr ⟨iT_4 _ (List.mem_of_getElem? (i := 110) rfl), (List.forall_mem_cons.mpr ⟨iT_4 _ (List.mem_of_getElem? (i := 112) rfl), (List.forall_mem_cons.mpr ⟨iT_4 _ (List.mem_of_getElem? (i := 114) rfl), (List.forall_mem_cons.mpr ⟨iT_4 _ (List.mem_of_getElem? (i := 116) rfl), (List.forall_mem_cons.mpr ⟨iT_4 _ (List.mem_of_getElem? (i := 118) rfl), (List.forall_mem_cons.mpr ⟨iT_4 _ (List.mem_of_getElem? (i := 120) rfl), (List.forall_mem_cons.mpr ⟨iT_4 _ (List.mem_of_getElem? (i := 122) rfl), (List.forall_mem_cons.mpr ⟨iT_4 _ (List.mem_of_getElem? (i := 124) rfl), (List.forall_mem_cons.mpr ⟨iT_4 _ (List.mem_of_getElem? (i := 126) rfl), (List.forall_mem_cons.mpr ⟨iT_4 _ (List.mem_of_getElem? (i := 128) rfl), (List.forall_mem_cons.mpr ⟨iT_4 _ (List.mem_of_getElem? (i := 130) rfl), (List.forall_mem_cons.mpr ⟨iT_4 _ (List.mem_of_getElem? (i := 132) rfl), (List.forall_mem_cons.mpr ⟨iT_4 _ (List.mem_of_getElem? (i := 134) rfl), (List.forall_mem_cons.mpr ⟨iT_4 _ (List.mem_of_getElem? (i := 136) rfl), (List.forall_mem_cons.mpr ⟨iT_4 _ (List.mem_of_getElem? (i := 138) rfl), (List.forall_mem_cons.mpr ⟨iT_4 _ (List.mem_of_getElem? (i := 140) rfl), (List.forall_mem_cons.mpr ⟨iT_4 _ (List.mem_of_getElem? (i := 142) rfl), (List.forall_mem_cons.mpr ⟨iT_4 _ (List.mem_of_getElem? (i := 144) rfl), (List.forall_mem_cons.mpr ⟨iT_4 _ (List.mem_of_getElem? (i := 146) rfl), (List.forall_mem_cons.mpr ⟨iT_4 _ (List.mem_of_getElem? (i := 148) rfl), (List.forall_mem_cons.mpr ⟨iT_4 _ (List.mem_of_getElem? (i := 150) rfl), (List.forall_mem_cons.mpr ⟨iT_4 _ (List.mem_of_getElem? (i := 152) rfl), (List.forall_mem_cons.mpr ⟨iT_4 _ (List.mem_of_getElem? (i := 154) rfl), (List.forall_mem_cons.mpr ⟨iT_4 _ (List.mem_of_getElem? (i := 156) rfl), (List.forall_mem_cons.mpr ⟨iT_4 _ (List.mem_of_getElem? (i := 158) rfl), (fun _ h => absurd h List.not_mem_nil)⟩)⟩)⟩)⟩)⟩)⟩)⟩)⟩)⟩)⟩)⟩)⟩)⟩)⟩)⟩)⟩)⟩)⟩)⟩)⟩)⟩)⟩)⟩)⟩)⟩)⟩)⟩)⟩)⟩)⟩)⟩)⟩)⟩)⟩)⟩)⟩)⟩)⟩)⟩)⟩)⟩)⟩)⟩)⟩)⟩)
theorem wf_7_eq : wsX70 = wf_7 := by decide +kernel
theorem WL_in : ∀ w ∈ WL, w ∈ lw_tbl := (List.forall_mem_append.mpr ⟨wl_0_in, (List.forall_mem_append.mpr ⟨wl_1_in, (List.forall_mem_append.mpr ⟨wl_2_in, (List.forall_mem_append.mpr ⟨wl_3_in, (List.forall_mem_append.mpr ⟨wl_4_in, (List.forall_mem_append.mpr ⟨wl_5_in, (List.forall_mem_append.mpr ⟨wl_6_in, (List.forall_mem_append.mpr ⟨wl_7_in, (List.forall_mem_append.mpr ⟨wl_8_in, (List.forall_mem_append.mpr ⟨wl_9_in, (List.forall_mem_append.mpr ⟨wl_10_in, (List.forall_mem_append.mpr ⟨wl_11_in, (List.forall_mem_append.mpr ⟨wl_12_in, (List.forall_mem_append.mpr ⟨wl_13_in, (List.forall_mem_append.mpr ⟨wl_14_in, (List.forall_mem_append.mpr ⟨wl_15_in, (List.forall_mem_append.mpr ⟨wl_16_in, (List.forall_mem_append.mpr ⟨wl_17_in, (List.forall_mem_append.mpr ⟨wl_18_in, (List.forall_mem_append.mpr ⟨wl_19_in, (List.forall_mem_append.mpr ⟨wl_20_in, (List.forall_mem_append.mpr ⟨wl_21_in, (List.forall_mem_append.mpr ⟨wl_22_in, (List.forall_mem_append.mpr ⟨wl_23_in, (List.forall_mem_append.mpr ⟨wl_24_in, (List.forall_mem_append.mpr ⟨wl_25_in, (List.forall_mem_append.mpr ⟨fun w h => wf_0_in w (wf_0_eq ▸ h), (List.forall_mem_append.mpr ⟨fun w h => wf_1_in w (wf_1_eq ▸ h), (List.forall_mem_append.mpr ⟨fun w h => wf_2_in w (wf_2_eq ▸ h), (List.forall_mem_append.mpr ⟨fun w h => wf_3_in w (wf_3_eq ▸ h), (List.forall_mem_append.mpr ⟨fun w h => wf_4_in w (wf_4_eq ▸ h), (List.forall_mem_append.mpr ⟨fun w h => wf_5_in w (wf_5_eq ▸ h), (List.forall_mem_append.mpr ⟨fun w h => wf_6_in w (wf_6_eq ▸ h), (fun w h => wf_7_in w (wf_7_eq ▸ h))⟩)⟩)⟩)⟩)⟩)⟩)⟩)⟩)⟩)⟩)⟩)⟩)⟩)⟩)⟩)⟩)⟩)⟩)⟩)⟩)⟩)⟩)⟩)⟩)⟩)⟩)⟩)⟩)⟩)⟩)⟩)⟩)⟩)
theorem lk_obj_i : Cond.instanceMethod objectInit ∈ WL := iW_0 _ (List.mem_of_getElem? (i := 0) rfl)
theorem lk_obj_c : Cond.code objectInit ⟨#[0xb1]⟩ 1 none ∈ WL := iW_0 _ (List.mem_of_getElem? (i := 1) rfl)
theorem lk_aB : Cond.arrayClass .byte ∈ WL := iW_0 _ (List.mem_of_getElem? (i := 2) rfl)
theorem lk_aI : Cond.arrayClass .int ∈ WL := iW_0 _ (List.mem_of_getElem? (i := 3) rfl)
theorem lk_aZ : Cond.arrayClass .boolean ∈ WL := iW_0 _ (List.mem_of_getElem? (i := 4) rfl)
theorem lk_min_s : Cond.static Lib.Math.min.name ∈ WL := iW_0 _ (List.mem_of_getElem? (i := 5) rfl)
theorem lk_min_i : Cond.initialized "java/lang/Math" ∈ WL := iW_0 _ (List.mem_of_getElem? (i := 6) rfl)
theorem lk_min_c : Cond.code Lib.Math.min.name Lib.Math.min.code 2 (some .int) ∈ WL := iW_0 _ (List.mem_of_getElem? (i := 7) rfl)
theorem lk_cp_n : Cond.native arraycopyName ∈ WL := iW_0 _ (List.mem_of_getElem? (i := 8) rfl)
theorem lk_cp_s : Cond.static arraycopyName ∈ WL := iW_0 _ (List.mem_of_getElem? (i := 9) rfl)
theorem lk_cp_i : Cond.initialized "java/lang/System" ∈ WL := iW_0 _ (List.mem_of_getElem? (i := 10) rfl)
theorem lk_ini0 : Cond.initialized RX0 ∈ WL := iW_0 _ (List.mem_of_getElem? (i := 11) rfl)
theorem lk_inst0 : Cond.instantiable RX0 10 ∈ WL := iW_0 _ (List.mem_of_getElem? (i := 12) rfl)
theorem lk_ini1 : Cond.initialized RX1 ∈ WL := iW_0 _ (List.mem_of_getElem? (i := 13) rfl)
theorem lk_inst1 : Cond.instantiable RX1 10 ∈ WL := iW_0 _ (List.mem_of_getElem? (i := 14) rfl)
theorem lk_ini2 : Cond.initialized RX2 ∈ WL := iW_0 _ (List.mem_of_getElem? (i := 15) rfl)
theorem lk_inst2 : Cond.instantiable RX2 3 ∈ WL := iW_0 _ (List.mem_of_getElem? (i := 16) rfl)
theorem lk_ini3 : Cond.initialized RX3 ∈ WL := iW_0 _ (List.mem_of_getElem? (i := 17) rfl)
theorem lk_inst3 : Cond.instantiable RX3 8 ∈ WL := iW_0 _ (List.mem_of_getElem? (i := 18) rfl)
theorem lk_ini4 : Cond.initialized RX4 ∈ WL := iW_0 _ (List.mem_of_getElem? (i := 19) rfl)
theorem lk_inst4 : Cond.instantiable RX4 6 ∈ WL := iW_0 _ (List.mem_of_getElem? (i := 20) rfl)
theorem lk_ini5 : Cond.initialized RX5 ∈ WL := iW_0 _ (List.mem_of_getElem? (i := 21) rfl)
theorem lk_inst5 : Cond.instantiable RX5 4 ∈ WL := iW_0 _ (List.mem_of_getElem? (i := 22) rfl)
theorem lk_ini6 : Cond.initialized RX6 ∈ WL := iW_0 _ (List.mem_of_getElem? (i := 23) rfl)
theorem lk_inst6 : Cond.instantiable RX6 9 ∈ WL := iW_1 _ (List.mem_of_getElem? (i := 0) rfl)
theorem lk_ini7 : Cond.initialized RX7 ∈ WL := iW_1 _ (List.mem_of_getElem? (i := 1) rfl)
theorem lk_inst7 : Cond.instantiable RX7 45 ∈ WL := iW_1 _ (List.mem_of_getElem? (i := 2) rfl)
theorem lk_X2_3 : Cond.methodLink RX2 3 objectInit ∈ WL := iW_1 _ (List.mem_of_getElem? (i := 3) rfl)
theorem lk_X2_9 : Cond.fieldLink RX2 9 "SnippetStops$Row" "bytes" "[B" ∈ WL := iW_1 _ (List.mem_of_getElem? (i := 4) rfl)
theorem lk_X2_15 : Cond.fieldLink RX2 15 "SnippetStops$Row" "size" "I" ∈ WL := iW_1 _ (List.mem_of_getElem? (i := 5) rfl)
theorem lk_X2_19 : Cond.fieldLink RX2 19 "SnippetStops$Row" "room" "I" ∈ WL := iW_1 _ (List.mem_of_getElem? (i := 6) rfl)
theorem lk_X2_22 : Cond.methodLink RX2 22 yX2_widen ∈ WL := iW_1 _ (List.mem_of_getElem? (i := 7) rfl)
theorem lc_X2_widen : Cond.code yX2_widen cX2_widen 5 none ∈ WL := iW_1 _ (List.mem_of_getElem? (i := 8) rfl)
theorem li_X2_widen : Cond.instanceMethod yX2_widen ∈ WL := iW_1 _ (List.mem_of_getElem? (i := 9) rfl)
theorem ls_X2_widen : Cond.selects RX2 yX2_widen yX2_widen ∈ WL := iW_1 _ (List.mem_of_getElem? (i := 10) rfl)
theorem lk_X2_26 : Cond.methodLink RX2 26 yX2_put ∈ WL := iW_1 _ (List.mem_of_getElem? (i := 11) rfl)
theorem lc_X2_put : Cond.code yX2_put cX2_put 3 none ∈ WL := iW_1 _ (List.mem_of_getElem? (i := 12) rfl)
theorem li_X2_put : Cond.instanceMethod yX2_put ∈ WL := iW_1 _ (List.mem_of_getElem? (i := 13) rfl)
theorem ls_X2_put : Cond.selects RX2 yX2_put yX2_put ∈ WL := iW_1 _ (List.mem_of_getElem? (i := 14) rfl)
theorem lk_X2_30 : Cond.methodLink RX2 30 Lib.Math.min.name ∈ WL := iW_1 _ (List.mem_of_getElem? (i := 15) rfl)
theorem lk_X2_36 : Cond.methodLink RX2 36 arraycopyName ∈ WL := iW_1 _ (List.mem_of_getElem? (i := 16) rfl)
theorem lk_X2_42 : Cond.methodLink RX2 42 yX2_addPart ∈ WL := iW_1 _ (List.mem_of_getElem? (i := 17) rfl)
theorem lc_X2_addPart : Cond.code yX2_addPart cX2_addPart 5 none ∈ WL := iW_1 _ (List.mem_of_getElem? (i := 18) rfl)
theorem li_X2_addPart : Cond.instanceMethod yX2_addPart ∈ WL := iW_1 _ (List.mem_of_getElem? (i := 19) rfl)
theorem ls_X2_addPart : Cond.selects RX2 yX2_addPart yX2_addPart ∈ WL := iW_1 _ (List.mem_of_getElem? (i := 20) rfl)
theorem lk_X2_46 : Cond.methodLink RX2 46 yX2_add ∈ WL := iW_1 _ (List.mem_of_getElem? (i := 21) rfl)
theorem lc_X2_add : Cond.code yX2_add cX2_add 2 none ∈ WL := iW_1 _ (List.mem_of_getElem? (i := 22) rfl)
theorem li_X2_add : Cond.instanceMethod yX2_add ∈ WL := iW_1 _ (List.mem_of_getElem? (i := 23) rfl)
theorem ls_X2_add : Cond.selects RX2 yX2_add yX2_add ∈ WL := iW_2 _ (List.mem_of_getElem? (i := 0) rfl)
theorem lk_X2_49 : Cond.methodLink RX2 49 yX2_get ∈ WL := iW_2 _ (List.mem_of_getElem? (i := 1) rfl)
theorem lc_X2_get : Cond.code yX2_get cX2_get 2 (some .int) ∈ WL := iW_2 _ (List.mem_of_getElem? (i := 2) rfl)
theorem li_X2_get : Cond.instanceMethod yX2_get ∈ WL := iW_2 _ (List.mem_of_getElem? (i := 3) rfl)
theorem ls_X2_get : Cond.selects RX2 yX2_get yX2_get ∈ WL := iW_2 _ (List.mem_of_getElem? (i := 4) rfl)
theorem lk_X5_3 : Cond.methodLink RX5 3 objectInit ∈ WL := iW_2 _ (List.mem_of_getElem? (i := 5) rfl)
theorem lk_X5_9 : Cond.classLink RX5 9 RX2 ∈ WL := iW_2 _ (List.mem_of_getElem? (i := 6) rfl)
theorem lk_X5_11 : Cond.methodLink RX5 11 yX2_init ∈ WL := iW_2 _ (List.mem_of_getElem? (i := 7) rfl)
theorem lc_X2_init : Cond.code yX2_init cX2_init 2 none ∈ WL := iW_2 _ (List.mem_of_getElem? (i := 8) rfl)
theorem li_X2_init : Cond.instanceMethod yX2_init ∈ WL := iW_2 _ (List.mem_of_getElem? (i := 9) rfl)
theorem lk_X5_14 : Cond.fieldLink RX5 14 "SnippetStops$Template" "codes" "LSnippetStops$Row;" ∈ WL := iW_2 _ (List.mem_of_getElem? (i := 10) rfl)
theorem lk_X5_20 : Cond.classLink RX5 20 RX0 ∈ WL := iW_2 _ (List.mem_of_getElem? (i := 11) rfl)
theorem lk_X5_22 : Cond.fieldLink RX5 22 "SnippetStops$Template" "occurrences" "[LSnippetStops$Occurrence;" ∈ WL := iW_2 _ (List.mem_of_getElem? (i := 12) rfl)
theorem lk_X5_26 : Cond.fieldLink RX5 26 "SnippetStops$Template" "occurrenceCount" "I" ∈ WL := iW_2 _ (List.mem_of_getElem? (i := 13) rfl)
theorem lk_X5_30 : Cond.fieldLink RX5 30 "SnippetStops$Template" "masters" "[LSnippetStops$Occurrence;" ∈ WL := iW_2 _ (List.mem_of_getElem? (i := 14) rfl)
theorem lk_X5_58 : Cond.fieldLink RX5 58 "SnippetStops$Occurrence" "hasDefault" "Z" ∈ WL := iW_2 _ (List.mem_of_getElem? (i := 15) rfl)
theorem lk_X5_62 : Cond.fieldLink RX5 62 "SnippetStops$Occurrence" "choices" "I" ∈ WL := iW_2 _ (List.mem_of_getElem? (i := 16) rfl)
theorem lk_X5_69 : Cond.fieldLink RX5 69 "SnippetStops$Occurrence" "rule" "I" ∈ WL := iW_2 _ (List.mem_of_getElem? (i := 17) rfl)
theorem lk_X3_3 : Cond.methodLink RX3 3 objectInit ∈ WL := iW_2 _ (List.mem_of_getElem? (i := 18) rfl)
theorem lk_X3_9 : Cond.fieldLink RX3 9 "SnippetStops$Session" "stop" "I" ∈ WL := iW_2 _ (List.mem_of_getElem? (i := 19) rfl)
theorem lk_X3_15 : Cond.fieldLink RX3 15 "SnippetStops$Session" "fresh" "Z" ∈ WL := iW_2 _ (List.mem_of_getElem? (i := 20) rfl)
theorem lk_X3_19 : Cond.fieldLink RX3 19 "SnippetStops$Session" "set" "[Z" ∈ WL := iW_2 _ (List.mem_of_getElem? (i := 21) rfl)
theorem lk_X3_23 : Cond.classLink RX3 23 RX2 ∈ WL := iW_2 _ (List.mem_of_getElem? (i := 22) rfl)
theorem lk_X3_25 : Cond.fieldLink RX3 25 "SnippetStops$Session" "setTo" "[LSnippetStops$Row;" ∈ WL := iW_2 _ (List.mem_of_getElem? (i := 23) rfl)
theorem lk_X3_10 : Cond.classLink RX3 10 RX3 ∈ WL := iW_3 _ (List.mem_of_getElem? (i := 0) rfl)
theorem lk_X3_29 : Cond.fieldLink RX3 29 "SnippetStops$Session" "before" "[LSnippetStops$Session;" ∈ WL := iW_3 _ (List.mem_of_getElem? (i := 1) rfl)
theorem lk_X3_33 : Cond.fieldLink RX3 33 "SnippetStops$Session" "begins" "[I" ∈ WL := iW_3 _ (List.mem_of_getElem? (i := 2) rfl)
theorem lk_X3_37 : Cond.fieldLink RX3 37 "SnippetStops$Session" "lengths" "[I" ∈ WL := iW_3 _ (List.mem_of_getElem? (i := 3) rfl)
theorem lk_X3_40 : Cond.fieldLink RX3 40 "SnippetStops$Session" "template" "LSnippetStops$Template;" ∈ WL := iW_3 _ (List.mem_of_getElem? (i := 4) rfl)
theorem lk_X3_44 : Cond.methodLink RX3 44 yX2_init ∈ WL := iW_3 _ (List.mem_of_getElem? (i := 5) rfl)
theorem lk_X3_51 : Cond.methodLink RX3 51 yX3_leastAbove ∈ WL := iW_3 _ (List.mem_of_getElem? (i := 6) rfl)
theorem lc_X3_leastAbove : Cond.code yX3_leastAbove cX3_leastAbove 3 (some .int) ∈ WL := iW_3 _ (List.mem_of_getElem? (i := 7) rfl)
theorem li_X3_leastAbove : Cond.instanceMethod yX3_leastAbove ∈ WL := iW_3 _ (List.mem_of_getElem? (i := 8) rfl)
theorem ls_X3_leastAbove : Cond.selects RX3 yX3_leastAbove yX3_leastAbove ∈ WL := iW_3 _ (List.mem_of_getElem? (i := 9) rfl)
theorem lk_X3_55 : Cond.methodLink RX3 55 yX3_comeTo ∈ WL := iW_3 _ (List.mem_of_getElem? (i := 10) rfl)
theorem lc_X3_comeTo : Cond.code yX3_comeTo cX3_comeTo 2 none ∈ WL := iW_3 _ (List.mem_of_getElem? (i := 11) rfl)
theorem li_X3_comeTo : Cond.instanceMethod yX3_comeTo ∈ WL := iW_3 _ (List.mem_of_getElem? (i := 12) rfl)
theorem ls_X3_comeTo : Cond.selects RX3 yX3_comeTo yX3_comeTo ∈ WL := iW_3 _ (List.mem_of_getElem? (i := 13) rfl)
theorem lk_X3_89 : Cond.methodLink RX3 89 yX3_occurrencesThere ∈ WL := iW_3 _ (List.mem_of_getElem? (i := 14) rfl)
theorem lc_X3_occurrencesThere : Cond.code yX3_occurrencesThere cX3_occurrencesThere 5 (some .int) ∈ WL := iW_3 _ (List.mem_of_getElem? (i := 15) rfl)
theorem li_X3_occurrencesThere : Cond.instanceMethod yX3_occurrencesThere ∈ WL := iW_3 _ (List.mem_of_getElem? (i := 16) rfl)
theorem ls_X3_occurrencesThere : Cond.selects RX3 yX3_occurrencesThere yX3_occurrencesThere ∈ WL := iW_3 _ (List.mem_of_getElem? (i := 17) rfl)
theorem lk_X3_78 : Cond.methodLink RX3 78 yX5_size ∈ WL := iW_3 _ (List.mem_of_getElem? (i := 18) rfl)
theorem lc_X5_size : Cond.code yX5_size cX5_size 1 (some .int) ∈ WL := iW_3 _ (List.mem_of_getElem? (i := 19) rfl)
theorem li_X5_size : Cond.instanceMethod yX5_size ∈ WL := iW_3 _ (List.mem_of_getElem? (i := 20) rfl)
theorem ls_X5_size : Cond.selects RX5 yX5_size yX5_size ∈ WL := iW_3 _ (List.mem_of_getElem? (i := 21) rfl)
theorem lk_X3_74 : Cond.fieldLink RX3 74 "SnippetStops$Occurrence" "stop" "I" ∈ WL := iW_3 _ (List.mem_of_getElem? (i := 22) rfl)
theorem lk_X3_139 : Cond.methodLink RX3 139 yX3_putItems ∈ WL := iW_3 _ (List.mem_of_getElem? (i := 23) rfl)
theorem lc_X3_putItems : Cond.code yX3_putItems cX3_putItems 11 none ∈ WL := iW_4 _ (List.mem_of_getElem? (i := 0) rfl)
theorem li_X3_putItems : Cond.instanceMethod yX3_putItems ∈ WL := iW_4 _ (List.mem_of_getElem? (i := 1) rfl)
theorem ls_X3_putItems : Cond.selects RX3 yX3_putItems yX3_putItems ∈ WL := iW_4 _ (List.mem_of_getElem? (i := 2) rfl)
theorem lk_X3_143 : Cond.fieldLink RX3 143 "SnippetStops$Occurrence" "begin" "I" ∈ WL := iW_4 _ (List.mem_of_getElem? (i := 3) rfl)
theorem lk_X3_146 : Cond.fieldLink RX3 146 "SnippetStops$Template" "codes" "LSnippetStops$Row;" ∈ WL := iW_4 _ (List.mem_of_getElem? (i := 4) rfl)
theorem lk_X3_104 : Cond.methodLink RX3 104 yX2_size ∈ WL := iW_4 _ (List.mem_of_getElem? (i := 5) rfl)
theorem lc_X2_size : Cond.code yX2_size cX2_size 1 (some .int) ∈ WL := iW_4 _ (List.mem_of_getElem? (i := 6) rfl)
theorem li_X2_size : Cond.instanceMethod yX2_size ∈ WL := iW_4 _ (List.mem_of_getElem? (i := 7) rfl)
theorem ls_X2_size : Cond.selects RX2 yX2_size yX2_size ∈ WL := iW_4 _ (List.mem_of_getElem? (i := 8) rfl)
theorem lk_X3_150 : Cond.fieldLink RX3 150 "SnippetStops$Occurrence" "end" "I" ∈ WL := iW_4 _ (List.mem_of_getElem? (i := 9) rfl)
theorem lk_X3_153 : Cond.methodLink RX3 153 yX2_get ∈ WL := iW_4 _ (List.mem_of_getElem? (i := 10) rfl)
theorem lk_X3_101 : Cond.methodLink RX3 101 yX2_add ∈ WL := iW_4 _ (List.mem_of_getElem? (i := 11) rfl)
theorem lk_X3_161 : Cond.methodLink RX3 161 Lib.Math.max.name ∈ WL := iW_4 _ (List.mem_of_getElem? (i := 12) rfl)
theorem lk_X4_3 : Cond.methodLink RX4 3 objectInit ∈ WL := iW_4 _ (List.mem_of_getElem? (i := 13) rfl)
theorem lk_X4_9 : Cond.classLink RX4 9 RX2 ∈ WL := iW_4 _ (List.mem_of_getElem? (i := 14) rfl)
theorem lk_X4_11 : Cond.methodLink RX4 11 yX2_init ∈ WL := iW_4 _ (List.mem_of_getElem? (i := 15) rfl)
theorem lk_X4_14 : Cond.fieldLink RX4 14 "SnippetStops$State" "plain" "LSnippetStops$Row;" ∈ WL := iW_4 _ (List.mem_of_getElem? (i := 16) rfl)
theorem lk_X4_20 : Cond.fieldLink RX4 20 "SnippetStops$State" "caret" "I" ∈ WL := iW_4 _ (List.mem_of_getElem? (i := 17) rfl)
theorem lk_X4_24 : Cond.fieldLink RX4 24 "SnippetStops$State" "variables" "[LSnippetStops$Row;" ∈ WL := iW_4 _ (List.mem_of_getElem? (i := 18) rfl)
theorem lk_X4_28 : Cond.classLink RX4 28 RX3 ∈ WL := iW_4 _ (List.mem_of_getElem? (i := 19) rfl)
theorem lk_X4_30 : Cond.fieldLink RX4 30 "SnippetStops$State" "sessions" "[LSnippetStops$Session;" ∈ WL := iW_4 _ (List.mem_of_getElem? (i := 20) rfl)
theorem lk_X4_34 : Cond.fieldLink RX4 34 "SnippetStops$State" "open" "I" ∈ WL := iW_4 _ (List.mem_of_getElem? (i := 21) rfl)
theorem lk_X4_37 : Cond.fieldLink RX4 37 "SnippetStops$State" "shown" "LSnippetStops$Row;" ∈ WL := iW_4 _ (List.mem_of_getElem? (i := 22) rfl)
theorem lk_X4_40 : Cond.methodLink RX4 40 yX3_init ∈ WL := iW_4 _ (List.mem_of_getElem? (i := 23) rfl)
theorem lc_X3_init : Cond.code yX3_init cX3_init 3 none ∈ WL := iW_5 _ (List.mem_of_getElem? (i := 0) rfl)
theorem li_X3_init : Cond.instanceMethod yX3_init ∈ WL := iW_5 _ (List.mem_of_getElem? (i := 1) rfl)
theorem lk_X4_43 : Cond.methodLink RX4 43 yX2_copyOf ∈ WL := iW_5 _ (List.mem_of_getElem? (i := 2) rfl)
theorem lc_X2_copyOf : Cond.code yX2_copyOf cX2_copyOf 2 none ∈ WL := iW_5 _ (List.mem_of_getElem? (i := 3) rfl)
theorem li_X2_copyOf : Cond.instanceMethod yX2_copyOf ∈ WL := iW_5 _ (List.mem_of_getElem? (i := 4) rfl)
theorem ls_X2_copyOf : Cond.selects RX2 yX2_copyOf yX2_copyOf ∈ WL := iW_5 _ (List.mem_of_getElem? (i := 5) rfl)
theorem lk_X4_50 : Cond.methodLink RX4 50 yX3_begin ∈ WL := iW_5 _ (List.mem_of_getElem? (i := 6) rfl)
theorem lc_X3_begin : Cond.code yX3_begin cX3_begin 3 none ∈ WL := iW_5 _ (List.mem_of_getElem? (i := 7) rfl)
theorem li_X3_begin : Cond.instanceMethod yX3_begin ∈ WL := iW_5 _ (List.mem_of_getElem? (i := 8) rfl)
theorem ls_X3_begin : Cond.selects RX3 yX3_begin yX3_begin ∈ WL := iW_5 _ (List.mem_of_getElem? (i := 9) rfl)
theorem lk_X4_53 : Cond.fieldLink RX4 53 "SnippetStops$Session" "stop" "I" ∈ WL := iW_5 _ (List.mem_of_getElem? (i := 10) rfl)
theorem lk_X4_56 : Cond.methodLink RX4 56 yX4_uppermost ∈ WL := iW_5 _ (List.mem_of_getElem? (i := 11) rfl)
theorem lc_X4_uppermost : Cond.code yX4_uppermost cX4_uppermost 1 (some (.object "SnippetStops$Session")) ∈ WL := iW_5 _ (List.mem_of_getElem? (i := 12) rfl)
theorem li_X4_uppermost : Cond.instanceMethod yX4_uppermost ∈ WL := iW_5 _ (List.mem_of_getElem? (i := 13) rfl)
theorem ls_X4_uppermost : Cond.selects RX4 yX4_uppermost yX4_uppermost ∈ WL := iW_5 _ (List.mem_of_getElem? (i := 14) rfl)
theorem lk_X4_63 : Cond.methodLink RX4 63 yX4_settle ∈ WL := iW_5 _ (List.mem_of_getElem? (i := 15) rfl)
theorem lc_X4_settle : Cond.code yX4_settle cX4_settle 3 (some .boolean) ∈ WL := iW_5 _ (List.mem_of_getElem? (i := 16) rfl)
theorem li_X4_settle : Cond.instanceMethod yX4_settle ∈ WL := iW_5 _ (List.mem_of_getElem? (i := 17) rfl)
theorem ls_X4_settle : Cond.selects RX4 yX4_settle yX4_settle ∈ WL := iW_5 _ (List.mem_of_getElem? (i := 18) rfl)
theorem lk_X4_67 : Cond.fieldLink RX4 67 "SnippetStops$Session" "fresh" "Z" ∈ WL := iW_5 _ (List.mem_of_getElem? (i := 19) rfl)
theorem lk_X4_71 : Cond.methodLink RX4 71 yX3_findThere ∈ WL := iW_5 _ (List.mem_of_getElem? (i := 20) rfl)
theorem lc_X3_findThere : Cond.code yX3_findThere cX3_findThere 6 (some (.object "SnippetStops$Occurrence")) ∈ WL := iW_5 _ (List.mem_of_getElem? (i := 21) rfl)
theorem li_X3_findThere : Cond.instanceMethod yX3_findThere ∈ WL := iW_5 _ (List.mem_of_getElem? (i := 22) rfl)
theorem ls_X3_findThere : Cond.selects RX3 yX3_findThere yX3_findThere ∈ WL := iW_5 _ (List.mem_of_getElem? (i := 23) rfl)
theorem lk_X4_75 : Cond.methodLink RX4 75 yX2_size ∈ WL := iW_6 _ (List.mem_of_getElem? (i := 0) rfl)
theorem lk_X4_83 : Cond.methodLink RX4 83 yX2_insert ∈ WL := iW_6 _ (List.mem_of_getElem? (i := 1) rfl)
theorem lc_X2_insert : Cond.code yX2_insert cX2_insert 4 none ∈ WL := iW_6 _ (List.mem_of_getElem? (i := 2) rfl)
theorem li_X2_insert : Cond.instanceMethod yX2_insert ∈ WL := iW_6 _ (List.mem_of_getElem? (i := 3) rfl)
theorem ls_X2_insert : Cond.selects RX2 yX2_insert yX2_insert ∈ WL := iW_6 _ (List.mem_of_getElem? (i := 4) rfl)
theorem lk_X4_90 : Cond.methodLink RX4 90 Lib.Math.min.name ∈ WL := iW_6 _ (List.mem_of_getElem? (i := 5) rfl)
theorem lk_X4_99 : Cond.methodLink RX4 99 yX2_empty ∈ WL := iW_6 _ (List.mem_of_getElem? (i := 6) rfl)
theorem lc_X2_empty : Cond.code yX2_empty cX2_empty 1 none ∈ WL := iW_6 _ (List.mem_of_getElem? (i := 7) rfl)
theorem li_X2_empty : Cond.instanceMethod yX2_empty ∈ WL := iW_6 _ (List.mem_of_getElem? (i := 8) rfl)
theorem ls_X2_empty : Cond.selects RX2 yX2_empty yX2_empty ∈ WL := iW_6 _ (List.mem_of_getElem? (i := 9) rfl)
theorem lk_X4_102 : Cond.methodLink RX4 102 yX3_layOut ∈ WL := iW_6 _ (List.mem_of_getElem? (i := 10) rfl)
theorem lc_X3_layOut : Cond.code yX3_layOut cX3_layOut 2 none ∈ WL := iW_6 _ (List.mem_of_getElem? (i := 11) rfl)
theorem li_X3_layOut : Cond.instanceMethod yX3_layOut ∈ WL := iW_6 _ (List.mem_of_getElem? (i := 12) rfl)
theorem ls_X3_layOut : Cond.selects RX3 yX3_layOut yX3_layOut ∈ WL := iW_6 _ (List.mem_of_getElem? (i := 13) rfl)
theorem lk_X4_112 : Cond.methodLink RX4 112 yX2_addPart ∈ WL := iW_6 _ (List.mem_of_getElem? (i := 14) rfl)
theorem lk_X1_3 : Cond.methodLink RX1 3 objectInit ∈ WL := iW_6 _ (List.mem_of_getElem? (i := 15) rfl)
theorem lk_X1_9 : Cond.classLink RX1 9 RX5 ∈ WL := iW_6 _ (List.mem_of_getElem? (i := 16) rfl)
theorem lk_X1_12 : Cond.fieldLink RX1 12 "SnippetStops$Reader" "template" "LSnippetStops$Template;" ∈ WL := iW_6 _ (List.mem_of_getElem? (i := 17) rfl)
theorem lk_X1_18 : Cond.fieldLink RX1 18 "SnippetStops$Reader" "mode" "I" ∈ WL := iW_6 _ (List.mem_of_getElem? (i := 18) rfl)
theorem lk_X1_22 : Cond.fieldLink RX1 22 "SnippetStops$Reader" "place" "I" ∈ WL := iW_6 _ (List.mem_of_getElem? (i := 19) rfl)
theorem lk_X1_25 : Cond.fieldLink RX1 25 "SnippetStops$Reader" "fault" "I" ∈ WL := iW_6 _ (List.mem_of_getElem? (i := 20) rfl)
theorem lk_X1_28 : Cond.fieldLink RX1 28 "SnippetStops$Reader" "number" "I" ∈ WL := iW_6 _ (List.mem_of_getElem? (i := 21) rfl)
theorem lk_X1_31 : Cond.fieldLink RX1 31 "SnippetStops$Reader" "latest" "LSnippetStops$Occurrence;" ∈ WL := iW_6 _ (List.mem_of_getElem? (i := 22) rfl)
theorem lk_X1_35 : Cond.fieldLink RX1 35 "SnippetStops$Reader" "within" "LSnippetStops$Occurrence;" ∈ WL := iW_6 _ (List.mem_of_getElem? (i := 23) rfl)
theorem lk_X1_38 : Cond.fieldLink RX1 38 "SnippetStops$Reader" "deep" "I" ∈ WL := iW_7 _ (List.mem_of_getElem? (i := 0) rfl)
theorem lk_X1_41 : Cond.fieldLink RX1 41 "SnippetStops$Reader" "text" "LSnippetStops$Row;" ∈ WL := iW_7 _ (List.mem_of_getElem? (i := 1) rfl)
theorem lk_X1_45 : Cond.fieldLink RX1 45 "SnippetStops$Reader" "variables" "[LSnippetStops$Row;" ∈ WL := iW_7 _ (List.mem_of_getElem? (i := 2) rfl)
theorem lk_X1_49 : Cond.methodLink RX1 49 yX2_size ∈ WL := iW_7 _ (List.mem_of_getElem? (i := 3) rfl)
theorem lk_X1_55 : Cond.methodLink RX1 55 yX2_get ∈ WL := iW_7 _ (List.mem_of_getElem? (i := 4) rfl)
theorem lk_X1_63 : Cond.methodLink RX1 63 yX5_settleMasters ∈ WL := iW_7 _ (List.mem_of_getElem? (i := 5) rfl)
theorem lc_X5_settleMasters : Cond.code yX5_settleMasters cX5_settleMasters 3 none ∈ WL := iW_7 _ (List.mem_of_getElem? (i := 6) rfl)
theorem li_X5_settleMasters : Cond.instanceMethod yX5_settleMasters ∈ WL := iW_7 _ (List.mem_of_getElem? (i := 7) rfl)
theorem ls_X5_settleMasters : Cond.selects RX5 yX5_settleMasters yX5_settleMasters ∈ WL := iW_7 _ (List.mem_of_getElem? (i := 8) rfl)
theorem lk_X6_3 : Cond.methodLink RX6 3 objectInit ∈ WL := iW_7 _ (List.mem_of_getElem? (i := 9) rfl)
theorem lk_X6_9 : Cond.classLink RX6 9 RX2 ∈ WL := iW_7 _ (List.mem_of_getElem? (i := 10) rfl)
theorem lk_X6_11 : Cond.methodLink RX6 11 yX2_init ∈ WL := iW_7 _ (List.mem_of_getElem? (i := 11) rfl)
theorem lk_X6_14 : Cond.fieldLink RX6 14 "SnippetStops" "text" "LSnippetStops$Row;" ∈ WL := iW_7 _ (List.mem_of_getElem? (i := 12) rfl)
theorem lk_X6_18 : Cond.constant RX6 18 (65536) ∈ WL := iW_7 _ (List.mem_of_getElem? (i := 13) rfl)
theorem lk_X6_19 : Cond.fieldLink RX6 19 "SnippetStops" "looked" "LSnippetStops$Row;" ∈ WL := iW_7 _ (List.mem_of_getElem? (i := 14) rfl)
theorem lk_X6_22 : Cond.classLink RX6 22 RX4 ∈ WL := iW_7 _ (List.mem_of_getElem? (i := 15) rfl)
theorem lk_X6_24 : Cond.fieldLink RX6 24 "SnippetStops" "past" "[LSnippetStops$State;" ∈ WL := iW_7 _ (List.mem_of_getElem? (i := 16) rfl)
theorem lk_X6_28 : Cond.fieldLink RX6 28 "SnippetStops" "pastCount" "I" ∈ WL := iW_7 _ (List.mem_of_getElem? (i := 17) rfl)
theorem lk_X6_32 : Cond.fieldLink RX6 32 "SnippetStops" "badCount" "I" ∈ WL := iW_7 _ (List.mem_of_getElem? (i := 18) rfl)
theorem lk_X6_35 : Cond.fieldLink RX6 35 "SnippetStops" "noCount" "I" ∈ WL := iW_7 _ (List.mem_of_getElem? (i := 19) rfl)
theorem lk_X6_38 : Cond.fieldLink RX6 38 "SnippetStops" "fullCount" "I" ∈ WL := iW_7 _ (List.mem_of_getElem? (i := 20) rfl)
theorem lk_X6_41 : Cond.classLink RX6 41 RX5 ∈ WL := iW_7 _ (List.mem_of_getElem? (i := 21) rfl)
theorem lk_X6_44 : Cond.methodLink RX6 44 yX4_init ∈ WL := iW_7 _ (List.mem_of_getElem? (i := 22) rfl)
theorem lc_X4_init : Cond.code yX4_init cX4_init 3 none ∈ WL := iW_7 _ (List.mem_of_getElem? (i := 23) rfl)
theorem li_X4_init : Cond.instanceMethod yX4_init ∈ WL := iW_8 _ (List.mem_of_getElem? (i := 0) rfl)
theorem lk_X6_47 : Cond.fieldLink RX6 47 "SnippetStops" "now" "LSnippetStops$State;" ∈ WL := iW_8 _ (List.mem_of_getElem? (i := 1) rfl)
theorem lk_X6_51 : Cond.fieldLink RX6 51 "SnippetStops" "draft" "LSnippetStops$State;" ∈ WL := iW_8 _ (List.mem_of_getElem? (i := 2) rfl)
theorem lk_X6_54 : Cond.methodLink RX6 54 yX6_refuse ∈ WL := iW_8 _ (List.mem_of_getElem? (i := 3) rfl)
theorem lc_X6_refuse : Cond.code yX6_refuse cX6_refuse 2 (some .int) ∈ WL := iW_8 _ (List.mem_of_getElem? (i := 4) rfl)
theorem li_X6_refuse : Cond.instanceMethod yX6_refuse ∈ WL := iW_8 _ (List.mem_of_getElem? (i := 5) rfl)
theorem ls_X6_refuse : Cond.selects RX6 yX6_refuse yX6_refuse ∈ WL := iW_8 _ (List.mem_of_getElem? (i := 6) rfl)
theorem lk_X6_58 : Cond.methodLink RX6 58 yX2_size ∈ WL := iW_8 _ (List.mem_of_getElem? (i := 7) rfl)
theorem lk_X6_62 : Cond.methodLink RX6 62 yX2_add ∈ WL := iW_8 _ (List.mem_of_getElem? (i := 8) rfl)
theorem lk_X6_65 : Cond.methodLink RX6 65 yX2_empty ∈ WL := iW_8 _ (List.mem_of_getElem? (i := 9) rfl)
theorem lk_X6_68 : Cond.methodLink RX6 68 yX6_isVariable ∈ WL := iW_8 _ (List.mem_of_getElem? (i := 10) rfl)
theorem lc_X6_isVariable : Cond.code yX6_isVariable cX6_isVariable 1 (some .boolean) ∈ WL := iW_8 _ (List.mem_of_getElem? (i := 11) rfl)
theorem lt_X6_isVariable : Cond.static yX6_isVariable ∈ WL := iW_8 _ (List.mem_of_getElem? (i := 12) rfl)
theorem lk_X6_72 : Cond.methodLink RX6 72 yX6_canBeVariable ∈ WL := iW_8 _ (List.mem_of_getElem? (i := 13) rfl)
theorem lc_X6_canBeVariable : Cond.code yX6_canBeVariable cX6_canBeVariable 2 (some .boolean) ∈ WL := iW_8 _ (List.mem_of_getElem? (i := 14) rfl)
theorem lt_X6_canBeVariable : Cond.static yX6_canBeVariable ∈ WL := iW_8 _ (List.mem_of_getElem? (i := 15) rfl)
theorem lk_X6_76 : Cond.methodLink RX6 76 yX4_copyOf ∈ WL := iW_8 _ (List.mem_of_getElem? (i := 16) rfl)
theorem lc_X4_copyOf : Cond.code yX4_copyOf cX4_copyOf 3 none ∈ WL := iW_8 _ (List.mem_of_getElem? (i := 17) rfl)
theorem li_X4_copyOf : Cond.instanceMethod yX4_copyOf ∈ WL := iW_8 _ (List.mem_of_getElem? (i := 18) rfl)
theorem ls_X4_copyOf : Cond.selects RX4 yX4_copyOf yX4_copyOf ∈ WL := iW_8 _ (List.mem_of_getElem? (i := 19) rfl)
theorem lk_X6_80 : Cond.fieldLink RX6 80 "SnippetStops$State" "variables" "[LSnippetStops$Row;" ∈ WL := iW_8 _ (List.mem_of_getElem? (i := 20) rfl)
theorem lk_X6_84 : Cond.methodLink RX6 84 yX2_copyOf ∈ WL := iW_8 _ (List.mem_of_getElem? (i := 21) rfl)
theorem lk_X6_87 : Cond.methodLink RX6 87 yX6_lands ∈ WL := iW_8 _ (List.mem_of_getElem? (i := 22) rfl)
theorem lc_X6_lands : Cond.code yX6_lands cX6_lands 3 (some .boolean) ∈ WL := iW_8 _ (List.mem_of_getElem? (i := 23) rfl)
theorem li_X6_lands : Cond.instanceMethod yX6_lands ∈ WL := iW_9 _ (List.mem_of_getElem? (i := 0) rfl)
theorem ls_X6_lands : Cond.selects RX6 yX6_lands yX6_lands ∈ WL := iW_9 _ (List.mem_of_getElem? (i := 1) rfl)
theorem lk_X6_91 : Cond.classLink RX6 91 RX1 ∈ WL := iW_9 _ (List.mem_of_getElem? (i := 2) rfl)
theorem lk_X6_93 : Cond.methodLink RX6 93 yX1_init ∈ WL := iW_9 _ (List.mem_of_getElem? (i := 3) rfl)
theorem lc_X1_init : Cond.code yX1_init cX1_init 3 none ∈ WL := iW_9 _ (List.mem_of_getElem? (i := 4) rfl)
theorem li_X1_init : Cond.instanceMethod yX1_init ∈ WL := iW_9 _ (List.mem_of_getElem? (i := 5) rfl)
theorem lk_X6_96 : Cond.methodLink RX6 96 yX1_read ∈ WL := iW_9 _ (List.mem_of_getElem? (i := 6) rfl)
theorem lc_X1_read : Cond.code yX1_read cX1_read 2 (some .int) ∈ WL := iW_9 _ (List.mem_of_getElem? (i := 7) rfl)
theorem li_X1_read : Cond.instanceMethod yX1_read ∈ WL := iW_9 _ (List.mem_of_getElem? (i := 8) rfl)
theorem ls_X1_read : Cond.selects RX1 yX1_read yX1_read ∈ WL := iW_9 _ (List.mem_of_getElem? (i := 9) rfl)
theorem lk_X6_99 : Cond.fieldLink RX6 99 "SnippetStops$State" "open" "I" ∈ WL := iW_9 _ (List.mem_of_getElem? (i := 10) rfl)
theorem lk_X6_102 : Cond.fieldLink RX6 102 "SnippetStops$Reader" "template" "LSnippetStops$Template;" ∈ WL := iW_9 _ (List.mem_of_getElem? (i := 11) rfl)
theorem lk_X6_106 : Cond.methodLink RX6 106 yX4_openSession ∈ WL := iW_9 _ (List.mem_of_getElem? (i := 12) rfl)
theorem lc_X4_openSession : Cond.code yX4_openSession cX4_openSession 3 (some .int) ∈ WL := iW_9 _ (List.mem_of_getElem? (i := 13) rfl)
theorem li_X4_openSession : Cond.instanceMethod yX4_openSession ∈ WL := iW_9 _ (List.mem_of_getElem? (i := 14) rfl)
theorem ls_X4_openSession : Cond.selects RX4 yX4_openSession yX4_openSession ∈ WL := iW_9 _ (List.mem_of_getElem? (i := 15) rfl)
theorem lk_X6_110 : Cond.methodLink RX6 110 yX4_settle ∈ WL := iW_9 _ (List.mem_of_getElem? (i := 16) rfl)
theorem lk_X6_113 : Cond.methodLink RX6 113 yX4_endUppermost ∈ WL := iW_9 _ (List.mem_of_getElem? (i := 17) rfl)
theorem lc_X4_endUppermost : Cond.code yX4_endUppermost cX4_endUppermost 5 none ∈ WL := iW_9 _ (List.mem_of_getElem? (i := 18) rfl)
theorem li_X4_endUppermost : Cond.instanceMethod yX4_endUppermost ∈ WL := iW_9 _ (List.mem_of_getElem? (i := 19) rfl)
theorem ls_X4_endUppermost : Cond.selects RX4 yX4_endUppermost yX4_endUppermost ∈ WL := iW_9 _ (List.mem_of_getElem? (i := 20) rfl)
theorem lk_X6_116 : Cond.methodLink RX6 116 yX6_isShown ∈ WL := iW_9 _ (List.mem_of_getElem? (i := 21) rfl)
theorem lc_X6_isShown : Cond.code yX6_isShown cX6_isShown 1 (some .boolean) ∈ WL := iW_9 _ (List.mem_of_getElem? (i := 22) rfl)
theorem lt_X6_isShown : Cond.static yX6_isShown ∈ WL := iW_9 _ (List.mem_of_getElem? (i := 23) rfl)
theorem lk_X6_119 : Cond.methodLink RX6 119 yX4_uppermost ∈ WL := iW_10 _ (List.mem_of_getElem? (i := 0) rfl)
theorem lk_X6_123 : Cond.methodLink RX6 123 yX4_insertAtCaret ∈ WL := iW_10 _ (List.mem_of_getElem? (i := 1) rfl)
theorem lc_X4_insertAtCaret : Cond.code yX4_insertAtCaret cX4_insertAtCaret 2 none ∈ WL := iW_10 _ (List.mem_of_getElem? (i := 2) rfl)
theorem li_X4_insertAtCaret : Cond.instanceMethod yX4_insertAtCaret ∈ WL := iW_10 _ (List.mem_of_getElem? (i := 3) rfl)
theorem ls_X4_insertAtCaret : Cond.selects RX4 yX4_insertAtCaret yX4_insertAtCaret ∈ WL := iW_10 _ (List.mem_of_getElem? (i := 4) rfl)
theorem lk_X6_131 : Cond.fieldLink RX6 131 "SnippetStops$State" "shown" "LSnippetStops$Row;" ∈ WL := iW_10 _ (List.mem_of_getElem? (i := 5) rfl)
theorem lk_X6_134 : Cond.fieldLink RX6 134 "SnippetStops$State" "caret" "I" ∈ WL := iW_10 _ (List.mem_of_getElem? (i := 6) rfl)
theorem lk_X6_137 : Cond.fieldLink RX6 137 "SnippetStops$Session" "stop" "I" ∈ WL := iW_10 _ (List.mem_of_getElem? (i := 7) rfl)
theorem lk_X6_151 : Cond.methodLink RX6 151 yX3_leastAbove ∈ WL := iW_10 _ (List.mem_of_getElem? (i := 8) rfl)
theorem lk_X6_166 : Cond.methodLink RX6 166 yX2_get ∈ WL := iW_10 _ (List.mem_of_getElem? (i := 9) rfl)
theorem lk_X6_169 : Cond.fieldLink RX6 169 "SnippetStops$Session" "fresh" "Z" ∈ WL := iW_10 _ (List.mem_of_getElem? (i := 10) rfl)
theorem lk_X6_176 : Cond.methodLink RX6 176 yX6_isStop ∈ WL := iW_10 _ (List.mem_of_getElem? (i := 11) rfl)
theorem lc_X6_isStop : Cond.code yX6_isStop cX6_isStop 1 (some .boolean) ∈ WL := iW_10 _ (List.mem_of_getElem? (i := 12) rfl)
theorem lt_X6_isStop : Cond.static yX6_isStop ∈ WL := iW_10 _ (List.mem_of_getElem? (i := 13) rfl)
theorem lk_X6_179 : Cond.methodLink RX6 179 yX3_occurrencesThere ∈ WL := iW_10 _ (List.mem_of_getElem? (i := 14) rfl)
theorem lk_X6_185 : Cond.fieldLink RX6 185 "SnippetStops$Session" "template" "LSnippetStops$Template;" ∈ WL := iW_10 _ (List.mem_of_getElem? (i := 15) rfl)
theorem lk_X6_190 : Cond.methodLink RX6 190 yX3_findThere ∈ WL := iW_10 _ (List.mem_of_getElem? (i := 16) rfl)
theorem lk_X6_204 : Cond.fieldLink RX6 204 "SnippetStops$Occurrence" "rule" "I" ∈ WL := iW_10 _ (List.mem_of_getElem? (i := 17) rfl)
theorem lk_X6_216 : Cond.constantLong RX6 216 (1870) ∈ WL := iW_10 _ (List.mem_of_getElem? (i := 18) rfl)
theorem lk_X6_218 : Cond.constantLong RX6 218 (31) ∈ WL := iW_10 _ (List.mem_of_getElem? (i := 19) rfl)
theorem lk_X6_220 : Cond.methodLink RX6 220 yX6_told ∈ WL := iW_10 _ (List.mem_of_getElem? (i := 20) rfl)
theorem lc_X6_told : Cond.code yX6_told cX6_told 2 (some .int) ∈ WL := iW_10 _ (List.mem_of_getElem? (i := 21) rfl)
theorem li_X6_told : Cond.instanceMethod yX6_told ∈ WL := iW_10 _ (List.mem_of_getElem? (i := 22) rfl)
theorem ls_X6_told : Cond.selects RX6 yX6_told yX6_told ∈ WL := iW_10 _ (List.mem_of_getElem? (i := 23) rfl)
theorem lk_X6_223 : Cond.methodLink RX6 223 yX6_count ∈ WL := iW_11 _ (List.mem_of_getElem? (i := 0) rfl)
theorem lc_X6_count : Cond.code yX6_count cX6_count 3 (some .int) ∈ WL := iW_11 _ (List.mem_of_getElem? (i := 1) rfl)
theorem li_X6_count : Cond.instanceMethod yX6_count ∈ WL := iW_11 _ (List.mem_of_getElem? (i := 2) rfl)
theorem ls_X6_count : Cond.selects RX6 yX6_count yX6_count ∈ WL := iW_11 _ (List.mem_of_getElem? (i := 3) rfl)
theorem lk_X6_226 : Cond.methodLink RX6 226 yX6_stop ∈ WL := iW_11 _ (List.mem_of_getElem? (i := 4) rfl)
theorem lc_X6_stop : Cond.code yX6_stop cX6_stop 4 (some .int) ∈ WL := iW_11 _ (List.mem_of_getElem? (i := 5) rfl)
theorem li_X6_stop : Cond.instanceMethod yX6_stop ∈ WL := iW_11 _ (List.mem_of_getElem? (i := 6) rfl)
theorem ls_X6_stop : Cond.selects RX6 yX6_stop yX6_stop ∈ WL := iW_11 _ (List.mem_of_getElem? (i := 7) rfl)
theorem lk_X7_1 : Cond.methodLink RX7 1 objectInit ∈ WL := iW_11 _ (List.mem_of_getElem? (i := 8) rfl)
theorem lk_X7_7 : Cond.fieldLink RX7 7 "SnippetStopsModel" "refused" "[I" ∈ WL := iW_11 _ (List.mem_of_getElem? (i := 9) rfl)
theorem lk_X7_13 : Cond.fieldLink RX7 13 "SnippetStopsModel" "document" "[I" ∈ WL := iW_11 _ (List.mem_of_getElem? (i := 10) rfl)
theorem lk_X7_16 : Cond.fieldLink RX7 16 "SnippetStopsModel" "variables" "[I" ∈ WL := iW_11 _ (List.mem_of_getElem? (i := 11) rfl)
theorem lk_X7_19 : Cond.fieldLink RX7 19 "SnippetStopsModel" "nodes" "[I" ∈ WL := iW_11 _ (List.mem_of_getElem? (i := 12) rfl)
theorem lk_X7_22 : Cond.fieldLink RX7 22 "SnippetStopsModel" "node" "[I" ∈ WL := iW_11 _ (List.mem_of_getElem? (i := 13) rfl)
theorem lk_X7_25 : Cond.fieldLink RX7 25 "SnippetStopsModel" "master" "[I" ∈ WL := iW_11 _ (List.mem_of_getElem? (i := 14) rfl)
theorem lk_X7_28 : Cond.fieldLink RX7 28 "SnippetStopsModel" "isSet" "[I" ∈ WL := iW_11 _ (List.mem_of_getElem? (i := 15) rfl)
theorem lk_X7_31 : Cond.fieldLink RX7 31 "SnippetStopsModel" "setMany" "[I" ∈ WL := iW_11 _ (List.mem_of_getElem? (i := 16) rfl)
theorem lk_X7_34 : Cond.fieldLink RX7 34 "SnippetStopsModel" "setFrom" "[I" ∈ WL := iW_11 _ (List.mem_of_getElem? (i := 17) rfl)
theorem lk_X7_37 : Cond.fieldLink RX7 37 "SnippetStopsModel" "setUsed" "[I" ∈ WL := iW_11 _ (List.mem_of_getElem? (i := 18) rfl)
theorem lk_X7_40 : Cond.constant RX7 40 (72000) ∈ WL := iW_11 _ (List.mem_of_getElem? (i := 19) rfl)
theorem lk_X7_41 : Cond.fieldLink RX7 41 "SnippetStopsModel" "setText" "[I" ∈ WL := iW_11 _ (List.mem_of_getElem? (i := 20) rfl)
theorem lk_X7_44 : Cond.fieldLink RX7 44 "SnippetStopsModel" "atStop" "[I" ∈ WL := iW_11 _ (List.mem_of_getElem? (i := 21) rfl)
theorem lk_X7_47 : Cond.fieldLink RX7 47 "SnippetStopsModel" "isFresh" "[I" ∈ WL := iW_11 _ (List.mem_of_getElem? (i := 22) rfl)
theorem lk_X7_50 : Cond.fieldLink RX7 50 "SnippetStopsModel" "then" "[I" ∈ WL := iW_11 _ (List.mem_of_getElem? (i := 23) rfl)
theorem lk_X7_53 : Cond.fieldLink RX7 53 "SnippetStopsModel" "choiceMany" "[I" ∈ WL := iW_12 _ (List.mem_of_getElem? (i := 0) rfl)
theorem lk_X7_56 : Cond.fieldLink RX7 56 "SnippetStopsModel" "choiceFrom" "[I" ∈ WL := iW_12 _ (List.mem_of_getElem? (i := 1) rfl)
theorem lk_X7_59 : Cond.fieldLink RX7 59 "SnippetStopsModel" "choiceLong" "[I" ∈ WL := iW_12 _ (List.mem_of_getElem? (i := 2) rfl)
theorem lk_X7_62 : Cond.fieldLink RX7 62 "SnippetStopsModel" "choiceBytes" "[I" ∈ WL := iW_12 _ (List.mem_of_getElem? (i := 3) rfl)
theorem lk_X7_65 : Cond.fieldLink RX7 65 "SnippetStopsModel" "text" "[I" ∈ WL := iW_12 _ (List.mem_of_getElem? (i := 4) rfl)
theorem lk_X7_68 : Cond.fieldLink RX7 68 "SnippetStopsModel" "open" "[I" ∈ WL := iW_12 _ (List.mem_of_getElem? (i := 5) rfl)
theorem lk_X7_71 : Cond.fieldLink RX7 71 "SnippetStopsModel" "shown" "[I" ∈ WL := iW_12 _ (List.mem_of_getElem? (i := 6) rfl)
theorem lk_X7_74 : Cond.fieldLink RX7 74 "SnippetStopsModel" "nextNode" "[I" ∈ WL := iW_12 _ (List.mem_of_getElem? (i := 7) rfl)
theorem lk_X7_77 : Cond.fieldLink RX7 77 "SnippetStopsModel" "endNode" "[I" ∈ WL := iW_12 _ (List.mem_of_getElem? (i := 8) rfl)
theorem lk_X7_80 : Cond.fieldLink RX7 80 "SnippetStopsModel" "made" "[I" ∈ WL := iW_12 _ (List.mem_of_getElem? (i := 9) rfl)
theorem lk_X7_83 : Cond.fieldLink RX7 83 "SnippetStopsModel" "beganAt" "[I" ∈ WL := iW_12 _ (List.mem_of_getElem? (i := 10) rfl)
theorem lk_X7_86 : Cond.fieldLink RX7 86 "SnippetStopsModel" "ofNode" "[I" ∈ WL := iW_12 _ (List.mem_of_getElem? (i := 11) rfl)
theorem lk_X7_89 : Cond.fieldLink RX7 89 "SnippetStopsModel" "isOwn" "[I" ∈ WL := iW_12 _ (List.mem_of_getElem? (i := 12) rfl)
theorem lk_X7_92 : Cond.fieldLink RX7 92 "SnippetStopsModel" "begin" "[I" ∈ WL := iW_12 _ (List.mem_of_getElem? (i := 13) rfl)
theorem lk_X7_95 : Cond.fieldLink RX7 95 "SnippetStopsModel" "size" "[I" ∈ WL := iW_12 _ (List.mem_of_getElem? (i := 14) rfl)
theorem lk_X7_98 : Cond.fieldLink RX7 98 "SnippetStopsModel" "holding" "[I" ∈ WL := iW_12 _ (List.mem_of_getElem? (i := 15) rfl)
theorem lk_X7_101 : Cond.constant RX7 101 (630000) ∈ WL := iW_12 _ (List.mem_of_getElem? (i := 16) rfl)
theorem lk_X7_102 : Cond.fieldLink RX7 102 "SnippetStopsModel" "kept" "[I" ∈ WL := iW_12 _ (List.mem_of_getElem? (i := 17) rfl)
theorem lk_X7_123 : Cond.fieldLink RX7 123 "SnippetStopsModel" "readAt" "I" ∈ WL := iW_12 _ (List.mem_of_getElem? (i := 18) rfl)
theorem lk_X7_134 : Cond.fieldLink RX7 134 "SnippetStopsModel" "isFaulty" "Z" ∈ WL := iW_12 _ (List.mem_of_getElem? (i := 19) rfl)
theorem lk_X7_176 : Cond.fieldLink RX7 176 "SnippetStopsModel" "occurrences" "I" ∈ WL := iW_12 _ (List.mem_of_getElem? (i := 20) rfl)
theorem lk_X7_167 : Cond.fieldLink RX7 167 "SnippetStopsModel" "deep" "I" ∈ WL := iW_12 _ (List.mem_of_getElem? (i := 21) rfl)
theorem lk_X7_127 : Cond.fieldLink RX7 127 "SnippetStopsModel" "length" "I" ∈ WL := iW_12 _ (List.mem_of_getElem? (i := 22) rfl)
theorem lk_X7_210 : Cond.fieldLink RX7 210 "SnippetStopsModel" "levels" "I" ∈ WL := iW_12 _ (List.mem_of_getElem? (i := 23) rfl)
theorem lk_X7_194 : Cond.fieldLink RX7 194 "SnippetStopsModel" "many" "I" ∈ WL := iW_13 _ (List.mem_of_getElem? (i := 0) rfl)
theorem lk_X7_232 : Cond.methodLink RX7 232 yX7_closes ∈ WL := iW_13 _ (List.mem_of_getElem? (i := 1) rfl)
theorem lc_X7_closes : Cond.code yX7_closes cX7_closes 5 none ∈ WL := iW_13 _ (List.mem_of_getElem? (i := 2) rfl)
theorem li_X7_closes : Cond.instanceMethod yX7_closes ∈ WL := iW_13 _ (List.mem_of_getElem? (i := 3) rfl)
theorem ls_X7_closes : Cond.selects RX7 yX7_closes yX7_closes ∈ WL := iW_13 _ (List.mem_of_getElem? (i := 4) rfl)
theorem lk_X7_197 : Cond.fieldLink RX7 197 "SnippetStopsModel" "isTooMuch" "Z" ∈ WL := iW_13 _ (List.mem_of_getElem? (i := 5) rfl)
theorem lk_X7_228 : Cond.methodLink RX7 228 yX7_opens ∈ WL := iW_13 _ (List.mem_of_getElem? (i := 6) rfl)
theorem lc_X7_opens : Cond.code yX7_opens cX7_opens 6 none ∈ WL := iW_13 _ (List.mem_of_getElem? (i := 7) rfl)
theorem li_X7_opens : Cond.instanceMethod yX7_opens ∈ WL := iW_13 _ (List.mem_of_getElem? (i := 8) rfl)
theorem ls_X7_opens : Cond.selects RX7 yX7_opens yX7_opens ∈ WL := iW_13 _ (List.mem_of_getElem? (i := 9) rfl)
theorem lk_X7_242 : Cond.methodLink RX7 242 yX7_step ∈ WL := iW_13 _ (List.mem_of_getElem? (i := 10) rfl)
theorem lc_X7_step : Cond.code yX7_step cX7_step 4 none ∈ WL := iW_13 _ (List.mem_of_getElem? (i := 11) rfl)
theorem li_X7_step : Cond.instanceMethod yX7_step ∈ WL := iW_13 _ (List.mem_of_getElem? (i := 12) rfl)
theorem ls_X7_step : Cond.selects RX7 yX7_step yX7_step ∈ WL := iW_13 _ (List.mem_of_getElem? (i := 13) rfl)
theorem lk_X7_257 : Cond.fieldLink RX7 257 "SnippetStopsModel" "sessions" "I" ∈ WL := iW_13 _ (List.mem_of_getElem? (i := 14) rfl)
theorem lk_X7_260 : Cond.methodLink RX7 260 yX7_showsAll ∈ WL := iW_13 _ (List.mem_of_getElem? (i := 15) rfl)
theorem lc_X7_showsAll : Cond.code yX7_showsAll cX7_showsAll 2 none ∈ WL := iW_13 _ (List.mem_of_getElem? (i := 16) rfl)
theorem li_X7_showsAll : Cond.instanceMethod yX7_showsAll ∈ WL := iW_13 _ (List.mem_of_getElem? (i := 17) rfl)
theorem ls_X7_showsAll : Cond.selects RX7 yX7_showsAll yX7_showsAll ∈ WL := iW_13 _ (List.mem_of_getElem? (i := 18) rfl)
theorem lk_X7_269 : Cond.fieldLink RX7 269 "SnippetStopsModel" "keptAt" "I" ∈ WL := iW_13 _ (List.mem_of_getElem? (i := 19) rfl)
theorem lk_X7_278 : Cond.constant RX7 278 (70000) ∈ WL := iW_13 _ (List.mem_of_getElem? (i := 20) rfl)
theorem lk_X7_272 : Cond.methodLink RX7 272 yX7_put ∈ WL := iW_13 _ (List.mem_of_getElem? (i := 21) rfl)
theorem lc_X7_put : Cond.code yX7_put cX7_put 2 none ∈ WL := iW_13 _ (List.mem_of_getElem? (i := 22) rfl)
theorem li_X7_put : Cond.instanceMethod yX7_put ∈ WL := iW_13 _ (List.mem_of_getElem? (i := 23) rfl)
theorem ls_X7_put : Cond.selects RX7 yX7_put yX7_put ∈ WL := iW_14 _ (List.mem_of_getElem? (i := 0) rfl)
theorem lk_X7_279 : Cond.fieldLink RX7 279 "SnippetStopsModel" "bytes" "I" ∈ WL := iW_14 _ (List.mem_of_getElem? (i := 1) rfl)
theorem lk_X7_282 : Cond.fieldLink RX7 282 "SnippetStopsModel" "caret" "I" ∈ WL := iW_14 _ (List.mem_of_getElem? (i := 2) rfl)
theorem lk_X7_285 : Cond.fieldLink RX7 285 "SnippetStopsModel" "ahead" "I" ∈ WL := iW_14 _ (List.mem_of_getElem? (i := 3) rfl)
theorem lk_X7_294 : Cond.fieldLink RX7 294 "SnippetStopsModel" "states" "I" ∈ WL := iW_14 _ (List.mem_of_getElem? (i := 4) rfl)
theorem lk_X7_297 : Cond.methodLink RX7 297 yX7_copiesState ∈ WL := iW_14 _ (List.mem_of_getElem? (i := 5) rfl)
theorem lc_X7_copiesState : Cond.code yX7_copiesState cX7_copiesState 5 none ∈ WL := iW_14 _ (List.mem_of_getElem? (i := 6) rfl)
theorem li_X7_copiesState : Cond.instanceMethod yX7_copiesState ∈ WL := iW_14 _ (List.mem_of_getElem? (i := 7) rfl)
theorem ls_X7_copiesState : Cond.selects RX7 yX7_copiesState yX7_copiesState ∈ WL := iW_14 _ (List.mem_of_getElem? (i := 8) rfl)
theorem lk_X7_306 : Cond.methodLink RX7 306 yX7_documentBytes ∈ WL := iW_14 _ (List.mem_of_getElem? (i := 9) rfl)
theorem lc_X7_documentBytes : Cond.code yX7_documentBytes cX7_documentBytes 1 (some .int) ∈ WL := iW_14 _ (List.mem_of_getElem? (i := 10) rfl)
theorem li_X7_documentBytes : Cond.instanceMethod yX7_documentBytes ∈ WL := iW_14 _ (List.mem_of_getElem? (i := 11) rfl)
theorem ls_X7_documentBytes : Cond.selects RX7 yX7_documentBytes yX7_documentBytes ∈ WL := iW_14 _ (List.mem_of_getElem? (i := 12) rfl)
theorem lk_X7_322 : Cond.methodLink RX7 322 yX7_first ∈ WL := iW_14 _ (List.mem_of_getElem? (i := 13) rfl)
theorem lc_X7_first : Cond.code yX7_first cX7_first 5 (some .int) ∈ WL := iW_14 _ (List.mem_of_getElem? (i := 14) rfl)
theorem li_X7_first : Cond.instanceMethod yX7_first ∈ WL := iW_14 _ (List.mem_of_getElem? (i := 15) rfl)
theorem ls_X7_first : Cond.selects RX7 yX7_first yX7_first ∈ WL := iW_14 _ (List.mem_of_getElem? (i := 16) rfl)
theorem lk_X7_325 : Cond.methodLink RX7 325 yX7_comesIn ∈ WL := iW_14 _ (List.mem_of_getElem? (i := 17) rfl)
theorem lc_X7_comesIn : Cond.code yX7_comesIn cX7_comesIn 4 none ∈ WL := iW_14 _ (List.mem_of_getElem? (i := 18) rfl)
theorem li_X7_comesIn : Cond.instanceMethod yX7_comesIn ∈ WL := iW_14 _ (List.mem_of_getElem? (i := 19) rfl)
theorem ls_X7_comesIn : Cond.selects RX7 yX7_comesIn yX7_comesIn ∈ WL := iW_14 _ (List.mem_of_getElem? (i := 20) rfl)
theorem lk_X7_138 : Cond.methodLink RX7 138 yX7_in ∈ WL := iW_14 _ (List.mem_of_getElem? (i := 21) rfl)
theorem lc_X7_in : Cond.code yX7_in cX7_in 3 (some .boolean) ∈ WL := iW_14 _ (List.mem_of_getElem? (i := 22) rfl)
theorem lt_X7_in : Cond.static yX7_in ∈ WL := iW_14 _ (List.mem_of_getElem? (i := 23) rfl)
theorem lk_X7_328 : Cond.methodLink RX7 328 yX7_isStopThere ∈ WL := iW_15 _ (List.mem_of_getElem? (i := 0) rfl)
theorem lc_X7_isStopThere : Cond.code yX7_isStopThere cX7_isStopThere 5 (some .boolean) ∈ WL := iW_15 _ (List.mem_of_getElem? (i := 1) rfl)
theorem li_X7_isStopThere : Cond.instanceMethod yX7_isStopThere ∈ WL := iW_15 _ (List.mem_of_getElem? (i := 2) rfl)
theorem ls_X7_isStopThere : Cond.selects RX7 yX7_isStopThere yX7_isStopThere ∈ WL := iW_15 _ (List.mem_of_getElem? (i := 3) rfl)
theorem lk_X7_331 : Cond.methodLink RX7 331 yX7_bad ∈ WL := iW_15 _ (List.mem_of_getElem? (i := 4) rfl)
theorem lc_X7_bad : Cond.code yX7_bad cX7_bad 1 (some .int) ∈ WL := iW_15 _ (List.mem_of_getElem? (i := 5) rfl)
theorem li_X7_bad : Cond.instanceMethod yX7_bad ∈ WL := iW_15 _ (List.mem_of_getElem? (i := 6) rfl)
theorem ls_X7_bad : Cond.selects RX7 yX7_bad yX7_bad ∈ WL := iW_15 _ (List.mem_of_getElem? (i := 7) rfl)
theorem lk_X7_334 : Cond.methodLink RX7 334 yX7_writes ∈ WL := iW_15 _ (List.mem_of_getElem? (i := 8) rfl)
theorem lc_X7_writes : Cond.code yX7_writes cX7_writes 3 none ∈ WL := iW_15 _ (List.mem_of_getElem? (i := 9) rfl)
theorem li_X7_writes : Cond.instanceMethod yX7_writes ∈ WL := iW_15 _ (List.mem_of_getElem? (i := 10) rfl)
theorem ls_X7_writes : Cond.selects RX7 yX7_writes yX7_writes ∈ WL := iW_15 _ (List.mem_of_getElem? (i := 11) rfl)
theorem lk_X7_316 : Cond.methodLink RX7 316 yX7_leavesState ∈ WL := iW_15 _ (List.mem_of_getElem? (i := 12) rfl)
theorem lc_X7_leavesState : Cond.code yX7_leavesState cX7_leavesState 2 none ∈ WL := iW_15 _ (List.mem_of_getElem? (i := 13) rfl)
theorem li_X7_leavesState : Cond.instanceMethod yX7_leavesState ∈ WL := iW_15 _ (List.mem_of_getElem? (i := 14) rfl)
theorem ls_X7_leavesState : Cond.selects RX7 yX7_leavesState yX7_leavesState ∈ WL := iW_15 _ (List.mem_of_getElem? (i := 15) rfl)
theorem lk_X7_337 : Cond.methodLink RX7 337 yX7_settles ∈ WL := iW_15 _ (List.mem_of_getElem? (i := 16) rfl)
theorem lc_X7_settles : Cond.code yX7_settles cX7_settles 6 none ∈ WL := iW_15 _ (List.mem_of_getElem? (i := 17) rfl)
theorem li_X7_settles : Cond.instanceMethod yX7_settles ∈ WL := iW_15 _ (List.mem_of_getElem? (i := 18) rfl)
theorem ls_X7_settles : Cond.selects RX7 yX7_settles yX7_settles ∈ WL := iW_15 _ (List.mem_of_getElem? (i := 19) rfl)
theorem lk_X7_340 : Cond.methodLink RX7 340 yX7_nextStop ∈ WL := iW_15 _ (List.mem_of_getElem? (i := 20) rfl)
theorem lc_X7_nextStop : Cond.code yX7_nextStop cX7_nextStop 5 (some .int) ∈ WL := iW_15 _ (List.mem_of_getElem? (i := 21) rfl)
theorem li_X7_nextStop : Cond.instanceMethod yX7_nextStop ∈ WL := iW_15 _ (List.mem_of_getElem? (i := 22) rfl)
theorem ls_X7_nextStop : Cond.selects RX7 yX7_nextStop yX7_nextStop ∈ WL := iW_15 _ (List.mem_of_getElem? (i := 23) rfl)
theorem lk_X7_343 : Cond.methodLink RX7 343 yX7_passesDown ∈ WL := iW_16 _ (List.mem_of_getElem? (i := 0) rfl)
theorem lc_X7_passesDown : Cond.code yX7_passesDown cX7_passesDown 2 none ∈ WL := iW_16 _ (List.mem_of_getElem? (i := 1) rfl)
theorem li_X7_passesDown : Cond.instanceMethod yX7_passesDown ∈ WL := iW_16 _ (List.mem_of_getElem? (i := 2) rfl)
theorem ls_X7_passesDown : Cond.selects RX7 yX7_passesDown yX7_passesDown ∈ WL := iW_16 _ (List.mem_of_getElem? (i := 3) rfl)
theorem lk_X7_346 : Cond.methodLink RX7 346 yX7_reads ∈ WL := iW_16 _ (List.mem_of_getElem? (i := 4) rfl)
theorem lc_X7_reads : Cond.code yX7_reads cX7_reads 4 (some .boolean) ∈ WL := iW_16 _ (List.mem_of_getElem? (i := 5) rfl)
theorem li_X7_reads : Cond.instanceMethod yX7_reads ∈ WL := iW_16 _ (List.mem_of_getElem? (i := 6) rfl)
theorem ls_X7_reads : Cond.selects RX7 yX7_reads yX7_reads ∈ WL := iW_16 _ (List.mem_of_getElem? (i := 7) rfl)
theorem lk_X7_300 : Cond.methodLink RX7 300 yX7_no ∈ WL := iW_16 _ (List.mem_of_getElem? (i := 8) rfl)
theorem lc_X7_no : Cond.code yX7_no cX7_no 1 (some .int) ∈ WL := iW_16 _ (List.mem_of_getElem? (i := 9) rfl)
theorem li_X7_no : Cond.instanceMethod yX7_no ∈ WL := iW_16 _ (List.mem_of_getElem? (i := 10) rfl)
theorem ls_X7_no : Cond.selects RX7 yX7_no yX7_no ∈ WL := iW_16 _ (List.mem_of_getElem? (i := 11) rfl)
theorem lk_X7_349 : Cond.methodLink RX7 349 yX7_begun ∈ WL := iW_16 _ (List.mem_of_getElem? (i := 12) rfl)
theorem lc_X7_begun : Cond.code yX7_begun cX7_begun 3 none ∈ WL := iW_16 _ (List.mem_of_getElem? (i := 13) rfl)
theorem li_X7_begun : Cond.instanceMethod yX7_begun ∈ WL := iW_16 _ (List.mem_of_getElem? (i := 14) rfl)
theorem ls_X7_begun : Cond.selects RX7 yX7_begun yX7_begun ∈ WL := iW_16 _ (List.mem_of_getElem? (i := 15) rfl)
theorem lk_X7_309 : Cond.methodLink RX7 309 yX7_isTooLong ∈ WL := iW_16 _ (List.mem_of_getElem? (i := 16) rfl)
theorem lc_X7_isTooLong : Cond.code yX7_isTooLong cX7_isTooLong 2 (some .boolean) ∈ WL := iW_16 _ (List.mem_of_getElem? (i := 17) rfl)
theorem li_X7_isTooLong : Cond.instanceMethod yX7_isTooLong ∈ WL := iW_16 _ (List.mem_of_getElem? (i := 18) rfl)
theorem ls_X7_isTooLong : Cond.selects RX7 yX7_isTooLong yX7_isTooLong ∈ WL := iW_16 _ (List.mem_of_getElem? (i := 19) rfl)
theorem lk_X7_352 : Cond.methodLink RX7 352 yX7_finishes ∈ WL := iW_16 _ (List.mem_of_getElem? (i := 20) rfl)
theorem lc_X7_finishes : Cond.code yX7_finishes cX7_finishes 4 none ∈ WL := iW_16 _ (List.mem_of_getElem? (i := 21) rfl)
theorem li_X7_finishes : Cond.instanceMethod yX7_finishes ∈ WL := iW_16 _ (List.mem_of_getElem? (i := 22) rfl)
theorem ls_X7_finishes : Cond.selects RX7 yX7_finishes yX7_finishes ∈ WL := iW_16 _ (List.mem_of_getElem? (i := 23) rfl)
theorem lk_X7_382 : Cond.methodLink RX7 382 yX7_countOf ∈ WL := iW_17 _ (List.mem_of_getElem? (i := 0) rfl)
theorem lc_X7_countOf : Cond.code yX7_countOf cX7_countOf 3 (some .int) ∈ WL := iW_17 _ (List.mem_of_getElem? (i := 1) rfl)
theorem li_X7_countOf : Cond.instanceMethod yX7_countOf ∈ WL := iW_17 _ (List.mem_of_getElem? (i := 2) rfl)
theorem ls_X7_countOf : Cond.selects RX7 yX7_countOf yX7_countOf ∈ WL := iW_17 _ (List.mem_of_getElem? (i := 3) rfl)
theorem lk_X7_403 : Cond.methodLink RX7 403 yX7_toldOf ∈ WL := iW_17 _ (List.mem_of_getElem? (i := 4) rfl)
theorem lc_X7_toldOf : Cond.code yX7_toldOf cX7_toldOf 2 (some .int) ∈ WL := iW_17 _ (List.mem_of_getElem? (i := 5) rfl)
theorem li_X7_toldOf : Cond.instanceMethod yX7_toldOf ∈ WL := iW_17 _ (List.mem_of_getElem? (i := 6) rfl)
theorem ls_X7_toldOf : Cond.selects RX7 yX7_toldOf yX7_toldOf ∈ WL := iW_17 _ (List.mem_of_getElem? (i := 7) rfl)
theorem lk_X7_406 : Cond.constantLong RX7 406 (1870) ∈ WL := iW_17 _ (List.mem_of_getElem? (i := 8) rfl)
theorem lk_X7_408 : Cond.constantLong RX7 408 (31) ∈ WL := iW_17 _ (List.mem_of_getElem? (i := 9) rfl)
theorem lk_L_7 : Cond.classLink RL 7 RX6 ∈ WL := iW_17 _ (List.mem_of_getElem? (i := 10) rfl)
theorem lk_L_9 : Cond.methodLink RL 9 yX6_init ∈ WL := iW_17 _ (List.mem_of_getElem? (i := 11) rfl)
theorem lc_X6_init : Cond.code yX6_init cX6_init 3 none ∈ WL := iW_17 _ (List.mem_of_getElem? (i := 12) rfl)
theorem li_X6_init : Cond.instanceMethod yX6_init ∈ WL := iW_17 _ (List.mem_of_getElem? (i := 13) rfl)
theorem lk_L_10 : Cond.classLink RL 10 RX7 ∈ WL := iW_17 _ (List.mem_of_getElem? (i := 14) rfl)
theorem lk_L_12 : Cond.methodLink RL 12 yX7_init ∈ WL := iW_17 _ (List.mem_of_getElem? (i := 15) rfl)
theorem lc_X7_init : Cond.code yX7_init cX7_init 1 none ∈ WL := iW_17 _ (List.mem_of_getElem? (i := 16) rfl)
theorem li_X7_init : Cond.instanceMethod yX7_init ∈ WL := iW_17 _ (List.mem_of_getElem? (i := 17) rfl)
theorem lk_L_13 : Cond.methodLink RL 13 yX6_type ∈ WL := iW_17 _ (List.mem_of_getElem? (i := 18) rfl)
theorem lc_X6_type : Cond.code yX6_type cX6_type 2 (some .int) ∈ WL := iW_17 _ (List.mem_of_getElem? (i := 19) rfl)
theorem li_X6_type : Cond.instanceMethod yX6_type ∈ WL := iW_17 _ (List.mem_of_getElem? (i := 20) rfl)
theorem ls_X6_type : Cond.selects RX6 yX6_type yX6_type ∈ WL := iW_17 _ (List.mem_of_getElem? (i := 21) rfl)
theorem lk_L_17 : Cond.methodLink RL 17 yX7_type ∈ WL := iW_17 _ (List.mem_of_getElem? (i := 22) rfl)
theorem lc_X7_type : Cond.code yX7_type cX7_type 2 (some .int) ∈ WL := iW_17 _ (List.mem_of_getElem? (i := 23) rfl)
theorem li_X7_type : Cond.instanceMethod yX7_type ∈ WL := iW_18 _ (List.mem_of_getElem? (i := 0) rfl)
theorem ls_X7_type : Cond.selects RX7 yX7_type yX7_type ∈ WL := iW_18 _ (List.mem_of_getElem? (i := 1) rfl)
theorem lk_L_18 : Cond.methodLink RL 18 yX6_clear ∈ WL := iW_18 _ (List.mem_of_getElem? (i := 2) rfl)
theorem lc_X6_clear : Cond.code yX6_clear cX6_clear 2 (some .int) ∈ WL := iW_18 _ (List.mem_of_getElem? (i := 3) rfl)
theorem li_X6_clear : Cond.instanceMethod yX6_clear ∈ WL := iW_18 _ (List.mem_of_getElem? (i := 4) rfl)
theorem ls_X6_clear : Cond.selects RX6 yX6_clear yX6_clear ∈ WL := iW_18 _ (List.mem_of_getElem? (i := 5) rfl)
theorem lk_L_22 : Cond.methodLink RL 22 yX7_clear ∈ WL := iW_18 _ (List.mem_of_getElem? (i := 6) rfl)
theorem lc_X7_clear : Cond.code yX7_clear cX7_clear 2 (some .int) ∈ WL := iW_18 _ (List.mem_of_getElem? (i := 7) rfl)
theorem li_X7_clear : Cond.instanceMethod yX7_clear ∈ WL := iW_18 _ (List.mem_of_getElem? (i := 8) rfl)
theorem ls_X7_clear : Cond.selects RX7 yX7_clear yX7_clear ∈ WL := iW_18 _ (List.mem_of_getElem? (i := 9) rfl)
theorem lk_L_23 : Cond.methodLink RL 23 yX6_variable ∈ WL := iW_18 _ (List.mem_of_getElem? (i := 10) rfl)
theorem lc_X6_variable : Cond.code yX6_variable cX6_variable 2 (some .int) ∈ WL := iW_18 _ (List.mem_of_getElem? (i := 11) rfl)
theorem li_X6_variable : Cond.instanceMethod yX6_variable ∈ WL := iW_18 _ (List.mem_of_getElem? (i := 12) rfl)
theorem ls_X6_variable : Cond.selects RX6 yX6_variable yX6_variable ∈ WL := iW_18 _ (List.mem_of_getElem? (i := 13) rfl)
theorem lk_L_26 : Cond.methodLink RL 26 yX7_variable ∈ WL := iW_18 _ (List.mem_of_getElem? (i := 14) rfl)
theorem lc_X7_variable : Cond.code yX7_variable cX7_variable 4 (some .int) ∈ WL := iW_18 _ (List.mem_of_getElem? (i := 15) rfl)
theorem li_X7_variable : Cond.instanceMethod yX7_variable ∈ WL := iW_18 _ (List.mem_of_getElem? (i := 16) rfl)
theorem ls_X7_variable : Cond.selects RX7 yX7_variable yX7_variable ∈ WL := iW_18 _ (List.mem_of_getElem? (i := 17) rfl)
theorem lk_L_27 : Cond.methodLink RL 27 yX6_begins ∈ WL := iW_18 _ (List.mem_of_getElem? (i := 18) rfl)
theorem lc_X6_begins : Cond.code yX6_begins cX6_begins 4 (some .int) ∈ WL := iW_18 _ (List.mem_of_getElem? (i := 19) rfl)
theorem li_X6_begins : Cond.instanceMethod yX6_begins ∈ WL := iW_18 _ (List.mem_of_getElem? (i := 20) rfl)
theorem ls_X6_begins : Cond.selects RX6 yX6_begins yX6_begins ∈ WL := iW_18 _ (List.mem_of_getElem? (i := 21) rfl)
theorem lk_L_30 : Cond.methodLink RL 30 yX7_begins ∈ WL := iW_18 _ (List.mem_of_getElem? (i := 22) rfl)
theorem lc_X7_begins : Cond.code yX7_begins cX7_begins 3 (some .int) ∈ WL := iW_18 _ (List.mem_of_getElem? (i := 23) rfl)
theorem li_X7_begins : Cond.instanceMethod yX7_begins ∈ WL := iW_19 _ (List.mem_of_getElem? (i := 0) rfl)
theorem ls_X7_begins : Cond.selects RX7 yX7_begins yX7_begins ∈ WL := iW_19 _ (List.mem_of_getElem? (i := 1) rfl)
theorem lk_L_31 : Cond.methodLink RL 31 yX6_key ∈ WL := iW_19 _ (List.mem_of_getElem? (i := 2) rfl)
theorem lc_X6_key : Cond.code yX6_key cX6_key 3 (some .int) ∈ WL := iW_19 _ (List.mem_of_getElem? (i := 3) rfl)
theorem li_X6_key : Cond.instanceMethod yX6_key ∈ WL := iW_19 _ (List.mem_of_getElem? (i := 4) rfl)
theorem ls_X6_key : Cond.selects RX6 yX6_key yX6_key ∈ WL := iW_19 _ (List.mem_of_getElem? (i := 5) rfl)
theorem lk_L_34 : Cond.methodLink RL 34 yX7_key ∈ WL := iW_19 _ (List.mem_of_getElem? (i := 6) rfl)
theorem lc_X7_key : Cond.code yX7_key cX7_key 2 (some .int) ∈ WL := iW_19 _ (List.mem_of_getElem? (i := 7) rfl)
theorem li_X7_key : Cond.instanceMethod yX7_key ∈ WL := iW_19 _ (List.mem_of_getElem? (i := 8) rfl)
theorem ls_X7_key : Cond.selects RX7 yX7_key yX7_key ∈ WL := iW_19 _ (List.mem_of_getElem? (i := 9) rfl)
theorem lk_L_35 : Cond.methodLink RL 35 yX6_rubs ∈ WL := iW_19 _ (List.mem_of_getElem? (i := 10) rfl)
theorem lc_X6_rubs : Cond.code yX6_rubs cX6_rubs 2 (some .int) ∈ WL := iW_19 _ (List.mem_of_getElem? (i := 11) rfl)
theorem li_X6_rubs : Cond.instanceMethod yX6_rubs ∈ WL := iW_19 _ (List.mem_of_getElem? (i := 12) rfl)
theorem ls_X6_rubs : Cond.selects RX6 yX6_rubs yX6_rubs ∈ WL := iW_19 _ (List.mem_of_getElem? (i := 13) rfl)
theorem lk_L_38 : Cond.methodLink RL 38 yX7_rubs ∈ WL := iW_19 _ (List.mem_of_getElem? (i := 14) rfl)
theorem lc_X7_rubs : Cond.code yX7_rubs cX7_rubs 1 (some .int) ∈ WL := iW_19 _ (List.mem_of_getElem? (i := 15) rfl)
theorem li_X7_rubs : Cond.instanceMethod yX7_rubs ∈ WL := iW_19 _ (List.mem_of_getElem? (i := 16) rfl)
theorem ls_X7_rubs : Cond.selects RX7 yX7_rubs yX7_rubs ∈ WL := iW_19 _ (List.mem_of_getElem? (i := 17) rfl)
theorem lk_L_39 : Cond.methodLink RL 39 yX6_nexts ∈ WL := iW_19 _ (List.mem_of_getElem? (i := 18) rfl)
theorem lc_X6_nexts : Cond.code yX6_nexts cX6_nexts 3 (some .int) ∈ WL := iW_19 _ (List.mem_of_getElem? (i := 19) rfl)
theorem li_X6_nexts : Cond.instanceMethod yX6_nexts ∈ WL := iW_19 _ (List.mem_of_getElem? (i := 20) rfl)
theorem ls_X6_nexts : Cond.selects RX6 yX6_nexts yX6_nexts ∈ WL := iW_19 _ (List.mem_of_getElem? (i := 21) rfl)
theorem lk_L_42 : Cond.methodLink RL 42 yX7_nexts ∈ WL := iW_19 _ (List.mem_of_getElem? (i := 22) rfl)
theorem lc_X7_nexts : Cond.code yX7_nexts cX7_nexts 2 (some .int) ∈ WL := iW_19 _ (List.mem_of_getElem? (i := 23) rfl)
theorem li_X7_nexts : Cond.instanceMethod yX7_nexts ∈ WL := iW_20 _ (List.mem_of_getElem? (i := 0) rfl)
theorem ls_X7_nexts : Cond.selects RX7 yX7_nexts yX7_nexts ∈ WL := iW_20 _ (List.mem_of_getElem? (i := 1) rfl)
theorem lk_L_43 : Cond.methodLink RL 43 yX6_prevs ∈ WL := iW_20 _ (List.mem_of_getElem? (i := 2) rfl)
theorem lc_X6_prevs : Cond.code yX6_prevs cX6_prevs 3 (some .int) ∈ WL := iW_20 _ (List.mem_of_getElem? (i := 3) rfl)
theorem li_X6_prevs : Cond.instanceMethod yX6_prevs ∈ WL := iW_20 _ (List.mem_of_getElem? (i := 4) rfl)
theorem ls_X6_prevs : Cond.selects RX6 yX6_prevs yX6_prevs ∈ WL := iW_20 _ (List.mem_of_getElem? (i := 5) rfl)
theorem lk_L_46 : Cond.methodLink RL 46 yX7_prevs ∈ WL := iW_20 _ (List.mem_of_getElem? (i := 6) rfl)
theorem lc_X7_prevs : Cond.code yX7_prevs cX7_prevs 2 (some .int) ∈ WL := iW_20 _ (List.mem_of_getElem? (i := 7) rfl)
theorem li_X7_prevs : Cond.instanceMethod yX7_prevs ∈ WL := iW_20 _ (List.mem_of_getElem? (i := 8) rfl)
theorem ls_X7_prevs : Cond.selects RX7 yX7_prevs yX7_prevs ∈ WL := iW_20 _ (List.mem_of_getElem? (i := 9) rfl)
theorem lk_L_47 : Cond.methodLink RL 47 yX6_picks ∈ WL := iW_20 _ (List.mem_of_getElem? (i := 10) rfl)
theorem lc_X6_picks : Cond.code yX6_picks cX6_picks 3 (some .int) ∈ WL := iW_20 _ (List.mem_of_getElem? (i := 11) rfl)
theorem li_X6_picks : Cond.instanceMethod yX6_picks ∈ WL := iW_20 _ (List.mem_of_getElem? (i := 12) rfl)
theorem ls_X6_picks : Cond.selects RX6 yX6_picks yX6_picks ∈ WL := iW_20 _ (List.mem_of_getElem? (i := 13) rfl)
theorem lk_L_50 : Cond.methodLink RL 50 yX7_picks ∈ WL := iW_20 _ (List.mem_of_getElem? (i := 14) rfl)
theorem lc_X7_picks : Cond.code yX7_picks cX7_picks 5 (some .int) ∈ WL := iW_20 _ (List.mem_of_getElem? (i := 15) rfl)
theorem li_X7_picks : Cond.instanceMethod yX7_picks ∈ WL := iW_20 _ (List.mem_of_getElem? (i := 16) rfl)
theorem ls_X7_picks : Cond.selects RX7 yX7_picks yX7_picks ∈ WL := iW_20 _ (List.mem_of_getElem? (i := 17) rfl)
theorem lk_L_51 : Cond.methodLink RL 51 yX6_ends ∈ WL := iW_20 _ (List.mem_of_getElem? (i := 18) rfl)
theorem lc_X6_ends : Cond.code yX6_ends cX6_ends 1 (some .int) ∈ WL := iW_20 _ (List.mem_of_getElem? (i := 19) rfl)
theorem li_X6_ends : Cond.instanceMethod yX6_ends ∈ WL := iW_20 _ (List.mem_of_getElem? (i := 20) rfl)
theorem ls_X6_ends : Cond.selects RX6 yX6_ends yX6_ends ∈ WL := iW_20 _ (List.mem_of_getElem? (i := 21) rfl)
theorem lk_L_54 : Cond.methodLink RL 54 yX7_ends ∈ WL := iW_20 _ (List.mem_of_getElem? (i := 22) rfl)
theorem lc_X7_ends : Cond.code yX7_ends cX7_ends 1 (some .int) ∈ WL := iW_20 _ (List.mem_of_getElem? (i := 23) rfl)
theorem li_X7_ends : Cond.instanceMethod yX7_ends ∈ WL := iW_21 _ (List.mem_of_getElem? (i := 0) rfl)
theorem ls_X7_ends : Cond.selects RX7 yX7_ends yX7_ends ∈ WL := iW_21 _ (List.mem_of_getElem? (i := 1) rfl)
theorem lk_L_55 : Cond.methodLink RL 55 yX6_caret ∈ WL := iW_21 _ (List.mem_of_getElem? (i := 2) rfl)
theorem lc_X6_caret : Cond.code yX6_caret cX6_caret 3 (some .int) ∈ WL := iW_21 _ (List.mem_of_getElem? (i := 3) rfl)
theorem li_X6_caret : Cond.instanceMethod yX6_caret ∈ WL := iW_21 _ (List.mem_of_getElem? (i := 4) rfl)
theorem ls_X6_caret : Cond.selects RX6 yX6_caret yX6_caret ∈ WL := iW_21 _ (List.mem_of_getElem? (i := 5) rfl)
theorem lk_L_58 : Cond.methodLink RL 58 yX7_caret ∈ WL := iW_21 _ (List.mem_of_getElem? (i := 6) rfl)
theorem lc_X7_caret : Cond.code yX7_caret cX7_caret 3 (some .int) ∈ WL := iW_21 _ (List.mem_of_getElem? (i := 7) rfl)
theorem li_X7_caret : Cond.instanceMethod yX7_caret ∈ WL := iW_21 _ (List.mem_of_getElem? (i := 8) rfl)
theorem ls_X7_caret : Cond.selects RX7 yX7_caret yX7_caret ∈ WL := iW_21 _ (List.mem_of_getElem? (i := 9) rfl)
theorem lk_L_59 : Cond.methodLink RL 59 yX6_cuts ∈ WL := iW_21 _ (List.mem_of_getElem? (i := 10) rfl)
theorem lc_X6_cuts : Cond.code yX6_cuts cX6_cuts 4 (some .int) ∈ WL := iW_21 _ (List.mem_of_getElem? (i := 11) rfl)
theorem li_X6_cuts : Cond.instanceMethod yX6_cuts ∈ WL := iW_21 _ (List.mem_of_getElem? (i := 12) rfl)
theorem ls_X6_cuts : Cond.selects RX6 yX6_cuts yX6_cuts ∈ WL := iW_21 _ (List.mem_of_getElem? (i := 13) rfl)
theorem lk_L_63 : Cond.methodLink RL 63 yX7_cuts ∈ WL := iW_21 _ (List.mem_of_getElem? (i := 14) rfl)
theorem lc_X7_cuts : Cond.code yX7_cuts cX7_cuts 5 (some .int) ∈ WL := iW_21 _ (List.mem_of_getElem? (i := 15) rfl)
theorem li_X7_cuts : Cond.instanceMethod yX7_cuts ∈ WL := iW_21 _ (List.mem_of_getElem? (i := 16) rfl)
theorem ls_X7_cuts : Cond.selects RX7 yX7_cuts yX7_cuts ∈ WL := iW_21 _ (List.mem_of_getElem? (i := 17) rfl)
theorem lk_L_64 : Cond.methodLink RL 64 yX6_at ∈ WL := iW_21 _ (List.mem_of_getElem? (i := 18) rfl)
theorem lc_X6_at : Cond.code yX6_at cX6_at 2 (some .int) ∈ WL := iW_21 _ (List.mem_of_getElem? (i := 19) rfl)
theorem li_X6_at : Cond.instanceMethod yX6_at ∈ WL := iW_21 _ (List.mem_of_getElem? (i := 20) rfl)
theorem ls_X6_at : Cond.selects RX6 yX6_at yX6_at ∈ WL := iW_21 _ (List.mem_of_getElem? (i := 21) rfl)
theorem lk_L_67 : Cond.methodLink RL 67 yX7_at ∈ WL := iW_21 _ (List.mem_of_getElem? (i := 22) rfl)
theorem lc_X7_at : Cond.code yX7_at cX7_at 2 (some .int) ∈ WL := iW_21 _ (List.mem_of_getElem? (i := 23) rfl)
theorem li_X7_at : Cond.instanceMethod yX7_at ∈ WL := iW_22 _ (List.mem_of_getElem? (i := 0) rfl)
theorem ls_X7_at : Cond.selects RX7 yX7_at yX7_at ∈ WL := iW_22 _ (List.mem_of_getElem? (i := 1) rfl)
theorem lk_L_68 : Cond.methodLink RL 68 yX6_count ∈ WL := iW_22 _ (List.mem_of_getElem? (i := 2) rfl)
theorem lk_L_71 : Cond.methodLink RL 71 yX7_count ∈ WL := iW_22 _ (List.mem_of_getElem? (i := 3) rfl)
theorem lc_X7_count : Cond.code yX7_count cX7_count 2 (some .int) ∈ WL := iW_22 _ (List.mem_of_getElem? (i := 4) rfl)
theorem li_X7_count : Cond.instanceMethod yX7_count ∈ WL := iW_22 _ (List.mem_of_getElem? (i := 5) rfl)
theorem ls_X7_count : Cond.selects RX7 yX7_count yX7_count ∈ WL := iW_22 _ (List.mem_of_getElem? (i := 6) rfl)
theorem lk_L_72 : Cond.methodLink RL 72 yX6_stop ∈ WL := iW_22 _ (List.mem_of_getElem? (i := 7) rfl)
theorem lk_L_75 : Cond.methodLink RL 75 yX7_stop ∈ WL := iW_22 _ (List.mem_of_getElem? (i := 8) rfl)
theorem lc_X7_stop : Cond.code yX7_stop cX7_stop 3 (some .int) ∈ WL := iW_22 _ (List.mem_of_getElem? (i := 9) rfl)
theorem li_X7_stop : Cond.instanceMethod yX7_stop ∈ WL := iW_22 _ (List.mem_of_getElem? (i := 10) rfl)
theorem ls_X7_stop : Cond.selects RX7 yX7_stop yX7_stop ∈ WL := iW_22 _ (List.mem_of_getElem? (i := 11) rfl)
theorem lk_L_76 : Cond.methodLink RL 76 yX6_held ∈ WL := iW_22 _ (List.mem_of_getElem? (i := 12) rfl)
theorem lc_X6_held : Cond.code yX6_held cX6_held 4 (some .int) ∈ WL := iW_22 _ (List.mem_of_getElem? (i := 13) rfl)
theorem li_X6_held : Cond.instanceMethod yX6_held ∈ WL := iW_22 _ (List.mem_of_getElem? (i := 14) rfl)
theorem ls_X6_held : Cond.selects RX6 yX6_held yX6_held ∈ WL := iW_22 _ (List.mem_of_getElem? (i := 15) rfl)
theorem lk_L_79 : Cond.methodLink RL 79 yX7_held ∈ WL := iW_22 _ (List.mem_of_getElem? (i := 16) rfl)
theorem lc_X7_held : Cond.code yX7_held cX7_held 3 (some .int) ∈ WL := iW_22 _ (List.mem_of_getElem? (i := 17) rfl)
theorem li_X7_held : Cond.instanceMethod yX7_held ∈ WL := iW_22 _ (List.mem_of_getElem? (i := 18) rfl)
theorem ls_X7_held : Cond.selects RX7 yX7_held yX7_held ∈ WL := iW_22 _ (List.mem_of_getElem? (i := 19) rfl)
theorem lk_L_80 : Cond.methodLink RL 80 yX6_choice ∈ WL := iW_22 _ (List.mem_of_getElem? (i := 20) rfl)
theorem lc_X6_choice : Cond.code yX6_choice cX6_choice 5 (some .int) ∈ WL := iW_22 _ (List.mem_of_getElem? (i := 21) rfl)
theorem li_X6_choice : Cond.instanceMethod yX6_choice ∈ WL := iW_22 _ (List.mem_of_getElem? (i := 22) rfl)
theorem ls_X6_choice : Cond.selects RX6 yX6_choice yX6_choice ∈ WL := iW_22 _ (List.mem_of_getElem? (i := 23) rfl)
theorem lk_L_84 : Cond.methodLink RL 84 yX7_choice ∈ WL := iW_23 _ (List.mem_of_getElem? (i := 0) rfl)
theorem lc_X7_choice : Cond.code yX7_choice cX7_choice 6 (some .int) ∈ WL := iW_23 _ (List.mem_of_getElem? (i := 1) rfl)
theorem li_X7_choice : Cond.instanceMethod yX7_choice ∈ WL := iW_23 _ (List.mem_of_getElem? (i := 2) rfl)
theorem ls_X7_choice : Cond.selects RX7 yX7_choice yX7_choice ∈ WL := iW_23 _ (List.mem_of_getElem? (i := 3) rfl)
theorem lk_L_85 : Cond.methodLink RL 85 yX6_occurrence ∈ WL := iW_23 _ (List.mem_of_getElem? (i := 4) rfl)
theorem lc_X6_occurrence : Cond.code yX6_occurrence cX6_occurrence 6 (some .int) ∈ WL := iW_23 _ (List.mem_of_getElem? (i := 5) rfl)
theorem li_X6_occurrence : Cond.instanceMethod yX6_occurrence ∈ WL := iW_23 _ (List.mem_of_getElem? (i := 6) rfl)
theorem ls_X6_occurrence : Cond.selects RX6 yX6_occurrence yX6_occurrence ∈ WL := iW_23 _ (List.mem_of_getElem? (i := 7) rfl)
theorem lk_L_88 : Cond.methodLink RL 88 yX7_occurrence ∈ WL := iW_23 _ (List.mem_of_getElem? (i := 8) rfl)
theorem lc_X7_occurrence : Cond.code yX7_occurrence cX7_occurrence 7 (some .int) ∈ WL := iW_23 _ (List.mem_of_getElem? (i := 9) rfl)
theorem li_X7_occurrence : Cond.instanceMethod yX7_occurrence ∈ WL := iW_23 _ (List.mem_of_getElem? (i := 10) rfl)
theorem ls_X7_occurrence : Cond.selects RX7 yX7_occurrence yX7_occurrence ∈ WL := iW_23 _ (List.mem_of_getElem? (i := 11) rfl)
theorem lk_L_89 : Cond.methodLink RL 89 yX6_unlike ∈ WL := iW_23 _ (List.mem_of_getElem? (i := 12) rfl)
theorem lc_X6_unlike : Cond.code yX6_unlike cX6_unlike 2 (some .int) ∈ WL := iW_23 _ (List.mem_of_getElem? (i := 13) rfl)
theorem li_X6_unlike : Cond.instanceMethod yX6_unlike ∈ WL := iW_23 _ (List.mem_of_getElem? (i := 14) rfl)
theorem ls_X6_unlike : Cond.selects RX6 yX6_unlike yX6_unlike ∈ WL := iW_23 _ (List.mem_of_getElem? (i := 15) rfl)
theorem lk_L_92 : Cond.methodLink RL 92 yX7_unlike ∈ WL := iW_23 _ (List.mem_of_getElem? (i := 16) rfl)
theorem lc_X7_unlike : Cond.code yX7_unlike cX7_unlike 6 (some .int) ∈ WL := iW_23 _ (List.mem_of_getElem? (i := 17) rfl)
theorem li_X7_unlike : Cond.instanceMethod yX7_unlike ∈ WL := iW_23 _ (List.mem_of_getElem? (i := 18) rfl)
theorem ls_X7_unlike : Cond.selects RX7 yX7_unlike yX7_unlike ∈ WL := iW_23 _ (List.mem_of_getElem? (i := 19) rfl)
theorem lk_L_93 : Cond.methodLink RL 93 yX6_variableAt ∈ WL := iW_23 _ (List.mem_of_getElem? (i := 20) rfl)
theorem lc_X6_variableAt : Cond.code yX6_variableAt cX6_variableAt 3 (some .int) ∈ WL := iW_23 _ (List.mem_of_getElem? (i := 21) rfl)
theorem li_X6_variableAt : Cond.instanceMethod yX6_variableAt ∈ WL := iW_23 _ (List.mem_of_getElem? (i := 22) rfl)
theorem ls_X6_variableAt : Cond.selects RX6 yX6_variableAt yX6_variableAt ∈ WL := iW_23 _ (List.mem_of_getElem? (i := 23) rfl)
theorem lk_L_96 : Cond.methodLink RL 96 yX7_variableAt ∈ WL := iW_24 _ (List.mem_of_getElem? (i := 0) rfl)
theorem lc_X7_variableAt : Cond.code yX7_variableAt cX7_variableAt 3 (some .int) ∈ WL := iW_24 _ (List.mem_of_getElem? (i := 1) rfl)
theorem li_X7_variableAt : Cond.instanceMethod yX7_variableAt ∈ WL := iW_24 _ (List.mem_of_getElem? (i := 2) rfl)
theorem ls_X7_variableAt : Cond.selects RX7 yX7_variableAt yX7_variableAt ∈ WL := iW_24 _ (List.mem_of_getElem? (i := 3) rfl)
theorem lk_L_97 : Cond.methodLink RL 97 yX6_back ∈ WL := iW_24 _ (List.mem_of_getElem? (i := 4) rfl)
theorem lc_X6_back : Cond.code yX6_back cX6_back 2 (some .int) ∈ WL := iW_24 _ (List.mem_of_getElem? (i := 5) rfl)
theorem li_X6_back : Cond.instanceMethod yX6_back ∈ WL := iW_24 _ (List.mem_of_getElem? (i := 6) rfl)
theorem ls_X6_back : Cond.selects RX6 yX6_back yX6_back ∈ WL := iW_24 _ (List.mem_of_getElem? (i := 7) rfl)
theorem lk_L_100 : Cond.methodLink RL 100 yX7_back ∈ WL := iW_24 _ (List.mem_of_getElem? (i := 8) rfl)
theorem lc_X7_back : Cond.code yX7_back cX7_back 1 (some .int) ∈ WL := iW_24 _ (List.mem_of_getElem? (i := 9) rfl)
theorem li_X7_back : Cond.instanceMethod yX7_back ∈ WL := iW_24 _ (List.mem_of_getElem? (i := 10) rfl)
theorem ls_X7_back : Cond.selects RX7 yX7_back yX7_back ∈ WL := iW_24 _ (List.mem_of_getElem? (i := 11) rfl)
theorem lk_L_101 : Cond.methodLink RL 101 yX6_told ∈ WL := iW_24 _ (List.mem_of_getElem? (i := 12) rfl)
theorem lk_L_104 : Cond.methodLink RL 104 yX7_told ∈ WL := iW_24 _ (List.mem_of_getElem? (i := 13) rfl)
theorem lc_X7_told : Cond.code yX7_told cX7_told 2 (some .int) ∈ WL := iW_24 _ (List.mem_of_getElem? (i := 14) rfl)
theorem li_X7_told : Cond.instanceMethod yX7_told ∈ WL := iW_24 _ (List.mem_of_getElem? (i := 15) rfl)
theorem ls_X7_told : Cond.selects RX7 yX7_told yX7_told ∈ WL := iW_24 _ (List.mem_of_getElem? (i := 16) rfl)
theorem lk_L_105 : Cond.methodLink RL 105 yX6_digest ∈ WL := iW_24 _ (List.mem_of_getElem? (i := 17) rfl)
theorem lc_X6_digest : Cond.code yX6_digest cX6_digest 5 (some .long) ∈ WL := iW_24 _ (List.mem_of_getElem? (i := 18) rfl)
theorem li_X6_digest : Cond.instanceMethod yX6_digest ∈ WL := iW_24 _ (List.mem_of_getElem? (i := 19) rfl)
theorem ls_X6_digest : Cond.selects RX6 yX6_digest yX6_digest ∈ WL := iW_24 _ (List.mem_of_getElem? (i := 20) rfl)
theorem lk_L_109 : Cond.methodLink RL 109 yX7_digest ∈ WL := iW_24 _ (List.mem_of_getElem? (i := 21) rfl)
theorem lc_X7_digest : Cond.code yX7_digest cX7_digest 5 (some .long) ∈ WL := iW_24 _ (List.mem_of_getElem? (i := 22) rfl)
theorem li_X7_digest : Cond.instanceMethod yX7_digest ∈ WL := iW_24 _ (List.mem_of_getElem? (i := 23) rfl)
theorem ls_X7_digest : Cond.selects RX7 yX7_digest yX7_digest ∈ WL := iW_25 _ (List.mem_of_getElem? (i := 0) rfl)
theorem lc_X5_init : Cond.code yX5_init cX5_init 1 none ∈ WL := iW_25 _ (List.mem_of_getElem? (i := 1) rfl)
theorem li_X5_init : Cond.instanceMethod yX5_init ∈ WL := iW_25 _ (List.mem_of_getElem? (i := 2) rfl)
set_option maxRecDepth 20000 in
theorem WL_all : WL.all goodWord = true := by decide +kernel
end
section
-- own rows: one bundle for the machine at a method's entry (CX), one for the world (ST), contracts' starts and ends
abbrev GE : Type := va_G × (Nat → ClassId)
abbrev TYS (g : GE) : List (ClassId × FieldType) := [(g.2 0, .byte), (g.2 1, .int), (g.2 2, .boolean), (g.2 3, .object RX0), (g.2 4, .object RX2), (g.2 5, .object RX3), (g.2 6, .object RX4)]
abbrev nl6 : Cond := .methodLinkNest RX6 43 yX5_init "SnippetStops"
abbrev nl1 : Cond := .methodLinkNest RX1 11 yX5_init "SnippetStops"
def EN (g : GE) (U : State) : Prop := va_K g.1 vwCl (TYS g) U ∧ (va_AO RX0 U ∧ va_AO RX2 U ∧ va_AO RX3 U ∧ va_AO RX4 U) ∧ va_Nw nl6 U ∧ va_Nw nl1 U
theorem EN.warm {g : GE} {s U : State} (hW : s.WarmedH U.vm) (h : EN g s) : EN g U := by
  obtain ⟨hK, ⟨a0, a2, a3, a4⟩, n6, n1⟩ := h
  exact ⟨va_K.moved hW.alike hK, ⟨a0.moved hW.alike, a2.moved hW.alike, a3.moved hW.alike, a4.moved hW.alike⟩, va_Nw.warmM hW n6, va_Nw.warmM hW n1⟩
theorem EN.calling {g : GE} {U : State} {f : JFrame} {mk : MethodId} {a : Array Value} (h : EN g U) : EN g (U.calling f mk a) := by
  obtain ⟨hK, ⟨a0, a2, a3, a4⟩, n6, n1⟩ := h
  have hv : U.vm.Alike (U.calling f mk a).vm := Vm.Alike.refl U.vm
  exact ⟨va_K.moved (u := U) hv hK, ⟨a0.moved hv, a2.moved hv, a3.moved hv, a4.moved hv⟩, va_Nw.same rfl rfl n6, va_Nw.same rfl rfl n1⟩
def PR (g : GE) (av : List Value) (ws : va_W) (sz : Nat) : Array Value → State → Prop := va_Pc av (fun U => U.heap.size = sz ∧ va_P g.1 vwCl ws U.heap ∧ EN g U ∧ va_D (fun _ => True) ws)
def QB {S : Type} (g : GE) (ws : va_W) (sz : Nat) (w1 : S → va_W) : S → State → Prop := fun u t => va_P g.1 vwCl (w1 u) t.heap ∧ va_D (va_A ws sz) (w1 u)
def QV {S : Type} (g : GE) (ws : va_W) (sz : Nat) (w1 : S → va_W) : Array Value → State → Outcome → State → Prop := va_Qv (fun _ : S => True) (QB g ws sz w1) (va_A ws sz)
def QI {S : Type} (g : GE) (ws : va_W) (sz : Nat) (r : Int32) (w1 : S → va_W) : Array Value → State → Outcome → State → Prop := va_Qi (fun r' (_ : S) => r' = r) (QB g ws sz w1) (va_A ws sz)
def QL {S : Type} (g : GE) (ws : va_W) (sz : Nat) (r : Int64) (w1 : S → va_W) : Array Value → State → Outcome → State → Prop := va_Ql (fun r' (_ : S) => r' = r) (QB g ws sz w1) (va_A ws sz)
def QQ {S : Type} (g : GE) (ws : va_W) (sz : Nat) (r : Option Nat) (w1 : S → va_W) : Array Value → State → Outcome → State → Prop := va_Qq (fun r' (_ : S) => r' = r) (QB g ws sz w1) (va_A ws sz)
def CX (g : GE) (p : Program) (s : State) (m : MethodId) (meth : Method) (c : Code) (args : Array Value) (cc : ByteArray) (nL : Nat) (own nm : String) (ret : Option FieldType) (A : Nat → Prop) : Prop :=
  p.tables.exec = Jvm.exec ∧ c.code = cc ∧ c.maxLocals = nL ∧ s.vm.findClass own = some m.cls ∧ (∀ w ∈ WL, w.before args s = true) ∧ EN g s ∧ (∀ q, s.heap.size ≤ q → A q) ∧ meth.sig.returnType = ret ∧ meth.locks = false ∧ meth.name = nm
def ST (g : GE) (A : Nat → Prop) (s : State) (ws : va_W) (H : Heap) (locs : List Loc) : Prop := va_P g.1 vwCl ws H ∧ va_D A ws ∧ va_S A s.heap H locs
theorem ST.sub {g : GE} {A : Nat → Prop} {s : State} {ws ws' : va_W} {H : Heap} {locs : List Loc} (h : ST g A s ws H locs) (is : List Nat) (hn : va_nd is = true) (hs : is.map (fun i => ws[i]?) = ws'.map some) : ST g A s ws' H locs := by
  refine ⟨h.1.sub is ?_, h.2.1.sub is hn hs, h.2.2⟩
  have e : is.filterMap (fun i => ws[i]?) = (is.map (fun i => ws[i]?)).filterMap id := by rw [List.filterMap_map]; rfl
  rw [e, hs, List.filterMap_map]
  exact List.filterMap_some
/-- a class of the program: its place, its fields, its words -/
def KL (ci : Nat) (C : String) (T : u_T) (N : Nat) (ty : Nat → FieldType) : Prop := vwCl[ci]? = some (C, T, N) ∧ (∀ w ∈ u_ws C T N, w ∈ WL) ∧ (∀ k, k < N → parseFieldDescriptor (T k).2.2.1 = some (ty k)) ∧ (∀ a, a < N → ∀ b, b < N → a ≠ b → (T a).2.1 ≠ (T b).2.1)
theorem kl0 : KL 0 RX0 TX0 10 tyX0 := ⟨rfl, inlX0, tyX0_ok, nmX0⟩
theorem kl1 : KL 1 RX1 TX1 10 tyX1 := ⟨rfl, inlX1, tyX1_ok, nmX1⟩
theorem kl2 : KL 2 RX2 TX2 3 tyX2 := ⟨rfl, inlX2, tyX2_ok, nmX2⟩
theorem kl3 : KL 3 RX3 TX3 8 tyX3 := ⟨rfl, inlX3, tyX3_ok, nmX3⟩
theorem kl4 : KL 4 RX4 TX4 6 tyX4 := ⟨rfl, inlX4, tyX4_ok, nmX4⟩
theorem kl5 : KL 5 RX5 TX5 4 tyX5 := ⟨rfl, inlX5, tyX5_ok, nmX5⟩
theorem kl6 : KL 6 RX6 TX6 9 tyX6 := ⟨rfl, inlX6, tyX6_ok, nmX6⟩
theorem kl7 : KL 7 RX7 TX7 45 tyX7 := ⟨rfl, inlX7, tyX7_ok, nmX7⟩
theorem ra_inj {s : State} {cA cB : ClassId} {ty : FieldType} (h1 : va_RA s cA ty) (h2 : va_RA s cB ty) : cA = cB := by
  cases ty with
  | object C =>
    obtain ⟨_, _, _, _, _, e1⟩ := h1
    obtain ⟨_, _, _, _, _, e2⟩ := h2
    exact Option.some.inj (e1.symm.trans e2)
  | _ => exact Option.some.inj (Eq.trans (Eq.symm h1) h2)
section OWN
variable {g : GE} {p : Program} {l : Launch} {e : Env} {R : Room} {s : State} {m : MethodId} {args : Array Value} {below : List Frame} {meth : Method} {c : Code} {H : Heap} {locs : List Loc} {cells slots : Nat} {Q : State → Prop}
variable {cc : ByteArray} {nL : Nat} {own nm : String} {ret : Option FieldType} {A : Nat → Prop} {ws : va_W} {pc : Nat} {ls : Array Slot} {rest : List Value} {a : Nat}
theorem r_get (X : CX g p s m meth c args cc nL own nm ret A) (h : ST g A s ws H locs) {ci N : Nat} {C : String} {T : u_T} {ty : Nat → FieldType} (kl : KL ci C T N ty) (q0 k : Nat) {fs : List Value} {index : Nat} {v : Value} (he : ws[q0]? = some (a, .inr (ci, fs))) (hk : k < N) (hlink : Cond.fieldLink own index (T k).1 (T k).2.1 (T k).2.2.1 ∈ WL) (hv : fs[k]? = some v) (hdg : decode cc pc = .ok (.getfield index, 3))
    (kk : W p l e R s m args below meth c H locs cells slots Q (F0 m (pc + 3) ls (v :: rest))) : W p l e R s m args below meth c H locs cells slots Q (F0 m pc ls (.ref a :: rest)) :=
  va_get (D := g.1) X.1 X.2.1 X.2.2.2.2.1 kl.2.1 X.2.2.2.1 X.2.2.2.2.2.1.1 h.1 q0 he kl.1 k hk (X.2.2.2.2.1 _ hlink) (fun _ h9 => h9) hv hdg kk
theorem r_put (X : CX g p s m meth c args cc nL own nm ret A) (h : ST g A s ws H locs) {ci N : Nat} {C : String} {T : u_T} {ty : Nat → FieldType} (kl : KL ci C T N ty) (q0 k : Nat) {fs : List Value} {index : Nat} {v : Value} (he : ws[q0]? = some (a, .inr (ci, fs))) (hk : k < N) (hlink : Cond.fieldLink own index (T k).1 (T k).2.1 (T k).2.2.1 ∈ WL) (hfin : (T k).2.2.2 = false) (hn : narrow (ty k) v = v) (hfit : fits (ty k) v = true) (hl : k < fs.length) (hdg : decode cc pc = .ok (.putfield index, 3))
    (kk : ∀ (H1 : Heap) (locs1 : List Loc), ST g A s (ws.set q0 (a, .inr (ci, fs.set k v))) H1 locs1 → W p l e R s m args below meth c H1 locs1 cells slots Q (F0 m (pc + 3) ls rest)) : W p l e R s m args below meth c H locs cells slots Q (F0 m pc ls (v :: .ref a :: rest)) :=
  va_put (D := g.1) X.1 X.2.1 X.2.2.2.2.1 kl.2.1 ty kl.2.2.1 kl.2.2.2 X.2.2.2.1 X.2.2.2.2.2.1.1 h.1 h.2.1 h.2.2 q0 he kl.1 k hk (X.2.2.2.2.1 _ hlink) (fun _ h9 => h9) hfin (kl.2.2.1 k hk) hn hfit hl hdg (fun H1 l1 a1 a2 a3 => kk H1 l1 ⟨a1, a2, a3⟩)
theorem r_putF (X : CX g p s m meth c args cc nL own "<init>" ret A) (h : ST g A s ws H locs) {ci N : Nat} {C : String} {T : u_T} {ty : Nat → FieldType} (kl : KL ci C T N ty) (q0 k : Nat) {fs : List Value} {index : Nat} {v : Value} (he : ws[q0]? = some (a, .inr (ci, fs))) (hk : k < N) (hlink : Cond.fieldLink own index (T k).1 (T k).2.1 (T k).2.2.1 ∈ WL) (hfin : (T k).2.2.2 = true) (hdecl : (T k).1 = own) (hn : narrow (ty k) v = v) (hfit : fits (ty k) v = true) (hl : k < fs.length) (hdg : decode cc pc = .ok (.putfield index, 3))
    (kk : ∀ (H1 : Heap) (locs1 : List Loc), ST g A s (ws.set q0 (a, .inr (ci, fs.set k v))) H1 locs1 → W p l e R s m args below meth c H1 locs1 cells slots Q (F0 m (pc + 3) ls rest)) : W p l e R s m args below meth c H locs cells slots Q (F0 m pc ls (v :: .ref a :: rest)) :=
  va_putF (D := g.1) X.1 X.2.1 X.2.2.2.2.1 kl.2.1 ty kl.2.2.1 kl.2.2.2 X.2.2.2.1 X.2.2.2.2.2.1.1 h.1 h.2.1 h.2.2 q0 he kl.1 k hk (X.2.2.2.2.1 _ hlink) (fun _ h9 => h9) hfin X.2.2.2.2.2.2.2.2.2 hdecl (kl.2.2.1 k hk) hn hfit hl hdg (fun H1 l1 a1 a2 a3 => kk H1 l1 ⟨a1, a2, a3⟩)
theorem r_new (X : CX g p s m meth c args cc nL own nm ret A) (h : ST g A s ws H locs) {ci N : Nat} {C : String} {T : u_T} {ty : Nat → FieldType} (kl : KL ci C T N ty) (k' n' : Nat) {fs : List Value} {index : Nat} (hcl : Cond.classLink own index C ∈ WL) (hinst : Cond.instantiable C N ∈ WL) (hini : Cond.initialized C ∈ WL) (hfs : ∀ j, j < N → defaultValue (ty j) = vp_V fs j) (h1 : cells + 1 ≤ k') (h2 : slots + N ≤ n') (h3 : k' ≤ R.cells) (h4 : n' ≤ R.slots) (hdg : decode cc pc = .ok (.new index, 3))
    (kk : ∀ (q : Nat) (H1 : Heap), ST g A s (ws ++ [(q, .inr (ci, fs))]) H1 locs → W p l e R s m args below meth c H1 locs k' n' Q (F0 m (pc + 3) ls (.ref q :: rest))) : W p l e R s m args below meth c H locs cells slots Q (F0 m pc ls rest) :=
  va_new (D := g.1) X.1 X.2.1 X.2.2.2.2.1 kl.2.1 ty kl.2.2.1 X.2.2.2.1 (X.2.2.2.2.1 _ hcl) (X.2.2.2.2.1 _ hinst) (X.2.2.2.2.1 _ hini) X.2.2.2.2.2.1.1 h.1 h.2.1 h.2.2 X.2.2.2.2.2.2.1 kl.1 hfs (Nat.le_trans h1 h3) (Nat.le_trans h2 h4) hdg (fun q H1 a1 a2 a3 => W.widen h1 h2 (kk q H1 ⟨a1, a2, a3⟩))
theorem r_newa (X : CX g p s m meth c args cc nL own nm ret A) (h : ST g A s ws H locs) (t0 k' n' : Nat) {atype : ArrayType} {ty : FieldType} (harr : Cond.arrayClass (newarray.typeOf atype) ∈ WL) (hty : newarray.typeOf atype = ty) (ht : (TYS g)[t0]? = some (g.2 t0, ty)) {n : Int32} {N : Nat} (hd : defaultValue ty = .int 0) (hn : ¬ n < 0) (hN : n.toNatClampNeg = N) (hb : N * componentBytes ty ≤ 536870912) (h1 : cells + 1 ≤ k') (h2 : slots + N ≤ n') (h3 : k' ≤ R.cells) (h4 : n' ≤ R.slots) (hdg : decode cc pc = .ok (.newarray atype, 2))
    (kk : ∀ (q : Nat) (H1 : Heap), ST g A s (ws ++ [(q, .inl (g.2 t0, N, .inl (fun _ => 0)))]) H1 locs → W p l e R s m args below meth c H1 locs k' n' Q (F0 m (pc + 2) ls (.ref q :: rest))) : W p l e R s m args below meth c H locs cells slots Q (F0 m pc ls (.int n :: rest)) := by
  refine va_newa (D := g.1) (a0 := (N, .inl (fun _ => 0))) X.1 X.2.1 (X.2.2.2.2.1 _ harr) hty X.2.2.2.2.2.1.1 h.1 h.2.1 h.2.2 X.2.2.2.2.2.2.1 (fun cA => ?_) hn hN hb (Nat.le_trans h1 h3) (Nat.le_trans h2 h4) hdg (fun q cA H1 a0 a1 a2 a3 => ?_)
  · rw [hd]; exact vp_cell_i ..
  · have e1 : va_RA s (g.2 t0) ty := (X.2.2.2.2.2.1.1.2 t0 _ ht).2
    have e2 : va_RA s cA ty := (a0.2 7 (cA, ty) rfl).2
    have e3 := ra_inj e2 e1
    subst e3
    exact W.widen h1 h2 (kk q H1 ⟨a1, a2, a3⟩)
theorem r_newq (X : CX g p s m meth c args cc nL own nm ret A) (h : ST g A s ws H locs) (t0 k' n' : Nat) {C : String} {index : Nat} (hcl : Cond.classLink own index C ∈ WL) (hao : va_AO C s) (ht : (TYS g)[t0]? = some (g.2 t0, .object C)) {n : Int32} {N : Nat} (hn : ¬ n < 0) (hN : n.toNatClampNeg = N) (hb : N * 4 ≤ 536870912) (h1 : cells + 1 ≤ k') (h2 : slots + N ≤ n') (h3 : k' ≤ R.cells) (h4 : n' ≤ R.slots) (hdg : decode cc pc = .ok (.anewarray index, 3))
    (kk : ∀ (q : Nat) (H1 : Heap), ST g A s (ws ++ [(q, .inl (g.2 t0, N, .inr (.inr (.inr (.inr (fun _ => none))))))]) H1 locs → W p l e R s m args below meth c H1 locs k' n' Q (F0 m (pc + 3) ls (.ref q :: rest))) : W p l e R s m args below meth c H locs cells slots Q (F0 m pc ls (.int n :: rest)) := by
  refine va_newq (D := g.1) X.1 X.2.1 X.2.2.2.1 (X.2.2.2.2.1 _ hcl) hao X.2.2.2.2.2.1.1 h.1 h.2.1 h.2.2 X.2.2.2.2.2.2.1 hn hN hb (Nat.le_trans h1 h3) (Nat.le_trans h2 h4) hdg (fun q cA H1 a0 a1 a2 a3 => ?_)
  have e1 : va_RA s (g.2 t0) (.object C) := (X.2.2.2.2.2.1.1.2 t0 _ ht).2
  have e2 : va_RA s cA (.object C) := (a0.2 7 (cA, .object C) rfl).2
  have e3 := ra_inj e2 e1
  subst e3
  exact W.widen h1 h2 (kk q H1 ⟨a1, a2, a3⟩)
theorem r_iald (X : CX g p s m meth c args cc nL own nm ret A) (h : ST g A s ws H locs) (q0 : Nat) {n : Nat} {f : Nat → Int32} (he : ws[q0]? = some (a, .inl (g.2 1, n, .inl f))) {i : Int32} {v : Int32} (hin : vp_in i n) (hv : f i.toNatClampNeg = v) (hdg : decode cc pc = .ok (.iaload, 1))
    (kk : W p l e R s m args below meth c H locs cells slots Q (F0 m (pc + 1) ls (.int v :: rest))) : W p l e R s m args below meth c H locs cells slots Q (F0 m pc ls (.int i :: .ref a :: rest)) :=
  va_iald (D := g.1) X.1 X.2.1 X.2.2.2.2.2.1.1 h.1 q0 1 he rfl hin hdg (by rw [hv]; exact kk)
theorem r_bald (X : CX g p s m meth c args cc nL own nm ret A) (h : ST g A s ws H locs) (q0 : Nat) {n : Nat} {f : Nat → Int32} (he : ws[q0]? = some (a, .inl (g.2 0, n, .inl f))) {i : Int32} {v : Int32} (hin : vp_in i n) (hv : f i.toNatClampNeg = v) (hdg : decode cc pc = .ok (.baload, 1))
    (kk : W p l e R s m args below meth c H locs cells slots Q (F0 m (pc + 1) ls (.int v :: rest))) : W p l e R s m args below meth c H locs cells slots Q (F0 m pc ls (.int i :: .ref a :: rest)) :=
  va_bald (D := g.1) X.1 X.2.1 X.2.2.2.2.2.1.1 h.1 q0 0 he rfl hin hdg (by rw [hv]; exact kk)
theorem r_zald (X : CX g p s m meth c args cc nL own nm ret A) (h : ST g A s ws H locs) (q0 : Nat) {n : Nat} {f : Nat → Int32} (he : ws[q0]? = some (a, .inl (g.2 2, n, .inl f))) {i : Int32} {v : Int32} (hin : vp_in i n) (hv : f i.toNatClampNeg = v) (hdg : decode cc pc = .ok (.baload, 1))
    (kk : W p l e R s m args below meth c H locs cells slots Q (F0 m (pc + 1) ls (.int v :: rest))) : W p l e R s m args below meth c H locs cells slots Q (F0 m pc ls (.int i :: .ref a :: rest)) :=
  va_zald (D := g.1) X.1 X.2.1 X.2.2.2.2.2.1.1 h.1 q0 2 he rfl hin hdg (by rw [hv]; exact kk)
theorem r_aald (X : CX g p s m meth c args cc nL own nm ret A) (h : ST g A s ws H locs) (q0 t0 : Nat) {C : String} (ht : (TYS g)[t0]? = some (g.2 t0, .object C)) {n : Nat} {f : Nat → Option Nat} (he : ws[q0]? = some (a, .inl (g.2 t0, n, .inr (.inr (.inr (.inr f)))))) {i : Int32} {v : Value} (hin : vp_in i n) (hv : va_rf (f i.toNatClampNeg) = v) (hdg : decode cc pc = .ok (.aaload, 1))
    (kk : W p l e R s m args below meth c H locs cells slots Q (F0 m (pc + 1) ls (v :: rest))) : W p l e R s m args below meth c H locs cells slots Q (F0 m pc ls (.int i :: .ref a :: rest)) :=
  va_aldq (D := g.1) (C := C) X.1 X.2.1 X.2.2.2.2.2.1.1 h.1 q0 t0 he ht hin hdg (by rw [hv]; exact kk)
theorem r_iast (X : CX g p s m meth c args cc nL own nm ret A) (h : ST g A s ws H locs) (q0 : Nat) {n : Nat} {f : Nat → Int32} (he : ws[q0]? = some (a, .inl (g.2 1, n, .inl f))) {i : Int32} {x : Int32} (hin : vp_in i n) (hdg : decode cc pc = .ok (.iastore, 1))
    (kk : ∀ (H1 : Heap) (locs1 : List Loc), ST g A s (ws.set q0 (a, .inl (g.2 1, n, .inl (upd f i.toNatClampNeg x)))) H1 locs1 → W p l e R s m args below meth c H1 locs1 cells slots Q (F0 m (pc + 1) ls rest)) : W p l e R s m args below meth c H locs cells slots Q (F0 m pc ls (.int x :: .int i :: .ref a :: rest)) :=
  va_iast (D := g.1) X.1 X.2.1 X.2.2.2.2.2.1.1 h.1 h.2.1 h.2.2 q0 1 he rfl hin hdg (fun H1 l1 a1 a2 a3 => kk H1 l1 ⟨a1, a2, a3⟩)
theorem r_aast (X : CX g p s m meth c args cc nL own nm ret A) (h : ST g A s ws H locs) (q0 t0 qk ci : Nat) {r : vw_C} {n v : Nat} {vs : List Value} {f : Nat → Option Nat} (he : ws[q0]? = some (a, .inl (g.2 t0, n, .inr (.inr (.inr (.inr f)))))) (ht : (TYS g)[t0]? = some (g.2 t0, .object r.1)) (hv : ws[qk]? = some (v, .inr (ci, vs))) (hc : vwCl[ci]? = some r) {i : Int32} (hin : vp_in i n) (hdg : decode cc pc = .ok (.aastore, 1))
    (kk : ∀ (H1 : Heap) (locs1 : List Loc), ST g A s (ws.set q0 (a, .inl (g.2 t0, n, .inr (.inr (.inr (.inr (va_up f i.toNatClampNeg (some v)))))))) H1 locs1 → W p l e R s m args below meth c H1 locs1 cells slots Q (F0 m (pc + 1) ls rest)) : W p l e R s m args below meth c H locs cells slots Q (F0 m pc ls (.ref v :: .int i :: .ref a :: rest)) :=
  va_astq (D := g.1) X.1 X.2.1 X.2.2.2.2.2.1.1 h.1 h.2.1 h.2.2 q0 t0 qk ci he ht hv hc hin hdg (fun H1 l1 a1 a2 a3 => kk H1 l1 ⟨a1, a2, a3⟩)
theorem r_aastN (X : CX g p s m meth c args cc nL own nm ret A) (h : ST g A s ws H locs) (q0 t0 : Nat) {C : String} {n : Nat} {f : Nat → Option Nat} (he : ws[q0]? = some (a, .inl (g.2 t0, n, .inr (.inr (.inr (.inr f)))))) (ht : (TYS g)[t0]? = some (g.2 t0, .object C)) {i : Int32} (hin : vp_in i n) (hdg : decode cc pc = .ok (.aastore, 1))
    (kk : ∀ (H1 : Heap) (locs1 : List Loc), ST g A s (ws.set q0 (a, .inl (g.2 t0, n, .inr (.inr (.inr (.inr (va_up f i.toNatClampNeg none))))))) H1 locs1 → W p l e R s m args below meth c H1 locs1 cells slots Q (F0 m (pc + 1) ls rest)) : W p l e R s m args below meth c H locs cells slots Q (F0 m pc ls (.null :: .int i :: .ref a :: rest)) :=
  va_astqN (D := g.1) X.1 X.2.1 X.2.2.2.2.2.1.1 h.1 h.2.1 h.2.2 q0 t0 he ht hin hdg (fun H1 l1 a1 a2 a3 => kk H1 l1 ⟨a1, a2, a3⟩)
theorem r_alen (X : CX g p s m meth c args cc nL own nm ret A) (h : ST g A s ws H locs) (q0 t0 : Nat) {x : vp_A} {ty : FieldType} (he : ws[q0]? = some (a, .inl (g.2 t0, x))) (ht : (TYS g)[t0]? = some (g.2 t0, ty)) {v : Int32} (hv : Int32.ofNat x.1 = v) (hdg : decode cc pc = .ok (.arraylength, 1))
    (kk : W p l e R s m args below meth c H locs cells slots Q (F0 m (pc + 1) ls (.int v :: rest))) : W p l e R s m args below meth c H locs cells slots Q (F0 m pc ls (.ref a :: rest)) :=
  va_alen (D := g.1) X.1 X.2.1 X.2.2.2.2.2.1.1 h.1 q0 t0 he ht hv hdg kk
theorem r_objInit (X : CX g p s m meth c args cc nL own nm ret A) {idx : Nat} (hlink : Cond.methodLink own idx objectInit ∈ WL) (hinst : Cond.instanceMethod objectInit ∈ WL) (hcode : Cond.code objectInit ⟨#[0xb1]⟩ 1 none ∈ WL) (hs : ls.size = nL) (hd : decode cc pc = .ok (.invokespecial idx, 3)) (hfr : 1 ≤ R.frames) (hlo : 2 * (F0 m pc ls (.ref a :: rest)).monitorRoom + (rest.map fun v => v.category).sum + 12 ≤ R.locals)
    (kk : W p l e R s m args below meth c H locs cells slots Q (F0 m (pc + 3) ls rest)) : W p l e R s m args below meth c H locs cells slots Q (F0 m pc ls (.ref a :: rest)) :=
  W.objInit X.1 X.2.1 X.2.2.2.1 (X.2.2.2.2.1 _ hlink) (X.2.2.2.2.1 _ hinst) (X.2.2.2.2.1 _ hcode) rfl (hs.trans X.2.2.1.symm) rfl hd hfr hlo kk
theorem r_ldc (X : CX g p s m meth c args cc nL own nm ret A) {index : Nat} {v : Int32} (hc : Cond.constant own index v ∈ WL) (hdg : decode cc pc = .ok (.ldc index, 2)) (kk : W p l e R s m args below meth c H locs cells slots Q (F0 m (pc + 2) ls (.int v :: rest))) : W p l e R s m args below meth c H locs cells slots Q (F0 m pc ls rest) := lv_ldc X.1 X.2.1 X.2.2.2.1 (X.2.2.2.2.1 _ hc) hdg kk
theorem r_ldcw (X : CX g p s m meth c args cc nL own nm ret A) {index : Nat} {v : Int32} (hc : Cond.constant own index v ∈ WL) (hdg : decode cc pc = .ok (.ldc_w index, 3)) (kk : W p l e R s m args below meth c H locs cells slots Q (F0 m (pc + 3) ls (.int v :: rest))) : W p l e R s m args below meth c H locs cells slots Q (F0 m pc ls rest) := lv_ldcw X.1 X.2.1 X.2.2.2.1 (X.2.2.2.2.1 _ hc) hdg kk
theorem r_ldc2 (X : CX g p s m meth c args cc nL own nm ret A) {index : Nat} {v : Int64} (hc : Cond.constantLong own index v ∈ WL) (hdg : decode cc pc = .ok (.ldc2_w index, 3)) (kk : W p l e R s m args below meth c H locs cells slots Q (F0 m (pc + 3) ls (.long v :: rest))) : W p l e R s m args below meth c H locs cells slots Q (F0 m pc ls rest) := lv_ldc2 X.1 X.2.1 X.2.2.2.1 (X.2.2.2.2.1 _ hc) hdg kk
theorem r_vi {x y : Int32} (hv : x = y) (kk : W p l e R s m args below meth c H locs cells slots Q (F0 m pc ls (.int y :: rest))) : W p l e R s m args below meth c H locs cells slots Q (F0 m pc ls (.int x :: rest)) := by rw [hv]; exact kk
theorem r_vl {x y : Int64} (hv : x = y) (kk : W p l e R s m args below meth c H locs cells slots Q (F0 m pc ls (.long y :: rest))) : W p l e R s m args below meth c H locs cells slots Q (F0 m pc ls (.long x :: rest)) := by rw [hv]; exact kk
theorem r_min (X : CX g p s m meth c args cc nL own nm ret A) {index : Nat} (hlink : Cond.methodLink own index Lib.Math.min.name ∈ WL) (hstat : Cond.static Lib.Math.min.name ∈ WL) (hini : Cond.initialized "java/lang/Math" ∈ WL) (hcode : Cond.code Lib.Math.min.name Lib.Math.min.code 2 (some .int) ∈ WL) (hs : ls.size = nL) (hfr : 1 ≤ R.frames) (hlo : (rest.map fun v => v.category).sum + 13 ≤ R.locals) (h3 : cells ≤ R.cells) (h4 : slots ≤ R.slots) {x y v : Int32} (hdg : decode cc pc = .ok (.invokestatic index, 3)) (hv : (if y < x then y else x) = v)
    (kk : W p l e R s m args below meth c H locs cells slots Q (F0 m (pc + 3) ls (.int v :: rest))) : W p l e R s m args below meth c H locs cells slots Q (F0 m pc ls (.int y :: .int x :: rest)) :=
  va_mmin X.1 X.2.1 (X.2.2.1.trans hs.symm) X.2.2.2.1 (X.2.2.2.2.1 _ hlink) (X.2.2.2.2.1 _ hstat) (X.2.2.2.2.1 _ hini) (X.2.2.2.2.1 _ hcode) hfr hlo h3 h4 hdg (by rw [hv]; exact kk)
theorem r_bast (X : CX g p s m meth c args cc nL own nm ret A) (h : ST g A s ws H locs) (q0 : Nat) {n : Nat} {f : Nat → Int32} (he : ws[q0]? = some (a, .inl (g.2 0, n, .inl f))) {i : Int32} {x : Int32} (hin : vp_in i n) (hdg : decode cc pc = .ok (.bastore, 1))
    (kk : ∀ (H1 : Heap) (locs1 : List Loc), ST g A s (ws.set q0 (a, .inl (g.2 0, n, .inl (upd f i.toNatClampNeg (vp_nar .byte x))))) H1 locs1 → W p l e R s m args below meth c H1 locs1 cells slots Q (F0 m (pc + 1) ls rest)) : W p l e R s m args below meth c H locs cells slots Q (F0 m pc ls (.int x :: .int i :: .ref a :: rest)) :=
  va_bast (D := g.1) X.1 X.2.1 X.2.2.2.2.2.1.1 h.1 h.2.1 h.2.2 q0 0 he rfl hin hdg (fun H1 l1 a1 a2 a3 => kk H1 l1 ⟨a1, a2, a3⟩)
theorem r_zast (X : CX g p s m meth c args cc nL own nm ret A) (h : ST g A s ws H locs) (q0 : Nat) {n : Nat} {f : Nat → Int32} (he : ws[q0]? = some (a, .inl (g.2 2, n, .inl f))) {i : Int32} {x : Int32} (hin : vp_in i n) (hdg : decode cc pc = .ok (.bastore, 1))
    (kk : ∀ (f1 : Nat → Int32) (H1 : Heap) (locs1 : List Loc), ST g A s (ws.set q0 (a, .inl (g.2 2, n, .inl f1))) H1 locs1 → W p l e R s m args below meth c H1 locs1 cells slots Q (F0 m (pc + 1) ls rest)) : W p l e R s m args below meth c H locs cells slots Q (F0 m pc ls (.int x :: .int i :: .ref a :: rest)) :=
  va_zast (D := g.1) X.1 X.2.1 X.2.2.2.2.2.1.1 h.1 h.2.1 h.2.2 q0 2 he rfl hin hdg (fun H1 l1 a1 a2 a3 => kk _ H1 l1 ⟨a1, a2, a3⟩)
theorem r_iastF (X : CX g p s m meth c args cc nL own nm ret A) (h : ST g A s ws H locs) (q0 : Nat) {n : Nat} {f : Nat → Int32} (he : ws[q0]? = some (a, .inl (g.2 1, n, .inl f))) {i : Int32} {x : Int32} (hin : vp_in i n) (hdg : decode cc pc = .ok (.iastore, 1))
    (kk : ∀ (f1 : Nat → Int32) (H1 : Heap) (locs1 : List Loc), ST g A s (ws.set q0 (a, .inl (g.2 1, n, .inl f1))) H1 locs1 → W p l e R s m args below meth c H1 locs1 cells slots Q (F0 m (pc + 1) ls rest)) : W p l e R s m args below meth c H locs cells slots Q (F0 m pc ls (.int x :: .int i :: .ref a :: rest)) :=
  r_iast X h q0 he hin hdg (fun H1 l1 a1 => kk _ H1 l1 a1)
theorem r_copyb (X : CX g p s m meth c args cc nL own nm ret A) (h : ST g A s ws H locs) {index : Nat} (hlink : Cond.methodLink own index arraycopyName ∈ WL) (hnat : Cond.native arraycopyName ∈ WL) (hstat : Cond.static arraycopyName ∈ WL) (hini : Cond.initialized "java/lang/System" ∈ WL) (hs : ls.size = nL) (q0 q1 : Nat) {a0 n0 n1 : Nat} {f0 f1 : Nat → Int32} (he0 : ws[q0]? = some (a0, .inl (g.2 0, n0, .inl f0))) (he1 : ws[q1]? = some (a, .inl (g.2 0, n1, .inl f1)))
    {sp dp n : Int32} (h1 : ¬ sp < 0) (h2 : ¬ dp < 0) (h3 : ¬ n < 0) (h4 : sp.toNatClampNeg + n.toNatClampNeg ≤ n0) (h5 : dp.toNatClampNeg + n.toNatClampNeg ≤ n1) (hfit : ∀ i, i < n.toNatClampNeg → fits .byte (.int (f0 (sp.toNatClampNeg + i))) = true)
    (hfr : 1 ≤ R.frames) (hlo : (rest.map fun v => v.category).sum + (nativeFrameWords "java/lang/System" "arraycopy" 5 + 11) ≤ R.locals) (hdg : decode cc pc = .ok (.invokestatic index, 3))
    (kk : ∀ (f2 : Nat → Int32) (H1 : Heap) (locs1 : List Loc), ST g A s (ws.set q1 (a, .inl (g.2 0, n1, .inl f2))) H1 locs1 → W p l e R s m args below meth c H1 locs1 cells slots Q (F0 m (pc + 3) ls rest)) : W p l e R s m args below meth c H locs cells slots Q (F0 m pc ls (.int n :: .int dp :: .ref a :: .int sp :: .ref a0 :: rest)) :=
  va_copyi (D := g.1) (ty := .byte) X.1 X.2.1 (X.2.2.1.trans hs.symm) X.2.2.2.1 (X.2.2.2.2.1 _ hlink) (X.2.2.2.2.1 _ hnat) (X.2.2.2.2.1 _ hstat) (X.2.2.2.2.1 _ hini) X.2.2.2.2.2.1.1 h.1 h.2.1 h.2.2 q0 q1 0 0 he0 he1 rfl rfl rfl h1 h2 h3 h4 h5 hfit hfr hlo hdg (fun H1 l1 a1 a2 a3 => kk _ H1 l1 ⟨a1, a2, a3⟩)
-- ends
theorem r_vret {S : Type} {wc : va_W} {sz : Nat} {w1 : S → va_W} (X : CX g p s m meth c args cc nL own nm none A) (h : ST g A s ws H locs) (hAe : A = va_A wc sz) (u : S) (is : List Nat) (hn : va_nd is = true) (hs : is.map (fun i => ws[i]?) = (w1 u).map some) (mc ms : Nat) (h1 : cells ≤ mc) (h2 : slots ≤ ms) (hdg : decode cc pc = .ok (.return_, 1)) : W p l e R s m args below meth c H locs cells slots (MQ below (QV g wc sz w1) args s mc ms (va_A wc sz)) (F0 m pc ls []) := by
  subst hAe
  have h9 := h.sub is hn hs
  exact W.widen h1 h2 (W.vret X.1 X.2.1 X.2.2.2.2.2.2.2.1 (fun t ht _ => ⟨⟨u, rfl, trivial, by rw [ht]; exact h9.1, h9.2.1⟩, h.2.2.F ht⟩) h.2.2.2.2 hdg X.2.2.2.2.2.2.2.2.1)
theorem r_iret {S : Type} {wc : va_W} {sz : Nat} {r v : Int32} {w1 : S → va_W} (X : CX g p s m meth c args cc nL own nm (some .int) A) (h : ST g A s ws H locs) (hAe : A = va_A wc sz) (u : S) (is : List Nat) (hn : va_nd is = true) (hs : is.map (fun i => ws[i]?) = (w1 u).map some) (mc ms : Nat) (h1 : cells ≤ mc) (h2 : slots ≤ ms) (hv : v = r) (hdg : decode cc pc = .ok (.ireturn, 1)) : W p l e R s m args below meth c H locs cells slots (MQ below (QI g wc sz r w1) args s mc ms (va_A wc sz)) (F0 m pc ls [.int v]) := by
  subst hAe
  have h9 := h.sub is hn hs
  exact W.widen h1 h2 (W.iret X.1 X.2.1 X.2.2.2.2.2.2.2.1 (fun t ht _ => ⟨⟨v, u, rfl, hv, by rw [ht]; exact h9.1, h9.2.1⟩, h.2.2.F ht⟩) h.2.2.2.2 hdg X.2.2.2.2.2.2.2.2.1)
theorem r_zret {S : Type} {wc : va_W} {sz : Nat} {r v : Int32} {w1 : S → va_W} (X : CX g p s m meth c args cc nL own nm (some .boolean) A) (h : ST g A s ws H locs) (hAe : A = va_A wc sz) (u : S) (is : List Nat) (hn : va_nd is = true) (hs : is.map (fun i => ws[i]?) = (w1 u).map some) (mc ms : Nat) (h1 : cells ≤ mc) (h2 : slots ≤ ms) (hv : v = r) (hnn : narrow .boolean (.int v) = .int v) (hdg : decode cc pc = .ok (.ireturn, 1)) : W p l e R s m args below meth c H locs cells slots (MQ below (QI g wc sz r w1) args s mc ms (va_A wc sz)) (F0 m pc ls [.int v]) := by
  subst hAe
  have h9 := h.sub is hn hs
  exact W.widen h1 h2 (W.zret X.1 X.2.1 X.2.2.2.2.2.2.2.1 hnn (fun t ht _ => ⟨⟨v, u, rfl, hv, by rw [ht]; exact h9.1, h9.2.1⟩, h.2.2.F ht⟩) h.2.2.2.2 hdg X.2.2.2.2.2.2.2.2.1)
theorem r_lret {S : Type} {wc : va_W} {sz : Nat} {r v : Int64} {w1 : S → va_W} (X : CX g p s m meth c args cc nL own nm (some .long) A) (h : ST g A s ws H locs) (hAe : A = va_A wc sz) (u : S) (is : List Nat) (hn : va_nd is = true) (hs : is.map (fun i => ws[i]?) = (w1 u).map some) (mc ms : Nat) (h1 : cells ≤ mc) (h2 : slots ≤ ms) (hv : v = r) (hdg : decode cc pc = .ok (.lreturn, 1)) : W p l e R s m args below meth c H locs cells slots (MQ below (QL g wc sz r w1) args s mc ms (va_A wc sz)) (F0 m pc ls [.long v]) := by
  subst hAe
  have h9 := h.sub is hn hs
  exact W.widen h1 h2 (W.lret X.1 X.2.1 X.2.2.2.2.2.2.2.1 (fun t ht _ => ⟨⟨v, u, rfl, hv, by rw [ht]; exact h9.1, h9.2.1⟩, h.2.2.F ht⟩) h.2.2.2.2 hdg X.2.2.2.2.2.2.2.2.1)
theorem r_aret {S : Type} {wc : va_W} {sz : Nat} {r : Option Nat} {v : Value} {C : String} {w1 : S → va_W} (X : CX g p s m meth c args cc nL own nm (some (.object C)) A) (h : ST g A s ws H locs) (hAe : A = va_A wc sz) (u : S) (is : List Nat) (hn : va_nd is = true) (hs : is.map (fun i => ws[i]?) = (w1 u).map some) (mc ms : Nat) (h1 : cells ≤ mc) (h2 : slots ≤ ms) (hv : v = va_rf r) (hdg : decode cc pc = .ok (.areturn, 1)) : W p l e R s m args below meth c H locs cells slots (MQ below (QQ g wc sz r w1) args s mc ms (va_A wc sz)) (F0 m pc ls [v]) := by
  subst hAe
  subst hv
  have h9 := h.sub is hn hs
  exact W.widen h1 h2 (W.aret X.1 X.2.1 X.2.2.2.2.2.2.2.1 (Or.inl ⟨C, rfl⟩) (by cases r with | none => exact Or.inl rfl | some a => exact Or.inr ⟨a, rfl⟩) (fun t ht _ => ⟨⟨r, u, rfl, rfl, by rw [ht]; exact h9.1, h9.2.1⟩, h.2.2.F ht⟩) h.2.2.2.2 hdg X.2.2.2.2.2.2.2.2.1)
end OWN
theorem WLgood : GoodIn WL WL := goodIn_sub (fun _ h => h) WL_all
theorem gCode {y : MethodName} {bytes : ByteArray} {maxL : Nat} {rt : Option FieldType} (h5 : Cond.code y bytes maxL rt ∈ WL) : GoodIn WL (.code y bytes maxL rt :: WL) := fun w hw => (List.mem_cons.mp hw).elim (fun e => by rw [e]; exact WLgood _ h5) (fun h => WLgood w h)
def CWV (own : String) (index : Nat) (C : String) (y : MethodName) (bytes : ByteArray) (maxL : Nat) (rt : Option FieldType) (n : Nat) : Prop := GoodIn WL (wsV own index C y (.code y bytes maxL rt :: WL)) ∧ (y.cls = C ∧ y.cls ≠ "java/lang/invoke/MethodHandle" ∧ y.cls ≠ "java/lang/invoke/VarHandle" ∧ (parseMethodDescriptor y.desc).map (fun d => d.parameters.length) = some n)
theorem CWV.mk {own : String} {index : Nat} {C : String} {y : MethodName} {bytes : ByteArray} {maxL : Nat} {rt : Option FieldType} {n : Nat} (h1 : Cond.methodLink own index y ∈ WL) (h2 : Cond.instanceMethod y ∈ WL) (h3 : Cond.selects C y y ∈ WL) (h4 : Cond.initialized C ∈ WL) (h5 : Cond.code y bytes maxL rt ∈ WL) (hd : y.cls = C ∧ y.cls ≠ "java/lang/invoke/MethodHandle" ∧ y.cls ≠ "java/lang/invoke/VarHandle" ∧ (parseMethodDescriptor y.desc).map (fun d => d.parameters.length) = some n) : CWV own index C y bytes maxL rt n := by
  refine ⟨?_, hd⟩
  unfold wsV
  refine goodIn_app (fun w hw => ?_) (gCode h5)
  simp only [List.mem_cons, List.not_mem_nil, or_false] at hw
  rcases hw with e | e | e | e <;> rw [e]
  · exact WLgood _ h1
  · exact WLgood _ h2
  · exact WLgood _ h3
  · exact WLgood _ h4
def CWS (own : String) (index : Nat) (y : MethodName) (bytes : ByteArray) (maxL : Nat) (rt : Option FieldType) (n : Nat) : Prop := GoodIn WL (wsS own index y (.code y bytes maxL rt :: WL)) ∧ (y.cls = own ∧ y.cls ≠ "java/lang/invoke/MethodHandle" ∧ y.cls ≠ "java/lang/invoke/VarHandle" ∧ (parseMethodDescriptor y.desc).map (fun d => d.parameters.length) = some n)
theorem CWS.mk {own : String} {index : Nat} {y : MethodName} {bytes : ByteArray} {maxL : Nat} {rt : Option FieldType} {n : Nat} (h1 : Cond.methodLink own index y ∈ WL) (h2 : Cond.static y ∈ WL) (h4 : Cond.initialized own ∈ WL) (h5 : Cond.code y bytes maxL rt ∈ WL) (hd : y.cls = own ∧ y.cls ≠ "java/lang/invoke/MethodHandle" ∧ y.cls ≠ "java/lang/invoke/VarHandle" ∧ (parseMethodDescriptor y.desc).map (fun d => d.parameters.length) = some n) : CWS own index y bytes maxL rt n := by
  refine ⟨?_, hd⟩
  unfold wsS
  intro w hw
  simp only [List.mem_cons, List.mem_append, List.not_mem_nil, or_false, List.cons_append, List.nil_append] at hw
  rcases hw with e | e | e | e | e
  · rw [e]; exact WLgood _ h1
  · rw [e]; exact WLgood _ h2
  · rw [e]; exact WLgood _ h4
  · rw [e]; exact WLgood _ h5
  · exact WLgood _ e
def CWI (own : String) (index : Nat) (y : MethodName) (bytes : ByteArray) (maxL n : Nat) : Prop := GoodIn WL (.code y bytes maxL none :: WL) ∧ Cond.initialized y.cls ∈ WL ∧ Cond.methodLink own index y ∈ WL ∧ Cond.instanceMethod y ∈ WL ∧ y.name = "<init>" ∧ (y.cls ≠ "java/lang/invoke/MethodHandle" ∧ y.cls ≠ "java/lang/invoke/VarHandle" ∧ (parseMethodDescriptor y.desc).map (fun d => d.parameters.length) = some n)
def CWN (own : String) (index : Nat) (y : MethodName) (host : String) (bytes : ByteArray) (maxL n : Nat) : Prop := GoodIn WL (.code y bytes maxL none :: WL) ∧ Cond.initialized y.cls ∈ WL ∧ Cond.instanceMethod y ∈ WL ∧ y.name = "<init>" ∧ (y.cls ≠ "java/lang/invoke/MethodHandle" ∧ y.cls ≠ "java/lang/invoke/VarHandle" ∧ (parseMethodDescriptor y.desc).map (fun d => d.parameters.length) = some n)
section CALLS
variable {g : GE} {p : Program} {l : Launch} {e : Env} {R : Room} {s : State} {m : MethodId} {args : Array Value} {below : List Frame} {meth : Method} {c : Code} {H : Heap} {locs : List Loc} {cells slots : Nat} {Q : State → Prop}
variable {cc : ByteArray} {nL : Nat} {own nm : String} {ret : Option FieldType} {A : Nat → Prop} {ws wc wr : va_W} {pc : Nat} {ls : Array Slot} {rest st0 : List Value} {b : Nat} {As : List Value}
variable {y : MethodName} {bytes : ByteArray} {maxL : Nat} {rt : Option FieldType} {rm : Room} {mc ms n index : Nat} {Qc : Array Value → State → Outcome → State → Prop} {free : Addr → Prop}
theorem k_runV (X : CX g p s m meth c args cc nL own nm ret A) (h : ST g A s ws H locs) {C : String} {T : u_T} {N ci : Nat} {ty : Nat → FieldType} {fs : List Value} (hM : Met l y (.code y bytes maxL rt :: WL) rm (PR g (.ref b :: As) wc H.size) Qc mc ms free) (cw : CWV own index C y bytes maxL rt n) (isC : List Nat) (hnC : va_nd isC = true) (hC : isC.map (fun i => ws[i]?) = wc.map some) (q0 : Nat) (kl : KL ci C T N ty) (he : ws[q0]? = some (b, .inr (ci, fs))) (hrc : rm.cells = mc) (hrs : rm.slots = ms) (hfr : rm.frames + 1 ≤ R.frames) (hlo : 8 + (maxL + 11) + rm.locals ≤ R.locals) (hn : As.length = n) (hls : ls.size = nL) (hst : st0 = As.reverse ++ .ref b :: rest) (hW : (rest.map fun v => v.category).sum ≤ 8) (hdg : decode cc pc = .ok (.invokevirtual index, 3)) (h3 : cells + mc ≤ R.cells) (h4 : slots + ms ≤ R.slots) :
    va_Run p l e R s m args below meth c H locs cells slots mc ms (F0 m pc ls st0) rest (Qc (Value.ref b :: As).toArray) free := by
  have h9 := h.sub isC hnC hC
  exact va_runV ⟨X.1, X.2.1, X.2.2.1, X.2.2.2.1, X.2.2.2.2.1⟩ hM (cwV n X.2.2.2.2.1 cw.1 rfl hrc hrs cw.2 ⟨hfr, hlo⟩) ⟨fun a U f mk q => by obtain ⟨q0, q1, qP, qE, qD⟩ := q; exact ⟨q0, q1, qP, qE.calling, qD⟩, va_recv X.2.2.2.2.2.1.1 h.1 kl.1 he, fun U hU hW => ⟨rfl, by rw [hU], by rw [hU]; exact h9.1, X.2.2.2.2.2.1.warm hW, h9.2.1.weaken (fun _ _ _ _ => trivial)⟩⟩ rfl hn hls hst (lv_room hW) hdg ⟨h3, h4⟩
theorem k_runS (X : CX g p s m meth c args cc nL own nm ret A) (h : ST g A s ws H locs) (hM : Met l y (.code y bytes maxL rt :: WL) rm (PR g As wc H.size) Qc mc ms free) (cw : CWS own index y bytes maxL rt n) (isC : List Nat) (hnC : va_nd isC = true) (hC : isC.map (fun i => ws[i]?) = wc.map some) (hrc : rm.cells = mc) (hrs : rm.slots = ms) (hfr : rm.frames + 1 ≤ R.frames) (hlo : 8 + (maxL + 11) + rm.locals ≤ R.locals) (hn : As.length = n) (hls : ls.size = nL) (hst : st0 = As.reverse ++ rest) (hW : (rest.map fun v => v.category).sum ≤ 8) (hdg : decode cc pc = .ok (.invokestatic index, 3)) (h3 : cells + mc ≤ R.cells) (h4 : slots + ms ≤ R.slots) :
    va_Run p l e R s m args below meth c H locs cells slots mc ms (F0 m pc ls st0) rest (Qc As.toArray) free := by
  have h9 := h.sub isC hnC hC
  exact va_runS ⟨X.1, X.2.1, X.2.2.1, X.2.2.2.1, X.2.2.2.2.1⟩ hM (cwS n X.2.2.2.2.1 cw.1 rfl hrc hrs cw.2 ⟨hfr, hlo⟩) ⟨fun a U f mk q => by obtain ⟨q0, q1, qP, qE, qD⟩ := q; exact ⟨q0, q1, qP, qE.calling, qD⟩, fun U hU hW => ⟨rfl, by rw [hU], by rw [hU]; exact h9.1, X.2.2.2.2.2.1.warm hW, h9.2.1.weaken (fun _ _ _ _ => trivial)⟩⟩ rfl hn hls hst (lv_room hW) hdg ⟨h3, h4⟩
theorem k_runI (X : CX g p s m meth c args cc nL own nm ret A) (h : ST g A s ws H locs) (hM : Met l y (.code y bytes maxL none :: WL) rm (PR g (.ref b :: As) wc H.size) Qc mc ms free) (cw : CWI own index y bytes maxL n) (isC : List Nat) (hnC : va_nd isC = true) (hC : isC.map (fun i => ws[i]?) = wc.map some) (hrc : rm.cells = mc) (hrs : rm.slots = ms) (hfr : rm.frames + 1 ≤ R.frames) (hlo : 8 + (maxL + 11) + rm.locals ≤ R.locals) (hn : As.length = n) (hls : ls.size = nL) (hst : st0 = As.reverse ++ .ref b :: rest) (hW : (rest.map fun v => v.category).sum ≤ 8) (hdg : decode cc pc = .ok (.invokespecial index, 3)) (h3 : cells + mc ≤ R.cells) (h4 : slots + ms ≤ R.slots) :
    va_Run p l e R s m args below meth c H locs cells slots mc ms (F0 m pc ls st0) rest (Qc (Value.ref b :: As).toArray) free := by
  have h9 := h.sub isC hnC hC
  exact va_runI ⟨X.1, X.2.1, X.2.2.1, X.2.2.2.1, X.2.2.2.2.1⟩ hM (cwI n X.2.2.2.2.1 cw.1 rfl hrc hrs (X.2.2.2.2.1 _ cw.2.1) (X.2.2.2.2.1 _ cw.2.2.1) (X.2.2.2.2.1 _ cw.2.2.2.1) cw.2.2.2.2.1 cw.2.2.2.2.2 ⟨hfr, hlo⟩) ⟨fun a U f mk q => by obtain ⟨q0, q1, qP, qE, qD⟩ := q; exact ⟨q0, q1, qP, qE.calling, qD⟩, fun U hU hW => ⟨rfl, by rw [hU], by rw [hU]; exact h9.1, X.2.2.2.2.2.1.warm hW, h9.2.1.weaken (fun _ _ _ _ => trivial)⟩⟩ rfl hn hls hst (lv_room hW) hdg ⟨h3, h4⟩
theorem k_runN (X : CX g p s m meth c args cc nL own nm ret A) (h : ST g A s ws H locs) {host : String} (hnl : va_Nw (.methodLinkNest own index y host) s) (hM : Met l y (.code y bytes maxL none :: WL) rm (PR g (.ref b :: As) wc H.size) Qc mc ms free) (cw : CWN own index y host bytes maxL n) (isC : List Nat) (hnC : va_nd isC = true) (hC : isC.map (fun i => ws[i]?) = wc.map some) (hrc : rm.cells = mc) (hrs : rm.slots = ms) (hfr : rm.frames + 1 ≤ R.frames) (hlo : 8 + (maxL + 11) + rm.locals ≤ R.locals) (hn : As.length = n) (hls : ls.size = nL) (hst : st0 = As.reverse ++ .ref b :: rest) (hW : (rest.map fun v => v.category).sum ≤ 8) (hdg : decode cc pc = .ok (.invokespecial index, 3)) (h3 : cells + mc ≤ R.cells) (h4 : slots + ms ≤ R.slots) :
    va_Run p l e R s m args below meth c H locs cells slots mc ms (F0 m pc ls st0) rest (Qc (Value.ref b :: As).toArray) free := by
  have h9 := h.sub isC hnC hC
  exact va_runIN ⟨X.1, X.2.1, X.2.2.1, X.2.2.2.1, X.2.2.2.2.1⟩ hM ⟨va_cnB n X.2.2.2.2.1 cw.1 rfl hrc hrs hnl (X.2.2.2.2.1 _ cw.2.1) cw.2.2.2.2 ⟨hfr, hlo⟩, cw.2.2.2.1, X.2.2.2.2.1 _ cw.2.2.1⟩ ⟨fun a U f mk q => by obtain ⟨q0, q1, qP, qE, qD⟩ := q; exact ⟨q0, q1, qP, qE.calling, qD⟩, fun U hU hW => ⟨rfl, by rw [hU], by rw [hU]; exact h9.1, X.2.2.2.2.2.1.warm hW, h9.2.1.weaken (fun _ _ _ _ => trivial)⟩⟩ rfl hn hls hst (lv_room hW) hdg ⟨h3, h4⟩

theorem k_v {S : Type} {w1 : S → va_W} {a0 : Array Value} (X : CX g p s m meth c args cc nL own nm ret A) (h : ST g A s ws H locs) (isC isR : List Nat) (hC : isC.map (fun i => ws[i]?) = wc.map some) (hRr : isR.map (fun i => ws[i]?) = wr.map some) (hnR : va_nd isR = true) (hdis : ∀ i ∈ isR, i ∉ isC) (k' n' : Nat) (h1 : cells + mc ≤ k') (h2 : slots + ms ≤ n') (hr : va_Run p l e R s m args below meth c H locs cells slots mc ms (F0 m pc ls st0) rest (QV g wc H.size w1 a0) (va_A wc H.size))
    (kk : ∀ (u : S) (H1 : Heap) (locs1 : List Loc), ST g A s (wr ++ w1 u) H1 locs1 → W p l e R s m args below meth c H1 locs1 k' n' Q (F0 m (pc + 3) ls (rest))) : W p l e R s m args below meth c H locs cells slots Q (F0 m pc ls st0) := by
  have hF := va_free (wc := wc) h.2.1 h.2.2 X.2.2.2.2.2.2.1 isC hC
  refine va_callv hr h.2.2 (fun q _ hq => hF q hq) hF (fun u t H1 locs1 ht hvm hw hB hz1 hk1 hS => ?_)
  obtain ⟨hP1, hD1⟩ := hB
  rw [ht] at hP1
  obtain ⟨hP, hD⟩ := va_join (wr := wr) (w1 := w1 u) h.1 h.2.1 isC isR hC hRr hnR hdis hk1 hF hP1 hD1
  exact W.widen h1 h2 (kk u H1 locs1 ⟨hP, hD, hS⟩)
theorem k_i {S : Type} {r : Int32} {w1 : S → va_W} {a0 : Array Value} (X : CX g p s m meth c args cc nL own nm ret A) (h : ST g A s ws H locs) (isC isR : List Nat) (hC : isC.map (fun i => ws[i]?) = wc.map some) (hRr : isR.map (fun i => ws[i]?) = wr.map some) (hnR : va_nd isR = true) (hdis : ∀ i ∈ isR, i ∉ isC) (k' n' : Nat) (h1 : cells + mc ≤ k') (h2 : slots + ms ≤ n') (hr : va_Run p l e R s m args below meth c H locs cells slots mc ms (F0 m pc ls st0) rest (QI g wc H.size r w1 a0) (va_A wc H.size))
    (kk : ∀ (u : S) (H1 : Heap) (locs1 : List Loc), ST g A s (wr ++ w1 u) H1 locs1 → W p l e R s m args below meth c H1 locs1 k' n' Q (F0 m (pc + 3) ls (.int r :: rest))) : W p l e R s m args below meth c H locs cells slots Q (F0 m pc ls st0) := by
  have hF := va_free (wc := wc) h.2.1 h.2.2 X.2.2.2.2.2.2.1 isC hC
  refine va_calli hr h.2.2 (fun q _ hq => hF q hq) hF (fun r9 u t H1 locs1 ht hvm hw hB hz1 hk1 hS => ?_)
  obtain ⟨hP1, hD1⟩ := hB
  rw [ht] at hP1
  obtain ⟨hP, hD⟩ := va_join (wr := wr) (w1 := w1 u) h.1 h.2.1 isC isR hC hRr hnR hdis hk1 hF hP1 hD1
  subst hw
  exact W.widen h1 h2 (kk u H1 locs1 ⟨hP, hD, hS⟩)
theorem k_l {S : Type} {r : Int64} {w1 : S → va_W} {a0 : Array Value} (X : CX g p s m meth c args cc nL own nm ret A) (h : ST g A s ws H locs) (isC isR : List Nat) (hC : isC.map (fun i => ws[i]?) = wc.map some) (hRr : isR.map (fun i => ws[i]?) = wr.map some) (hnR : va_nd isR = true) (hdis : ∀ i ∈ isR, i ∉ isC) (k' n' : Nat) (h1 : cells + mc ≤ k') (h2 : slots + ms ≤ n') (hr : va_Run p l e R s m args below meth c H locs cells slots mc ms (F0 m pc ls st0) rest (QL g wc H.size r w1 a0) (va_A wc H.size))
    (kk : ∀ (u : S) (H1 : Heap) (locs1 : List Loc), ST g A s (wr ++ w1 u) H1 locs1 → W p l e R s m args below meth c H1 locs1 k' n' Q (F0 m (pc + 3) ls (.long r :: rest))) : W p l e R s m args below meth c H locs cells slots Q (F0 m pc ls st0) := by
  have hF := va_free (wc := wc) h.2.1 h.2.2 X.2.2.2.2.2.2.1 isC hC
  refine va_calll hr h.2.2 (fun q _ hq => hF q hq) hF (fun r9 u t H1 locs1 ht hvm hw hB hz1 hk1 hS => ?_)
  obtain ⟨hP1, hD1⟩ := hB
  rw [ht] at hP1
  obtain ⟨hP, hD⟩ := va_join (wr := wr) (w1 := w1 u) h.1 h.2.1 isC isR hC hRr hnR hdis hk1 hF hP1 hD1
  subst hw
  exact W.widen h1 h2 (kk u H1 locs1 ⟨hP, hD, hS⟩)
theorem k_q {S : Type} {r : Option Nat} {w1 : S → va_W} {a0 : Array Value} (X : CX g p s m meth c args cc nL own nm ret A) (h : ST g A s ws H locs) (isC isR : List Nat) (hC : isC.map (fun i => ws[i]?) = wc.map some) (hRr : isR.map (fun i => ws[i]?) = wr.map some) (hnR : va_nd isR = true) (hdis : ∀ i ∈ isR, i ∉ isC) (k' n' : Nat) (h1 : cells + mc ≤ k') (h2 : slots + ms ≤ n') (hr : va_Run p l e R s m args below meth c H locs cells slots mc ms (F0 m pc ls st0) rest (QQ g wc H.size r w1 a0) (va_A wc H.size))
    (kk : ∀ (u : S) (H1 : Heap) (locs1 : List Loc), ST g A s (wr ++ w1 u) H1 locs1 → W p l e R s m args below meth c H1 locs1 k' n' Q (F0 m (pc + 3) ls (va_rf r :: rest))) : W p l e R s m args below meth c H locs cells slots Q (F0 m pc ls st0) := by
  have hF := va_free (wc := wc) h.2.1 h.2.2 X.2.2.2.2.2.2.1 isC hC
  refine va_callq hr h.2.2 (fun q _ hq => hF q hq) hF (fun r9 u t H1 locs1 ht hvm hw hB hz1 hk1 hS => ?_)
  obtain ⟨hP1, hD1⟩ := hB
  rw [ht] at hP1
  obtain ⟨hP, hD⟩ := va_join (wr := wr) (w1 := w1 u) h.1 h.2.1 isC isR hC hRr hnR hdis hk1 hF hP1 hD1
  subst hw
  exact W.widen h1 h2 (kk u H1 locs1 ⟨hP, hD, hS⟩)
end CALLS
theorem k_loop {g : GE} {p : Program} {l : Launch} {e : Env} {R : Room} {s : State} {m : MethodId} {args : Array Value} {below : List Frame} {meth : Method} {c : Code} {H : Heap} {locs : List Loc} {cells slots : Nat} {Q : State → Prop} {A : Nat → Prop} {pc nL : Nat} {ls : Array Slot} {f0 : Nat → Int32} (N : Nat) (J : Nat → (Nat → Int32) → va_W) (L : Nat → List (Nat × Value)) (h0 : ST g A s (J 0 f0) H locs) (hl0 : lv_has ls nL (L 0))
    (body : ∀ i, i < N → (∀ (f : Nat → Int32) (H : Heap) (locs : List Loc) (ls : Array Slot), ST g A s (J (i + 1) f) H locs → lv_has ls nL (L (i + 1)) → W p l e R s m args below meth c H locs cells slots Q (F0 m pc ls [])) → ∀ (f : Nat → Int32) (H : Heap) (locs : List Loc) (ls : Array Slot), ST g A s (J i f) H locs → lv_has ls nL (L i) → W p l e R s m args below meth c H locs cells slots Q (F0 m pc ls []))
    (exit : ∀ (f : Nat → Int32) (H : Heap) (locs : List Loc) (ls : Array Slot), ST g A s (J N f) H locs → lv_has ls nL (L N) → W p l e R s m args below meth c H locs cells slots Q (F0 m pc ls [])) : W p l e R s m args below meth c H locs cells slots Q (F0 m pc ls []) := by
  have key : ∀ (n i : Nat), i + n = N → ∀ (f : Nat → Int32) (H : Heap) (locs : List Loc) (ls : Array Slot), ST g A s (J i f) H locs → lv_has ls nL (L i) → W p l e R s m args below meth c H locs cells slots Q (F0 m pc ls []) := by
    intro n
    induction n with
    | zero => intro i hi; have e0 : i = N := by omega
              subst e0; exact exit
    | succ n ih => intro i hi; exact body i (by omega) (ih (i + 1) (by omega))
  exact key N 0 (by omega) f0 H locs ls h0 hl0
theorem k_start {l : Launch} {g : GE} {y : MethodName} {cc : ByteArray} {nL : Nat} {ret : Option FieldType} {rm : Room} {av : List Value} {ws : va_W} {sz : Nat} {Qc : Array Value → State → Outcome → State → Prop} {mc ms : Nat} (hy : plainName y.cls = true) (hln : (lg_sl av).length ≤ nL)
    (body : ∀ (p : Program) (e : Env) (s : State) (m : MethodId) (below : List Frame) (meth : Method) (c : Code) (A : Nat → Prop) (H : Heap) (locs : List Loc), A = va_A ws sz → CX g p s m meth c av.toArray cc nL y.cls y.name ret A → ST g A s ws H locs → ∀ ls : Array Slot, lv_has ls nL (lv_args 0 av) → W p l e rm s m av.toArray below meth c H locs 0 0 (MQ below Qc av.toArray s mc ms (va_A ws sz)) (F0 m 0 ls [])) :
    Met l y (.code y cc nL ret :: WL) rm (PR g av ws sz) Qc mc ms (va_A ws sz) := by
  refine Met.ofW (cc := cc) (maxL := nL) (ret := ret) hy rfl ?_
  intro p e s m args below meth c s₁ B hml hv
  obtain ⟨rfl, hsz, hP, hE, hD0⟩ := hv
  have hts := atoms_spec (ws := .code y cc nL ret :: WL) B.pre
  have hl := lv_entry av (n := nL) hln
  rw [lg_entry_eq]
  generalize (lg_sl av ++ List.replicate (nL - (lg_sl av).length) Slot.unset).toArray = ls at hl ⊢
  exact body p e s m below meth c _ _ _ rfl ⟨B.exec, B.bytes, hml, findClass_of_methodNamed B.named, fun w hw => hts w (List.mem_cons_of_mem _ hw), hE, fun q h => Or.inr (by rw [← hsz]; exact h), B.returns, B.notSynchronized, (name_of_methodNamed B.named B.method).1⟩ ⟨hP, hD0.self, va_S.rf⟩ ls hl
end
section
set_option maxRecDepth 20000 in
theorem cw_X2_22 : CWV RX2 22 RX2 yX2_widen cX2_widen 5 none 1 := CWV.mk lk_X2_22 li_X2_widen ls_X2_widen lk_ini2 lc_X2_widen (by decide +kernel)
set_option maxRecDepth 20000 in
theorem cw_X2_26 : CWV RX2 26 RX2 yX2_put cX2_put 3 none 2 := CWV.mk lk_X2_26 li_X2_put ls_X2_put lk_ini2 lc_X2_put (by decide +kernel)
set_option maxRecDepth 20000 in
theorem cw_X2_42 : CWV RX2 42 RX2 yX2_addPart cX2_addPart 5 none 3 := CWV.mk lk_X2_42 li_X2_addPart ls_X2_addPart lk_ini2 lc_X2_addPart (by decide +kernel)
set_option maxRecDepth 20000 in
theorem cw_X2_46 : CWV RX2 46 RX2 yX2_add cX2_add 2 none 1 := CWV.mk lk_X2_46 li_X2_add ls_X2_add lk_ini2 lc_X2_add (by decide +kernel)
set_option maxRecDepth 20000 in
theorem cw_X2_49 : CWV RX2 49 RX2 yX2_get cX2_get 2 (some .int) 1 := CWV.mk lk_X2_49 li_X2_get ls_X2_get lk_ini2 lc_X2_get (by decide +kernel)
set_option maxRecDepth 20000 in
theorem cw_X5_11 : CWI RX5 11 yX2_init cX2_init 2 1 := ⟨gCode lc_X2_init, lk_ini2, lk_X5_11, li_X2_init, rfl, by decide +kernel⟩
set_option maxRecDepth 20000 in
theorem cw_X3_44 : CWI RX3 44 yX2_init cX2_init 2 1 := ⟨gCode lc_X2_init, lk_ini2, lk_X3_44, li_X2_init, rfl, by decide +kernel⟩
set_option maxRecDepth 20000 in
theorem cw_X3_51 : CWV RX3 51 RX3 yX3_leastAbove cX3_leastAbove 3 (some .int) 1 := CWV.mk lk_X3_51 li_X3_leastAbove ls_X3_leastAbove lk_ini3 lc_X3_leastAbove (by decide +kernel)
set_option maxRecDepth 20000 in
theorem cw_X3_55 : CWV RX3 55 RX3 yX3_comeTo cX3_comeTo 2 none 1 := CWV.mk lk_X3_55 li_X3_comeTo ls_X3_comeTo lk_ini3 lc_X3_comeTo (by decide +kernel)
set_option maxRecDepth 20000 in
theorem cw_X3_89 : CWV RX3 89 RX3 yX3_occurrencesThere cX3_occurrencesThere 5 (some .int) 1 := CWV.mk lk_X3_89 li_X3_occurrencesThere ls_X3_occurrencesThere lk_ini3 lc_X3_occurrencesThere (by decide +kernel)
set_option maxRecDepth 20000 in
theorem cw_X3_78 : CWV RX3 78 RX5 yX5_size cX5_size 1 (some .int) 0 := CWV.mk lk_X3_78 li_X5_size ls_X5_size lk_ini5 lc_X5_size (by decide +kernel)
set_option maxRecDepth 20000 in
theorem cw_X3_139 : CWV RX3 139 RX3 yX3_putItems cX3_putItems 11 none 5 := CWV.mk lk_X3_139 li_X3_putItems ls_X3_putItems lk_ini3 lc_X3_putItems (by decide +kernel)
set_option maxRecDepth 20000 in
theorem cw_X3_104 : CWV RX3 104 RX2 yX2_size cX2_size 1 (some .int) 0 := CWV.mk lk_X3_104 li_X2_size ls_X2_size lk_ini2 lc_X2_size (by decide +kernel)
set_option maxRecDepth 20000 in
theorem cw_X3_153 : CWV RX3 153 RX2 yX2_get cX2_get 2 (some .int) 1 := CWV.mk lk_X3_153 li_X2_get ls_X2_get lk_ini2 lc_X2_get (by decide +kernel)
set_option maxRecDepth 20000 in
theorem cw_X3_101 : CWV RX3 101 RX2 yX2_add cX2_add 2 none 1 := CWV.mk lk_X3_101 li_X2_add ls_X2_add lk_ini2 lc_X2_add (by decide +kernel)
set_option maxRecDepth 20000 in
theorem cw_X4_11 : CWI RX4 11 yX2_init cX2_init 2 1 := ⟨gCode lc_X2_init, lk_ini2, lk_X4_11, li_X2_init, rfl, by decide +kernel⟩
set_option maxRecDepth 20000 in
theorem cw_X4_40 : CWI RX4 40 yX3_init cX3_init 3 1 := ⟨gCode lc_X3_init, lk_ini3, lk_X4_40, li_X3_init, rfl, by decide +kernel⟩
set_option maxRecDepth 20000 in
theorem cw_X4_43 : CWV RX4 43 RX2 yX2_copyOf cX2_copyOf 2 none 1 := CWV.mk lk_X4_43 li_X2_copyOf ls_X2_copyOf lk_ini2 lc_X2_copyOf (by decide +kernel)
set_option maxRecDepth 20000 in
theorem cw_X4_50 : CWV RX4 50 RX3 yX3_begin cX3_begin 3 none 1 := CWV.mk lk_X4_50 li_X3_begin ls_X3_begin lk_ini3 lc_X3_begin (by decide +kernel)
set_option maxRecDepth 20000 in
theorem cw_X4_56 : CWV RX4 56 RX4 yX4_uppermost cX4_uppermost 1 (some (.object "SnippetStops$Session")) 0 := CWV.mk lk_X4_56 li_X4_uppermost ls_X4_uppermost lk_ini4 lc_X4_uppermost (by decide +kernel)
set_option maxRecDepth 20000 in
theorem cw_X4_63 : CWV RX4 63 RX4 yX4_settle cX4_settle 3 (some .boolean) 0 := CWV.mk lk_X4_63 li_X4_settle ls_X4_settle lk_ini4 lc_X4_settle (by decide +kernel)
set_option maxRecDepth 20000 in
theorem cw_X4_71 : CWV RX4 71 RX3 yX3_findThere cX3_findThere 6 (some (.object "SnippetStops$Occurrence")) 2 := CWV.mk lk_X4_71 li_X3_findThere ls_X3_findThere lk_ini3 lc_X3_findThere (by decide +kernel)
set_option maxRecDepth 20000 in
theorem cw_X4_75 : CWV RX4 75 RX2 yX2_size cX2_size 1 (some .int) 0 := CWV.mk lk_X4_75 li_X2_size ls_X2_size lk_ini2 lc_X2_size (by decide +kernel)
set_option maxRecDepth 20000 in
theorem cw_X4_83 : CWV RX4 83 RX2 yX2_insert cX2_insert 4 none 2 := CWV.mk lk_X4_83 li_X2_insert ls_X2_insert lk_ini2 lc_X2_insert (by decide +kernel)
set_option maxRecDepth 20000 in
theorem cw_X4_99 : CWV RX4 99 RX2 yX2_empty cX2_empty 1 none 0 := CWV.mk lk_X4_99 li_X2_empty ls_X2_empty lk_ini2 lc_X2_empty (by decide +kernel)
set_option maxRecDepth 20000 in
theorem cw_X4_102 : CWV RX4 102 RX3 yX3_layOut cX3_layOut 2 none 1 := CWV.mk lk_X4_102 li_X3_layOut ls_X3_layOut lk_ini3 lc_X3_layOut (by decide +kernel)
set_option maxRecDepth 20000 in
theorem cw_X4_112 : CWV RX4 112 RX2 yX2_addPart cX2_addPart 5 none 3 := CWV.mk lk_X4_112 li_X2_addPart ls_X2_addPart lk_ini2 lc_X2_addPart (by decide +kernel)
set_option maxRecDepth 20000 in
theorem cw_X1_49 : CWV RX1 49 RX2 yX2_size cX2_size 1 (some .int) 0 := CWV.mk lk_X1_49 li_X2_size ls_X2_size lk_ini2 lc_X2_size (by decide +kernel)
set_option maxRecDepth 20000 in
theorem cw_X1_55 : CWV RX1 55 RX2 yX2_get cX2_get 2 (some .int) 1 := CWV.mk lk_X1_55 li_X2_get ls_X2_get lk_ini2 lc_X2_get (by decide +kernel)
set_option maxRecDepth 20000 in
theorem cw_X1_63 : CWV RX1 63 RX5 yX5_settleMasters cX5_settleMasters 3 none 0 := CWV.mk lk_X1_63 li_X5_settleMasters ls_X5_settleMasters lk_ini5 lc_X5_settleMasters (by decide +kernel)
set_option maxRecDepth 20000 in
theorem cw_X6_11 : CWI RX6 11 yX2_init cX2_init 2 1 := ⟨gCode lc_X2_init, lk_ini2, lk_X6_11, li_X2_init, rfl, by decide +kernel⟩
set_option maxRecDepth 20000 in
theorem cw_X6_44 : CWI RX6 44 yX4_init cX4_init 3 1 := ⟨gCode lc_X4_init, lk_ini4, lk_X6_44, li_X4_init, rfl, by decide +kernel⟩
set_option maxRecDepth 20000 in
theorem cw_X6_54 : CWV RX6 54 RX6 yX6_refuse cX6_refuse 2 (some .int) 1 := CWV.mk lk_X6_54 li_X6_refuse ls_X6_refuse lk_ini6 lc_X6_refuse (by decide +kernel)
set_option maxRecDepth 20000 in
theorem cw_X6_58 : CWV RX6 58 RX2 yX2_size cX2_size 1 (some .int) 0 := CWV.mk lk_X6_58 li_X2_size ls_X2_size lk_ini2 lc_X2_size (by decide +kernel)
set_option maxRecDepth 20000 in
theorem cw_X6_62 : CWV RX6 62 RX2 yX2_add cX2_add 2 none 1 := CWV.mk lk_X6_62 li_X2_add ls_X2_add lk_ini2 lc_X2_add (by decide +kernel)
set_option maxRecDepth 20000 in
theorem cw_X6_65 : CWV RX6 65 RX2 yX2_empty cX2_empty 1 none 0 := CWV.mk lk_X6_65 li_X2_empty ls_X2_empty lk_ini2 lc_X2_empty (by decide +kernel)
set_option maxRecDepth 20000 in
theorem cw_X6_68 : CWS RX6 68 yX6_isVariable cX6_isVariable 1 (some .boolean) 1 := CWS.mk lk_X6_68 lt_X6_isVariable lk_ini6 lc_X6_isVariable (by decide +kernel)
set_option maxRecDepth 20000 in
theorem cw_X6_72 : CWS RX6 72 yX6_canBeVariable cX6_canBeVariable 2 (some .boolean) 1 := CWS.mk lk_X6_72 lt_X6_canBeVariable lk_ini6 lc_X6_canBeVariable (by decide +kernel)
set_option maxRecDepth 20000 in
theorem cw_X6_76 : CWV RX6 76 RX4 yX4_copyOf cX4_copyOf 3 none 1 := CWV.mk lk_X6_76 li_X4_copyOf ls_X4_copyOf lk_ini4 lc_X4_copyOf (by decide +kernel)
set_option maxRecDepth 20000 in
theorem cw_X6_84 : CWV RX6 84 RX2 yX2_copyOf cX2_copyOf 2 none 1 := CWV.mk lk_X6_84 li_X2_copyOf ls_X2_copyOf lk_ini2 lc_X2_copyOf (by decide +kernel)
set_option maxRecDepth 20000 in
theorem cw_X6_87 : CWV RX6 87 RX6 yX6_lands cX6_lands 3 (some .boolean) 0 := CWV.mk lk_X6_87 li_X6_lands ls_X6_lands lk_ini6 lc_X6_lands (by decide +kernel)
set_option maxRecDepth 20000 in
theorem cw_X6_93 : CWI RX6 93 yX1_init cX1_init 3 2 := ⟨gCode lc_X1_init, lk_ini1, lk_X6_93, li_X1_init, rfl, by decide +kernel⟩
set_option maxRecDepth 20000 in
theorem cw_X6_96 : CWV RX6 96 RX1 yX1_read cX1_read 2 (some .int) 0 := CWV.mk lk_X6_96 li_X1_read ls_X1_read lk_ini1 lc_X1_read (by decide +kernel)
set_option maxRecDepth 20000 in
theorem cw_X6_106 : CWV RX6 106 RX4 yX4_openSession cX4_openSession 3 (some .int) 1 := CWV.mk lk_X6_106 li_X4_openSession ls_X4_openSession lk_ini4 lc_X4_openSession (by decide +kernel)
set_option maxRecDepth 20000 in
theorem cw_X6_110 : CWV RX6 110 RX4 yX4_settle cX4_settle 3 (some .boolean) 0 := CWV.mk lk_X6_110 li_X4_settle ls_X4_settle lk_ini4 lc_X4_settle (by decide +kernel)
set_option maxRecDepth 20000 in
theorem cw_X6_113 : CWV RX6 113 RX4 yX4_endUppermost cX4_endUppermost 5 none 0 := CWV.mk lk_X6_113 li_X4_endUppermost ls_X4_endUppermost lk_ini4 lc_X4_endUppermost (by decide +kernel)
set_option maxRecDepth 20000 in
theorem cw_X6_116 : CWS RX6 116 yX6_isShown cX6_isShown 1 (some .boolean) 1 := CWS.mk lk_X6_116 lt_X6_isShown lk_ini6 lc_X6_isShown (by decide +kernel)
set_option maxRecDepth 20000 in
theorem cw_X6_119 : CWV RX6 119 RX4 yX4_uppermost cX4_uppermost 1 (some (.object "SnippetStops$Session")) 0 := CWV.mk lk_X6_119 li_X4_uppermost ls_X4_uppermost lk_ini4 lc_X4_uppermost (by decide +kernel)
set_option maxRecDepth 20000 in
theorem cw_X6_123 : CWV RX6 123 RX4 yX4_insertAtCaret cX4_insertAtCaret 2 none 1 := CWV.mk lk_X6_123 li_X4_insertAtCaret ls_X4_insertAtCaret lk_ini4 lc_X4_insertAtCaret (by decide +kernel)
set_option maxRecDepth 20000 in
theorem cw_X6_151 : CWV RX6 151 RX3 yX3_leastAbove cX3_leastAbove 3 (some .int) 1 := CWV.mk lk_X6_151 li_X3_leastAbove ls_X3_leastAbove lk_ini3 lc_X3_leastAbove (by decide +kernel)
set_option maxRecDepth 20000 in
theorem cw_X6_166 : CWV RX6 166 RX2 yX2_get cX2_get 2 (some .int) 1 := CWV.mk lk_X6_166 li_X2_get ls_X2_get lk_ini2 lc_X2_get (by decide +kernel)
set_option maxRecDepth 20000 in
theorem cw_X6_176 : CWS RX6 176 yX6_isStop cX6_isStop 1 (some .boolean) 1 := CWS.mk lk_X6_176 lt_X6_isStop lk_ini6 lc_X6_isStop (by decide +kernel)
set_option maxRecDepth 20000 in
theorem cw_X6_179 : CWV RX6 179 RX3 yX3_occurrencesThere cX3_occurrencesThere 5 (some .int) 1 := CWV.mk lk_X6_179 li_X3_occurrencesThere ls_X3_occurrencesThere lk_ini3 lc_X3_occurrencesThere (by decide +kernel)
set_option maxRecDepth 20000 in
theorem cw_X6_190 : CWV RX6 190 RX3 yX3_findThere cX3_findThere 6 (some (.object "SnippetStops$Occurrence")) 2 := CWV.mk lk_X6_190 li_X3_findThere ls_X3_findThere lk_ini3 lc_X3_findThere (by decide +kernel)
set_option maxRecDepth 20000 in
theorem cw_X6_220 : CWV RX6 220 RX6 yX6_told cX6_told 2 (some .int) 1 := CWV.mk lk_X6_220 li_X6_told ls_X6_told lk_ini6 lc_X6_told (by decide +kernel)
set_option maxRecDepth 20000 in
theorem cw_X6_223 : CWV RX6 223 RX6 yX6_count cX6_count 3 (some .int) 1 := CWV.mk lk_X6_223 li_X6_count ls_X6_count lk_ini6 lc_X6_count (by decide +kernel)
set_option maxRecDepth 20000 in
theorem cw_X6_226 : CWV RX6 226 RX6 yX6_stop cX6_stop 4 (some .int) 2 := CWV.mk lk_X6_226 li_X6_stop ls_X6_stop lk_ini6 lc_X6_stop (by decide +kernel)
set_option maxRecDepth 20000 in
theorem cw_X7_232 : CWV RX7 232 RX7 yX7_closes cX7_closes 5 none 4 := CWV.mk lk_X7_232 li_X7_closes ls_X7_closes lk_ini7 lc_X7_closes (by decide +kernel)
set_option maxRecDepth 20000 in
theorem cw_X7_228 : CWV RX7 228 RX7 yX7_opens cX7_opens 6 none 5 := CWV.mk lk_X7_228 li_X7_opens ls_X7_opens lk_ini7 lc_X7_opens (by decide +kernel)
set_option maxRecDepth 20000 in
theorem cw_X7_242 : CWV RX7 242 RX7 yX7_step cX7_step 4 none 1 := CWV.mk lk_X7_242 li_X7_step ls_X7_step lk_ini7 lc_X7_step (by decide +kernel)
set_option maxRecDepth 20000 in
theorem cw_X7_260 : CWV RX7 260 RX7 yX7_showsAll cX7_showsAll 2 none 1 := CWV.mk lk_X7_260 li_X7_showsAll ls_X7_showsAll lk_ini7 lc_X7_showsAll (by decide +kernel)
set_option maxRecDepth 20000 in
theorem cw_X7_272 : CWV RX7 272 RX7 yX7_put cX7_put 2 none 1 := CWV.mk lk_X7_272 li_X7_put ls_X7_put lk_ini7 lc_X7_put (by decide +kernel)
set_option maxRecDepth 20000 in
theorem cw_X7_297 : CWV RX7 297 RX7 yX7_copiesState cX7_copiesState 5 none 2 := CWV.mk lk_X7_297 li_X7_copiesState ls_X7_copiesState lk_ini7 lc_X7_copiesState (by decide +kernel)
set_option maxRecDepth 20000 in
theorem cw_X7_306 : CWV RX7 306 RX7 yX7_documentBytes cX7_documentBytes 1 (some .int) 0 := CWV.mk lk_X7_306 li_X7_documentBytes ls_X7_documentBytes lk_ini7 lc_X7_documentBytes (by decide +kernel)
set_option maxRecDepth 20000 in
theorem cw_X7_322 : CWV RX7 322 RX7 yX7_first cX7_first 5 (some .int) 2 := CWV.mk lk_X7_322 li_X7_first ls_X7_first lk_ini7 lc_X7_first (by decide +kernel)
set_option maxRecDepth 20000 in
theorem cw_X7_325 : CWV RX7 325 RX7 yX7_comesIn cX7_comesIn 4 none 2 := CWV.mk lk_X7_325 li_X7_comesIn ls_X7_comesIn lk_ini7 lc_X7_comesIn (by decide +kernel)
set_option maxRecDepth 20000 in
theorem cw_X7_138 : CWS RX7 138 yX7_in cX7_in 3 (some .boolean) 3 := CWS.mk lk_X7_138 lt_X7_in lk_ini7 lc_X7_in (by decide +kernel)
set_option maxRecDepth 20000 in
theorem cw_X7_328 : CWV RX7 328 RX7 yX7_isStopThere cX7_isStopThere 5 (some .boolean) 2 := CWV.mk lk_X7_328 li_X7_isStopThere ls_X7_isStopThere lk_ini7 lc_X7_isStopThere (by decide +kernel)
set_option maxRecDepth 20000 in
theorem cw_X7_331 : CWV RX7 331 RX7 yX7_bad cX7_bad 1 (some .int) 0 := CWV.mk lk_X7_331 li_X7_bad ls_X7_bad lk_ini7 lc_X7_bad (by decide +kernel)
set_option maxRecDepth 20000 in
theorem cw_X7_334 : CWV RX7 334 RX7 yX7_writes cX7_writes 3 none 1 := CWV.mk lk_X7_334 li_X7_writes ls_X7_writes lk_ini7 lc_X7_writes (by decide +kernel)
set_option maxRecDepth 20000 in
theorem cw_X7_316 : CWV RX7 316 RX7 yX7_leavesState cX7_leavesState 2 none 0 := CWV.mk lk_X7_316 li_X7_leavesState ls_X7_leavesState lk_ini7 lc_X7_leavesState (by decide +kernel)
set_option maxRecDepth 20000 in
theorem cw_X7_337 : CWV RX7 337 RX7 yX7_settles cX7_settles 6 none 1 := CWV.mk lk_X7_337 li_X7_settles ls_X7_settles lk_ini7 lc_X7_settles (by decide +kernel)
set_option maxRecDepth 20000 in
theorem cw_X7_340 : CWV RX7 340 RX7 yX7_nextStop cX7_nextStop 5 (some .int) 3 := CWV.mk lk_X7_340 li_X7_nextStop ls_X7_nextStop lk_ini7 lc_X7_nextStop (by decide +kernel)
set_option maxRecDepth 20000 in
theorem cw_X7_343 : CWV RX7 343 RX7 yX7_passesDown cX7_passesDown 2 none 0 := CWV.mk lk_X7_343 li_X7_passesDown ls_X7_passesDown lk_ini7 lc_X7_passesDown (by decide +kernel)
set_option maxRecDepth 20000 in
theorem cw_X7_346 : CWV RX7 346 RX7 yX7_reads cX7_reads 4 (some .boolean) 1 := CWV.mk lk_X7_346 li_X7_reads ls_X7_reads lk_ini7 lc_X7_reads (by decide +kernel)
set_option maxRecDepth 20000 in
theorem cw_X7_300 : CWV RX7 300 RX7 yX7_no cX7_no 1 (some .int) 0 := CWV.mk lk_X7_300 li_X7_no ls_X7_no lk_ini7 lc_X7_no (by decide +kernel)
set_option maxRecDepth 20000 in
theorem cw_X7_349 : CWV RX7 349 RX7 yX7_begun cX7_begun 3 none 1 := CWV.mk lk_X7_349 li_X7_begun ls_X7_begun lk_ini7 lc_X7_begun (by decide +kernel)
set_option maxRecDepth 20000 in
theorem cw_X7_309 : CWV RX7 309 RX7 yX7_isTooLong cX7_isTooLong 2 (some .boolean) 0 := CWV.mk lk_X7_309 li_X7_isTooLong ls_X7_isTooLong lk_ini7 lc_X7_isTooLong (by decide +kernel)
set_option maxRecDepth 20000 in
theorem cw_X7_352 : CWV RX7 352 RX7 yX7_finishes cX7_finishes 4 none 0 := CWV.mk lk_X7_352 li_X7_finishes ls_X7_finishes lk_ini7 lc_X7_finishes (by decide +kernel)
set_option maxRecDepth 20000 in
theorem cw_X7_382 : CWV RX7 382 RX7 yX7_countOf cX7_countOf 3 (some .int) 1 := CWV.mk lk_X7_382 li_X7_countOf ls_X7_countOf lk_ini7 lc_X7_countOf (by decide +kernel)
set_option maxRecDepth 20000 in
theorem cw_X7_403 : CWV RX7 403 RX7 yX7_toldOf cX7_toldOf 2 (some .int) 1 := CWV.mk lk_X7_403 li_X7_toldOf ls_X7_toldOf lk_ini7 lc_X7_toldOf (by decide +kernel)
set_option maxRecDepth 20000 in
theorem cw_L_9 : CWI RL 9 yX6_init cX6_init 3 0 := ⟨gCode lc_X6_init, lk_ini6, lk_L_9, li_X6_init, rfl, by decide +kernel⟩
set_option maxRecDepth 20000 in
theorem cw_L_12 : CWI RL 12 yX7_init cX7_init 1 0 := ⟨gCode lc_X7_init, lk_ini7, lk_L_12, li_X7_init, rfl, by decide +kernel⟩
set_option maxRecDepth 20000 in
theorem cw_L_13 : CWV RL 13 RX6 yX6_type cX6_type 2 (some .int) 1 := CWV.mk lk_L_13 li_X6_type ls_X6_type lk_ini6 lc_X6_type (by decide +kernel)
set_option maxRecDepth 20000 in
theorem cw_L_17 : CWV RL 17 RX7 yX7_type cX7_type 2 (some .int) 1 := CWV.mk lk_L_17 li_X7_type ls_X7_type lk_ini7 lc_X7_type (by decide +kernel)
set_option maxRecDepth 20000 in
theorem cw_L_18 : CWV RL 18 RX6 yX6_clear cX6_clear 2 (some .int) 0 := CWV.mk lk_L_18 li_X6_clear ls_X6_clear lk_ini6 lc_X6_clear (by decide +kernel)
set_option maxRecDepth 20000 in
theorem cw_L_22 : CWV RL 22 RX7 yX7_clear cX7_clear 2 (some .int) 0 := CWV.mk lk_L_22 li_X7_clear ls_X7_clear lk_ini7 lc_X7_clear (by decide +kernel)
set_option maxRecDepth 20000 in
theorem cw_L_23 : CWV RL 23 RX6 yX6_variable cX6_variable 2 (some .int) 1 := CWV.mk lk_L_23 li_X6_variable ls_X6_variable lk_ini6 lc_X6_variable (by decide +kernel)
set_option maxRecDepth 20000 in
theorem cw_L_26 : CWV RL 26 RX7 yX7_variable cX7_variable 4 (some .int) 1 := CWV.mk lk_L_26 li_X7_variable ls_X7_variable lk_ini7 lc_X7_variable (by decide +kernel)
set_option maxRecDepth 20000 in
theorem cw_L_27 : CWV RL 27 RX6 yX6_begins cX6_begins 4 (some .int) 0 := CWV.mk lk_L_27 li_X6_begins ls_X6_begins lk_ini6 lc_X6_begins (by decide +kernel)
set_option maxRecDepth 20000 in
theorem cw_L_30 : CWV RL 30 RX7 yX7_begins cX7_begins 3 (some .int) 0 := CWV.mk lk_L_30 li_X7_begins ls_X7_begins lk_ini7 lc_X7_begins (by decide +kernel)
set_option maxRecDepth 20000 in
theorem cw_L_31 : CWV RL 31 RX6 yX6_key cX6_key 3 (some .int) 1 := CWV.mk lk_L_31 li_X6_key ls_X6_key lk_ini6 lc_X6_key (by decide +kernel)
set_option maxRecDepth 20000 in
theorem cw_L_34 : CWV RL 34 RX7 yX7_key cX7_key 2 (some .int) 1 := CWV.mk lk_L_34 li_X7_key ls_X7_key lk_ini7 lc_X7_key (by decide +kernel)
set_option maxRecDepth 20000 in
theorem cw_L_35 : CWV RL 35 RX6 yX6_rubs cX6_rubs 2 (some .int) 0 := CWV.mk lk_L_35 li_X6_rubs ls_X6_rubs lk_ini6 lc_X6_rubs (by decide +kernel)
set_option maxRecDepth 20000 in
theorem cw_L_38 : CWV RL 38 RX7 yX7_rubs cX7_rubs 1 (some .int) 0 := CWV.mk lk_L_38 li_X7_rubs ls_X7_rubs lk_ini7 lc_X7_rubs (by decide +kernel)
set_option maxRecDepth 20000 in
theorem cw_L_39 : CWV RL 39 RX6 yX6_nexts cX6_nexts 3 (some .int) 0 := CWV.mk lk_L_39 li_X6_nexts ls_X6_nexts lk_ini6 lc_X6_nexts (by decide +kernel)
set_option maxRecDepth 20000 in
theorem cw_L_42 : CWV RL 42 RX7 yX7_nexts cX7_nexts 2 (some .int) 0 := CWV.mk lk_L_42 li_X7_nexts ls_X7_nexts lk_ini7 lc_X7_nexts (by decide +kernel)
set_option maxRecDepth 20000 in
theorem cw_L_43 : CWV RL 43 RX6 yX6_prevs cX6_prevs 3 (some .int) 0 := CWV.mk lk_L_43 li_X6_prevs ls_X6_prevs lk_ini6 lc_X6_prevs (by decide +kernel)
set_option maxRecDepth 20000 in
theorem cw_L_46 : CWV RL 46 RX7 yX7_prevs cX7_prevs 2 (some .int) 0 := CWV.mk lk_L_46 li_X7_prevs ls_X7_prevs lk_ini7 lc_X7_prevs (by decide +kernel)
set_option maxRecDepth 20000 in
theorem cw_L_47 : CWV RL 47 RX6 yX6_picks cX6_picks 3 (some .int) 1 := CWV.mk lk_L_47 li_X6_picks ls_X6_picks lk_ini6 lc_X6_picks (by decide +kernel)
set_option maxRecDepth 20000 in
theorem cw_L_50 : CWV RL 50 RX7 yX7_picks cX7_picks 5 (some .int) 1 := CWV.mk lk_L_50 li_X7_picks ls_X7_picks lk_ini7 lc_X7_picks (by decide +kernel)
set_option maxRecDepth 20000 in
theorem cw_L_51 : CWV RL 51 RX6 yX6_ends cX6_ends 1 (some .int) 0 := CWV.mk lk_L_51 li_X6_ends ls_X6_ends lk_ini6 lc_X6_ends (by decide +kernel)
set_option maxRecDepth 20000 in
theorem cw_L_54 : CWV RL 54 RX7 yX7_ends cX7_ends 1 (some .int) 0 := CWV.mk lk_L_54 li_X7_ends ls_X7_ends lk_ini7 lc_X7_ends (by decide +kernel)
set_option maxRecDepth 20000 in
theorem cw_L_55 : CWV RL 55 RX6 yX6_caret cX6_caret 3 (some .int) 1 := CWV.mk lk_L_55 li_X6_caret ls_X6_caret lk_ini6 lc_X6_caret (by decide +kernel)
set_option maxRecDepth 20000 in
theorem cw_L_58 : CWV RL 58 RX7 yX7_caret cX7_caret 3 (some .int) 1 := CWV.mk lk_L_58 li_X7_caret ls_X7_caret lk_ini7 lc_X7_caret (by decide +kernel)
set_option maxRecDepth 20000 in
theorem cw_L_59 : CWV RL 59 RX6 yX6_cuts cX6_cuts 4 (some .int) 2 := CWV.mk lk_L_59 li_X6_cuts ls_X6_cuts lk_ini6 lc_X6_cuts (by decide +kernel)
set_option maxRecDepth 20000 in
theorem cw_L_63 : CWV RL 63 RX7 yX7_cuts cX7_cuts 5 (some .int) 2 := CWV.mk lk_L_63 li_X7_cuts ls_X7_cuts lk_ini7 lc_X7_cuts (by decide +kernel)
set_option maxRecDepth 20000 in
theorem cw_L_64 : CWV RL 64 RX6 yX6_at cX6_at 2 (some .int) 1 := CWV.mk lk_L_64 li_X6_at ls_X6_at lk_ini6 lc_X6_at (by decide +kernel)
set_option maxRecDepth 20000 in
theorem cw_L_67 : CWV RL 67 RX7 yX7_at cX7_at 2 (some .int) 1 := CWV.mk lk_L_67 li_X7_at ls_X7_at lk_ini7 lc_X7_at (by decide +kernel)
set_option maxRecDepth 20000 in
theorem cw_L_68 : CWV RL 68 RX6 yX6_count cX6_count 3 (some .int) 1 := CWV.mk lk_L_68 li_X6_count ls_X6_count lk_ini6 lc_X6_count (by decide +kernel)
set_option maxRecDepth 20000 in
theorem cw_L_71 : CWV RL 71 RX7 yX7_count cX7_count 2 (some .int) 1 := CWV.mk lk_L_71 li_X7_count ls_X7_count lk_ini7 lc_X7_count (by decide +kernel)
set_option maxRecDepth 20000 in
theorem cw_L_72 : CWV RL 72 RX6 yX6_stop cX6_stop 4 (some .int) 2 := CWV.mk lk_L_72 li_X6_stop ls_X6_stop lk_ini6 lc_X6_stop (by decide +kernel)
set_option maxRecDepth 20000 in
theorem cw_L_75 : CWV RL 75 RX7 yX7_stop cX7_stop 3 (some .int) 2 := CWV.mk lk_L_75 li_X7_stop ls_X7_stop lk_ini7 lc_X7_stop (by decide +kernel)
set_option maxRecDepth 20000 in
theorem cw_L_76 : CWV RL 76 RX6 yX6_held cX6_held 4 (some .int) 2 := CWV.mk lk_L_76 li_X6_held ls_X6_held lk_ini6 lc_X6_held (by decide +kernel)
set_option maxRecDepth 20000 in
theorem cw_L_79 : CWV RL 79 RX7 yX7_held cX7_held 3 (some .int) 2 := CWV.mk lk_L_79 li_X7_held ls_X7_held lk_ini7 lc_X7_held (by decide +kernel)
set_option maxRecDepth 20000 in
theorem cw_L_80 : CWV RL 80 RX6 yX6_choice cX6_choice 5 (some .int) 3 := CWV.mk lk_L_80 li_X6_choice ls_X6_choice lk_ini6 lc_X6_choice (by decide +kernel)
set_option maxRecDepth 20000 in
theorem cw_L_84 : CWV RL 84 RX7 yX7_choice cX7_choice 6 (some .int) 3 := CWV.mk lk_L_84 li_X7_choice ls_X7_choice lk_ini7 lc_X7_choice (by decide +kernel)
set_option maxRecDepth 20000 in
theorem cw_L_85 : CWV RL 85 RX6 yX6_occurrence cX6_occurrence 6 (some .int) 3 := CWV.mk lk_L_85 li_X6_occurrence ls_X6_occurrence lk_ini6 lc_X6_occurrence (by decide +kernel)
set_option maxRecDepth 20000 in
theorem cw_L_88 : CWV RL 88 RX7 yX7_occurrence cX7_occurrence 7 (some .int) 3 := CWV.mk lk_L_88 li_X7_occurrence ls_X7_occurrence lk_ini7 lc_X7_occurrence (by decide +kernel)
set_option maxRecDepth 20000 in
theorem cw_L_89 : CWV RL 89 RX6 yX6_unlike cX6_unlike 2 (some .int) 0 := CWV.mk lk_L_89 li_X6_unlike ls_X6_unlike lk_ini6 lc_X6_unlike (by decide +kernel)
set_option maxRecDepth 20000 in
theorem cw_L_92 : CWV RL 92 RX7 yX7_unlike cX7_unlike 6 (some .int) 0 := CWV.mk lk_L_92 li_X7_unlike ls_X7_unlike lk_ini7 lc_X7_unlike (by decide +kernel)
set_option maxRecDepth 20000 in
theorem cw_L_93 : CWV RL 93 RX6 yX6_variableAt cX6_variableAt 3 (some .int) 2 := CWV.mk lk_L_93 li_X6_variableAt ls_X6_variableAt lk_ini6 lc_X6_variableAt (by decide +kernel)
set_option maxRecDepth 20000 in
theorem cw_L_96 : CWV RL 96 RX7 yX7_variableAt cX7_variableAt 3 (some .int) 2 := CWV.mk lk_L_96 li_X7_variableAt ls_X7_variableAt lk_ini7 lc_X7_variableAt (by decide +kernel)
set_option maxRecDepth 20000 in
theorem cw_L_97 : CWV RL 97 RX6 yX6_back cX6_back 2 (some .int) 0 := CWV.mk lk_L_97 li_X6_back ls_X6_back lk_ini6 lc_X6_back (by decide +kernel)
set_option maxRecDepth 20000 in
theorem cw_L_100 : CWV RL 100 RX7 yX7_back cX7_back 1 (some .int) 0 := CWV.mk lk_L_100 li_X7_back ls_X7_back lk_ini7 lc_X7_back (by decide +kernel)
set_option maxRecDepth 20000 in
theorem cw_L_101 : CWV RL 101 RX6 yX6_told cX6_told 2 (some .int) 1 := CWV.mk lk_L_101 li_X6_told ls_X6_told lk_ini6 lc_X6_told (by decide +kernel)
set_option maxRecDepth 20000 in
theorem cw_L_104 : CWV RL 104 RX7 yX7_told cX7_told 2 (some .int) 1 := CWV.mk lk_L_104 li_X7_told ls_X7_told lk_ini7 lc_X7_told (by decide +kernel)
set_option maxRecDepth 20000 in
theorem cw_L_105 : CWV RL 105 RX6 yX6_digest cX6_digest 5 (some .long) 0 := CWV.mk lk_L_105 li_X6_digest ls_X6_digest lk_ini6 lc_X6_digest (by decide +kernel)
set_option maxRecDepth 20000 in
theorem cw_L_109 : CWV RL 109 RX7 yX7_digest cX7_digest 5 (some .long) 0 := CWV.mk lk_L_109 li_X7_digest ls_X7_digest lk_ini7 lc_X7_digest (by decide +kernel)
set_option maxRecDepth 20000 in
theorem cw_X6_43 : CWN RX6 43 yX5_init "SnippetStops" cX5_init 1 0 := ⟨gCode lc_X5_init, lk_ini5, li_X5_init, rfl, by decide +kernel⟩
set_option maxRecDepth 20000 in
theorem cw_X1_11 : CWN RX1 11 yX5_init "SnippetStops" cX5_init 1 0 := ⟨gCode lc_X5_init, lk_ini5, li_X5_init, rfl, by decide +kernel⟩
theorem df0 : ∀ j, j < 10 → defaultValue (tyX0 j) = vp_V [.int 0, .int 0, .null, .int 0, .int 0, .int 0, .int 0, .int 0, .int 0, .int 0] j := fun j hj => by rcases (show j = 0 ∨ j = 1 ∨ j = 2 ∨ j = 3 ∨ j = 4 ∨ j = 5 ∨ j = 6 ∨ j = 7 ∨ j = 8 ∨ j = 9 by omega) with rfl | rfl | rfl | rfl | rfl | rfl | rfl | rfl | rfl | rfl <;> rfl
theorem df1 : ∀ j, j < 10 → defaultValue (tyX1 j) = vp_V [.null, .null, .null, .int 0, .int 0, .int 0, .int 0, .null, .null, .int 0] j := fun j hj => by rcases (show j = 0 ∨ j = 1 ∨ j = 2 ∨ j = 3 ∨ j = 4 ∨ j = 5 ∨ j = 6 ∨ j = 7 ∨ j = 8 ∨ j = 9 by omega) with rfl | rfl | rfl | rfl | rfl | rfl | rfl | rfl | rfl | rfl <;> rfl
theorem df2 : ∀ j, j < 3 → defaultValue (tyX2 j) = vp_V [.int 0, .null, .int 0] j := fun j hj => by rcases (show j = 0 ∨ j = 1 ∨ j = 2 by omega) with rfl | rfl | rfl <;> rfl
theorem df3 : ∀ j, j < 8 → defaultValue (tyX3 j) = vp_V [.null, .int 0, .int 0, .null, .null, .null, .null, .null] j := fun j hj => by rcases (show j = 0 ∨ j = 1 ∨ j = 2 ∨ j = 3 ∨ j = 4 ∨ j = 5 ∨ j = 6 ∨ j = 7 by omega) with rfl | rfl | rfl | rfl | rfl | rfl | rfl | rfl <;> rfl
theorem df4 : ∀ j, j < 6 → defaultValue (tyX4 j) = vp_V [.null, .int 0, .null, .null, .int 0, .null] j := fun j hj => by rcases (show j = 0 ∨ j = 1 ∨ j = 2 ∨ j = 3 ∨ j = 4 ∨ j = 5 by omega) with rfl | rfl | rfl | rfl | rfl | rfl <;> rfl
theorem df5 : ∀ j, j < 4 → defaultValue (tyX5 j) = vp_V [.null, .null, .int 0, .null] j := fun j hj => by rcases (show j = 0 ∨ j = 1 ∨ j = 2 ∨ j = 3 by omega) with rfl | rfl | rfl | rfl <;> rfl
theorem df6 : ∀ j, j < 9 → defaultValue (tyX6 j) = vp_V [.null, .null, .null, .int 0, .null, .null, .int 0, .int 0, .int 0] j := fun j hj => by rcases (show j = 0 ∨ j = 1 ∨ j = 2 ∨ j = 3 ∨ j = 4 ∨ j = 5 ∨ j = 6 ∨ j = 7 ∨ j = 8 by omega) with rfl | rfl | rfl | rfl | rfl | rfl | rfl | rfl | rfl <;> rfl
theorem df7 : ∀ j, j < 45 → defaultValue (tyX7 j) = vp_V [.null, .null, .int 0, .int 0, .null, .int 0, .null, .null, .null, .null, .null, .null, .null, .null, .null, .null, .null, .null, .null, .null, .null, .int 0, .null, .int 0, .int 0, .int 0, .int 0, .null, .int 0, .null, .int 0, .int 0, .null, .null, .null, .null, .null, .null, .int 0, .null, .null, .null, .int 0, .null, .int 0] j := fun j hj => by rcases (show j = 0 ∨ j = 1 ∨ j = 2 ∨ j = 3 ∨ j = 4 ∨ j = 5 ∨ j = 6 ∨ j = 7 ∨ j = 8 ∨ j = 9 ∨ j = 10 ∨ j = 11 ∨ j = 12 ∨ j = 13 ∨ j = 14 ∨ j = 15 ∨ j = 16 ∨ j = 17 ∨ j = 18 ∨ j = 19 ∨ j = 20 ∨ j = 21 ∨ j = 22 ∨ j = 23 ∨ j = 24 ∨ j = 25 ∨ j = 26 ∨ j = 27 ∨ j = 28 ∨ j = 29 ∨ j = 30 ∨ j = 31 ∨ j = 32 ∨ j = 33 ∨ j = 34 ∨ j = 35 ∨ j = 36 ∨ j = 37 ∨ j = 38 ∨ j = 39 ∨ j = 40 ∨ j = 41 ∨ j = 42 ∨ j = 43 ∨ j = 44 by omega) with rfl | rfl | rfl | rfl | rfl | rfl | rfl | rfl | rfl | rfl | rfl | rfl | rfl | rfl | rfl | rfl | rfl | rfl | rfl | rfl | rfl | rfl | rfl | rfl | rfl | rfl | rfl | rfl | rfl | rfl | rfl | rfl | rfl | rfl | rfl | rfl | rfl | rfl | rfl | rfl | rfl | rfl | rfl | rfl | rfl <;> rfl
end
section
theorem fit1 (f : Nat → Int32) (v : Int32) : ∀ i, i < Int32.toNatClampNeg 1 → fits .byte (.int ((upd f 0 (vp_nar .byte v)) (Int32.toNatClampNeg 0 + i))) = true := by
  intro i hi
  have h1 : i = 0 := by
    have h2 : Int32.toNatClampNeg 1 = 1 := by decide
    omega
  subst h1
  show fits .byte (.int (upd f 0 (vp_nar .byte v) 0)) = true
  rw [pk_us, vp_nar_byte]
  exact pk_fb v

set_option maxHeartbeats 4000000 in
set_option maxRecDepth 100000 in
/-- Row(room) -/
theorem c2_init (l : Launch) (g : GE) (sz : Nat) (h0 : Nat) (room : Int32) : Met l yX2_init (.code yX2_init cX2_init 2 none :: WL) { frames := 1, cells := 1, slots := 0, locals := 12 } (PR g [.ref h0, .int room] [(h0, .inr (2, [.int 0, .null, .int 0]))] sz) (QV g [(h0, .inr (2, [.int 0, .null, .int 0]))] sz (fun u : Nat => [(h0, .inr (2, [.int room, .ref u, .int 0])), (u, .inl (g.2 0, 0, .inl (fun _ => 0)))])) 1 0 (va_A [(h0, .inr (2, [.int 0, .null, .int 0]))] sz) := by
  refine k_start (by decide) (Nat.le_of_ble_eq_true rfl) ?_
  intro pp ee s m bb mm cd A H locs hAe X h ls hl
  have X : CX g pp s m mm cd _ cX2_init 2 RX2 "<init>" none A := X
  have hx := X.1
  have hb := X.2.1
  have hl : lv_has ls 2 [(0, .ref h0), (1, .int room)] := hl
  refine lv_aload_n hx hb dX2_init_0 rfl (lv_at hl 0 rfl) ?_
  refine r_objInit X lk_X2_3 lk_obj_i lk_obj_c hl.1 dX2_init_1 (Nat.le_of_ble_eq_true rfl) (Nat.le_of_ble_eq_true rfl) ?_
  refine lv_aload_n hx hb dX2_init_4 rfl (lv_at hl 0 rfl) ?_
  refine lv_iconst (v := 0) hx hb dX2_init_5 (by decide) ?_
  refine r_newa X h 0 1 0 (atype := .byte) (ty := .byte) (N := 0) lk_aB rfl rfl rfl (by decide) (by decide) (Nat.le_of_ble_eq_true rfl) (Nat.le_of_ble_eq_true rfl) (Nat.le_of_ble_eq_true rfl) (Nat.le_of_ble_eq_true rfl) (Nat.le_of_ble_eq_true rfl) dX2_init_6 (fun q_1 H h => ?_)
  have h : ST g A s [(h0, .inr (2, [.int 0, .null, .int 0])), (q_1, .inl (g.2 0, 0, .inl (fun _ => 0)))] H locs := h
  refine r_put X h kl2 0 1 (v := .ref q_1) rfl (by decide) lk_X2_9 rfl rfl rfl (by decide) dX2_init_8 (fun H locs h => ?_)
  have h : ST g A s [(h0, .inr (2, [.int 0, .ref q_1, .int 0])), (q_1, .inl (g.2 0, 0, .inl (fun _ => 0)))] H locs := h
  refine lv_aload_n hx hb dX2_init_11 rfl (lv_at hl 0 rfl) ?_
  refine lv_iconst (v := 0) hx hb dX2_init_12 (by decide) ?_
  refine r_put X h kl2 0 2 (v := .int 0) rfl (by decide) lk_X2_15 rfl rfl rfl (by decide) dX2_init_13 (fun H locs h => ?_)
  have h : ST g A s [(h0, .inr (2, [.int 0, .ref q_1, .int 0])), (q_1, .inl (g.2 0, 0, .inl (fun _ => 0)))] H locs := h
  refine lv_aload_n hx hb dX2_init_16 rfl (lv_at hl 0 rfl) ?_
  refine lv_iload_n hx hb dX2_init_17 rfl (lv_at hl 1 rfl) ?_
  refine r_putF X h kl2 0 0 (v := .int room) rfl (by decide) lk_X2_19 rfl rfl rfl rfl (by decide) dX2_init_18 (fun H locs h => ?_)
  have h : ST g A s [(h0, .inr (2, [.int room, .ref q_1, .int 0])), (q_1, .inl (g.2 0, 0, .inl (fun _ => 0)))] H locs := h
  exact r_vret X h hAe q_1 [0, 1] rfl rfl 1 0 (Nat.le_of_ble_eq_true rfl) (Nat.le_of_ble_eq_true rfl) dX2_init_21

set_option maxHeartbeats 4000000 in
set_option maxRecDepth 100000 in
/-- Row.size() -/
theorem c2_size (l : Launch) (g : GE) (sz : Nat) (h0 : Nat) (room : Int32) (b : Nat) (size : Int32) : Met l yX2_size (.code yX2_size cX2_size 1 (some .int) :: WL) { frames := 0, cells := 0, slots := 0, locals := 0 } (PR g [.ref h0] [(h0, .inr (2, [.int room, .ref b, .int size]))] sz) (QI g [(h0, .inr (2, [.int room, .ref b, .int size]))] sz size (fun _ : Unit => [(h0, .inr (2, [.int room, .ref b, .int size]))])) 0 0 (va_A [(h0, .inr (2, [.int room, .ref b, .int size]))] sz) := by
  refine k_start (by decide) (Nat.le_of_ble_eq_true rfl) ?_
  intro pp ee s m bb mm cd A H locs hAe X h ls hl
  have X : CX g pp s m mm cd _ cX2_size 1 RX2 "size" (some .int) A := X
  have hx := X.1
  have hb := X.2.1
  have hl : lv_has ls 1 [(0, .ref h0)] := hl
  refine lv_aload_n hx hb dX2_size_0 rfl (lv_at hl 0 rfl) ?_
  refine r_get X h kl2 0 2 rfl (by decide) lk_X2_15 rfl dX2_size_1 ?_
  exact r_iret X h hAe () [0] rfl rfl 0 0 (Nat.le_of_ble_eq_true rfl) (Nat.le_of_ble_eq_true rfl) rfl dX2_size_4

set_option maxHeartbeats 4000000 in
set_option maxRecDepth 100000 in
/-- Row.empty() -/
theorem c2_empty (l : Launch) (g : GE) (sz : Nat) (h0 : Nat) (room : Int32) (b : Nat) (size : Int32) : Met l yX2_empty (.code yX2_empty cX2_empty 1 none :: WL) { frames := 0, cells := 0, slots := 0, locals := 0 } (PR g [.ref h0] [(h0, .inr (2, [.int room, .ref b, .int size]))] sz) (QV g [(h0, .inr (2, [.int room, .ref b, .int size]))] sz (fun _ : Unit => [(h0, .inr (2, [.int room, .ref b, .int 0]))])) 0 0 (va_A [(h0, .inr (2, [.int room, .ref b, .int size]))] sz) := by
  refine k_start (by decide) (Nat.le_of_ble_eq_true rfl) ?_
  intro pp ee s m bb mm cd A H locs hAe X h ls hl
  have X : CX g pp s m mm cd _ cX2_empty 1 RX2 "empty" none A := X
  have hx := X.1
  have hb := X.2.1
  have hl : lv_has ls 1 [(0, .ref h0)] := hl
  refine lv_aload_n hx hb dX2_empty_0 rfl (lv_at hl 0 rfl) ?_
  refine lv_iconst (v := 0) hx hb dX2_empty_1 (by decide) ?_
  refine r_put X h kl2 0 2 (v := .int 0) rfl (by decide) lk_X2_15 rfl rfl rfl (by decide) dX2_empty_2 (fun H locs h => ?_)
  have h : ST g A s [(h0, .inr (2, [.int room, .ref b, .int 0]))] H locs := h
  exact r_vret X h hAe () [0] rfl rfl 0 0 (Nat.le_of_ble_eq_true rfl) (Nat.le_of_ble_eq_true rfl) dX2_empty_5

set_option maxHeartbeats 4000000 in
set_option maxRecDepth 100000 in
/-- Row.get(i) of an empty row: NONE -/
theorem c2_get_none (l : Launch) (g : GE) (sz : Nat) (h0 : Nat) (room : Int32) (b : Nat) (i : Int32) (hi : ¬ i < 0) : Met l yX2_get (.code yX2_get cX2_get 2 (some .int) :: WL) { frames := 0, cells := 0, slots := 0, locals := 0 } (PR g [.ref h0, .int i] [(h0, .inr (2, [.int room, .ref b, .int 0]))] sz) (QI g [(h0, .inr (2, [.int room, .ref b, .int 0]))] sz (-1) (fun _ : Unit => [(h0, .inr (2, [.int room, .ref b, .int 0]))])) 0 0 (va_A [(h0, .inr (2, [.int room, .ref b, .int 0]))] sz) := by
  refine k_start (by decide) (Nat.le_of_ble_eq_true rfl) ?_
  intro pp ee s m bb mm cd A H locs hAe X h ls hl
  have X : CX g pp s m mm cd _ cX2_get 2 RX2 "get" (some .int) A := X
  have hx := X.1
  have hb := X.2.1
  have hl : lv_has ls 2 [(0, .ref h0), (1, .int i)] := hl
  refine lv_iload_n hx hb dX2_get_0 rfl (lv_at hl 1 rfl) ?_
  refine lv_if_lt (tgt := 12) hx hb dX2_get_1 (by decide) (fun c_1 => absurd c_1 hi) (fun c_1 => ?_)
  refine lv_iload_n hx hb dX2_get_4 rfl (lv_at hl 1 rfl) ?_
  refine lv_aload_n hx hb dX2_get_5 rfl (lv_at hl 0 rfl) ?_
  refine r_get X h kl2 0 2 rfl (by decide) lk_X2_15 rfl dX2_get_6 ?_
  refine lv_icmp_lt (tgt := 16) hx hb dX2_get_9 (by decide) (fun c_2 => absurd c_2 hi) (fun c_2 => ?_)
  refine lv_iconst (v := (-1)) hx hb dX2_get_12 (by decide) ?_
  refine lv_goto (tgt := 26) hx hb dX2_get_13 (by decide) ?_
  exact r_iret X h hAe () [0] rfl rfl 0 0 (Nat.le_of_ble_eq_true rfl) (Nat.le_of_ble_eq_true rfl) rfl dX2_get_26

set_option maxHeartbeats 4000000 in
set_option maxRecDepth 100000 in
/-- Row.put(0, v) of a row of one byte -/
theorem c2_put0 (l : Launch) (g : GE) (sz : Nat) (h0 : Nat) (room : Int32) (b : Nat) (f : Nat → Int32) (v : Int32) : Met l yX2_put (.code yX2_put cX2_put 3 none :: WL) { frames := 0, cells := 0, slots := 0, locals := 0 } (PR g [.ref h0, .int 0, .int v] [(h0, .inr (2, [.int room, .ref b, .int 1])), (b, .inl (g.2 0, 16, .inl f))] sz) (QV g [(h0, .inr (2, [.int room, .ref b, .int 1])), (b, .inl (g.2 0, 16, .inl f))] sz (fun _ : Unit => [(h0, .inr (2, [.int room, .ref b, .int 1])), (b, .inl (g.2 0, 16, .inl (upd f 0 (vp_nar .byte (Int8.toInt32 (Int32.toInt8 v))))))])) 0 0 (va_A [(h0, .inr (2, [.int room, .ref b, .int 1])), (b, .inl (g.2 0, 16, .inl f))] sz) := by
  refine k_start (by decide) (Nat.le_of_ble_eq_true rfl) ?_
  intro pp ee s m bb mm cd A H locs hAe X h ls hl
  have X : CX g pp s m mm cd _ cX2_put 3 RX2 "put" none A := X
  have hx := X.1
  have hb := X.2.1
  have hl : lv_has ls 3 [(0, .ref h0), (1, .int 0), (2, .int v)] := hl
  refine lv_iload_n hx hb dX2_put_0 rfl (lv_at hl 1 rfl) ?_
  refine lv_if_lt (tgt := 20) hx hb dX2_put_1 (by decide) (fun c_1 => absurd c_1 (by decide)) (fun c_1 => ?_)
  refine lv_iload_n hx hb dX2_put_4 rfl (lv_at hl 1 rfl) ?_
  refine lv_aload_n hx hb dX2_put_5 rfl (lv_at hl 0 rfl) ?_
  refine r_get X h kl2 0 2 rfl (by decide) lk_X2_15 rfl dX2_put_6 ?_
  refine lv_icmp_ge (tgt := 20) hx hb dX2_put_9 (by decide) (fun c_2 => absurd c_2 (by decide)) (fun c_2 => ?_)
  refine lv_aload_n hx hb dX2_put_12 rfl (lv_at hl 0 rfl) ?_
  refine r_get X h kl2 0 1 rfl (by decide) lk_X2_9 rfl dX2_put_13 ?_
  refine lv_iload_n hx hb dX2_put_16 rfl (lv_at hl 1 rfl) ?_
  refine lv_iload_n hx hb dX2_put_17 rfl (lv_at hl 2 rfl) ?_
  refine lv_i2b (v := (Int8.toInt32 (Int32.toInt8 v))) hx hb dX2_put_18 rfl ?_
  refine r_bast X h 1 rfl (by decide +kernel) dX2_put_19 (fun H locs h => ?_)
  have h : ST g A s [(h0, .inr (2, [.int room, .ref b, .int 1])), (b, .inl (g.2 0, 16, .inl (upd f 0 (vp_nar .byte (Int8.toInt32 (Int32.toInt8 v))))))] H locs := h
  exact r_vret X h hAe () [0, 1] rfl rfl 0 0 (Nat.le_of_ble_eq_true rfl) (Nat.le_of_ble_eq_true rfl) dX2_put_20

set_option maxHeartbeats 4000000 in
set_option maxRecDepth 100000 in
/-- Row.widen(1), room 120 -/
theorem c2_widen_120 (l : Launch) (g : GE) (sz : Nat) (h0 : Nat) (b : Nat) : Met l yX2_widen (.code yX2_widen cX2_widen 5 none :: WL) { frames := 0, cells := 1, slots := 16, locals := 0 } (PR g [.ref h0, .int 1] [(h0, .inr (2, [.int 120, .ref b, .int 0])), (b, .inl (g.2 0, 0, .inl (fun _ => 0)))] sz) (QV g [(h0, .inr (2, [.int 120, .ref b, .int 0])), (b, .inl (g.2 0, 0, .inl (fun _ => 0)))] sz (fun u : Nat => [(h0, .inr (2, [.int 120, .ref u, .int 0])), (u, .inl (g.2 0, 16, .inl (fun _ => 0)))])) 1 16 (va_A [(h0, .inr (2, [.int 120, .ref b, .int 0])), (b, .inl (g.2 0, 0, .inl (fun _ => 0)))] sz) := by
  refine k_start (by decide) (Nat.le_of_ble_eq_true rfl) ?_
  intro pp ee s m bb mm cd A H locs hAe X h ls hl
  have X : CX g pp s m mm cd _ cX2_widen 5 RX2 "widen" none A := X
  have hx := X.1
  have hb := X.2.1
  have hl : lv_has ls 5 [(0, .ref h0), (1, .int 1)] := hl
  refine lv_iload_n hx hb dX2_widen_0 rfl (lv_at hl 1 rfl) ?_
  refine lv_aload_n hx hb dX2_widen_1 rfl (lv_at hl 0 rfl) ?_
  refine r_get X h kl2 0 1 rfl (by decide) lk_X2_9 rfl dX2_widen_2 ?_
  refine r_alen X h 1 0 (v := 0) rfl rfl (by decide) dX2_widen_5 ?_
  refine lv_icmp_le (tgt := 17) hx hb dX2_widen_6 (by decide) (fun c_1 => absurd c_1 (by decide)) (fun c_1 => ?_)
  refine lv_iload_n hx hb dX2_widen_9 rfl (lv_at hl 1 rfl) ?_
  refine lv_aload_n hx hb dX2_widen_10 rfl (lv_at hl 0 rfl) ?_
  refine r_get X h kl2 0 0 rfl (by decide) lk_X2_19 rfl dX2_widen_11 ?_
  refine lv_icmp_le (tgt := 18) hx hb dX2_widen_14 (by decide) (fun c_2 => ?_) (fun c_2 => absurd (by decide) c_2)
  refine lv_aload_n hx hb dX2_widen_18 rfl (lv_at hl 0 rfl) ?_
  refine r_get X h kl2 0 1 rfl (by decide) lk_X2_9 rfl dX2_widen_19 ?_
  refine r_alen X h 1 0 (v := 0) rfl rfl (by decide) dX2_widen_22 ?_
  refine lv_bipush (v := 8) hx hb dX2_widen_23 (by decide) ?_
  refine lv_icmp_ge (tgt := 33) hx hb dX2_widen_25 (by decide) (fun c_3 => absurd c_3 (by decide)) (fun c_3 => ?_)
  refine lv_bipush (v := 16) hx hb dX2_widen_28 (by decide) ?_
  refine lv_goto (tgt := 40) hx hb dX2_widen_30 (by decide) ?_
  refine lv_istore_n (lv' := [(2, .int 16), (0, .ref h0), (1, .int 1)]) hx hb dX2_widen_40 rfl hl (by decide) rfl (fun ls hl => ?_)
  refine lv_iload_n hx hb dX2_widen_41 rfl (lv_at hl 0 rfl) ?_
  refine lv_iload_n hx hb dX2_widen_42 rfl (lv_at hl 2 rfl) ?_
  refine lv_icmp_ge (tgt := 48) hx hb dX2_widen_43 (by decide) (fun c_4 => ?_) (fun c_4 => absurd (by decide) c_4)
  refine lv_iload_n hx hb dX2_widen_48 rfl (lv_at hl 0 rfl) ?_
  refine lv_aload_n hx hb dX2_widen_49 rfl (lv_at hl 1 rfl) ?_
  refine r_get X h kl2 0 0 rfl (by decide) lk_X2_19 rfl dX2_widen_50 ?_
  refine lv_icmp_le (tgt := 61) hx hb dX2_widen_53 (by decide) (fun c_5 => ?_) (fun c_5 => absurd (by decide) c_5)
  refine lv_iload_n hx hb dX2_widen_61 rfl (lv_at hl 0 rfl) ?_
  refine r_newa X h 0 1 16 (atype := .byte) (ty := .byte) (N := 16) lk_aB rfl rfl rfl (by decide) (by decide) (Nat.le_of_ble_eq_true rfl) (Nat.le_of_ble_eq_true rfl) (Nat.le_of_ble_eq_true rfl) (Nat.le_of_ble_eq_true rfl) (Nat.le_of_ble_eq_true rfl) dX2_widen_62 (fun q_6 H h => ?_)
  have h : ST g A s [(h0, .inr (2, [.int 120, .ref b, .int 0])), (b, .inl (g.2 0, 0, .inl (fun _ => 0))), (q_6, .inl (g.2 0, 16, .inl (fun _ => 0)))] H locs := h
  refine lv_astore_n (lv' := [(3, .ref q_6), (2, .int 16), (0, .ref h0), (1, .int 1)]) hx hb dX2_widen_64 rfl hl (by decide) rfl (fun ls hl => ?_)
  refine lv_iconst (v := 0) hx hb dX2_widen_65 (by decide) ?_
  refine lv_istore (lv' := [(4, .int 0), (3, .ref q_6), (2, .int 16), (0, .ref h0), (1, .int 1)]) hx hb dX2_widen_66 hl (by decide) rfl (fun ls hl => ?_)
  refine lv_iload hx hb dX2_widen_68 (lv_at hl 0 rfl) ?_
  refine lv_aload_n hx hb dX2_widen_70 rfl (lv_at hl 3 rfl) ?_
  refine r_get X h kl2 0 2 rfl (by decide) lk_X2_15 rfl dX2_widen_71 ?_
  refine lv_icmp_ge (tgt := 94) hx hb dX2_widen_74 (by decide) (fun c_7 => ?_) (fun c_7 => absurd (by decide) c_7)
  refine lv_aload_n hx hb dX2_widen_94 rfl (lv_at hl 3 rfl) ?_
  refine lv_aload_n hx hb dX2_widen_95 rfl (lv_at hl 1 rfl) ?_
  refine r_put X h kl2 0 1 (v := .ref q_6) rfl (by decide) lk_X2_9 rfl rfl rfl (by decide) dX2_widen_96 (fun H locs h => ?_)
  have h : ST g A s [(h0, .inr (2, [.int 120, .ref q_6, .int 0])), (b, .inl (g.2 0, 0, .inl (fun _ => 0))), (q_6, .inl (g.2 0, 16, .inl (fun _ => 0)))] H locs := h
  exact r_vret X h hAe q_6 [0, 2] rfl rfl 1 16 (Nat.le_of_ble_eq_true rfl) (Nat.le_of_ble_eq_true rfl) dX2_widen_99

set_option maxHeartbeats 4000000 in
set_option maxRecDepth 100000 in
/-- Row.widen(1), room 241 -/
theorem c2_widen_241 (l : Launch) (g : GE) (sz : Nat) (h0 : Nat) (b : Nat) : Met l yX2_widen (.code yX2_widen cX2_widen 5 none :: WL) { frames := 0, cells := 1, slots := 16, locals := 0 } (PR g [.ref h0, .int 1] [(h0, .inr (2, [.int 241, .ref b, .int 0])), (b, .inl (g.2 0, 0, .inl (fun _ => 0)))] sz) (QV g [(h0, .inr (2, [.int 241, .ref b, .int 0])), (b, .inl (g.2 0, 0, .inl (fun _ => 0)))] sz (fun u : Nat => [(h0, .inr (2, [.int 241, .ref u, .int 0])), (u, .inl (g.2 0, 16, .inl (fun _ => 0)))])) 1 16 (va_A [(h0, .inr (2, [.int 241, .ref b, .int 0])), (b, .inl (g.2 0, 0, .inl (fun _ => 0)))] sz) := by
  refine k_start (by decide) (Nat.le_of_ble_eq_true rfl) ?_
  intro pp ee s m bb mm cd A H locs hAe X h ls hl
  have X : CX g pp s m mm cd _ cX2_widen 5 RX2 "widen" none A := X
  have hx := X.1
  have hb := X.2.1
  have hl : lv_has ls 5 [(0, .ref h0), (1, .int 1)] := hl
  refine lv_iload_n hx hb dX2_widen_0 rfl (lv_at hl 1 rfl) ?_
  refine lv_aload_n hx hb dX2_widen_1 rfl (lv_at hl 0 rfl) ?_
  refine r_get X h kl2 0 1 rfl (by decide) lk_X2_9 rfl dX2_widen_2 ?_
  refine r_alen X h 1 0 (v := 0) rfl rfl (by decide) dX2_widen_5 ?_
  refine lv_icmp_le (tgt := 17) hx hb dX2_widen_6 (by decide) (fun c_1 => absurd c_1 (by decide)) (fun c_1 => ?_)
  refine lv_iload_n hx hb dX2_widen_9 rfl (lv_at hl 1 rfl) ?_
  refine lv_aload_n hx hb dX2_widen_10 rfl (lv_at hl 0 rfl) ?_
  refine r_get X h kl2 0 0 rfl (by decide) lk_X2_19 rfl dX2_widen_11 ?_
  refine lv_icmp_le (tgt := 18) hx hb dX2_widen_14 (by decide) (fun c_2 => ?_) (fun c_2 => absurd (by decide) c_2)
  refine lv_aload_n hx hb dX2_widen_18 rfl (lv_at hl 0 rfl) ?_
  refine r_get X h kl2 0 1 rfl (by decide) lk_X2_9 rfl dX2_widen_19 ?_
  refine r_alen X h 1 0 (v := 0) rfl rfl (by decide) dX2_widen_22 ?_
  refine lv_bipush (v := 8) hx hb dX2_widen_23 (by decide) ?_
  refine lv_icmp_ge (tgt := 33) hx hb dX2_widen_25 (by decide) (fun c_3 => absurd c_3 (by decide)) (fun c_3 => ?_)
  refine lv_bipush (v := 16) hx hb dX2_widen_28 (by decide) ?_
  refine lv_goto (tgt := 40) hx hb dX2_widen_30 (by decide) ?_
  refine lv_istore_n (lv' := [(2, .int 16), (0, .ref h0), (1, .int 1)]) hx hb dX2_widen_40 rfl hl (by decide) rfl (fun ls hl => ?_)
  refine lv_iload_n hx hb dX2_widen_41 rfl (lv_at hl 0 rfl) ?_
  refine lv_iload_n hx hb dX2_widen_42 rfl (lv_at hl 2 rfl) ?_
  refine lv_icmp_ge (tgt := 48) hx hb dX2_widen_43 (by decide) (fun c_4 => ?_) (fun c_4 => absurd (by decide) c_4)
  refine lv_iload_n hx hb dX2_widen_48 rfl (lv_at hl 0 rfl) ?_
  refine lv_aload_n hx hb dX2_widen_49 rfl (lv_at hl 1 rfl) ?_
  refine r_get X h kl2 0 0 rfl (by decide) lk_X2_19 rfl dX2_widen_50 ?_
  refine lv_icmp_le (tgt := 61) hx hb dX2_widen_53 (by decide) (fun c_5 => ?_) (fun c_5 => absurd (by decide) c_5)
  refine lv_iload_n hx hb dX2_widen_61 rfl (lv_at hl 0 rfl) ?_
  refine r_newa X h 0 1 16 (atype := .byte) (ty := .byte) (N := 16) lk_aB rfl rfl rfl (by decide) (by decide) (Nat.le_of_ble_eq_true rfl) (Nat.le_of_ble_eq_true rfl) (Nat.le_of_ble_eq_true rfl) (Nat.le_of_ble_eq_true rfl) (Nat.le_of_ble_eq_true rfl) dX2_widen_62 (fun q_6 H h => ?_)
  have h : ST g A s [(h0, .inr (2, [.int 241, .ref b, .int 0])), (b, .inl (g.2 0, 0, .inl (fun _ => 0))), (q_6, .inl (g.2 0, 16, .inl (fun _ => 0)))] H locs := h
  refine lv_astore_n (lv' := [(3, .ref q_6), (2, .int 16), (0, .ref h0), (1, .int 1)]) hx hb dX2_widen_64 rfl hl (by decide) rfl (fun ls hl => ?_)
  refine lv_iconst (v := 0) hx hb dX2_widen_65 (by decide) ?_
  refine lv_istore (lv' := [(4, .int 0), (3, .ref q_6), (2, .int 16), (0, .ref h0), (1, .int 1)]) hx hb dX2_widen_66 hl (by decide) rfl (fun ls hl => ?_)
  refine lv_iload hx hb dX2_widen_68 (lv_at hl 0 rfl) ?_
  refine lv_aload_n hx hb dX2_widen_70 rfl (lv_at hl 3 rfl) ?_
  refine r_get X h kl2 0 2 rfl (by decide) lk_X2_15 rfl dX2_widen_71 ?_
  refine lv_icmp_ge (tgt := 94) hx hb dX2_widen_74 (by decide) (fun c_7 => ?_) (fun c_7 => absurd (by decide) c_7)
  refine lv_aload_n hx hb dX2_widen_94 rfl (lv_at hl 3 rfl) ?_
  refine lv_aload_n hx hb dX2_widen_95 rfl (lv_at hl 1 rfl) ?_
  refine r_put X h kl2 0 1 (v := .ref q_6) rfl (by decide) lk_X2_9 rfl rfl rfl (by decide) dX2_widen_96 (fun H locs h => ?_)
  have h : ST g A s [(h0, .inr (2, [.int 241, .ref q_6, .int 0])), (b, .inl (g.2 0, 0, .inl (fun _ => 0))), (q_6, .inl (g.2 0, 16, .inl (fun _ => 0)))] H locs := h
  exact r_vret X h hAe q_6 [0, 2] rfl rfl 1 16 (Nat.le_of_ble_eq_true rfl) (Nat.le_of_ble_eq_true rfl) dX2_widen_99

set_option maxHeartbeats 4000000 in
set_option maxRecDepth 100000 in
/-- Row.add(v) to an empty row, room 120 -/
theorem c2_add_120 (l : Launch) (g : GE) (sz : Nat) (h0 : Nat) (b : Nat) (v : Int32) : Met l yX2_add (.code yX2_add cX2_add 2 none :: WL) { frames := 1, cells := 1, slots := 16, locals := 24 } (PR g [.ref h0, .int v] [(h0, .inr (2, [.int 120, .ref b, .int 0])), (b, .inl (g.2 0, 0, .inl (fun _ => 0)))] sz) (QV g [(h0, .inr (2, [.int 120, .ref b, .int 0])), (b, .inl (g.2 0, 0, .inl (fun _ => 0)))] sz (fun u : Nat => [(h0, .inr (2, [.int 120, .ref u, .int 1])), (u, .inl (g.2 0, 16, .inl (upd (fun _ => 0) 0 (vp_nar .byte (Int8.toInt32 (Int32.toInt8 v))))))])) 1 16 (va_A [(h0, .inr (2, [.int 120, .ref b, .int 0])), (b, .inl (g.2 0, 0, .inl (fun _ => 0)))] sz) := by
  refine k_start (by decide) (Nat.le_of_ble_eq_true rfl) ?_
  intro pp ee s m bb mm cd A H locs hAe X h ls hl
  have X : CX g pp s m mm cd _ cX2_add 2 RX2 "add" none A := X
  have hx := X.1
  have hb := X.2.1
  have hl : lv_has ls 2 [(0, .ref h0), (1, .int v)] := hl
  refine lv_aload_n hx hb dX2_add_0 rfl (lv_at hl 0 rfl) ?_
  refine r_get X h kl2 0 2 rfl (by decide) lk_X2_15 rfl dX2_add_1 ?_
  refine lv_aload_n hx hb dX2_add_4 rfl (lv_at hl 0 rfl) ?_
  refine r_get X h kl2 0 0 rfl (by decide) lk_X2_19 rfl dX2_add_5 ?_
  refine lv_icmp_ge (tgt := 42) hx hb dX2_add_8 (by decide) (fun c_1 => absurd c_1 (by decide)) (fun c_1 => ?_)
  refine lv_aload_n hx hb dX2_add_11 rfl (lv_at hl 0 rfl) ?_
  refine lv_aload_n hx hb dX2_add_12 rfl (lv_at hl 0 rfl) ?_
  refine r_get X h kl2 0 2 rfl (by decide) lk_X2_15 rfl dX2_add_13 ?_
  refine lv_iconst (v := 1) hx hb dX2_add_16 (by decide) ?_
  refine lv_iadd hx hb dX2_add_17 ?_
  refine r_vi (y := 1) (by decide) ?_
  refine k_v X h [0, 1] [] (wr := []) rfl rfl rfl (by decide) 1 16 (Nat.le_of_ble_eq_true rfl) (Nat.le_of_ble_eq_true rfl) (k_runV X h (As := [.int 1]) (rest := []) (c2_widen_120 l g H.size h0 b) cw_X2_22 [0, 1] rfl rfl 0 kl2 rfl rfl rfl (Nat.le_of_ble_eq_true rfl) (Nat.le_of_ble_eq_true rfl) rfl hl.1 rfl (Nat.le_of_ble_eq_true rfl) dX2_add_18 (Nat.le_of_ble_eq_true rfl) (Nat.le_of_ble_eq_true rfl)) (fun u9 H locs h => ?_)
  obtain ⟨u_2, rfl⟩ : ∃ z, z = u9 := ⟨_, rfl⟩
  have h : ST g A s [(h0, .inr (2, [.int 120, .ref u_2, .int 0])), (u_2, .inl (g.2 0, 16, .inl (fun _ => 0)))] H locs := h
  refine lv_aload_n hx hb dX2_add_21 rfl (lv_at hl 0 rfl) ?_
  refine lv_dup hx hb dX2_add_22 rfl ?_
  refine r_get X h kl2 0 2 rfl (by decide) lk_X2_15 rfl dX2_add_23 ?_
  refine lv_iconst (v := 1) hx hb dX2_add_26 (by decide) ?_
  refine lv_iadd hx hb dX2_add_27 ?_
  refine r_vi (y := 1) (by decide) ?_
  refine r_put X h kl2 0 2 (v := .int 1) rfl (by decide) lk_X2_15 rfl rfl rfl (by decide) dX2_add_28 (fun H locs h => ?_)
  have h : ST g A s [(h0, .inr (2, [.int 120, .ref u_2, .int 1])), (u_2, .inl (g.2 0, 16, .inl (fun _ => 0)))] H locs := h
  refine lv_aload_n hx hb dX2_add_31 rfl (lv_at hl 0 rfl) ?_
  refine lv_aload_n hx hb dX2_add_32 rfl (lv_at hl 0 rfl) ?_
  refine r_get X h kl2 0 2 rfl (by decide) lk_X2_15 rfl dX2_add_33 ?_
  refine lv_iconst (v := 1) hx hb dX2_add_36 (by decide) ?_
  refine lv_isub hx hb dX2_add_37 ?_
  refine r_vi (y := 0) (by decide) ?_
  refine lv_iload_n hx hb dX2_add_38 rfl (lv_at hl 1 rfl) ?_
  refine k_v X h [0, 1] [] (wr := []) rfl rfl rfl (by decide) 1 16 (Nat.le_of_ble_eq_true rfl) (Nat.le_of_ble_eq_true rfl) (k_runV X h (As := [.int 0, .int v]) (rest := []) (c2_put0 l g H.size h0 120 u_2 ((fun _ => 0)) v) cw_X2_26 [0, 1] rfl rfl 0 kl2 rfl rfl rfl (Nat.le_of_ble_eq_true rfl) (Nat.le_of_ble_eq_true rfl) rfl hl.1 rfl (Nat.le_of_ble_eq_true rfl) dX2_add_39 (Nat.le_of_ble_eq_true rfl) (Nat.le_of_ble_eq_true rfl)) (fun _ H locs h => ?_)
  have h : ST g A s [(h0, .inr (2, [.int 120, .ref u_2, .int 1])), (u_2, .inl (g.2 0, 16, .inl (upd (fun _ => 0) 0 (vp_nar .byte (Int8.toInt32 (Int32.toInt8 v))))))] H locs := h
  exact r_vret X h hAe u_2 [0, 1] rfl rfl 1 16 (Nat.le_of_ble_eq_true rfl) (Nat.le_of_ble_eq_true rfl) dX2_add_42

set_option maxHeartbeats 4000000 in
set_option maxRecDepth 100000 in
/-- Row.add(v) to an empty row, room 241 -/
theorem c2_add_241 (l : Launch) (g : GE) (sz : Nat) (h0 : Nat) (b : Nat) (v : Int32) : Met l yX2_add (.code yX2_add cX2_add 2 none :: WL) { frames := 1, cells := 1, slots := 16, locals := 24 } (PR g [.ref h0, .int v] [(h0, .inr (2, [.int 241, .ref b, .int 0])), (b, .inl (g.2 0, 0, .inl (fun _ => 0)))] sz) (QV g [(h0, .inr (2, [.int 241, .ref b, .int 0])), (b, .inl (g.2 0, 0, .inl (fun _ => 0)))] sz (fun u : Nat => [(h0, .inr (2, [.int 241, .ref u, .int 1])), (u, .inl (g.2 0, 16, .inl (upd (fun _ => 0) 0 (vp_nar .byte (Int8.toInt32 (Int32.toInt8 v))))))])) 1 16 (va_A [(h0, .inr (2, [.int 241, .ref b, .int 0])), (b, .inl (g.2 0, 0, .inl (fun _ => 0)))] sz) := by
  refine k_start (by decide) (Nat.le_of_ble_eq_true rfl) ?_
  intro pp ee s m bb mm cd A H locs hAe X h ls hl
  have X : CX g pp s m mm cd _ cX2_add 2 RX2 "add" none A := X
  have hx := X.1
  have hb := X.2.1
  have hl : lv_has ls 2 [(0, .ref h0), (1, .int v)] := hl
  refine lv_aload_n hx hb dX2_add_0 rfl (lv_at hl 0 rfl) ?_
  refine r_get X h kl2 0 2 rfl (by decide) lk_X2_15 rfl dX2_add_1 ?_
  refine lv_aload_n hx hb dX2_add_4 rfl (lv_at hl 0 rfl) ?_
  refine r_get X h kl2 0 0 rfl (by decide) lk_X2_19 rfl dX2_add_5 ?_
  refine lv_icmp_ge (tgt := 42) hx hb dX2_add_8 (by decide) (fun c_1 => absurd c_1 (by decide)) (fun c_1 => ?_)
  refine lv_aload_n hx hb dX2_add_11 rfl (lv_at hl 0 rfl) ?_
  refine lv_aload_n hx hb dX2_add_12 rfl (lv_at hl 0 rfl) ?_
  refine r_get X h kl2 0 2 rfl (by decide) lk_X2_15 rfl dX2_add_13 ?_
  refine lv_iconst (v := 1) hx hb dX2_add_16 (by decide) ?_
  refine lv_iadd hx hb dX2_add_17 ?_
  refine r_vi (y := 1) (by decide) ?_
  refine k_v X h [0, 1] [] (wr := []) rfl rfl rfl (by decide) 1 16 (Nat.le_of_ble_eq_true rfl) (Nat.le_of_ble_eq_true rfl) (k_runV X h (As := [.int 1]) (rest := []) (c2_widen_241 l g H.size h0 b) cw_X2_22 [0, 1] rfl rfl 0 kl2 rfl rfl rfl (Nat.le_of_ble_eq_true rfl) (Nat.le_of_ble_eq_true rfl) rfl hl.1 rfl (Nat.le_of_ble_eq_true rfl) dX2_add_18 (Nat.le_of_ble_eq_true rfl) (Nat.le_of_ble_eq_true rfl)) (fun u9 H locs h => ?_)
  obtain ⟨u_2, rfl⟩ : ∃ z, z = u9 := ⟨_, rfl⟩
  have h : ST g A s [(h0, .inr (2, [.int 241, .ref u_2, .int 0])), (u_2, .inl (g.2 0, 16, .inl (fun _ => 0)))] H locs := h
  refine lv_aload_n hx hb dX2_add_21 rfl (lv_at hl 0 rfl) ?_
  refine lv_dup hx hb dX2_add_22 rfl ?_
  refine r_get X h kl2 0 2 rfl (by decide) lk_X2_15 rfl dX2_add_23 ?_
  refine lv_iconst (v := 1) hx hb dX2_add_26 (by decide) ?_
  refine lv_iadd hx hb dX2_add_27 ?_
  refine r_vi (y := 1) (by decide) ?_
  refine r_put X h kl2 0 2 (v := .int 1) rfl (by decide) lk_X2_15 rfl rfl rfl (by decide) dX2_add_28 (fun H locs h => ?_)
  have h : ST g A s [(h0, .inr (2, [.int 241, .ref u_2, .int 1])), (u_2, .inl (g.2 0, 16, .inl (fun _ => 0)))] H locs := h
  refine lv_aload_n hx hb dX2_add_31 rfl (lv_at hl 0 rfl) ?_
  refine lv_aload_n hx hb dX2_add_32 rfl (lv_at hl 0 rfl) ?_
  refine r_get X h kl2 0 2 rfl (by decide) lk_X2_15 rfl dX2_add_33 ?_
  refine lv_iconst (v := 1) hx hb dX2_add_36 (by decide) ?_
  refine lv_isub hx hb dX2_add_37 ?_
  refine r_vi (y := 0) (by decide) ?_
  refine lv_iload_n hx hb dX2_add_38 rfl (lv_at hl 1 rfl) ?_
  refine k_v X h [0, 1] [] (wr := []) rfl rfl rfl (by decide) 1 16 (Nat.le_of_ble_eq_true rfl) (Nat.le_of_ble_eq_true rfl) (k_runV X h (As := [.int 0, .int v]) (rest := []) (c2_put0 l g H.size h0 241 u_2 ((fun _ => 0)) v) cw_X2_26 [0, 1] rfl rfl 0 kl2 rfl rfl rfl (Nat.le_of_ble_eq_true rfl) (Nat.le_of_ble_eq_true rfl) rfl hl.1 rfl (Nat.le_of_ble_eq_true rfl) dX2_add_39 (Nat.le_of_ble_eq_true rfl) (Nat.le_of_ble_eq_true rfl)) (fun _ H locs h => ?_)
  have h : ST g A s [(h0, .inr (2, [.int 241, .ref u_2, .int 1])), (u_2, .inl (g.2 0, 16, .inl (upd (fun _ => 0) 0 (vp_nar .byte (Int8.toInt32 (Int32.toInt8 v))))))] H locs := h
  exact r_vret X h hAe u_2 [0, 1] rfl rfl 1 16 (Nat.le_of_ble_eq_true rfl) (Nat.le_of_ble_eq_true rfl) dX2_add_42

set_option maxHeartbeats 4000000 in
set_option maxRecDepth 100000 in
/-- Row.addPart of nothing, room 241 -/
theorem c2_addPart0_241 (l : Launch) (g : GE) (sz : Nat) (h0 : Nat) (b : Nat) (fr : Nat) : Met l yX2_addPart (.code yX2_addPart cX2_addPart 5 none :: WL) { frames := 1, cells := 0, slots := 0, locals := 13 } (PR g [.ref h0, .ref fr, .int 0, .int 0] [(h0, .inr (2, [.int 241, .ref b, .int 0]))] sz) (QV g [(h0, .inr (2, [.int 241, .ref b, .int 0]))] sz (fun _ : Unit => [(h0, .inr (2, [.int 241, .ref b, .int 0]))])) 0 0 (va_A [(h0, .inr (2, [.int 241, .ref b, .int 0]))] sz) := by
  refine k_start (by decide) (Nat.le_of_ble_eq_true rfl) ?_
  intro pp ee s m bb mm cd A H locs hAe X h ls hl
  have X : CX g pp s m mm cd _ cX2_addPart 5 RX2 "addPart" none A := X
  have hx := X.1
  have hb := X.2.1
  have hl : lv_has ls 5 [(0, .ref h0), (1, .ref fr), (2, .int 0), (3, .int 0)] := hl
  refine lv_iload_n hx hb dX2_addPart_0 rfl (lv_at hl 3 rfl) ?_
  refine lv_iload_n hx hb dX2_addPart_1 rfl (lv_at hl 2 rfl) ?_
  refine lv_isub hx hb dX2_addPart_2 ?_
  refine r_vi (y := 0) (by decide) ?_
  refine lv_aload_n hx hb dX2_addPart_3 rfl (lv_at hl 0 rfl) ?_
  refine r_get X h kl2 0 0 rfl (by decide) lk_X2_19 rfl dX2_addPart_4 ?_
  refine lv_aload_n hx hb dX2_addPart_7 rfl (lv_at hl 0 rfl) ?_
  refine r_get X h kl2 0 2 rfl (by decide) lk_X2_15 rfl dX2_addPart_8 ?_
  refine lv_isub hx hb dX2_addPart_11 ?_
  refine r_vi (y := 241) (by decide) ?_
  refine r_min X (v := 0) lk_X2_30 lk_min_s lk_min_i lk_min_c hl.1 (Nat.le_of_ble_eq_true rfl) (Nat.le_of_ble_eq_true rfl) (Nat.le_of_ble_eq_true rfl) (Nat.le_of_ble_eq_true rfl) dX2_addPart_12 (by decide) ?_
  refine lv_istore (lv' := [(4, .int 0), (0, .ref h0), (1, .ref fr), (2, .int 0), (3, .int 0)]) hx hb dX2_addPart_15 hl (by decide) rfl (fun ls hl => ?_)
  refine lv_iload hx hb dX2_addPart_17 (lv_at hl 0 rfl) ?_
  refine lv_if_le (tgt := 34) hx hb dX2_addPart_19 (by decide) (fun c_1 => ?_) (fun c_1 => absurd (by decide) c_1)
  exact r_vret X h hAe () [0] rfl rfl 0 0 (Nat.le_of_ble_eq_true rfl) (Nat.le_of_ble_eq_true rfl) dX2_addPart_34

set_option maxHeartbeats 4000000 in
set_option maxRecDepth 100000 in
/-- Row.addPart of nothing, room 12 -/
theorem c2_addPart0_12 (l : Launch) (g : GE) (sz : Nat) (h0 : Nat) (b : Nat) (fr : Nat) : Met l yX2_addPart (.code yX2_addPart cX2_addPart 5 none :: WL) { frames := 1, cells := 0, slots := 0, locals := 13 } (PR g [.ref h0, .ref fr, .int 0, .int 0] [(h0, .inr (2, [.int 12, .ref b, .int 0]))] sz) (QV g [(h0, .inr (2, [.int 12, .ref b, .int 0]))] sz (fun _ : Unit => [(h0, .inr (2, [.int 12, .ref b, .int 0]))])) 0 0 (va_A [(h0, .inr (2, [.int 12, .ref b, .int 0]))] sz) := by
  refine k_start (by decide) (Nat.le_of_ble_eq_true rfl) ?_
  intro pp ee s m bb mm cd A H locs hAe X h ls hl
  have X : CX g pp s m mm cd _ cX2_addPart 5 RX2 "addPart" none A := X
  have hx := X.1
  have hb := X.2.1
  have hl : lv_has ls 5 [(0, .ref h0), (1, .ref fr), (2, .int 0), (3, .int 0)] := hl
  refine lv_iload_n hx hb dX2_addPart_0 rfl (lv_at hl 3 rfl) ?_
  refine lv_iload_n hx hb dX2_addPart_1 rfl (lv_at hl 2 rfl) ?_
  refine lv_isub hx hb dX2_addPart_2 ?_
  refine r_vi (y := 0) (by decide) ?_
  refine lv_aload_n hx hb dX2_addPart_3 rfl (lv_at hl 0 rfl) ?_
  refine r_get X h kl2 0 0 rfl (by decide) lk_X2_19 rfl dX2_addPart_4 ?_
  refine lv_aload_n hx hb dX2_addPart_7 rfl (lv_at hl 0 rfl) ?_
  refine r_get X h kl2 0 2 rfl (by decide) lk_X2_15 rfl dX2_addPart_8 ?_
  refine lv_isub hx hb dX2_addPart_11 ?_
  refine r_vi (y := 12) (by decide) ?_
  refine r_min X (v := 0) lk_X2_30 lk_min_s lk_min_i lk_min_c hl.1 (Nat.le_of_ble_eq_true rfl) (Nat.le_of_ble_eq_true rfl) (Nat.le_of_ble_eq_true rfl) (Nat.le_of_ble_eq_true rfl) dX2_addPart_12 (by decide) ?_
  refine lv_istore (lv' := [(4, .int 0), (0, .ref h0), (1, .ref fr), (2, .int 0), (3, .int 0)]) hx hb dX2_addPart_15 hl (by decide) rfl (fun ls hl => ?_)
  refine lv_iload hx hb dX2_addPart_17 (lv_at hl 0 rfl) ?_
  refine lv_if_le (tgt := 34) hx hb dX2_addPart_19 (by decide) (fun c_1 => ?_) (fun c_1 => absurd (by decide) c_1)
  exact r_vret X h hAe () [0] rfl rfl 0 0 (Nat.le_of_ble_eq_true rfl) (Nat.le_of_ble_eq_true rfl) dX2_addPart_34

set_option maxHeartbeats 4000000 in
set_option maxRecDepth 100000 in
/-- Row.addPart of nothing behind one byte -/
theorem c2_addPart11 (l : Launch) (g : GE) (sz : Nat) (h0 : Nat) (b : Nat) (fr : Nat) : Met l yX2_addPart (.code yX2_addPart cX2_addPart 5 none :: WL) { frames := 1, cells := 0, slots := 0, locals := 13 } (PR g [.ref h0, .ref fr, .int 1, .int 1] [(h0, .inr (2, [.int 241, .ref b, .int 1]))] sz) (QV g [(h0, .inr (2, [.int 241, .ref b, .int 1]))] sz (fun _ : Unit => [(h0, .inr (2, [.int 241, .ref b, .int 1]))])) 0 0 (va_A [(h0, .inr (2, [.int 241, .ref b, .int 1]))] sz) := by
  refine k_start (by decide) (Nat.le_of_ble_eq_true rfl) ?_
  intro pp ee s m bb mm cd A H locs hAe X h ls hl
  have X : CX g pp s m mm cd _ cX2_addPart 5 RX2 "addPart" none A := X
  have hx := X.1
  have hb := X.2.1
  have hl : lv_has ls 5 [(0, .ref h0), (1, .ref fr), (2, .int 1), (3, .int 1)] := hl
  refine lv_iload_n hx hb dX2_addPart_0 rfl (lv_at hl 3 rfl) ?_
  refine lv_iload_n hx hb dX2_addPart_1 rfl (lv_at hl 2 rfl) ?_
  refine lv_isub hx hb dX2_addPart_2 ?_
  refine r_vi (y := 0) (by decide) ?_
  refine lv_aload_n hx hb dX2_addPart_3 rfl (lv_at hl 0 rfl) ?_
  refine r_get X h kl2 0 0 rfl (by decide) lk_X2_19 rfl dX2_addPart_4 ?_
  refine lv_aload_n hx hb dX2_addPart_7 rfl (lv_at hl 0 rfl) ?_
  refine r_get X h kl2 0 2 rfl (by decide) lk_X2_15 rfl dX2_addPart_8 ?_
  refine lv_isub hx hb dX2_addPart_11 ?_
  refine r_vi (y := 240) (by decide) ?_
  refine r_min X (v := 0) lk_X2_30 lk_min_s lk_min_i lk_min_c hl.1 (Nat.le_of_ble_eq_true rfl) (Nat.le_of_ble_eq_true rfl) (Nat.le_of_ble_eq_true rfl) (Nat.le_of_ble_eq_true rfl) dX2_addPart_12 (by decide) ?_
  refine lv_istore (lv' := [(4, .int 0), (0, .ref h0), (1, .ref fr), (2, .int 1), (3, .int 1)]) hx hb dX2_addPart_15 hl (by decide) rfl (fun ls hl => ?_)
  refine lv_iload hx hb dX2_addPart_17 (lv_at hl 0 rfl) ?_
  refine lv_if_le (tgt := 34) hx hb dX2_addPart_19 (by decide) (fun c_1 => ?_) (fun c_1 => absurd (by decide) c_1)
  exact r_vret X h hAe () [0] rfl rfl 0 0 (Nat.le_of_ble_eq_true rfl) (Nat.le_of_ble_eq_true rfl) dX2_addPart_34

set_option maxHeartbeats 4000000 in
set_option maxRecDepth 100000 in
/-- Row.addPart of one byte -/
theorem c2_addPart01 (l : Launch) (g : GE) (sz : Nat) (h0 : Nat) (b : Nat) (fr : Nat) (fb : Nat) (fm : Int32) (f : Nat → Int32) (hf : ∀ i, i < Int32.toNatClampNeg 1 → fits .byte (.int (f (Int32.toNatClampNeg 0 + i))) = true) : Met l yX2_addPart (.code yX2_addPart cX2_addPart 5 none :: WL) { frames := 1, cells := 1, slots := 16, locals := 40 } (PR g [.ref h0, .ref fr, .int 0, .int 1] [(h0, .inr (2, [.int 241, .ref b, .int 0])), (b, .inl (g.2 0, 0, .inl (fun _ => 0))), (fr, .inr (2, [.int fm, .ref fb, .int 1])), (fb, .inl (g.2 0, 16, .inl f))] sz) (QV g [(h0, .inr (2, [.int 241, .ref b, .int 0])), (b, .inl (g.2 0, 0, .inl (fun _ => 0))), (fr, .inr (2, [.int fm, .ref fb, .int 1])), (fb, .inl (g.2 0, 16, .inl f))] sz (fun u : Nat => [(h0, .inr (2, [.int 241, .ref u, .int 1])), (fr, .inr (2, [.int fm, .ref fb, .int 1])), (fb, .inl (g.2 0, 16, .inl f))])) 1 16 (va_A [(h0, .inr (2, [.int 241, .ref b, .int 0])), (b, .inl (g.2 0, 0, .inl (fun _ => 0))), (fr, .inr (2, [.int fm, .ref fb, .int 1])), (fb, .inl (g.2 0, 16, .inl f))] sz) := by
  refine k_start (by decide) (Nat.le_of_ble_eq_true rfl) ?_
  intro pp ee s m bb mm cd A H locs hAe X h ls hl
  have X : CX g pp s m mm cd _ cX2_addPart 5 RX2 "addPart" none A := X
  have hx := X.1
  have hb := X.2.1
  have hl : lv_has ls 5 [(0, .ref h0), (1, .ref fr), (2, .int 0), (3, .int 1)] := hl
  refine lv_iload_n hx hb dX2_addPart_0 rfl (lv_at hl 3 rfl) ?_
  refine lv_iload_n hx hb dX2_addPart_1 rfl (lv_at hl 2 rfl) ?_
  refine lv_isub hx hb dX2_addPart_2 ?_
  refine r_vi (y := 1) (by decide) ?_
  refine lv_aload_n hx hb dX2_addPart_3 rfl (lv_at hl 0 rfl) ?_
  refine r_get X h kl2 0 0 rfl (by decide) lk_X2_19 rfl dX2_addPart_4 ?_
  refine lv_aload_n hx hb dX2_addPart_7 rfl (lv_at hl 0 rfl) ?_
  refine r_get X h kl2 0 2 rfl (by decide) lk_X2_15 rfl dX2_addPart_8 ?_
  refine lv_isub hx hb dX2_addPart_11 ?_
  refine r_vi (y := 241) (by decide) ?_
  refine r_min X (v := 1) lk_X2_30 lk_min_s lk_min_i lk_min_c hl.1 (Nat.le_of_ble_eq_true rfl) (Nat.le_of_ble_eq_true rfl) (Nat.le_of_ble_eq_true rfl) (Nat.le_of_ble_eq_true rfl) dX2_addPart_12 (by decide) ?_
  refine lv_istore (lv' := [(4, .int 1), (0, .ref h0), (1, .ref fr), (2, .int 0), (3, .int 1)]) hx hb dX2_addPart_15 hl (by decide) rfl (fun ls hl => ?_)
  refine lv_iload hx hb dX2_addPart_17 (lv_at hl 0 rfl) ?_
  refine lv_if_le (tgt := 34) hx hb dX2_addPart_19 (by decide) (fun c_1 => absurd c_1 (by decide)) (fun c_1 => ?_)
  refine lv_iload_n hx hb dX2_addPart_22 rfl (lv_at hl 3 rfl) ?_
  refine lv_if_lt (tgt := 34) hx hb dX2_addPart_23 (by decide) (fun c_2 => absurd c_2 (by decide)) (fun c_2 => ?_)
  refine lv_iload_n hx hb dX2_addPart_26 rfl (lv_at hl 4 rfl) ?_
  refine lv_aload_n hx hb dX2_addPart_27 rfl (lv_at hl 2 rfl) ?_
  refine r_get X h kl2 2 2 rfl (by decide) lk_X2_15 rfl dX2_addPart_28 ?_
  refine lv_icmp_le (tgt := 35) hx hb dX2_addPart_31 (by decide) (fun c_3 => ?_) (fun c_3 => absurd (by decide) c_3)
  refine lv_aload_n hx hb dX2_addPart_35 rfl (lv_at hl 1 rfl) ?_
  refine lv_aload_n hx hb dX2_addPart_36 rfl (lv_at hl 1 rfl) ?_
  refine r_get X h kl2 0 2 rfl (by decide) lk_X2_15 rfl dX2_addPart_37 ?_
  refine lv_iload hx hb dX2_addPart_40 (lv_at hl 0 rfl) ?_
  refine lv_iadd hx hb dX2_addPart_42 ?_
  refine r_vi (y := 1) (by decide) ?_
  refine k_v X h [0, 1] [2, 3] (wr := [(fr, .inr (2, [.int fm, .ref fb, .int 1])), (fb, .inl (g.2 0, 16, .inl f))]) rfl rfl rfl (by decide) 1 16 (Nat.le_of_ble_eq_true rfl) (Nat.le_of_ble_eq_true rfl) (k_runV X h (As := [.int 1]) (rest := []) (c2_widen_241 l g H.size h0 b) cw_X2_22 [0, 1] rfl rfl 0 kl2 rfl rfl rfl (Nat.le_of_ble_eq_true rfl) (Nat.le_of_ble_eq_true rfl) rfl hl.1 rfl (Nat.le_of_ble_eq_true rfl) dX2_addPart_43 (Nat.le_of_ble_eq_true rfl) (Nat.le_of_ble_eq_true rfl)) (fun u9 H locs h => ?_)
  obtain ⟨u_4, rfl⟩ : ∃ z, z = u9 := ⟨_, rfl⟩
  have h : ST g A s [(fr, .inr (2, [.int fm, .ref fb, .int 1])), (fb, .inl (g.2 0, 16, .inl f)), (h0, .inr (2, [.int 241, .ref u_4, .int 0])), (u_4, .inl (g.2 0, 16, .inl (fun _ => 0)))] H locs := h
  refine lv_aload_n hx hb dX2_addPart_46 rfl (lv_at hl 2 rfl) ?_
  refine r_get X h kl2 0 1 rfl (by decide) lk_X2_9 rfl dX2_addPart_47 ?_
  refine lv_iload_n hx hb dX2_addPart_50 rfl (lv_at hl 3 rfl) ?_
  refine lv_aload_n hx hb dX2_addPart_51 rfl (lv_at hl 1 rfl) ?_
  refine r_get X h kl2 2 1 rfl (by decide) lk_X2_9 rfl dX2_addPart_52 ?_
  refine lv_aload_n hx hb dX2_addPart_55 rfl (lv_at hl 1 rfl) ?_
  refine r_get X h kl2 2 2 rfl (by decide) lk_X2_15 rfl dX2_addPart_56 ?_
  refine lv_iload hx hb dX2_addPart_59 (lv_at hl 0 rfl) ?_
  refine r_copyb X h lk_X2_36 lk_cp_n lk_cp_s lk_cp_i hl.1 1 3 rfl rfl (by decide) (by decide) (by decide) (by decide) (by decide) hf (Nat.le_of_ble_eq_true rfl) (Nat.le_of_ble_eq_true rfl) dX2_addPart_61 (fun f_5 H locs h => ?_)
  have h : ST g A s [(fr, .inr (2, [.int fm, .ref fb, .int 1])), (fb, .inl (g.2 0, 16, .inl f)), (h0, .inr (2, [.int 241, .ref u_4, .int 0])), (u_4, .inl (g.2 0, 16, .inl f_5))] H locs := h
  refine lv_aload_n hx hb dX2_addPart_64 rfl (lv_at hl 1 rfl) ?_
  refine lv_dup hx hb dX2_addPart_65 rfl ?_
  refine r_get X h kl2 2 2 rfl (by decide) lk_X2_15 rfl dX2_addPart_66 ?_
  refine lv_iload hx hb dX2_addPart_69 (lv_at hl 0 rfl) ?_
  refine lv_iadd hx hb dX2_addPart_71 ?_
  refine r_vi (y := 1) (by decide) ?_
  refine r_put X h kl2 2 2 (v := .int 1) rfl (by decide) lk_X2_15 rfl rfl rfl (by decide) dX2_addPart_72 (fun H locs h => ?_)
  have h : ST g A s [(fr, .inr (2, [.int fm, .ref fb, .int 1])), (fb, .inl (g.2 0, 16, .inl f)), (h0, .inr (2, [.int 241, .ref u_4, .int 1])), (u_4, .inl (g.2 0, 16, .inl f_5))] H locs := h
  exact r_vret X h hAe u_4 [2, 0, 1] rfl rfl 1 16 (Nat.le_of_ble_eq_true rfl) (Nat.le_of_ble_eq_true rfl) dX2_addPart_75

set_option maxHeartbeats 4000000 in
set_option maxRecDepth 100000 in
/-- Row.copyOf an empty row, room 241 -/
theorem c2_copyOf_241 (l : Launch) (g : GE) (sz : Nat) (h0 : Nat) (b : Nat) (size : Int32) (fr : Nat) (fm : Int32) (fb : Nat) : Met l yX2_copyOf (.code yX2_copyOf cX2_copyOf 2 none :: WL) { frames := 2, cells := 0, slots := 0, locals := 37 } (PR g [.ref h0, .ref fr] [(h0, .inr (2, [.int 241, .ref b, .int size])), (fr, .inr (2, [.int fm, .ref fb, .int 0]))] sz) (QV g [(h0, .inr (2, [.int 241, .ref b, .int size])), (fr, .inr (2, [.int fm, .ref fb, .int 0]))] sz (fun _ : Unit => [(h0, .inr (2, [.int 241, .ref b, .int 0])), (fr, .inr (2, [.int fm, .ref fb, .int 0]))])) 0 0 (va_A [(h0, .inr (2, [.int 241, .ref b, .int size])), (fr, .inr (2, [.int fm, .ref fb, .int 0]))] sz) := by
  refine k_start (by decide) (Nat.le_of_ble_eq_true rfl) ?_
  intro pp ee s m bb mm cd A H locs hAe X h ls hl
  have X : CX g pp s m mm cd _ cX2_copyOf 2 RX2 "copyOf" none A := X
  have hx := X.1
  have hb := X.2.1
  have hl : lv_has ls 2 [(0, .ref h0), (1, .ref fr)] := hl
  refine lv_aload_n hx hb dX2_copyOf_0 rfl (lv_at hl 0 rfl) ?_
  refine lv_iconst (v := 0) hx hb dX2_copyOf_1 (by decide) ?_
  refine r_put X h kl2 0 2 (v := .int 0) rfl (by decide) lk_X2_15 rfl rfl rfl (by decide) dX2_copyOf_2 (fun H locs h => ?_)
  have h : ST g A s [(h0, .inr (2, [.int 241, .ref b, .int 0])), (fr, .inr (2, [.int fm, .ref fb, .int 0]))] H locs := h
  refine lv_aload_n hx hb dX2_copyOf_5 rfl (lv_at hl 0 rfl) ?_
  refine lv_aload_n hx hb dX2_copyOf_6 rfl (lv_at hl 1 rfl) ?_
  refine lv_iconst (v := 0) hx hb dX2_copyOf_7 (by decide) ?_
  refine lv_aload_n hx hb dX2_copyOf_8 rfl (lv_at hl 1 rfl) ?_
  refine r_get X h kl2 1 2 rfl (by decide) lk_X2_15 rfl dX2_copyOf_9 ?_
  refine k_v X h [0] [1] (wr := [(fr, .inr (2, [.int fm, .ref fb, .int 0]))]) rfl rfl rfl (by decide) 0 0 (Nat.le_of_ble_eq_true rfl) (Nat.le_of_ble_eq_true rfl) (k_runV X h (As := [.ref fr, .int 0, .int 0]) (rest := []) (c2_addPart0_241 l g H.size h0 b fr) cw_X2_42 [0] rfl rfl 0 kl2 rfl rfl rfl (Nat.le_of_ble_eq_true rfl) (Nat.le_of_ble_eq_true rfl) rfl hl.1 rfl (Nat.le_of_ble_eq_true rfl) dX2_copyOf_12 (Nat.le_of_ble_eq_true rfl) (Nat.le_of_ble_eq_true rfl)) (fun _ H locs h => ?_)
  have h : ST g A s [(fr, .inr (2, [.int fm, .ref fb, .int 0])), (h0, .inr (2, [.int 241, .ref b, .int 0]))] H locs := h
  exact r_vret X h hAe () [1, 0] rfl rfl 0 0 (Nat.le_of_ble_eq_true rfl) (Nat.le_of_ble_eq_true rfl) dX2_copyOf_15

set_option maxHeartbeats 4000000 in
set_option maxRecDepth 100000 in
/-- Row.copyOf an empty row, room 12 -/
theorem c2_copyOf_12 (l : Launch) (g : GE) (sz : Nat) (h0 : Nat) (b : Nat) (size : Int32) (fr : Nat) (fm : Int32) (fb : Nat) : Met l yX2_copyOf (.code yX2_copyOf cX2_copyOf 2 none :: WL) { frames := 2, cells := 0, slots := 0, locals := 37 } (PR g [.ref h0, .ref fr] [(h0, .inr (2, [.int 12, .ref b, .int size])), (fr, .inr (2, [.int fm, .ref fb, .int 0]))] sz) (QV g [(h0, .inr (2, [.int 12, .ref b, .int size])), (fr, .inr (2, [.int fm, .ref fb, .int 0]))] sz (fun _ : Unit => [(h0, .inr (2, [.int 12, .ref b, .int 0])), (fr, .inr (2, [.int fm, .ref fb, .int 0]))])) 0 0 (va_A [(h0, .inr (2, [.int 12, .ref b, .int size])), (fr, .inr (2, [.int fm, .ref fb, .int 0]))] sz) := by
  refine k_start (by decide) (Nat.le_of_ble_eq_true rfl) ?_
  intro pp ee s m bb mm cd A H locs hAe X h ls hl
  have X : CX g pp s m mm cd _ cX2_copyOf 2 RX2 "copyOf" none A := X
  have hx := X.1
  have hb := X.2.1
  have hl : lv_has ls 2 [(0, .ref h0), (1, .ref fr)] := hl
  refine lv_aload_n hx hb dX2_copyOf_0 rfl (lv_at hl 0 rfl) ?_
  refine lv_iconst (v := 0) hx hb dX2_copyOf_1 (by decide) ?_
  refine r_put X h kl2 0 2 (v := .int 0) rfl (by decide) lk_X2_15 rfl rfl rfl (by decide) dX2_copyOf_2 (fun H locs h => ?_)
  have h : ST g A s [(h0, .inr (2, [.int 12, .ref b, .int 0])), (fr, .inr (2, [.int fm, .ref fb, .int 0]))] H locs := h
  refine lv_aload_n hx hb dX2_copyOf_5 rfl (lv_at hl 0 rfl) ?_
  refine lv_aload_n hx hb dX2_copyOf_6 rfl (lv_at hl 1 rfl) ?_
  refine lv_iconst (v := 0) hx hb dX2_copyOf_7 (by decide) ?_
  refine lv_aload_n hx hb dX2_copyOf_8 rfl (lv_at hl 1 rfl) ?_
  refine r_get X h kl2 1 2 rfl (by decide) lk_X2_15 rfl dX2_copyOf_9 ?_
  refine k_v X h [0] [1] (wr := [(fr, .inr (2, [.int fm, .ref fb, .int 0]))]) rfl rfl rfl (by decide) 0 0 (Nat.le_of_ble_eq_true rfl) (Nat.le_of_ble_eq_true rfl) (k_runV X h (As := [.ref fr, .int 0, .int 0]) (rest := []) (c2_addPart0_12 l g H.size h0 b fr) cw_X2_42 [0] rfl rfl 0 kl2 rfl rfl rfl (Nat.le_of_ble_eq_true rfl) (Nat.le_of_ble_eq_true rfl) rfl hl.1 rfl (Nat.le_of_ble_eq_true rfl) dX2_copyOf_12 (Nat.le_of_ble_eq_true rfl) (Nat.le_of_ble_eq_true rfl)) (fun _ H locs h => ?_)
  have h : ST g A s [(fr, .inr (2, [.int fm, .ref fb, .int 0])), (h0, .inr (2, [.int 12, .ref b, .int 0]))] H locs := h
  exact r_vret X h hAe () [1, 0] rfl rfl 0 0 (Nat.le_of_ble_eq_true rfl) (Nat.le_of_ble_eq_true rfl) dX2_copyOf_15

set_option maxHeartbeats 4000000 in
set_option maxRecDepth 100000 in
/-- Row.insert(0, v) into an empty row -/
theorem c2_insert (l : Launch) (g : GE) (sz : Nat) (h0 : Nat) (b : Nat) (v : Int32) : Met l yX2_insert (.code yX2_insert cX2_insert 4 none :: WL) { frames := 2, cells := 1, slots := 16, locals := 45 } (PR g [.ref h0, .int 0, .int v] [(h0, .inr (2, [.int 241, .ref b, .int 0])), (b, .inl (g.2 0, 0, .inl (fun _ => 0)))] sz) (QV g [(h0, .inr (2, [.int 241, .ref b, .int 0])), (b, .inl (g.2 0, 0, .inl (fun _ => 0)))] sz (fun u : Nat => [(h0, .inr (2, [.int 241, .ref u, .int 1])), (u, .inl (g.2 0, 16, .inl (upd (upd (fun _ => 0) 0 (vp_nar .byte (Int8.toInt32 (Int32.toInt8 v)))) 0 (vp_nar .byte (Int8.toInt32 (Int32.toInt8 v))))))])) 1 16 (va_A [(h0, .inr (2, [.int 241, .ref b, .int 0])), (b, .inl (g.2 0, 0, .inl (fun _ => 0)))] sz) := by
  refine k_start (by decide) (Nat.le_of_ble_eq_true rfl) ?_
  intro pp ee s m bb mm cd A H locs hAe X h ls hl
  have X : CX g pp s m mm cd _ cX2_insert 4 RX2 "insert" none A := X
  have hx := X.1
  have hb := X.2.1
  have hl : lv_has ls 4 [(0, .ref h0), (1, .int 0), (2, .int v)] := hl
  refine lv_iload_n hx hb dX2_insert_0 rfl (lv_at hl 1 rfl) ?_
  refine lv_if_lt (tgt := 23) hx hb dX2_insert_1 (by decide) (fun c_1 => absurd c_1 (by decide)) (fun c_1 => ?_)
  refine lv_iload_n hx hb dX2_insert_4 rfl (lv_at hl 1 rfl) ?_
  refine lv_aload_n hx hb dX2_insert_5 rfl (lv_at hl 0 rfl) ?_
  refine r_get X h kl2 0 2 rfl (by decide) lk_X2_15 rfl dX2_insert_6 ?_
  refine lv_icmp_gt (tgt := 23) hx hb dX2_insert_9 (by decide) (fun c_2 => absurd c_2 (by decide)) (fun c_2 => ?_)
  refine lv_aload_n hx hb dX2_insert_12 rfl (lv_at hl 0 rfl) ?_
  refine r_get X h kl2 0 2 rfl (by decide) lk_X2_15 rfl dX2_insert_13 ?_
  refine lv_aload_n hx hb dX2_insert_16 rfl (lv_at hl 0 rfl) ?_
  refine r_get X h kl2 0 0 rfl (by decide) lk_X2_19 rfl dX2_insert_17 ?_
  refine lv_icmp_lt (tgt := 24) hx hb dX2_insert_20 (by decide) (fun c_3 => ?_) (fun c_3 => absurd (by decide) c_3)
  refine lv_aload_n hx hb dX2_insert_24 rfl (lv_at hl 0 rfl) ?_
  refine lv_iload_n hx hb dX2_insert_25 rfl (lv_at hl 2 rfl) ?_
  refine k_v X h [0, 1] [] (wr := []) rfl rfl rfl (by decide) 1 16 (Nat.le_of_ble_eq_true rfl) (Nat.le_of_ble_eq_true rfl) (k_runV X h (As := [.int v]) (rest := []) (c2_add_241 l g H.size h0 b v) cw_X2_46 [0, 1] rfl rfl 0 kl2 rfl rfl rfl (Nat.le_of_ble_eq_true rfl) (Nat.le_of_ble_eq_true rfl) rfl hl.1 rfl (Nat.le_of_ble_eq_true rfl) dX2_insert_26 (Nat.le_of_ble_eq_true rfl) (Nat.le_of_ble_eq_true rfl)) (fun u9 H locs h => ?_)
  obtain ⟨u_4, rfl⟩ : ∃ z, z = u9 := ⟨_, rfl⟩
  have h : ST g A s [(h0, .inr (2, [.int 241, .ref u_4, .int 1])), (u_4, .inl (g.2 0, 16, .inl (upd (fun _ => 0) 0 (vp_nar .byte (Int8.toInt32 (Int32.toInt8 v))))))] H locs := h
  refine lv_aload_n hx hb dX2_insert_29 rfl (lv_at hl 0 rfl) ?_
  refine r_get X h kl2 0 2 rfl (by decide) lk_X2_15 rfl dX2_insert_30 ?_
  refine lv_iconst (v := 1) hx hb dX2_insert_33 (by decide) ?_
  refine lv_isub hx hb dX2_insert_34 ?_
  refine r_vi (y := 0) (by decide) ?_
  refine lv_istore_n (lv' := [(3, .int 0), (0, .ref h0), (1, .int 0), (2, .int v)]) hx hb dX2_insert_35 rfl hl (by decide) rfl (fun ls hl => ?_)
  refine lv_iload_n hx hb dX2_insert_36 rfl (lv_at hl 0 rfl) ?_
  refine lv_iload_n hx hb dX2_insert_37 rfl (lv_at hl 2 rfl) ?_
  refine lv_icmp_le (tgt := 59) hx hb dX2_insert_38 (by decide) (fun c_5 => ?_) (fun c_5 => absurd (by decide) c_5)
  refine lv_aload_n hx hb dX2_insert_59 rfl (lv_at hl 1 rfl) ?_
  refine lv_iload_n hx hb dX2_insert_60 rfl (lv_at hl 2 rfl) ?_
  refine lv_iload_n hx hb dX2_insert_61 rfl (lv_at hl 3 rfl) ?_
  refine k_v X h [0, 1] [] (wr := []) rfl rfl rfl (by decide) 1 16 (Nat.le_of_ble_eq_true rfl) (Nat.le_of_ble_eq_true rfl) (k_runV X h (As := [.int 0, .int v]) (rest := []) (c2_put0 l g H.size h0 241 u_4 ((upd (fun _ => 0) 0 (vp_nar .byte (Int8.toInt32 (Int32.toInt8 v))))) v) cw_X2_26 [0, 1] rfl rfl 0 kl2 rfl rfl rfl (Nat.le_of_ble_eq_true rfl) (Nat.le_of_ble_eq_true rfl) rfl hl.1 rfl (Nat.le_of_ble_eq_true rfl) dX2_insert_62 (Nat.le_of_ble_eq_true rfl) (Nat.le_of_ble_eq_true rfl)) (fun _ H locs h => ?_)
  have h : ST g A s [(h0, .inr (2, [.int 241, .ref u_4, .int 1])), (u_4, .inl (g.2 0, 16, .inl (upd (upd (fun _ => 0) 0 (vp_nar .byte (Int8.toInt32 (Int32.toInt8 v)))) 0 (vp_nar .byte (Int8.toInt32 (Int32.toInt8 v))))))] H locs := h
  exact r_vret X h hAe u_4 [0, 1] rfl rfl 1 16 (Nat.le_of_ble_eq_true rfl) (Nat.le_of_ble_eq_true rfl) dX2_insert_65
end
