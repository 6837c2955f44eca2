section
-- ===== PART A: goes FIRST, ahead of the names: the tables' words, and 'selects' of the private methods out of them =====
/-- a private method of a class that the tables say can be made, by its rows of tables_1 -/
def lw_okq (q : MethodName × Nat) : Prop := (q.1.cls ≠ "java/lang/invoke/MethodHandle" ∧ q.1.cls ≠ "java/lang/invoke/VarHandle") ∧ Cond.instantiable q.1.cls q.2 ∈ tables_1 ∧ Cond.privateMethod q.1 ∈ tables_1 ∧ Cond.instanceMethod q.1 ∈ tables_1
theorem lw_p0 : lw_okq (⟨"FieldSorter", "clearDraft", "()V"⟩, 9) := ⟨⟨by decide +kernel, by decide +kernel⟩, List.mem_of_getElem? (i := 13) (by decide +kernel), List.mem_of_getElem? (i := 253) (by decide +kernel), List.mem_of_getElem? (i := 254) (by decide +kernel)⟩
theorem lw_p1 : lw_okq (⟨"FieldSorter", "rulesChanged", "()V"⟩, 9) := ⟨⟨by decide +kernel, by decide +kernel⟩, List.mem_of_getElem? (i := 13) (by decide +kernel), List.mem_of_getElem? (i := 311) (by decide +kernel), List.mem_of_getElem? (i := 312) (by decide +kernel)⟩
theorem lw_p2 : lw_okq (⟨"FieldSorter$Rules", "isAhead", "(II)Z"⟩, 7) := ⟨⟨by decide +kernel, by decide +kernel⟩, List.mem_of_getElem? (i := 21) (by decide +kernel), List.mem_of_getElem? (i := 319) (by decide +kernel), List.mem_of_getElem? (i := 320) (by decide +kernel)⟩
theorem lw_p3 : lw_okq (⟨"FieldSorter$Parts", "fillNumbers", "([II)V"⟩, 2) := ⟨⟨by decide +kernel, by decide +kernel⟩, List.mem_of_getElem? (i := 68) (by decide +kernel), List.mem_of_getElem? (i := 327) (by decide +kernel), List.mem_of_getElem? (i := 328) (by decide +kernel)⟩
theorem lw_p4 : lw_okq (⟨"FieldSorter$Rules", "copyRule", "(LFieldSorter$Rules;II)V"⟩, 7) := ⟨⟨by decide +kernel, by decide +kernel⟩, List.mem_of_getElem? (i := 21) (by decide +kernel), List.mem_of_getElem? (i := 345) (by decide +kernel), List.mem_of_getElem? (i := 346) (by decide +kernel)⟩
theorem lw_p5 : lw_okq (⟨"FieldSorter", "toldBound", "(II)I"⟩, 9) := ⟨⟨by decide +kernel, by decide +kernel⟩, List.mem_of_getElem? (i := 13) (by decide +kernel), List.mem_of_getElem? (i := 357) (by decide +kernel), List.mem_of_getElem? (i := 358) (by decide +kernel)⟩
theorem lw_p6 : lw_okq (⟨"FieldSorter", "setPacket", "(IIII)V"⟩, 9) := ⟨⟨by decide +kernel, by decide +kernel⟩, List.mem_of_getElem? (i := 13) (by decide +kernel), List.mem_of_getElem? (i := 368) (by decide +kernel), List.mem_of_getElem? (i := 369) (by decide +kernel)⟩
theorem lw_p7 : lw_okq (⟨"FieldSorter", "ruleAt", "(I)I"⟩, 9) := ⟨⟨by decide +kernel, by decide +kernel⟩, List.mem_of_getElem? (i := 13) (by decide +kernel), List.mem_of_getElem? (i := 393) (by decide +kernel), List.mem_of_getElem? (i := 394) (by decide +kernel)⟩
theorem lw_p8 : lw_okq (⟨"FieldSorter$Survey", "gatherRuns", "(I)V"⟩, 9) := ⟨⟨by decide +kernel, by decide +kernel⟩, List.mem_of_getElem? (i := 83) (by decide +kernel), List.mem_of_getElem? (i := 405) (by decide +kernel), List.mem_of_getElem? (i := 406) (by decide +kernel)⟩
theorem lw_p9 : lw_okq (⟨"FieldSorter$Survey", "sweep", "(III)V"⟩, 9) := ⟨⟨by decide +kernel, by decide +kernel⟩, List.mem_of_getElem? (i := 83) (by decide +kernel), List.mem_of_getElem? (i := 412) (by decide +kernel), List.mem_of_getElem? (i := 413) (by decide +kernel)⟩
theorem lw_p10 : lw_okq (⟨"FieldSorter$Survey", "tally", "(II)V"⟩, 9) := ⟨⟨by decide +kernel, by decide +kernel⟩, List.mem_of_getElem? (i := 83) (by decide +kernel), List.mem_of_getElem? (i := 418) (by decide +kernel), List.mem_of_getElem? (i := 419) (by decide +kernel)⟩
theorem lw_p11 : lw_okq (⟨"FieldSorter$Survey", "actionAt", "(I)I"⟩, 9) := ⟨⟨by decide +kernel, by decide +kernel⟩, List.mem_of_getElem? (i := 83) (by decide +kernel), List.mem_of_getElem? (i := 423) (by decide +kernel), List.mem_of_getElem? (i := 424) (by decide +kernel)⟩
theorem lw_p12 : lw_okq (⟨"FieldSorter$Rules", "holds", "(II)Z"⟩, 7) := ⟨⟨by decide +kernel, by decide +kernel⟩, List.mem_of_getElem? (i := 21) (by decide +kernel), List.mem_of_getElem? (i := 449) (by decide +kernel), List.mem_of_getElem? (i := 450) (by decide +kernel)⟩
theorem lw_p13 : lw_okq (⟨"FieldSorter$Rules", "prefixesWithin", "(III)I"⟩, 7) := ⟨⟨by decide +kernel, by decide +kernel⟩, List.mem_of_getElem? (i := 21) (by decide +kernel), List.mem_of_getElem? (i := 475) (by decide +kernel), List.mem_of_getElem? (i := 476) (by decide +kernel)⟩
theorem lw_p14 : lw_okq (⟨"FieldSorter$Tuples", "countPieces", "(I)V"⟩, 12) := ⟨⟨by decide +kernel, by decide +kernel⟩, List.mem_of_getElem? (i := 123) (by decide +kernel), List.mem_of_getElem? (i := 504) (by decide +kernel), List.mem_of_getElem? (i := 505) (by decide +kernel)⟩
theorem lw_p15 : lw_okq (⟨"FieldSorter$Tuples", "enter", "(IIII)V"⟩, 12) := ⟨⟨by decide +kernel, by decide +kernel⟩, List.mem_of_getElem? (i := 123) (by decide +kernel), List.mem_of_getElem? (i := 510) (by decide +kernel), List.mem_of_getElem? (i := 511) (by decide +kernel)⟩
def lw_privs_1 : List (MethodName × Nat) := [(⟨"FieldSorter", "clearDraft", "()V"⟩, 9), (⟨"FieldSorter", "rulesChanged", "()V"⟩, 9), (⟨"FieldSorter$Rules", "isAhead", "(II)Z"⟩, 7), (⟨"FieldSorter$Parts", "fillNumbers", "([II)V"⟩, 2), (⟨"FieldSorter$Rules", "copyRule", "(LFieldSorter$Rules;II)V"⟩, 7), (⟨"FieldSorter", "toldBound", "(II)I"⟩, 9), (⟨"FieldSorter", "setPacket", "(IIII)V"⟩, 9), (⟨"FieldSorter", "ruleAt", "(I)I"⟩, 9), (⟨"FieldSorter$Survey", "gatherRuns", "(I)V"⟩, 9), (⟨"FieldSorter$Survey", "sweep", "(III)V"⟩, 9), (⟨"FieldSorter$Survey", "tally", "(II)V"⟩, 9), (⟨"FieldSorter$Survey", "actionAt", "(I)I"⟩, 9), (⟨"FieldSorter$Rules", "holds", "(II)Z"⟩, 7), (⟨"FieldSorter$Rules", "prefixesWithin", "(III)I"⟩, 7), (⟨"FieldSorter$Tuples", "countPieces", "(I)V"⟩, 12), (⟨"FieldSorter$Tuples", "enter", "(IIII)V"⟩, 12)]
theorem lw_r1 : ∀ q ∈ lw_privs_1, lw_okq q := List.forall_mem_cons.mpr ⟨lw_p0, List.forall_mem_cons.mpr ⟨lw_p1, List.forall_mem_cons.mpr ⟨lw_p2, List.forall_mem_cons.mpr ⟨lw_p3, List.forall_mem_cons.mpr ⟨lw_p4, List.forall_mem_cons.mpr ⟨lw_p5, List.forall_mem_cons.mpr ⟨lw_p6, List.forall_mem_cons.mpr ⟨lw_p7, List.forall_mem_cons.mpr ⟨lw_p8, List.forall_mem_cons.mpr ⟨lw_p9, List.forall_mem_cons.mpr ⟨lw_p10, List.forall_mem_cons.mpr ⟨lw_p11, List.forall_mem_cons.mpr ⟨lw_p12, List.forall_mem_cons.mpr ⟨lw_p13, List.forall_mem_cons.mpr ⟨lw_p14, List.forall_mem_cons.mpr ⟨lw_p15, fun _ h => absurd h List.not_mem_nil⟩⟩⟩⟩⟩⟩⟩⟩⟩⟩⟩⟩⟩⟩⟩⟩
theorem lw_p16 : lw_okq (⟨"FieldSorter$Tuples", "put", "(III)V"⟩, 12) := ⟨⟨by decide +kernel, by decide +kernel⟩, List.mem_of_getElem? (i := 123) (by decide +kernel), List.mem_of_getElem? (i := 514) (by decide +kernel), List.mem_of_getElem? (i := 515) (by decide +kernel)⟩
theorem lw_p17 : lw_okq (⟨"FieldSorter$Tuples", "packetKey", "(I[I)I"⟩, 12) := ⟨⟨by decide +kernel, by decide +kernel⟩, List.mem_of_getElem? (i := 123) (by decide +kernel), List.mem_of_getElem? (i := 534) (by decide +kernel), List.mem_of_getElem? (i := 535) (by decide +kernel)⟩
theorem lw_p18 : lw_okq (⟨"FieldSorter$Tuples", "firstWithKey", "(I)I"⟩, 12) := ⟨⟨by decide +kernel, by decide +kernel⟩, List.mem_of_getElem? (i := 123) (by decide +kernel), List.mem_of_getElem? (i := 543) (by decide +kernel), List.mem_of_getElem? (i := 544) (by decide +kernel)⟩
theorem lw_p19 : lw_okq (⟨"FieldSorter$Cutter", "visit", "(II)V"⟩, 12) := ⟨⟨by decide +kernel, by decide +kernel⟩, List.mem_of_getElem? (i := 174) (by decide +kernel), List.mem_of_getElem? (i := 561) (by decide +kernel), List.mem_of_getElem? (i := 562) (by decide +kernel)⟩
theorem lw_p20 : lw_okq (⟨"FieldSorter$Cutter", "cutField", "(II)I"⟩, 12) := ⟨⟨by decide +kernel, by decide +kernel⟩, List.mem_of_getElem? (i := 174) (by decide +kernel), List.mem_of_getElem? (i := 566) (by decide +kernel), List.mem_of_getElem? (i := 567) (by decide +kernel)⟩
theorem lw_p21 : lw_okq (⟨"FieldSorter$Cutter", "addLeaf", "(I)V"⟩, 12) := ⟨⟨by decide +kernel, by decide +kernel⟩, List.mem_of_getElem? (i := 174) (by decide +kernel), List.mem_of_getElem? (i := 572) (by decide +kernel), List.mem_of_getElem? (i := 573) (by decide +kernel)⟩
theorem lw_p22 : lw_okq (⟨"FieldSorter", "countTuples", "()I"⟩, 9) := ⟨⟨by decide +kernel, by decide +kernel⟩, List.mem_of_getElem? (i := 13) (by decide +kernel), List.mem_of_getElem? (i := 604) (by decide +kernel), List.mem_of_getElem? (i := 605) (by decide +kernel)⟩
theorem lw_p23 : lw_okq (⟨"FieldSorter", "countEntries", "()I"⟩, 9) := ⟨⟨by decide +kernel, by decide +kernel⟩, List.mem_of_getElem? (i := 13) (by decide +kernel), List.mem_of_getElem? (i := 608) (by decide +kernel), List.mem_of_getElem? (i := 609) (by decide +kernel)⟩
theorem lw_p24 : lw_okq (⟨"FieldSorter", "countIdle", "()I"⟩, 9) := ⟨⟨by decide +kernel, by decide +kernel⟩, List.mem_of_getElem? (i := 13) (by decide +kernel), List.mem_of_getElem? (i := 612) (by decide +kernel), List.mem_of_getElem? (i := 613) (by decide +kernel)⟩
theorem lw_p25 : lw_okq (⟨"FieldSorter", "countCovered", "()I"⟩, 9) := ⟨⟨by decide +kernel, by decide +kernel⟩, List.mem_of_getElem? (i := 13) (by decide +kernel), List.mem_of_getElem? (i := 616) (by decide +kernel), List.mem_of_getElem? (i := 617) (by decide +kernel)⟩
theorem lw_p26 : lw_okq (⟨"FieldSorter", "keptImages", "()I"⟩, 9) := ⟨⟨by decide +kernel, by decide +kernel⟩, List.mem_of_getElem? (i := 13) (by decide +kernel), List.mem_of_getElem? (i := 620) (by decide +kernel), List.mem_of_getElem? (i := 621) (by decide +kernel)⟩
theorem lw_p27 : lw_okq (⟨"FieldSorterModel", "clearDraft", "()V"⟩, 34) := ⟨⟨by decide +kernel, by decide +kernel⟩, List.mem_of_getElem? (i := 624) (by decide +kernel), List.mem_of_getElem? (i := 630) (by decide +kernel), List.mem_of_getElem? (i := 631) (by decide +kernel)⟩
theorem lw_p28 : lw_okq (⟨"FieldSorterModel", "change", "()V"⟩, 34) := ⟨⟨by decide +kernel, by decide +kernel⟩, List.mem_of_getElem? (i := 624) (by decide +kernel), List.mem_of_getElem? (i := 757) (by decide +kernel), List.mem_of_getElem? (i := 758) (by decide +kernel)⟩
theorem lw_p29 : lw_okq (⟨"FieldSorterModel", "isRule", "(I)Z"⟩, 34) := ⟨⟨by decide +kernel, by decide +kernel⟩, List.mem_of_getElem? (i := 624) (by decide +kernel), List.mem_of_getElem? (i := 765) (by decide +kernel), List.mem_of_getElem? (i := 766) (by decide +kernel)⟩
theorem lw_p30 : lw_okq (⟨"FieldSorterModel", "aheadOf", "(I)I"⟩, 34) := ⟨⟨by decide +kernel, by decide +kernel⟩, List.mem_of_getElem? (i := 624) (by decide +kernel), List.mem_of_getElem? (i := 773) (by decide +kernel), List.mem_of_getElem? (i := 774) (by decide +kernel)⟩
theorem lw_p31 : lw_okq (⟨"FieldSorterModel", "isAhead", "(II)Z"⟩, 34) := ⟨⟨by decide +kernel, by decide +kernel⟩, List.mem_of_getElem? (i := 624) (by decide +kernel), List.mem_of_getElem? (i := 777) (by decide +kernel), List.mem_of_getElem? (i := 778) (by decide +kernel)⟩
def lw_privs_2 : List (MethodName × Nat) := [(⟨"FieldSorter$Tuples", "put", "(III)V"⟩, 12), (⟨"FieldSorter$Tuples", "packetKey", "(I[I)I"⟩, 12), (⟨"FieldSorter$Tuples", "firstWithKey", "(I)I"⟩, 12), (⟨"FieldSorter$Cutter", "visit", "(II)V"⟩, 12), (⟨"FieldSorter$Cutter", "cutField", "(II)I"⟩, 12), (⟨"FieldSorter$Cutter", "addLeaf", "(I)V"⟩, 12), (⟨"FieldSorter", "countTuples", "()I"⟩, 9), (⟨"FieldSorter", "countEntries", "()I"⟩, 9), (⟨"FieldSorter", "countIdle", "()I"⟩, 9), (⟨"FieldSorter", "countCovered", "()I"⟩, 9), (⟨"FieldSorter", "keptImages", "()I"⟩, 9), (⟨"FieldSorterModel", "clearDraft", "()V"⟩, 34), (⟨"FieldSorterModel", "change", "()V"⟩, 34), (⟨"FieldSorterModel", "isRule", "(I)Z"⟩, 34), (⟨"FieldSorterModel", "aheadOf", "(I)I"⟩, 34), (⟨"FieldSorterModel", "isAhead", "(II)Z"⟩, 34)]
theorem lw_r2 : ∀ q ∈ lw_privs_2, lw_okq q := List.forall_mem_cons.mpr ⟨lw_p16, List.forall_mem_cons.mpr ⟨lw_p17, List.forall_mem_cons.mpr ⟨lw_p18, List.forall_mem_cons.mpr ⟨lw_p19, List.forall_mem_cons.mpr ⟨lw_p20, List.forall_mem_cons.mpr ⟨lw_p21, List.forall_mem_cons.mpr ⟨lw_p22, List.forall_mem_cons.mpr ⟨lw_p23, List.forall_mem_cons.mpr ⟨lw_p24, List.forall_mem_cons.mpr ⟨lw_p25, List.forall_mem_cons.mpr ⟨lw_p26, List.forall_mem_cons.mpr ⟨lw_p27, List.forall_mem_cons.mpr ⟨lw_p28, List.forall_mem_cons.mpr ⟨lw_p29, List.forall_mem_cons.mpr ⟨lw_p30, List.forall_mem_cons.mpr ⟨lw_p31, fun _ h => absurd h List.not_mem_nil⟩⟩⟩⟩⟩⟩⟩⟩⟩⟩⟩⟩⟩⟩⟩⟩
theorem lw_p32 : lw_okq (⟨"FieldSorterModel", "fitting", "(IIII)I"⟩, 34) := ⟨⟨by decide +kernel, by decide +kernel⟩, List.mem_of_getElem? (i := 624) (by decide +kernel), List.mem_of_getElem? (i := 792) (by decide +kernel), List.mem_of_getElem? (i := 793) (by decide +kernel)⟩
theorem lw_p33 : lw_okq (⟨"FieldSorterModel", "order", "()V"⟩, 34) := ⟨⟨by decide +kernel, by decide +kernel⟩, List.mem_of_getElem? (i := 624) (by decide +kernel), List.mem_of_getElem? (i := 796) (by decide +kernel), List.mem_of_getElem? (i := 797) (by decide +kernel)⟩
theorem lw_p34 : lw_okq (⟨"FieldSorterModel", "takersOf", "(III)I"⟩, 34) := ⟨⟨by decide +kernel, by decide +kernel⟩, List.mem_of_getElem? (i := 624) (by decide +kernel), List.mem_of_getElem? (i := 800) (by decide +kernel), List.mem_of_getElem? (i := 801) (by decide +kernel)⟩
theorem lw_p35 : lw_okq (⟨"FieldSorterModel", "sweep", "()V"⟩, 34) := ⟨⟨by decide +kernel, by decide +kernel⟩, List.mem_of_getElem? (i := 624) (by decide +kernel), List.mem_of_getElem? (i := 814) (by decide +kernel), List.mem_of_getElem? (i := 815) (by decide +kernel)⟩
theorem lw_p36 : lw_okq (⟨"FieldSorterModel", "layStretches", "()V"⟩, 34) := ⟨⟨by decide +kernel, by decide +kernel⟩, List.mem_of_getElem? (i := 624) (by decide +kernel), List.mem_of_getElem? (i := 818) (by decide +kernel), List.mem_of_getElem? (i := 819) (by decide +kernel)⟩
theorem lw_p37 : lw_okq (⟨"FieldSorterModel", "meet", "(II)V"⟩, 34) := ⟨⟨by decide +kernel, by decide +kernel⟩, List.mem_of_getElem? (i := 624) (by decide +kernel), List.mem_of_getElem? (i := 822) (by decide +kernel), List.mem_of_getElem? (i := 823) (by decide +kernel)⟩
theorem lw_p38 : lw_okq (⟨"FieldSorterModel", "coverOf", "(I)I"⟩, 34) := ⟨⟨by decide +kernel, by decide +kernel⟩, List.mem_of_getElem? (i := 624) (by decide +kernel), List.mem_of_getElem? (i := 834) (by decide +kernel), List.mem_of_getElem? (i := 835) (by decide +kernel)⟩
theorem lw_p39 : lw_okq (⟨"FieldSorterModel", "isWithin", "(II)Z"⟩, 34) := ⟨⟨by decide +kernel, by decide +kernel⟩, List.mem_of_getElem? (i := 624) (by decide +kernel), List.mem_of_getElem? (i := 838) (by decide +kernel), List.mem_of_getElem? (i := 839) (by decide +kernel)⟩
theorem lw_p40 : lw_okq (⟨"FieldSorterModel", "prefixes", "(II)I"⟩, 34) := ⟨⟨by decide +kernel, by decide +kernel⟩, List.mem_of_getElem? (i := 624) (by decide +kernel), List.mem_of_getElem? (i := 854) (by decide +kernel), List.mem_of_getElem? (i := 855) (by decide +kernel)⟩
theorem lw_p41 : lw_okq (⟨"FieldSorterModel", "valueOf", "(III)I"⟩, 34) := ⟨⟨by decide +kernel, by decide +kernel⟩, List.mem_of_getElem? (i := 624) (by decide +kernel), List.mem_of_getElem? (i := 858) (by decide +kernel), List.mem_of_getElem? (i := 859) (by decide +kernel)⟩
theorem lw_p42 : lw_okq (⟨"FieldSorterModel", "listTuples", "()V"⟩, 34) := ⟨⟨by decide +kernel, by decide +kernel⟩, List.mem_of_getElem? (i := 624) (by decide +kernel), List.mem_of_getElem? (i := 873) (by decide +kernel), List.mem_of_getElem? (i := 874) (by decide +kernel)⟩
theorem lw_p43 : lw_okq (⟨"FieldSorterModel", "ofLength", "(III)I"⟩, 34) := ⟨⟨by decide +kernel, by decide +kernel⟩, List.mem_of_getElem? (i := 624) (by decide +kernel), List.mem_of_getElem? (i := 877) (by decide +kernel), List.mem_of_getElem? (i := 878) (by decide +kernel)⟩
theorem lw_p44 : lw_okq (⟨"FieldSorterModel", "membersOf", "(I)I"⟩, 34) := ⟨⟨by decide +kernel, by decide +kernel⟩, List.mem_of_getElem? (i := 624) (by decide +kernel), List.mem_of_getElem? (i := 881) (by decide +kernel), List.mem_of_getElem? (i := 882) (by decide +kernel)⟩
theorem lw_p45 : lw_okq (⟨"FieldSorterModel", "entriesOf", "(II)I"⟩, 34) := ⟨⟨by decide +kernel, by decide +kernel⟩, List.mem_of_getElem? (i := 624) (by decide +kernel), List.mem_of_getElem? (i := 885) (by decide +kernel), List.mem_of_getElem? (i := 886) (by decide +kernel)⟩
theorem lw_p46 : lw_okq (⟨"FieldSorterModel", "entries", "(I)I"⟩, 34) := ⟨⟨by decide +kernel, by decide +kernel⟩, List.mem_of_getElem? (i := 624) (by decide +kernel), List.mem_of_getElem? (i := 892) (by decide +kernel), List.mem_of_getElem? (i := 893) (by decide +kernel)⟩
theorem lw_p47 : lw_okq (⟨"FieldSorterModel", "codeOf", "(IIIII)I"⟩, 34) := ⟨⟨by decide +kernel, by decide +kernel⟩, List.mem_of_getElem? (i := 624) (by decide +kernel), List.mem_of_getElem? (i := 903) (by decide +kernel), List.mem_of_getElem? (i := 904) (by decide +kernel)⟩
def lw_privs_3 : List (MethodName × Nat) := [(⟨"FieldSorterModel", "fitting", "(IIII)I"⟩, 34), (⟨"FieldSorterModel", "order", "()V"⟩, 34), (⟨"FieldSorterModel", "takersOf", "(III)I"⟩, 34), (⟨"FieldSorterModel", "sweep", "()V"⟩, 34), (⟨"FieldSorterModel", "layStretches", "()V"⟩, 34), (⟨"FieldSorterModel", "meet", "(II)V"⟩, 34), (⟨"FieldSorterModel", "coverOf", "(I)I"⟩, 34), (⟨"FieldSorterModel", "isWithin", "(II)Z"⟩, 34), (⟨"FieldSorterModel", "prefixes", "(II)I"⟩, 34), (⟨"FieldSorterModel", "valueOf", "(III)I"⟩, 34), (⟨"FieldSorterModel", "listTuples", "()V"⟩, 34), (⟨"FieldSorterModel", "ofLength", "(III)I"⟩, 34), (⟨"FieldSorterModel", "membersOf", "(I)I"⟩, 34), (⟨"FieldSorterModel", "entriesOf", "(II)I"⟩, 34), (⟨"FieldSorterModel", "entries", "(I)I"⟩, 34), (⟨"FieldSorterModel", "codeOf", "(IIIII)I"⟩, 34)]
theorem lw_r3 : ∀ q ∈ lw_privs_3, lw_okq q := List.forall_mem_cons.mpr ⟨lw_p32, List.forall_mem_cons.mpr ⟨lw_p33, List.forall_mem_cons.mpr ⟨lw_p34, List.forall_mem_cons.mpr ⟨lw_p35, List.forall_mem_cons.mpr ⟨lw_p36, List.forall_mem_cons.mpr ⟨lw_p37, List.forall_mem_cons.mpr ⟨lw_p38, List.forall_mem_cons.mpr ⟨lw_p39, List.forall_mem_cons.mpr ⟨lw_p40, List.forall_mem_cons.mpr ⟨lw_p41, List.forall_mem_cons.mpr ⟨lw_p42, List.forall_mem_cons.mpr ⟨lw_p43, List.forall_mem_cons.mpr ⟨lw_p44, List.forall_mem_cons.mpr ⟨lw_p45, List.forall_mem_cons.mpr ⟨lw_p46, List.forall_mem_cons.mpr ⟨lw_p47, fun _ h => absurd h List.not_mem_nil⟩⟩⟩⟩⟩⟩⟩⟩⟩⟩⟩⟩⟩⟩⟩⟩
theorem lw_p48 : lw_okq (⟨"FieldSorterModel", "lengthOf", "(III)I"⟩, 34) := ⟨⟨by decide +kernel, by decide +kernel⟩, List.mem_of_getElem? (i := 624) (by decide +kernel), List.mem_of_getElem? (i := 907) (by decide +kernel), List.mem_of_getElem? (i := 908) (by decide +kernel)⟩
theorem lw_p49 : lw_okq (⟨"FieldSorterModel", "growTree", "()V"⟩, 34) := ⟨⟨by decide +kernel, by decide +kernel⟩, List.mem_of_getElem? (i := 624) (by decide +kernel), List.mem_of_getElem? (i := 919) (by decide +kernel), List.mem_of_getElem? (i := 920) (by decide +kernel)⟩
theorem lw_p50 : lw_okq (⟨"FieldSorterModel", "cutOf", "(I)I"⟩, 34) := ⟨⟨by decide +kernel, by decide +kernel⟩, List.mem_of_getElem? (i := 624) (by decide +kernel), List.mem_of_getElem? (i := 923) (by decide +kernel), List.mem_of_getElem? (i := 924) (by decide +kernel)⟩
theorem lw_p51 : lw_okq (⟨"FieldSorterModel", "halved", "(III)I"⟩, 34) := ⟨⟨by decide +kernel, by decide +kernel⟩, List.mem_of_getElem? (i := 624) (by decide +kernel), List.mem_of_getElem? (i := 927) (by decide +kernel), List.mem_of_getElem? (i := 928) (by decide +kernel)⟩
theorem lw_p52 : lw_okq (⟨"FieldSorterModel", "addBelow", "(III)V"⟩, 34) := ⟨⟨by decide +kernel, by decide +kernel⟩, List.mem_of_getElem? (i := 624) (by decide +kernel), List.mem_of_getElem? (i := 931) (by decide +kernel), List.mem_of_getElem? (i := 932) (by decide +kernel)⟩
theorem lw_p53 : lw_okq (⟨"FieldSorterModel", "looked", "(II)I"⟩, 34) := ⟨⟨by decide +kernel, by decide +kernel⟩, List.mem_of_getElem? (i := 624) (by decide +kernel), List.mem_of_getElem? (i := 939) (by decide +kernel), List.mem_of_getElem? (i := 940) (by decide +kernel)⟩
theorem lw_p54 : lw_okq (⟨"FieldSorterModel", "allEntries", "()I"⟩, 34) := ⟨⟨by decide +kernel, by decide +kernel⟩, List.mem_of_getElem? (i := 624) (by decide +kernel), List.mem_of_getElem? (i := 955) (by decide +kernel), List.mem_of_getElem? (i := 956) (by decide +kernel)⟩
theorem lw_p55 : lw_okq (⟨"FieldSorterModel", "idleOnes", "()I"⟩, 34) := ⟨⟨by decide +kernel, by decide +kernel⟩, List.mem_of_getElem? (i := 624) (by decide +kernel), List.mem_of_getElem? (i := 959) (by decide +kernel), List.mem_of_getElem? (i := 960) (by decide +kernel)⟩
theorem lw_p56 : lw_okq (⟨"FieldSorterModel", "coveredOnes", "()I"⟩, 34) := ⟨⟨by decide +kernel, by decide +kernel⟩, List.mem_of_getElem? (i := 624) (by decide +kernel), List.mem_of_getElem? (i := 963) (by decide +kernel), List.mem_of_getElem? (i := 964) (by decide +kernel)⟩
def lw_privs_4 : List (MethodName × Nat) := [(⟨"FieldSorterModel", "lengthOf", "(III)I"⟩, 34), (⟨"FieldSorterModel", "growTree", "()V"⟩, 34), (⟨"FieldSorterModel", "cutOf", "(I)I"⟩, 34), (⟨"FieldSorterModel", "halved", "(III)I"⟩, 34), (⟨"FieldSorterModel", "addBelow", "(III)V"⟩, 34), (⟨"FieldSorterModel", "looked", "(II)I"⟩, 34), (⟨"FieldSorterModel", "allEntries", "()I"⟩, 34), (⟨"FieldSorterModel", "idleOnes", "()I"⟩, 34), (⟨"FieldSorterModel", "coveredOnes", "()I"⟩, 34)]
theorem lw_r4 : ∀ q ∈ lw_privs_4, lw_okq q := List.forall_mem_cons.mpr ⟨lw_p48, List.forall_mem_cons.mpr ⟨lw_p49, List.forall_mem_cons.mpr ⟨lw_p50, List.forall_mem_cons.mpr ⟨lw_p51, List.forall_mem_cons.mpr ⟨lw_p52, List.forall_mem_cons.mpr ⟨lw_p53, List.forall_mem_cons.mpr ⟨lw_p54, List.forall_mem_cons.mpr ⟨lw_p55, List.forall_mem_cons.mpr ⟨lw_p56, fun _ h => absurd h List.not_mem_nil⟩⟩⟩⟩⟩⟩⟩⟩⟩
def lw_privs : List (MethodName × Nat) := lw_privs_1 ++ (lw_privs_2 ++ (lw_privs_3 ++ (lw_privs_4)))
def lw_tbl : List Cond := k2_sels lw_privs ++ tables_1
theorem lw_privs_ok : ∀ q ∈ lw_privs, lw_okq q := by
  show ∀ q ∈ lw_privs_1 ++ (lw_privs_2 ++ (lw_privs_3 ++ (lw_privs_4))), lw_okq q
  exact List.forall_mem_append.mpr ⟨lw_r1, List.forall_mem_append.mpr ⟨lw_r2, List.forall_mem_append.mpr ⟨lw_r3, lw_r4⟩⟩⟩
end
section
def RX0 : String := "FieldSorter$Cutter"
def TX0 : u_T := fun k => match k with
  | 0 => ("FieldSorter$Cutter", "bin", "I", false)
  | 1 => ("FieldSorter$Cutter", "deep", "I", false)
  | 2 => ("FieldSorter$Cutter", "nodes", "I", false)
  | 3 => ("FieldSorter$Cutter", "leaves", "I", false)
  | 4 => ("FieldSorter$Cutter", "deepest", "I", false)
  | 5 => ("FieldSorter$Cutter", "leafRules", "I", false)
  | 6 => ("FieldSorter$Cutter", "fullest", "I", false)
  | 7 => ("FieldSorter$Cutter", "emptyLeaves", "I", false)
  | 8 => ("FieldSorter$Cutter", "leafDepth", "I", false)
  | 9 => ("FieldSorter$Cutter", "cuts", "[I", true)
  | 10 => ("FieldSorter$Cutter", "parts", "LFieldSorter$Parts;", true)
  | _ => ("FieldSorter$Cutter", "node", "[I", true)
def tyX0 : Nat → FieldType := fun k => match k with
  | 0 => .int
  | 1 => .int
  | 2 => .int
  | 3 => .int
  | 4 => .int
  | 5 => .int
  | 6 => .int
  | 7 => .int
  | 8 => .int
  | 9 => .array .int
  | 10 => .object "FieldSorter$Parts"
  | _ => .array .int
theorem nmX0 : ∀ a, a < 12 → ∀ b, b < 12 → a ≠ b → (TX0 a).2.1 ≠ (TX0 b).2.1 := by decide +kernel
theorem tyX0_ok : ∀ k, k < 12 → parseFieldDescriptor (TX0 k).2.2.1 = some (tyX0 k) := by decide +kernel
abbrev cX0_init : ByteArray := prog_2_method_1_code
def yX0_init : MethodName := ⟨RX0, "<init>", "(LFieldSorter$Parts;)V"⟩
abbrev cX0_measure : ByteArray := prog_2_method_2_code
def yX0_measure : MethodName := ⟨RX0, "measure", "()V"⟩
abbrev cX0_visit : ByteArray := prog_2_method_3_code
def yX0_visit : MethodName := ⟨RX0, "visit", "(II)V"⟩
abbrev cX0_addLeaf : ByteArray := prog_2_method_4_code
def yX0_addLeaf : MethodName := ⟨RX0, "addLeaf", "(I)V"⟩
abbrev cX0_cutField : ByteArray := prog_2_method_5_code
def yX0_cutField : MethodName := ⟨RX0, "cutField", "(II)I"⟩
abbrev cX0_descend : ByteArray := prog_2_method_6_code
def yX0_descend : MethodName := ⟨RX0, "descend", "([I)I"⟩
def RX1 : String := "FieldSorter$Image"
def TX1 : u_T := fun k => match k with
  | 0 => ("FieldSorter$Image", "kept", "Z", false)
  | 1 => ("FieldSorter$Image", "bin", "I", false)
  | 2 => ("FieldSorter$Image", "deep", "I", false)
  | _ => ("FieldSorter$Image", "rules", "LFieldSorter$Rules;", true)
def tyX1 : Nat → FieldType := fun k => match k with
  | 0 => .boolean
  | 1 => .int
  | 2 => .int
  | _ => .object "FieldSorter$Rules"
theorem nmX1 : ∀ a, a < 4 → ∀ b, b < 4 → a ≠ b → (TX1 a).2.1 ≠ (TX1 b).2.1 := by decide +kernel
theorem tyX1_ok : ∀ k, k < 4 → parseFieldDescriptor (TX1 k).2.2.1 = some (tyX1 k) := by decide +kernel
abbrev cX1_init : ByteArray := prog_3_method_1_code
def yX1_init : MethodName := ⟨RX1, "<init>", "()V"⟩
def RX2 : String := "FieldSorter$Parts"
def TX2 : u_T := fun k => match k with
  | 0 => ("FieldSorter$Parts", "meeting", "[[I", true)
  | _ => ("FieldSorter$Parts", "rules", "LFieldSorter$Rules;", true)
def tyX2 : Nat → FieldType := fun k => match k with
  | 0 => .array (.array .int)
  | _ => .object "FieldSorter$Rules"
theorem nmX2 : ∀ a, a < 2 → ∀ b, b < 2 → a ≠ b → (TX2 a).2.1 ≠ (TX2 b).2.1 := by decide +kernel
theorem tyX2_ok : ∀ k, k < 2 → parseFieldDescriptor (TX2 k).2.2.1 = some (tyX2 k) := by decide +kernel
abbrev cX2_init : ByteArray := prog_4_method_1_code
def yX2_init : MethodName := ⟨RX2, "<init>", "(LFieldSorter$Rules;)V"⟩
abbrev cX2_build : ByteArray := prog_4_method_2_code
def yX2_build : MethodName := ⟨RX2, "build", "()V"⟩
abbrev cX2_fillNumbers : ByteArray := prog_4_method_3_code
def yX2_fillNumbers : MethodName := ⟨RX2, "fillNumbers", "([II)V"⟩
abbrev cX2_ofNumber : ByteArray := prog_4_method_4_code
def yX2_ofNumber : MethodName := ⟨RX2, "ofNumber", "(II)I"⟩
abbrev cX2_fitting : ByteArray := prog_4_method_5_code
def yX2_fitting : MethodName := ⟨RX2, "fitting", "([I)I"⟩
abbrev cX2_all : ByteArray := prog_4_method_6_code
def yX2_all : MethodName := ⟨RX2, "all", "()I"⟩
def RX3 : String := "FieldSorter$Rules"
def TX3 : u_T := fun k => match k with
  | 0 => ("FieldSorter$Rules", "size", "I", false)
  | 1 => ("FieldSorter$Rules", "low", "[[I", true)
  | 2 => ("FieldSorter$Rules", "high", "[[I", true)
  | 3 => ("FieldSorter$Rules", "ranks", "[I", true)
  | 4 => ("FieldSorter$Rules", "actions", "[I", true)
  | 5 => ("FieldSorter$Rules", "order", "[I", true)
  | _ => ("FieldSorter$Rules", "place", "[I", true)
def tyX3 : Nat → FieldType := fun k => match k with
  | 0 => .int
  | 1 => .array (.array .int)
  | 2 => .array (.array .int)
  | 3 => .array .int
  | 4 => .array .int
  | 5 => .array .int
  | _ => .array .int
theorem nmX3 : ∀ a, a < 7 → ∀ b, b < 7 → a ≠ b → (TX3 a).2.1 ≠ (TX3 b).2.1 := by decide +kernel
theorem tyX3_ok : ∀ k, k < 7 → parseFieldDescriptor (TX3 k).2.2.1 = some (tyX3 k) := by decide +kernel
abbrev cX3_init : ByteArray := prog_5_method_1_code
def yX3_init : MethodName := ⟨RX3, "<init>", "()V"⟩
abbrev cX3_has : ByteArray := prog_5_method_2_code
def yX3_has : MethodName := ⟨RX3, "has", "(I)Z"⟩
abbrev cX3_add : ByteArray := prog_5_method_3_code
def yX3_add : MethodName := ⟨RX3, "add", "([I[III)V"⟩
abbrev cX3_remove : ByteArray := prog_5_method_4_code
def yX3_remove : MethodName := ⟨RX3, "remove", "(I)V"⟩
abbrev cX3_copyFrom : ByteArray := prog_5_method_5_code
def yX3_copyFrom : MethodName := ⟨RX3, "copyFrom", "(LFieldSorter$Rules;)V"⟩
abbrev cX3_copyRule : ByteArray := prog_5_method_6_code
def yX3_copyRule : MethodName := ⟨RX3, "copyRule", "(LFieldSorter$Rules;II)V"⟩
abbrev cX3_sort : ByteArray := prog_5_method_7_code
def yX3_sort : MethodName := ⟨RX3, "sort", "()V"⟩
abbrev cX3_isAhead : ByteArray := prog_5_method_8_code
def yX3_isAhead : MethodName := ⟨RX3, "isAhead", "(II)Z"⟩
abbrev cX3_takes : ByteArray := prog_5_method_9_code
def yX3_takes : MethodName := ⟨RX3, "takes", "(III)Z"⟩
abbrev cX3_shared : ByteArray := prog_5_method_10_code
def yX3_shared : MethodName := ⟨RX3, "shared", "(III)I"⟩
abbrev cX3_coverOf : ByteArray := prog_5_method_11_code
def yX3_coverOf : MethodName := ⟨RX3, "coverOf", "(I)I"⟩
abbrev cX3_holds : ByteArray := prog_5_method_12_code
def yX3_holds : MethodName := ⟨RX3, "holds", "(II)Z"⟩
abbrev cX3_prefixLength : ByteArray := prog_5_method_13_code
def yX3_prefixLength : MethodName := ⟨RX3, "prefixLength", "(III)I"⟩
abbrev cX3_prefixValue : ByteArray := prog_5_method_14_code
def yX3_prefixValue : MethodName := ⟨RX3, "prefixValue", "(III)I"⟩
abbrev cX3_prefixesOf : ByteArray := prog_5_method_15_code
def yX3_prefixesOf : MethodName := ⟨RX3, "prefixesOf", "(III)I"⟩
abbrev cX3_prefixesWithin : ByteArray := prog_5_method_16_code
def yX3_prefixesWithin : MethodName := ⟨RX3, "prefixesWithin", "(III)I"⟩
def RX4 : String := "FieldSorter$Survey"
def TX4 : u_T := fun k => match k with
  | 0 => ("FieldSorter$Survey", "stale", "Z", false)
  | 1 => ("FieldSorter$Survey", "unclaimed", "I", false)
  | 2 => ("FieldSorter$Survey", "won", "[I", true)
  | 3 => ("FieldSorter$Survey", "needed", "[Z", true)
  | 4 => ("FieldSorter$Survey", "runs", "[I", true)
  | 5 => ("FieldSorter$Survey", "runMask", "[[I", true)
  | 6 => ("FieldSorter$Survey", "runNumbers", "[[I", true)
  | 7 => ("FieldSorter$Survey", "rules", "LFieldSorter$Rules;", true)
  | _ => ("FieldSorter$Survey", "parts", "LFieldSorter$Parts;", true)
def tyX4 : Nat → FieldType := fun k => match k with
  | 0 => .boolean
  | 1 => .int
  | 2 => .array .int
  | 3 => .array .boolean
  | 4 => .array .int
  | 5 => .array (.array .int)
  | 6 => .array (.array .int)
  | 7 => .object "FieldSorter$Rules"
  | _ => .object "FieldSorter$Parts"
theorem nmX4 : ∀ a, a < 9 → ∀ b, b < 9 → a ≠ b → (TX4 a).2.1 ≠ (TX4 b).2.1 := by decide +kernel
theorem tyX4_ok : ∀ k, k < 9 → parseFieldDescriptor (TX4 k).2.2.1 = some (tyX4 k) := by decide +kernel
abbrev cX4_init : ByteArray := prog_6_method_1_code
def yX4_init : MethodName := ⟨RX4, "<init>", "(LFieldSorter$Rules;LFieldSorter$Parts;)V"⟩
abbrev cX4_refresh : ByteArray := prog_6_method_2_code
def yX4_refresh : MethodName := ⟨RX4, "refresh", "()V"⟩
abbrev cX4_gatherRuns : ByteArray := prog_6_method_3_code
def yX4_gatherRuns : MethodName := ⟨RX4, "gatherRuns", "(I)V"⟩
abbrev cX4_sweep : ByteArray := prog_6_method_4_code
def yX4_sweep : MethodName := ⟨RX4, "sweep", "(III)V"⟩
abbrev cX4_tally : ByteArray := prog_6_method_5_code
def yX4_tally : MethodName := ⟨RX4, "tally", "(II)V"⟩
abbrev cX4_actionAt : ByteArray := prog_6_method_6_code
def yX4_actionAt : MethodName := ⟨RX4, "actionAt", "(I)I"⟩
abbrev cX4_wonByAction : ByteArray := prog_6_method_7_code
def yX4_wonByAction : MethodName := ⟨RX4, "wonByAction", "(I)I"⟩
def RX5 : String := "FieldSorter$Tuples"
def TX5 : u_T := fun k => match k with
  | 0 => ("FieldSorter$Tuples", "stale", "Z", false)
  | 1 => ("FieldSorter$Tuples", "size", "I", false)
  | 2 => ("FieldSorter$Tuples", "entries", "[I", true)
  | 3 => ("FieldSorter$Tuples", "best", "[I", true)
  | 4 => ("FieldSorter$Tuples", "members", "[I", true)
  | 5 => ("FieldSorter$Tuples", "keys", "[I", true)
  | 6 => ("FieldSorter$Tuples", "numberOf", "[I", true)
  | 7 => ("FieldSorter$Tuples", "pieces", "[[I", true)
  | 8 => ("FieldSorter$Tuples", "found", "I", false)
  | 9 => ("FieldSorter$Tuples", "probed", "I", false)
  | 10 => ("FieldSorter$Tuples", "packetKeys", "[I", true)
  | _ => ("FieldSorter$Tuples", "rules", "LFieldSorter$Rules;", true)
def tyX5 : Nat → FieldType := fun k => match k with
  | 0 => .boolean
  | 1 => .int
  | 2 => .array .int
  | 3 => .array .int
  | 4 => .array .int
  | 5 => .array .int
  | 6 => .array .int
  | 7 => .array (.array .int)
  | 8 => .int
  | 9 => .int
  | 10 => .array .int
  | _ => .object "FieldSorter$Rules"
theorem nmX5 : ∀ a, a < 12 → ∀ b, b < 12 → a ≠ b → (TX5 a).2.1 ≠ (TX5 b).2.1 := by decide +kernel
theorem tyX5_ok : ∀ k, k < 12 → parseFieldDescriptor (TX5 k).2.2.1 = some (tyX5 k) := by decide +kernel
abbrev cX5_init : ByteArray := prog_7_method_1_code
def yX5_init : MethodName := ⟨RX5, "<init>", "(LFieldSorter$Rules;)V"⟩
abbrev cX5_lengthIn : ByteArray := prog_7_method_2_code
def yX5_lengthIn : MethodName := ⟨RX5, "lengthIn", "(II)I"⟩
abbrev cX5_refresh : ByteArray := prog_7_method_3_code
def yX5_refresh : MethodName := ⟨RX5, "refresh", "()V"⟩
abbrev cX5_countPieces : ByteArray := prog_7_method_4_code
def yX5_countPieces : MethodName := ⟨RX5, "countPieces", "(I)V"⟩
abbrev cX5_enter : ByteArray := prog_7_method_5_code
def yX5_enter : MethodName := ⟨RX5, "enter", "(IIII)V"⟩
abbrev cX5_put : ByteArray := prog_7_method_6_code
def yX5_put : MethodName := ⟨RX5, "put", "(III)V"⟩
abbrev cX5_search : ByteArray := prog_7_method_7_code
def yX5_search : MethodName := ⟨RX5, "search", "([I)V"⟩
abbrev cX5_packetKey : ByteArray := prog_7_method_8_code
def yX5_packetKey : MethodName := ⟨RX5, "packetKey", "(I[I)I"⟩
abbrev cX5_firstWithKey : ByteArray := prog_7_method_9_code
def yX5_firstWithKey : MethodName := ⟨RX5, "firstWithKey", "(I)I"⟩
def RX6 : String := "FieldSorter"
def TX6 : u_T := fun k => match k with
  | 0 => ("FieldSorter", "rules", "LFieldSorter$Rules;", true)
  | 1 => ("FieldSorter", "parts", "LFieldSorter$Parts;", true)
  | 2 => ("FieldSorter", "survey", "LFieldSorter$Survey;", true)
  | 3 => ("FieldSorter", "tuples", "LFieldSorter$Tuples;", true)
  | 4 => ("FieldSorter", "cutter", "LFieldSorter$Cutter;", true)
  | 5 => ("FieldSorter", "images", "[LFieldSorter$Image;", true)
  | 6 => ("FieldSorter", "draftLow", "[I", true)
  | 7 => ("FieldSorter", "draftHigh", "[I", true)
  | _ => ("FieldSorter", "packet", "[I", true)
def tyX6 : Nat → FieldType := fun k => match k with
  | 0 => .object "FieldSorter$Rules"
  | 1 => .object "FieldSorter$Parts"
  | 2 => .object "FieldSorter$Survey"
  | 3 => .object "FieldSorter$Tuples"
  | 4 => .object "FieldSorter$Cutter"
  | 5 => .array (.object "FieldSorter$Image")
  | 6 => .array .int
  | 7 => .array .int
  | _ => .array .int
theorem nmX6 : ∀ a, a < 9 → ∀ b, b < 9 → a ≠ b → (TX6 a).2.1 ≠ (TX6 b).2.1 := by decide +kernel
theorem tyX6_ok : ∀ k, k < 9 → parseFieldDescriptor (TX6 k).2.2.1 = some (tyX6 k) := by decide +kernel
abbrev cX6_init : ByteArray := prog_1_method_1_code
def yX6_init : MethodName := ⟨RX6, "<init>", "()V"⟩
abbrev cX6_draft : ByteArray := prog_1_method_2_code
def yX6_draft : MethodName := ⟨RX6, "draft", "(III)I"⟩
abbrev cX6_rule : ByteArray := prog_1_method_3_code
def yX6_rule : MethodName := ⟨RX6, "rule", "(II)I"⟩
abbrev cX6_drop : ByteArray := prog_1_method_4_code
def yX6_drop : MethodName := ⟨RX6, "drop", "(I)I"⟩
abbrev cX6_rank : ByteArray := prog_1_method_5_code
def yX6_rank : MethodName := ⟨RX6, "rank", "(II)I"⟩
abbrev cX6_told : ByteArray := prog_1_method_6_code
def yX6_told : MethodName := ⟨RX6, "told", "(II)I"⟩
abbrev cX6_first : ByteArray := prog_1_method_7_code
def yX6_first : MethodName := ⟨RX6, "first", "(IIII)I"⟩
abbrev cX6_wins : ByteArray := prog_1_method_8_code
def yX6_wins : MethodName := ⟨RX6, "wins", "(I)I"⟩
abbrev cX6_overlap : ByteArray := prog_1_method_9_code
def yX6_overlap : MethodName := ⟨RX6, "overlap", "(II)I"⟩
abbrev cX6_covered : ByteArray := prog_1_method_10_code
def yX6_covered : MethodName := ⟨RX6, "covered", "(I)I"⟩
abbrev cX6_idle : ByteArray := prog_1_method_11_code
def yX6_idle : MethodName := ⟨RX6, "idle", "(I)I"⟩
abbrev cX6_packets : ByteArray := prog_1_method_12_code
def yX6_packets : MethodName := ⟨RX6, "packets", "(I)I"⟩
abbrev cX6_split : ByteArray := prog_1_method_13_code
def yX6_split : MethodName := ⟨RX6, "split", "(II)I"⟩
abbrev cX6_prefix : ByteArray := prog_1_method_14_code
def yX6_prefix : MethodName := ⟨RX6, "prefix", "(IIII)I"⟩
abbrev cX6_tuple : ByteArray := prog_1_method_15_code
def yX6_tuple : MethodName := ⟨RX6, "tuple", "(II)I"⟩
abbrev cX6_probe : ByteArray := prog_1_method_16_code
def yX6_probe : MethodName := ⟨RX6, "probe", "(IIIII)I"⟩
abbrev cX6_grow : ByteArray := prog_1_method_17_code
def yX6_grow : MethodName := ⟨RX6, "grow", "(II)I"⟩
abbrev cX6_tree : ByteArray := prog_1_method_18_code
def yX6_tree : MethodName := ⟨RX6, "tree", "(I)I"⟩
abbrev cX6_walk : ByteArray := prog_1_method_19_code
def yX6_walk : MethodName := ⟨RX6, "walk", "(IIIII)I"⟩
abbrev cX6_image : ByteArray := prog_1_method_20_code
def yX6_image : MethodName := ⟨RX6, "image", "(I)I"⟩
abbrev cX6_restore : ByteArray := prog_1_method_21_code
def yX6_restore : MethodName := ⟨RX6, "restore", "(I)I"⟩
abbrev cX6_count : ByteArray := prog_1_method_22_code
def yX6_count : MethodName := ⟨RX6, "count", "(I)I"⟩
abbrev cX6_isField : ByteArray := prog_1_method_23_code
def yX6_isField : MethodName := ⟨RX6, "isField", "(I)Z"⟩
abbrev cX6_isNumber : ByteArray := prog_1_method_24_code
def yX6_isNumber : MethodName := ⟨RX6, "isNumber", "(II)Z"⟩
abbrev cX6_isPacket : ByteArray := prog_1_method_25_code
def yX6_isPacket : MethodName := ⟨RX6, "isPacket", "(IIII)Z"⟩
abbrev cX6_isRank : ByteArray := prog_1_method_26_code
def yX6_isRank : MethodName := ⟨RX6, "isRank", "(I)Z"⟩
abbrev cX6_isAction : ByteArray := prog_1_method_27_code
def yX6_isAction : MethodName := ⟨RX6, "isAction", "(I)Z"⟩
abbrev cX6_lowestBit : ByteArray := prog_1_method_28_code
def yX6_lowestBit : MethodName := ⟨RX6, "lowestBit", "(I)I"⟩
abbrev cX6_setPacket : ByteArray := prog_1_method_29_code
def yX6_setPacket : MethodName := ⟨RX6, "setPacket", "(IIII)V"⟩
abbrev cX6_clearDraft : ByteArray := prog_1_method_30_code
def yX6_clearDraft : MethodName := ⟨RX6, "clearDraft", "()V"⟩
abbrev cX6_rulesChanged : ByteArray := prog_1_method_31_code
def yX6_rulesChanged : MethodName := ⟨RX6, "rulesChanged", "()V"⟩
abbrev cX6_ruleAt : ByteArray := prog_1_method_32_code
def yX6_ruleAt : MethodName := ⟨RX6, "ruleAt", "(I)I"⟩
abbrev cX6_toldBound : ByteArray := prog_1_method_33_code
def yX6_toldBound : MethodName := ⟨RX6, "toldBound", "(II)I"⟩
abbrev cX6_lookedAt : ByteArray := prog_1_method_34_code
def yX6_lookedAt : MethodName := ⟨RX6, "lookedAt", "(II)I"⟩
abbrev cX6_countTuples : ByteArray := prog_1_method_35_code
def yX6_countTuples : MethodName := ⟨RX6, "countTuples", "()I"⟩
abbrev cX6_countEntries : ByteArray := prog_1_method_36_code
def yX6_countEntries : MethodName := ⟨RX6, "countEntries", "()I"⟩
abbrev cX6_countIdle : ByteArray := prog_1_method_37_code
def yX6_countIdle : MethodName := ⟨RX6, "countIdle", "()I"⟩
abbrev cX6_countCovered : ByteArray := prog_1_method_38_code
def yX6_countCovered : MethodName := ⟨RX6, "countCovered", "()I"⟩
abbrev cX6_keptImages : ByteArray := prog_1_method_39_code
def yX6_keptImages : MethodName := ⟨RX6, "keptImages", "()I"⟩
def RX7 : String := "FieldSorterModel"
def TX7 : u_T := fun k => match k with
  | 0 => ("FieldSorterModel", "many", "I", false)
  | 1 => ("FieldSorterModel", "low", "[I", true)
  | 2 => ("FieldSorterModel", "high", "[I", true)
  | 3 => ("FieldSorterModel", "ranks", "[I", true)
  | 4 => ("FieldSorterModel", "actions", "[I", true)
  | 5 => ("FieldSorterModel", "bin", "I", false)
  | 6 => ("FieldSorterModel", "deep", "I", false)
  | 7 => ("FieldSorterModel", "isOrdered", "Z", false)
  | 8 => ("FieldSorterModel", "isSwept", "Z", false)
  | 9 => ("FieldSorterModel", "isListed", "Z", false)
  | 10 => ("FieldSorterModel", "isGrown", "Z", false)
  | 11 => ("FieldSorterModel", "inOrder", "[I", true)
  | 12 => ("FieldSorterModel", "takers", "[I", true)
  | 13 => ("FieldSorterModel", "begins", "[I", true)
  | 14 => ("FieldSorterModel", "sizes", "[I", true)
  | 15 => ("FieldSorterModel", "stretches", "[I", true)
  | 16 => ("FieldSorterModel", "won", "[I", true)
  | 17 => ("FieldSorterModel", "isNeeded", "[Z", true)
  | 18 => ("FieldSorterModel", "done", "[I", true)
  | 19 => ("FieldSorterModel", "counts", "[I", true)
  | 20 => ("FieldSorterModel", "list", "[I", true)
  | 21 => ("FieldSorterModel", "bests", "[I", true)
  | 22 => ("FieldSorterModel", "members", "[I", true)
  | 23 => ("FieldSorterModel", "tuples", "I", false)
  | 24 => ("FieldSorterModel", "codes", "[I", true)
  | 25 => ("FieldSorterModel", "nodes", "I", false)
  | 26 => ("FieldSorterModel", "from", "[I", true)
  | 27 => ("FieldSorterModel", "to", "[I", true)
  | 28 => ("FieldSorterModel", "rules", "[I", true)
  | 29 => ("FieldSorterModel", "depth", "[I", true)
  | 30 => ("FieldSorterModel", "cut", "[I", true)
  | 31 => ("FieldSorterModel", "below", "[I", true)
  | 32 => ("FieldSorterModel", "image", "[I", true)
  | _ => ("FieldSorterModel", "isKept", "[Z", true)
def tyX7 : Nat → FieldType := fun k => match k with
  | 0 => .int
  | 1 => .array .int
  | 2 => .array .int
  | 3 => .array .int
  | 4 => .array .int
  | 5 => .int
  | 6 => .int
  | 7 => .boolean
  | 8 => .boolean
  | 9 => .boolean
  | 10 => .boolean
  | 11 => .array .int
  | 12 => .array .int
  | 13 => .array .int
  | 14 => .array .int
  | 15 => .array .int
  | 16 => .array .int
  | 17 => .array .boolean
  | 18 => .array .int
  | 19 => .array .int
  | 20 => .array .int
  | 21 => .array .int
  | 22 => .array .int
  | 23 => .int
  | 24 => .array .int
  | 25 => .int
  | 26 => .array .int
  | 27 => .array .int
  | 28 => .array .int
  | 29 => .array .int
  | 30 => .array .int
  | 31 => .array .int
  | 32 => .array .int
  | _ => .array .boolean
theorem nmX7 : ∀ a, a < 34 → ∀ b, b < 34 → a ≠ b → (TX7 a).2.1 ≠ (TX7 b).2.1 := by decide +kernel
theorem tyX7_ok : ∀ k, k < 34 → parseFieldDescriptor (TX7 k).2.2.1 = some (tyX7 k) := by decide +kernel
abbrev cX7_init : ByteArray := prog_9_method_1_code
def yX7_init : MethodName := ⟨RX7, "<init>", "()V"⟩
abbrev cX7_in : ByteArray := prog_9_method_2_code
def yX7_in : MethodName := ⟨RX7, "in", "(III)Z"⟩
abbrev cX7_width : ByteArray := prog_9_method_3_code
def yX7_width : MethodName := ⟨RX7, "width", "(I)I"⟩
abbrev cX7_most : ByteArray := prog_9_method_4_code
def yX7_most : MethodName := ⟨RX7, "most", "(I)I"⟩
abbrev cX7_isField : ByteArray := prog_9_method_5_code
def yX7_isField : MethodName := ⟨RX7, "isField", "(I)Z"⟩
abbrev cX7_isRule : ByteArray := prog_9_method_6_code
def yX7_isRule : MethodName := ⟨RX7, "isRule", "(I)Z"⟩
abbrev cX7_isPacket : ByteArray := prog_9_method_7_code
def yX7_isPacket : MethodName := ⟨RX7, "isPacket", "(IIII)Z"⟩
abbrev cX7_has : ByteArray := prog_9_method_8_code
def yX7_has : MethodName := ⟨RX7, "has", "(II)Z"⟩
abbrev cX7_bits : ByteArray := prog_9_method_9_code
def yX7_bits : MethodName := ⟨RX7, "bits", "(I)I"⟩
abbrev cX7_lowest : ByteArray := prog_9_method_10_code
def yX7_lowest : MethodName := ⟨RX7, "lowest", "(I)I"⟩
abbrev cX7_change : ByteArray := prog_9_method_11_code
def yX7_change : MethodName := ⟨RX7, "change", "()V"⟩
abbrev cX7_clearDraft : ByteArray := prog_9_method_12_code
def yX7_clearDraft : MethodName := ⟨RX7, "clearDraft", "()V"⟩
abbrev cX7_draft : ByteArray := prog_9_method_13_code
def yX7_draft : MethodName := ⟨RX7, "draft", "(III)I"⟩
abbrev cX7_rule : ByteArray := prog_9_method_14_code
def yX7_rule : MethodName := ⟨RX7, "rule", "(II)I"⟩
abbrev cX7_drop : ByteArray := prog_9_method_15_code
def yX7_drop : MethodName := ⟨RX7, "drop", "(I)I"⟩
abbrev cX7_isAhead : ByteArray := prog_9_method_16_code
def yX7_isAhead : MethodName := ⟨RX7, "isAhead", "(II)Z"⟩
abbrev cX7_aheadOf : ByteArray := prog_9_method_17_code
def yX7_aheadOf : MethodName := ⟨RX7, "aheadOf", "(I)I"⟩
abbrev cX7_rank : ByteArray := prog_9_method_18_code
def yX7_rank : MethodName := ⟨RX7, "rank", "(II)I"⟩
abbrev cX7_told : ByteArray := prog_9_method_19_code
def yX7_told : MethodName := ⟨RX7, "told", "(II)I"⟩
abbrev cX7_order : ByteArray := prog_9_method_20_code
def yX7_order : MethodName := ⟨RX7, "order", "()V"⟩
abbrev cX7_takersOf : ByteArray := prog_9_method_21_code
def yX7_takersOf : MethodName := ⟨RX7, "takersOf", "(III)I"⟩
abbrev cX7_fitting : ByteArray := prog_9_method_22_code
def yX7_fitting : MethodName := ⟨RX7, "fitting", "(IIII)I"⟩
abbrev cX7_first : ByteArray := prog_9_method_23_code
def yX7_first : MethodName := ⟨RX7, "first", "(IIII)I"⟩
abbrev cX7_layStretches : ByteArray := prog_9_method_24_code
def yX7_layStretches : MethodName := ⟨RX7, "layStretches", "()V"⟩
abbrev cX7_meet : ByteArray := prog_9_method_25_code
def yX7_meet : MethodName := ⟨RX7, "meet", "(II)V"⟩
abbrev cX7_sweep : ByteArray := prog_9_method_26_code
def yX7_sweep : MethodName := ⟨RX7, "sweep", "()V"⟩
abbrev cX7_wins : ByteArray := prog_9_method_27_code
def yX7_wins : MethodName := ⟨RX7, "wins", "(I)I"⟩
abbrev cX7_overlap : ByteArray := prog_9_method_28_code
def yX7_overlap : MethodName := ⟨RX7, "overlap", "(II)I"⟩
abbrev cX7_isWithin : ByteArray := prog_9_method_29_code
def yX7_isWithin : MethodName := ⟨RX7, "isWithin", "(II)Z"⟩
abbrev cX7_coverOf : ByteArray := prog_9_method_30_code
def yX7_coverOf : MethodName := ⟨RX7, "coverOf", "(I)I"⟩
abbrev cX7_covered : ByteArray := prog_9_method_31_code
def yX7_covered : MethodName := ⟨RX7, "covered", "(I)I"⟩
abbrev cX7_idle : ByteArray := prog_9_method_32_code
def yX7_idle : MethodName := ⟨RX7, "idle", "(I)I"⟩
abbrev cX7_packets : ByteArray := prog_9_method_33_code
def yX7_packets : MethodName := ⟨RX7, "packets", "(I)I"⟩
abbrev cX7_lengthAt : ByteArray := prog_9_method_34_code
def yX7_lengthAt : MethodName := ⟨RX7, "lengthAt", "(III)I"⟩
abbrev cX7_valueOf : ByteArray := prog_9_method_35_code
def yX7_valueOf : MethodName := ⟨RX7, "valueOf", "(III)I"⟩
abbrev cX7_prefixes : ByteArray := prog_9_method_36_code
def yX7_prefixes : MethodName := ⟨RX7, "prefixes", "(II)I"⟩
abbrev cX7_split : ByteArray := prog_9_method_37_code
def yX7_split : MethodName := ⟨RX7, "split", "(II)I"⟩
abbrev cX7_prefix : ByteArray := prog_9_method_38_code
def yX7_prefix : MethodName := ⟨RX7, "prefix", "(IIII)I"⟩
abbrev cX7_ofLength : ByteArray := prog_9_method_39_code
def yX7_ofLength : MethodName := ⟨RX7, "ofLength", "(III)I"⟩
abbrev cX7_lengthOf : ByteArray := prog_9_method_40_code
def yX7_lengthOf : MethodName := ⟨RX7, "lengthOf", "(III)I"⟩
abbrev cX7_lengthIn : ByteArray := prog_9_method_41_code
def yX7_lengthIn : MethodName := ⟨RX7, "lengthIn", "(II)I"⟩
abbrev cX7_entriesOf : ByteArray := prog_9_method_42_code
def yX7_entriesOf : MethodName := ⟨RX7, "entriesOf", "(II)I"⟩
abbrev cX7_membersOf : ByteArray := prog_9_method_43_code
def yX7_membersOf : MethodName := ⟨RX7, "membersOf", "(I)I"⟩
abbrev cX7_listTuples : ByteArray := prog_9_method_44_code
def yX7_listTuples : MethodName := ⟨RX7, "listTuples", "()V"⟩
abbrev cX7_entries : ByteArray := prog_9_method_45_code
def yX7_entries : MethodName := ⟨RX7, "entries", "(I)I"⟩
abbrev cX7_tuple : ByteArray := prog_9_method_46_code
def yX7_tuple : MethodName := ⟨RX7, "tuple", "(II)I"⟩
abbrev cX7_codeOf : ByteArray := prog_9_method_47_code
def yX7_codeOf : MethodName := ⟨RX7, "codeOf", "(IIIII)I"⟩
abbrev cX7_probe : ByteArray := prog_9_method_48_code
def yX7_probe : MethodName := ⟨RX7, "probe", "(IIIII)I"⟩
abbrev cX7_halved : ByteArray := prog_9_method_49_code
def yX7_halved : MethodName := ⟨RX7, "halved", "(III)I"⟩
abbrev cX7_cutOf : ByteArray := prog_9_method_50_code
def yX7_cutOf : MethodName := ⟨RX7, "cutOf", "(I)I"⟩
abbrev cX7_addBelow : ByteArray := prog_9_method_51_code
def yX7_addBelow : MethodName := ⟨RX7, "addBelow", "(III)V"⟩
abbrev cX7_growTree : ByteArray := prog_9_method_52_code
def yX7_growTree : MethodName := ⟨RX7, "growTree", "()V"⟩
abbrev cX7_grow : ByteArray := prog_9_method_53_code
def yX7_grow : MethodName := ⟨RX7, "grow", "(II)I"⟩
abbrev cX7_tree : ByteArray := prog_9_method_54_code
def yX7_tree : MethodName := ⟨RX7, "tree", "(I)I"⟩
abbrev cX7_looked : ByteArray := prog_9_method_55_code
def yX7_looked : MethodName := ⟨RX7, "looked", "(II)I"⟩
abbrev cX7_walk : ByteArray := prog_9_method_56_code
def yX7_walk : MethodName := ⟨RX7, "walk", "(IIIII)I"⟩
abbrev cX7_image : ByteArray := prog_9_method_57_code
def yX7_image : MethodName := ⟨RX7, "image", "(I)I"⟩
abbrev cX7_restore : ByteArray := prog_9_method_58_code
def yX7_restore : MethodName := ⟨RX7, "restore", "(I)I"⟩
abbrev cX7_idleOnes : ByteArray := prog_9_method_59_code
def yX7_idleOnes : MethodName := ⟨RX7, "idleOnes", "()I"⟩
abbrev cX7_coveredOnes : ByteArray := prog_9_method_60_code
def yX7_coveredOnes : MethodName := ⟨RX7, "coveredOnes", "()I"⟩
abbrev cX7_allEntries : ByteArray := prog_9_method_61_code
def yX7_allEntries : MethodName := ⟨RX7, "allEntries", "()I"⟩
abbrev cX7_count : ByteArray := prog_9_method_62_code
def yX7_count : MethodName := ⟨RX7, "count", "(I)I"⟩
def RJ6 : String := "java/lang/Integer"
def TJ6 : u_T := fun k => match k with
  | _ => ("", "", "", false)
def tyJ6 : Nat → FieldType := fun k => match k with
  | _ => .int
theorem nmJ6 : ∀ a, a < 0 → ∀ b, b < 0 → a ≠ b → (TJ6 a).2.1 ≠ (TJ6 b).2.1 := by decide +kernel
theorem tyJ6_ok : ∀ k, k < 0 → parseFieldDescriptor (TJ6 k).2.2.1 = some (tyJ6 k) := by decide +kernel
abbrev cJ6_bitCount_0f7a4 : ByteArray := prog_10_method_49_code
def yJ6_bitCount_0f7a4 : MethodName := ⟨RJ6, "bitCount", "(I)I"⟩
def RJ9 : String := "java/lang/Math"
def TJ9 : u_T := fun k => match k with
  | _ => ("", "", "", false)
def tyJ9 : Nat → FieldType := fun k => match k with
  | _ => .int
theorem nmJ9 : ∀ a, a < 0 → ∀ b, b < 0 → a ≠ b → (TJ9 a).2.1 ≠ (TJ9 b).2.1 := by decide +kernel
theorem tyJ9_ok : ∀ k, k < 0 → parseFieldDescriptor (TJ9 k).2.2.1 = some (tyJ9 k) := by decide +kernel
abbrev cJ9_max_7cf53 : ByteArray := prog_11_method_65_code
def yJ9_max_7cf53 : MethodName := ⟨RJ9, "max", "(II)I"⟩
abbrev cJ9_min_7cf53 : ByteArray := prog_11_method_69_code
def yJ9_min_7cf53 : MethodName := ⟨RJ9, "min", "(II)I"⟩
def RJ7 : String := "java/util/Arrays"
def TJ7 : u_T := fun k => match k with
  | _ => ("", "", "", false)
def tyJ7 : Nat → FieldType := fun k => match k with
  | _ => .int
theorem nmJ7 : ∀ a, a < 0 → ∀ b, b < 0 → a ≠ b → (TJ7 a).2.1 ≠ (TJ7 b).2.1 := by decide +kernel
theorem tyJ7_ok : ∀ k, k < 0 → parseFieldDescriptor (TJ7 k).2.2.1 = some (tyJ7 k) := by decide +kernel
abbrev cJ7_fill_53178 : ByteArray := prog_12_method_103_code
def yJ7_fill_53178 : MethodName := ⟨RJ7, "fill", "([II)V"⟩
def RL : String := "FieldSorterLaw"
abbrev cL_law : ByteArray := code
def yL_law : MethodName := ⟨RL, "law", "([I)Z"⟩
end
section
theorem dJ6_bitCount_0f7a4_0 : decode cJ6_bitCount_0f7a4 0 = .ok (.iload_n 0, 1) := by decide +kernel
theorem dJ6_bitCount_0f7a4_1 : decode cJ6_bitCount_0f7a4 1 = .ok (.iload_n 0, 1) := by decide +kernel
theorem dJ6_bitCount_0f7a4_2 : decode cJ6_bitCount_0f7a4 2 = .ok (.iconst 1, 1) := by decide +kernel
theorem dJ6_bitCount_0f7a4_3 : decode cJ6_bitCount_0f7a4 3 = .ok (.iushr, 1) := by decide +kernel
theorem dJ6_bitCount_0f7a4_4 : decode cJ6_bitCount_0f7a4 4 = .ok (.ldc_w 265, 3) := by decide +kernel
theorem dJ6_bitCount_0f7a4_7 : decode cJ6_bitCount_0f7a4 7 = .ok (.iand, 1) := by decide +kernel
theorem dJ6_bitCount_0f7a4_8 : decode cJ6_bitCount_0f7a4 8 = .ok (.isub, 1) := by decide +kernel
theorem dJ6_bitCount_0f7a4_9 : decode cJ6_bitCount_0f7a4 9 = .ok (.istore_n 0, 1) := by decide +kernel
theorem dJ6_bitCount_0f7a4_10 : decode cJ6_bitCount_0f7a4 10 = .ok (.iload_n 0, 1) := by decide +kernel
theorem dJ6_bitCount_0f7a4_11 : decode cJ6_bitCount_0f7a4 11 = .ok (.ldc_w 266, 3) := by decide +kernel
theorem dJ6_bitCount_0f7a4_14 : decode cJ6_bitCount_0f7a4 14 = .ok (.iand, 1) := by decide +kernel
theorem dJ6_bitCount_0f7a4_15 : decode cJ6_bitCount_0f7a4 15 = .ok (.iload_n 0, 1) := by decide +kernel
theorem dJ6_bitCount_0f7a4_16 : decode cJ6_bitCount_0f7a4 16 = .ok (.iconst 2, 1) := by decide +kernel
theorem dJ6_bitCount_0f7a4_17 : decode cJ6_bitCount_0f7a4 17 = .ok (.iushr, 1) := by decide +kernel
theorem dJ6_bitCount_0f7a4_18 : decode cJ6_bitCount_0f7a4 18 = .ok (.ldc_w 266, 3) := by decide +kernel
theorem dJ6_bitCount_0f7a4_21 : decode cJ6_bitCount_0f7a4 21 = .ok (.iand, 1) := by decide +kernel
theorem dJ6_bitCount_0f7a4_22 : decode cJ6_bitCount_0f7a4 22 = .ok (.iadd, 1) := by decide +kernel
theorem dJ6_bitCount_0f7a4_23 : decode cJ6_bitCount_0f7a4 23 = .ok (.istore_n 0, 1) := by decide +kernel
theorem dJ6_bitCount_0f7a4_24 : decode cJ6_bitCount_0f7a4 24 = .ok (.iload_n 0, 1) := by decide +kernel
theorem dJ6_bitCount_0f7a4_25 : decode cJ6_bitCount_0f7a4 25 = .ok (.iload_n 0, 1) := by decide +kernel
theorem dJ6_bitCount_0f7a4_26 : decode cJ6_bitCount_0f7a4 26 = .ok (.iconst 4, 1) := by decide +kernel
theorem dJ6_bitCount_0f7a4_27 : decode cJ6_bitCount_0f7a4 27 = .ok (.iushr, 1) := by decide +kernel
theorem dJ6_bitCount_0f7a4_28 : decode cJ6_bitCount_0f7a4 28 = .ok (.iadd, 1) := by decide +kernel
theorem dJ6_bitCount_0f7a4_29 : decode cJ6_bitCount_0f7a4 29 = .ok (.ldc_w 267, 3) := by decide +kernel
theorem dJ6_bitCount_0f7a4_32 : decode cJ6_bitCount_0f7a4 32 = .ok (.iand, 1) := by decide +kernel
theorem dJ6_bitCount_0f7a4_33 : decode cJ6_bitCount_0f7a4 33 = .ok (.istore_n 0, 1) := by decide +kernel
theorem dJ6_bitCount_0f7a4_34 : decode cJ6_bitCount_0f7a4 34 = .ok (.iload_n 0, 1) := by decide +kernel
theorem dJ6_bitCount_0f7a4_35 : decode cJ6_bitCount_0f7a4 35 = .ok (.iload_n 0, 1) := by decide +kernel
theorem dJ6_bitCount_0f7a4_36 : decode cJ6_bitCount_0f7a4 36 = .ok (.bipush 8, 2) := by decide +kernel
theorem dJ6_bitCount_0f7a4_38 : decode cJ6_bitCount_0f7a4 38 = .ok (.iushr, 1) := by decide +kernel
theorem dJ6_bitCount_0f7a4_39 : decode cJ6_bitCount_0f7a4 39 = .ok (.iadd, 1) := by decide +kernel
theorem dJ6_bitCount_0f7a4_40 : decode cJ6_bitCount_0f7a4 40 = .ok (.istore_n 0, 1) := by decide +kernel
theorem dJ6_bitCount_0f7a4_41 : decode cJ6_bitCount_0f7a4 41 = .ok (.iload_n 0, 1) := by decide +kernel
theorem dJ6_bitCount_0f7a4_42 : decode cJ6_bitCount_0f7a4 42 = .ok (.iload_n 0, 1) := by decide +kernel
theorem dJ6_bitCount_0f7a4_43 : decode cJ6_bitCount_0f7a4 43 = .ok (.bipush 16, 2) := by decide +kernel
theorem dJ6_bitCount_0f7a4_45 : decode cJ6_bitCount_0f7a4 45 = .ok (.iushr, 1) := by decide +kernel
theorem dJ6_bitCount_0f7a4_46 : decode cJ6_bitCount_0f7a4 46 = .ok (.iadd, 1) := by decide +kernel
theorem dJ6_bitCount_0f7a4_47 : decode cJ6_bitCount_0f7a4 47 = .ok (.istore_n 0, 1) := by decide +kernel
theorem dJ6_bitCount_0f7a4_48 : decode cJ6_bitCount_0f7a4 48 = .ok (.iload_n 0, 1) := by decide +kernel
theorem dJ6_bitCount_0f7a4_49 : decode cJ6_bitCount_0f7a4 49 = .ok (.bipush 63, 2) := by decide +kernel
theorem dJ6_bitCount_0f7a4_51 : decode cJ6_bitCount_0f7a4 51 = .ok (.iand, 1) := by decide +kernel
theorem dJ6_bitCount_0f7a4_52 : decode cJ6_bitCount_0f7a4 52 = .ok (.ireturn, 1) := by decide +kernel
theorem dJ7_fill_53178_0 : decode cJ7_fill_53178 0 = .ok (.iconst 0, 1) := by decide +kernel
theorem dJ7_fill_53178_1 : decode cJ7_fill_53178 1 = .ok (.istore_n 2, 1) := by decide +kernel
theorem dJ7_fill_53178_2 : decode cJ7_fill_53178 2 = .ok (.aload_n 0, 1) := by decide +kernel
theorem dJ7_fill_53178_3 : decode cJ7_fill_53178 3 = .ok (.arraylength, 1) := by decide +kernel
theorem dJ7_fill_53178_4 : decode cJ7_fill_53178 4 = .ok (.istore_n 3, 1) := by decide +kernel
theorem dJ7_fill_53178_5 : decode cJ7_fill_53178 5 = .ok (.iload_n 2, 1) := by decide +kernel
theorem dJ7_fill_53178_6 : decode cJ7_fill_53178 6 = .ok (.iload_n 3, 1) := by decide +kernel
theorem dJ7_fill_53178_7 : decode cJ7_fill_53178 7 = .ok (.if_icmp .ge 13, 3) := by decide +kernel
theorem dJ7_fill_53178_10 : decode cJ7_fill_53178 10 = .ok (.aload_n 0, 1) := by decide +kernel
theorem dJ7_fill_53178_11 : decode cJ7_fill_53178 11 = .ok (.iload_n 2, 1) := by decide +kernel
theorem dJ7_fill_53178_12 : decode cJ7_fill_53178 12 = .ok (.iload_n 1, 1) := by decide +kernel
theorem dJ7_fill_53178_13 : decode cJ7_fill_53178 13 = .ok (.iastore, 1) := by decide +kernel
theorem dJ7_fill_53178_14 : decode cJ7_fill_53178 14 = .ok (.iinc 2 1, 3) := by decide +kernel
theorem dJ7_fill_53178_17 : decode cJ7_fill_53178 17 = .ok (.goto (-12), 3) := by decide +kernel
theorem dJ7_fill_53178_20 : decode cJ7_fill_53178 20 = .ok (.return_, 1) := by decide +kernel
theorem dJ9_max_7cf53_0 : decode cJ9_max_7cf53 0 = .ok (.iload_n 0, 1) := by decide +kernel
theorem dJ9_max_7cf53_1 : decode cJ9_max_7cf53 1 = .ok (.iload_n 1, 1) := by decide +kernel
theorem dJ9_max_7cf53_2 : decode cJ9_max_7cf53 2 = .ok (.if_icmp .lt 7, 3) := by decide +kernel
theorem dJ9_max_7cf53_5 : decode cJ9_max_7cf53 5 = .ok (.iload_n 0, 1) := by decide +kernel
theorem dJ9_max_7cf53_6 : decode cJ9_max_7cf53 6 = .ok (.goto 4, 3) := by decide +kernel
theorem dJ9_max_7cf53_9 : decode cJ9_max_7cf53 9 = .ok (.iload_n 1, 1) := by decide +kernel
theorem dJ9_max_7cf53_10 : decode cJ9_max_7cf53 10 = .ok (.ireturn, 1) := by decide +kernel
theorem dJ9_min_7cf53_0 : decode cJ9_min_7cf53 0 = .ok (.iload_n 0, 1) := by decide +kernel
theorem dJ9_min_7cf53_1 : decode cJ9_min_7cf53 1 = .ok (.iload_n 1, 1) := by decide +kernel
theorem dJ9_min_7cf53_2 : decode cJ9_min_7cf53 2 = .ok (.if_icmp .gt 7, 3) := by decide +kernel
theorem dJ9_min_7cf53_5 : decode cJ9_min_7cf53 5 = .ok (.iload_n 0, 1) := by decide +kernel
theorem dJ9_min_7cf53_6 : decode cJ9_min_7cf53 6 = .ok (.goto 4, 3) := by decide +kernel
theorem dJ9_min_7cf53_9 : decode cJ9_min_7cf53 9 = .ok (.iload_n 1, 1) := by decide +kernel
theorem dJ9_min_7cf53_10 : decode cJ9_min_7cf53 10 = .ok (.ireturn, 1) := by decide +kernel
theorem dL_law_0 : decode cL_law 0 = .ok (.new 7, 3) := by decide +kernel
theorem dL_law_3 : decode cL_law 3 = .ok (.dup, 1) := by decide +kernel
theorem dL_law_4 : decode cL_law 4 = .ok (.invokespecial 9, 3) := by decide +kernel
theorem dL_law_7 : decode cL_law 7 = .ok (.astore_n 1, 1) := by decide +kernel
theorem dL_law_8 : decode cL_law 8 = .ok (.new 10, 3) := by decide +kernel
theorem dL_law_11 : decode cL_law 11 = .ok (.dup, 1) := by decide +kernel
theorem dL_law_12 : decode cL_law 12 = .ok (.invokespecial 12, 3) := by decide +kernel
theorem dL_law_15 : decode cL_law 15 = .ok (.astore_n 2, 1) := by decide +kernel
theorem dL_law_16 : decode cL_law 16 = .ok (.iconst 0, 1) := by decide +kernel
theorem dL_law_17 : decode cL_law 17 = .ok (.istore_n 3, 1) := by decide +kernel
theorem dL_law_18 : decode cL_law 18 = .ok (.iload_n 3, 1) := by decide +kernel
theorem dL_law_19 : decode cL_law 19 = .ok (.aload_n 0, 1) := by decide +kernel
theorem dL_law_20 : decode cL_law 20 = .ok (.arraylength, 1) := by decide +kernel
theorem dL_law_21 : decode cL_law 21 = .ok (.bipush 6, 2) := by decide +kernel
theorem dL_law_23 : decode cL_law 23 = .ok (.isub, 1) := by decide +kernel
theorem dL_law_24 : decode cL_law 24 = .ok (.if_icmp .gt 827, 3) := by decide +kernel
theorem dL_law_27 : decode cL_law 27 = .ok (.aload_n 0, 1) := by decide +kernel
theorem dL_law_28 : decode cL_law 28 = .ok (.iload_n 3, 1) := by decide +kernel
theorem dL_law_29 : decode cL_law 29 = .ok (.iaload, 1) := by decide +kernel
theorem dL_law_30 : decode cL_law 30 = .ok (.bipush 31, 2) := by decide +kernel
theorem dL_law_32 : decode cL_law 32 = .ok (.iand, 1) := by decide +kernel
theorem dL_law_33 : decode cL_law 33 = .ok (.tableswitch 812 0 20 #[99, 142, 175, 198, 231, 264, 317, 340, 373, 396, 419, 442, 475, 528, 561, 624, 657, 680, 743, 766, 789], 99) := by decide +kernel
theorem dL_law_132 : decode cL_law 132 = .ok (.aload_n 1, 1) := by decide +kernel
theorem dL_law_133 : decode cL_law 133 = .ok (.aload_n 0, 1) := by decide +kernel
theorem dL_law_134 : decode cL_law 134 = .ok (.iload_n 3, 1) := by decide +kernel
theorem dL_law_135 : decode cL_law 135 = .ok (.iconst 1, 1) := by decide +kernel
theorem dL_law_136 : decode cL_law 136 = .ok (.iadd, 1) := by decide +kernel
theorem dL_law_137 : decode cL_law 137 = .ok (.iaload, 1) := by decide +kernel
theorem dL_law_138 : decode cL_law 138 = .ok (.aload_n 0, 1) := by decide +kernel
theorem dL_law_139 : decode cL_law 139 = .ok (.iload_n 3, 1) := by decide +kernel
theorem dL_law_140 : decode cL_law 140 = .ok (.iconst 2, 1) := by decide +kernel
theorem dL_law_141 : decode cL_law 141 = .ok (.iadd, 1) := by decide +kernel
theorem dL_law_142 : decode cL_law 142 = .ok (.iaload, 1) := by decide +kernel
theorem dL_law_143 : decode cL_law 143 = .ok (.aload_n 0, 1) := by decide +kernel
theorem dL_law_144 : decode cL_law 144 = .ok (.iload_n 3, 1) := by decide +kernel
theorem dL_law_145 : decode cL_law 145 = .ok (.iconst 3, 1) := by decide +kernel
theorem dL_law_146 : decode cL_law 146 = .ok (.iadd, 1) := by decide +kernel
theorem dL_law_147 : decode cL_law 147 = .ok (.iaload, 1) := by decide +kernel
theorem dL_law_148 : decode cL_law 148 = .ok (.invokevirtual 13, 3) := by decide +kernel
theorem dL_law_151 : decode cL_law 151 = .ok (.aload_n 2, 1) := by decide +kernel
theorem dL_law_152 : decode cL_law 152 = .ok (.aload_n 0, 1) := by decide +kernel
theorem dL_law_153 : decode cL_law 153 = .ok (.iload_n 3, 1) := by decide +kernel
theorem dL_law_154 : decode cL_law 154 = .ok (.iconst 1, 1) := by decide +kernel
theorem dL_law_155 : decode cL_law 155 = .ok (.iadd, 1) := by decide +kernel
theorem dL_law_156 : decode cL_law 156 = .ok (.iaload, 1) := by decide +kernel
theorem dL_law_157 : decode cL_law 157 = .ok (.aload_n 0, 1) := by decide +kernel
theorem dL_law_158 : decode cL_law 158 = .ok (.iload_n 3, 1) := by decide +kernel
theorem dL_law_159 : decode cL_law 159 = .ok (.iconst 2, 1) := by decide +kernel
theorem dL_law_160 : decode cL_law 160 = .ok (.iadd, 1) := by decide +kernel
theorem dL_law_161 : decode cL_law 161 = .ok (.iaload, 1) := by decide +kernel
theorem dL_law_162 : decode cL_law 162 = .ok (.aload_n 0, 1) := by decide +kernel
theorem dL_law_163 : decode cL_law 163 = .ok (.iload_n 3, 1) := by decide +kernel
theorem dL_law_164 : decode cL_law 164 = .ok (.iconst 3, 1) := by decide +kernel
theorem dL_law_165 : decode cL_law 165 = .ok (.iadd, 1) := by decide +kernel
theorem dL_law_166 : decode cL_law 166 = .ok (.iaload, 1) := by decide +kernel
theorem dL_law_167 : decode cL_law 167 = .ok (.invokevirtual 17, 3) := by decide +kernel
theorem dL_law_170 : decode cL_law 170 = .ok (.if_icmp .eq 675, 3) := by decide +kernel
theorem dL_law_173 : decode cL_law 173 = .ok (.iconst 0, 1) := by decide +kernel
theorem dL_law_174 : decode cL_law 174 = .ok (.ireturn, 1) := by decide +kernel
theorem dL_law_175 : decode cL_law 175 = .ok (.aload_n 1, 1) := by decide +kernel
theorem dL_law_176 : decode cL_law 176 = .ok (.aload_n 0, 1) := by decide +kernel
theorem dL_law_177 : decode cL_law 177 = .ok (.iload_n 3, 1) := by decide +kernel
theorem dL_law_178 : decode cL_law 178 = .ok (.iconst 1, 1) := by decide +kernel
theorem dL_law_179 : decode cL_law 179 = .ok (.iadd, 1) := by decide +kernel
theorem dL_law_180 : decode cL_law 180 = .ok (.iaload, 1) := by decide +kernel
theorem dL_law_181 : decode cL_law 181 = .ok (.aload_n 0, 1) := by decide +kernel
theorem dL_law_182 : decode cL_law 182 = .ok (.iload_n 3, 1) := by decide +kernel
theorem dL_law_183 : decode cL_law 183 = .ok (.iconst 2, 1) := by decide +kernel
theorem dL_law_184 : decode cL_law 184 = .ok (.iadd, 1) := by decide +kernel
theorem dL_law_185 : decode cL_law 185 = .ok (.iaload, 1) := by decide +kernel
theorem dL_law_186 : decode cL_law 186 = .ok (.invokevirtual 18, 3) := by decide +kernel
theorem dL_law_189 : decode cL_law 189 = .ok (.aload_n 2, 1) := by decide +kernel
theorem dL_law_190 : decode cL_law 190 = .ok (.aload_n 0, 1) := by decide +kernel
theorem dL_law_191 : decode cL_law 191 = .ok (.iload_n 3, 1) := by decide +kernel
theorem dL_law_192 : decode cL_law 192 = .ok (.iconst 1, 1) := by decide +kernel
theorem dL_law_193 : decode cL_law 193 = .ok (.iadd, 1) := by decide +kernel
theorem dL_law_194 : decode cL_law 194 = .ok (.iaload, 1) := by decide +kernel
theorem dL_law_195 : decode cL_law 195 = .ok (.aload_n 0, 1) := by decide +kernel
theorem dL_law_196 : decode cL_law 196 = .ok (.iload_n 3, 1) := by decide +kernel
theorem dL_law_197 : decode cL_law 197 = .ok (.iconst 2, 1) := by decide +kernel
theorem dL_law_198 : decode cL_law 198 = .ok (.iadd, 1) := by decide +kernel
theorem dL_law_199 : decode cL_law 199 = .ok (.iaload, 1) := by decide +kernel
theorem dL_law_200 : decode cL_law 200 = .ok (.invokevirtual 22, 3) := by decide +kernel
theorem dL_law_203 : decode cL_law 203 = .ok (.if_icmp .eq 642, 3) := by decide +kernel
theorem dL_law_206 : decode cL_law 206 = .ok (.iconst 0, 1) := by decide +kernel
theorem dL_law_207 : decode cL_law 207 = .ok (.ireturn, 1) := by decide +kernel
theorem dL_law_208 : decode cL_law 208 = .ok (.aload_n 1, 1) := by decide +kernel
theorem dL_law_209 : decode cL_law 209 = .ok (.aload_n 0, 1) := by decide +kernel
theorem dL_law_210 : decode cL_law 210 = .ok (.iload_n 3, 1) := by decide +kernel
theorem dL_law_211 : decode cL_law 211 = .ok (.iconst 1, 1) := by decide +kernel
theorem dL_law_212 : decode cL_law 212 = .ok (.iadd, 1) := by decide +kernel
theorem dL_law_213 : decode cL_law 213 = .ok (.iaload, 1) := by decide +kernel
theorem dL_law_214 : decode cL_law 214 = .ok (.invokevirtual 23, 3) := by decide +kernel
theorem dL_law_217 : decode cL_law 217 = .ok (.aload_n 2, 1) := by decide +kernel
theorem dL_law_218 : decode cL_law 218 = .ok (.aload_n 0, 1) := by decide +kernel
theorem dL_law_219 : decode cL_law 219 = .ok (.iload_n 3, 1) := by decide +kernel
theorem dL_law_220 : decode cL_law 220 = .ok (.iconst 1, 1) := by decide +kernel
theorem dL_law_221 : decode cL_law 221 = .ok (.iadd, 1) := by decide +kernel
theorem dL_law_222 : decode cL_law 222 = .ok (.iaload, 1) := by decide +kernel
theorem dL_law_223 : decode cL_law 223 = .ok (.invokevirtual 27, 3) := by decide +kernel
theorem dL_law_226 : decode cL_law 226 = .ok (.if_icmp .eq 619, 3) := by decide +kernel
theorem dL_law_229 : decode cL_law 229 = .ok (.iconst 0, 1) := by decide +kernel
theorem dL_law_230 : decode cL_law 230 = .ok (.ireturn, 1) := by decide +kernel
theorem dL_law_231 : decode cL_law 231 = .ok (.aload_n 1, 1) := by decide +kernel
theorem dL_law_232 : decode cL_law 232 = .ok (.aload_n 0, 1) := by decide +kernel
theorem dL_law_233 : decode cL_law 233 = .ok (.iload_n 3, 1) := by decide +kernel
theorem dL_law_234 : decode cL_law 234 = .ok (.iconst 1, 1) := by decide +kernel
theorem dL_law_235 : decode cL_law 235 = .ok (.iadd, 1) := by decide +kernel
theorem dL_law_236 : decode cL_law 236 = .ok (.iaload, 1) := by decide +kernel
theorem dL_law_237 : decode cL_law 237 = .ok (.aload_n 0, 1) := by decide +kernel
theorem dL_law_238 : decode cL_law 238 = .ok (.iload_n 3, 1) := by decide +kernel
theorem dL_law_239 : decode cL_law 239 = .ok (.iconst 2, 1) := by decide +kernel
theorem dL_law_240 : decode cL_law 240 = .ok (.iadd, 1) := by decide +kernel
theorem dL_law_241 : decode cL_law 241 = .ok (.iaload, 1) := by decide +kernel
theorem dL_law_242 : decode cL_law 242 = .ok (.invokevirtual 28, 3) := by decide +kernel
theorem dL_law_245 : decode cL_law 245 = .ok (.aload_n 2, 1) := by decide +kernel
theorem dL_law_246 : decode cL_law 246 = .ok (.aload_n 0, 1) := by decide +kernel
theorem dL_law_247 : decode cL_law 247 = .ok (.iload_n 3, 1) := by decide +kernel
theorem dL_law_248 : decode cL_law 248 = .ok (.iconst 1, 1) := by decide +kernel
theorem dL_law_249 : decode cL_law 249 = .ok (.iadd, 1) := by decide +kernel
theorem dL_law_250 : decode cL_law 250 = .ok (.iaload, 1) := by decide +kernel
theorem dL_law_251 : decode cL_law 251 = .ok (.aload_n 0, 1) := by decide +kernel
theorem dL_law_252 : decode cL_law 252 = .ok (.iload_n 3, 1) := by decide +kernel
theorem dL_law_253 : decode cL_law 253 = .ok (.iconst 2, 1) := by decide +kernel
theorem dL_law_254 : decode cL_law 254 = .ok (.iadd, 1) := by decide +kernel
theorem dL_law_255 : decode cL_law 255 = .ok (.iaload, 1) := by decide +kernel
theorem dL_law_256 : decode cL_law 256 = .ok (.invokevirtual 31, 3) := by decide +kernel
theorem dL_law_259 : decode cL_law 259 = .ok (.if_icmp .eq 586, 3) := by decide +kernel
theorem dL_law_262 : decode cL_law 262 = .ok (.iconst 0, 1) := by decide +kernel
theorem dL_law_263 : decode cL_law 263 = .ok (.ireturn, 1) := by decide +kernel
theorem dL_law_264 : decode cL_law 264 = .ok (.aload_n 1, 1) := by decide +kernel
theorem dL_law_265 : decode cL_law 265 = .ok (.aload_n 0, 1) := by decide +kernel
theorem dL_law_266 : decode cL_law 266 = .ok (.iload_n 3, 1) := by decide +kernel
theorem dL_law_267 : decode cL_law 267 = .ok (.iconst 1, 1) := by decide +kernel
theorem dL_law_268 : decode cL_law 268 = .ok (.iadd, 1) := by decide +kernel
theorem dL_law_269 : decode cL_law 269 = .ok (.iaload, 1) := by decide +kernel
theorem dL_law_270 : decode cL_law 270 = .ok (.aload_n 0, 1) := by decide +kernel
theorem dL_law_271 : decode cL_law 271 = .ok (.iload_n 3, 1) := by decide +kernel
theorem dL_law_272 : decode cL_law 272 = .ok (.iconst 2, 1) := by decide +kernel
theorem dL_law_273 : decode cL_law 273 = .ok (.iadd, 1) := by decide +kernel
theorem dL_law_274 : decode cL_law 274 = .ok (.iaload, 1) := by decide +kernel
theorem dL_law_275 : decode cL_law 275 = .ok (.invokevirtual 32, 3) := by decide +kernel
theorem dL_law_278 : decode cL_law 278 = .ok (.aload_n 2, 1) := by decide +kernel
theorem dL_law_279 : decode cL_law 279 = .ok (.aload_n 0, 1) := by decide +kernel
theorem dL_law_280 : decode cL_law 280 = .ok (.iload_n 3, 1) := by decide +kernel
theorem dL_law_281 : decode cL_law 281 = .ok (.iconst 1, 1) := by decide +kernel
theorem dL_law_282 : decode cL_law 282 = .ok (.iadd, 1) := by decide +kernel
theorem dL_law_283 : decode cL_law 283 = .ok (.iaload, 1) := by decide +kernel
theorem dL_law_284 : decode cL_law 284 = .ok (.aload_n 0, 1) := by decide +kernel
theorem dL_law_285 : decode cL_law 285 = .ok (.iload_n 3, 1) := by decide +kernel
theorem dL_law_286 : decode cL_law 286 = .ok (.iconst 2, 1) := by decide +kernel
theorem dL_law_287 : decode cL_law 287 = .ok (.iadd, 1) := by decide +kernel
theorem dL_law_288 : decode cL_law 288 = .ok (.iaload, 1) := by decide +kernel
theorem dL_law_289 : decode cL_law 289 = .ok (.invokevirtual 35, 3) := by decide +kernel
theorem dL_law_292 : decode cL_law 292 = .ok (.if_icmp .eq 553, 3) := by decide +kernel
theorem dL_law_295 : decode cL_law 295 = .ok (.iconst 0, 1) := by decide +kernel
theorem dL_law_296 : decode cL_law 296 = .ok (.ireturn, 1) := by decide +kernel
theorem dL_law_297 : decode cL_law 297 = .ok (.aload_n 1, 1) := by decide +kernel
theorem dL_law_298 : decode cL_law 298 = .ok (.aload_n 0, 1) := by decide +kernel
theorem dL_law_299 : decode cL_law 299 = .ok (.iload_n 3, 1) := by decide +kernel
theorem dL_law_300 : decode cL_law 300 = .ok (.iconst 1, 1) := by decide +kernel
theorem dL_law_301 : decode cL_law 301 = .ok (.iadd, 1) := by decide +kernel
theorem dL_law_302 : decode cL_law 302 = .ok (.iaload, 1) := by decide +kernel
theorem dL_law_303 : decode cL_law 303 = .ok (.aload_n 0, 1) := by decide +kernel
theorem dL_law_304 : decode cL_law 304 = .ok (.iload_n 3, 1) := by decide +kernel
theorem dL_law_305 : decode cL_law 305 = .ok (.iconst 2, 1) := by decide +kernel
theorem dL_law_306 : decode cL_law 306 = .ok (.iadd, 1) := by decide +kernel
theorem dL_law_307 : decode cL_law 307 = .ok (.iaload, 1) := by decide +kernel
theorem dL_law_308 : decode cL_law 308 = .ok (.aload_n 0, 1) := by decide +kernel
theorem dL_law_309 : decode cL_law 309 = .ok (.iload_n 3, 1) := by decide +kernel
theorem dL_law_310 : decode cL_law 310 = .ok (.iconst 3, 1) := by decide +kernel
theorem dL_law_311 : decode cL_law 311 = .ok (.iadd, 1) := by decide +kernel
theorem dL_law_312 : decode cL_law 312 = .ok (.iaload, 1) := by decide +kernel
theorem dL_law_313 : decode cL_law 313 = .ok (.aload_n 0, 1) := by decide +kernel
theorem dL_law_314 : decode cL_law 314 = .ok (.iload_n 3, 1) := by decide +kernel
theorem dL_law_315 : decode cL_law 315 = .ok (.iconst 4, 1) := by decide +kernel
theorem dL_law_316 : decode cL_law 316 = .ok (.iadd, 1) := by decide +kernel
theorem dL_law_317 : decode cL_law 317 = .ok (.iaload, 1) := by decide +kernel
theorem dL_law_318 : decode cL_law 318 = .ok (.invokevirtual 36, 3) := by decide +kernel
theorem dL_law_321 : decode cL_law 321 = .ok (.aload_n 2, 1) := by decide +kernel
theorem dL_law_322 : decode cL_law 322 = .ok (.aload_n 0, 1) := by decide +kernel
theorem dL_law_323 : decode cL_law 323 = .ok (.iload_n 3, 1) := by decide +kernel
theorem dL_law_324 : decode cL_law 324 = .ok (.iconst 1, 1) := by decide +kernel
theorem dL_law_325 : decode cL_law 325 = .ok (.iadd, 1) := by decide +kernel
theorem dL_law_326 : decode cL_law 326 = .ok (.iaload, 1) := by decide +kernel
theorem dL_law_327 : decode cL_law 327 = .ok (.aload_n 0, 1) := by decide +kernel
theorem dL_law_328 : decode cL_law 328 = .ok (.iload_n 3, 1) := by decide +kernel
theorem dL_law_329 : decode cL_law 329 = .ok (.iconst 2, 1) := by decide +kernel
theorem dL_law_330 : decode cL_law 330 = .ok (.iadd, 1) := by decide +kernel
theorem dL_law_331 : decode cL_law 331 = .ok (.iaload, 1) := by decide +kernel
theorem dL_law_332 : decode cL_law 332 = .ok (.aload_n 0, 1) := by decide +kernel
theorem dL_law_333 : decode cL_law 333 = .ok (.iload_n 3, 1) := by decide +kernel
theorem dL_law_334 : decode cL_law 334 = .ok (.iconst 3, 1) := by decide +kernel
theorem dL_law_335 : decode cL_law 335 = .ok (.iadd, 1) := by decide +kernel
theorem dL_law_336 : decode cL_law 336 = .ok (.iaload, 1) := by decide +kernel
theorem dL_law_337 : decode cL_law 337 = .ok (.aload_n 0, 1) := by decide +kernel
theorem dL_law_338 : decode cL_law 338 = .ok (.iload_n 3, 1) := by decide +kernel
theorem dL_law_339 : decode cL_law 339 = .ok (.iconst 4, 1) := by decide +kernel
theorem dL_law_340 : decode cL_law 340 = .ok (.iadd, 1) := by decide +kernel
theorem dL_law_341 : decode cL_law 341 = .ok (.iaload, 1) := by decide +kernel
theorem dL_law_342 : decode cL_law 342 = .ok (.invokevirtual 40, 3) := by decide +kernel
theorem dL_law_345 : decode cL_law 345 = .ok (.if_icmp .eq 500, 3) := by decide +kernel
theorem dL_law_348 : decode cL_law 348 = .ok (.iconst 0, 1) := by decide +kernel
theorem dL_law_349 : decode cL_law 349 = .ok (.ireturn, 1) := by decide +kernel
theorem dL_law_350 : decode cL_law 350 = .ok (.aload_n 1, 1) := by decide +kernel
theorem dL_law_351 : decode cL_law 351 = .ok (.aload_n 0, 1) := by decide +kernel
theorem dL_law_352 : decode cL_law 352 = .ok (.iload_n 3, 1) := by decide +kernel
theorem dL_law_353 : decode cL_law 353 = .ok (.iconst 1, 1) := by decide +kernel
theorem dL_law_354 : decode cL_law 354 = .ok (.iadd, 1) := by decide +kernel
theorem dL_law_355 : decode cL_law 355 = .ok (.iaload, 1) := by decide +kernel
theorem dL_law_356 : decode cL_law 356 = .ok (.invokevirtual 41, 3) := by decide +kernel
theorem dL_law_359 : decode cL_law 359 = .ok (.aload_n 2, 1) := by decide +kernel
theorem dL_law_360 : decode cL_law 360 = .ok (.aload_n 0, 1) := by decide +kernel
theorem dL_law_361 : decode cL_law 361 = .ok (.iload_n 3, 1) := by decide +kernel
theorem dL_law_362 : decode cL_law 362 = .ok (.iconst 1, 1) := by decide +kernel
theorem dL_law_363 : decode cL_law 363 = .ok (.iadd, 1) := by decide +kernel
theorem dL_law_364 : decode cL_law 364 = .ok (.iaload, 1) := by decide +kernel
theorem dL_law_365 : decode cL_law 365 = .ok (.invokevirtual 44, 3) := by decide +kernel
theorem dL_law_368 : decode cL_law 368 = .ok (.if_icmp .eq 477, 3) := by decide +kernel
theorem dL_law_371 : decode cL_law 371 = .ok (.iconst 0, 1) := by decide +kernel
theorem dL_law_372 : decode cL_law 372 = .ok (.ireturn, 1) := by decide +kernel
theorem dL_law_373 : decode cL_law 373 = .ok (.aload_n 1, 1) := by decide +kernel
theorem dL_law_374 : decode cL_law 374 = .ok (.aload_n 0, 1) := by decide +kernel
theorem dL_law_375 : decode cL_law 375 = .ok (.iload_n 3, 1) := by decide +kernel
theorem dL_law_376 : decode cL_law 376 = .ok (.iconst 1, 1) := by decide +kernel
theorem dL_law_377 : decode cL_law 377 = .ok (.iadd, 1) := by decide +kernel
theorem dL_law_378 : decode cL_law 378 = .ok (.iaload, 1) := by decide +kernel
theorem dL_law_379 : decode cL_law 379 = .ok (.aload_n 0, 1) := by decide +kernel
theorem dL_law_380 : decode cL_law 380 = .ok (.iload_n 3, 1) := by decide +kernel
theorem dL_law_381 : decode cL_law 381 = .ok (.iconst 2, 1) := by decide +kernel
theorem dL_law_382 : decode cL_law 382 = .ok (.iadd, 1) := by decide +kernel
theorem dL_law_383 : decode cL_law 383 = .ok (.iaload, 1) := by decide +kernel
theorem dL_law_384 : decode cL_law 384 = .ok (.invokevirtual 45, 3) := by decide +kernel
theorem dL_law_387 : decode cL_law 387 = .ok (.aload_n 2, 1) := by decide +kernel
theorem dL_law_388 : decode cL_law 388 = .ok (.aload_n 0, 1) := by decide +kernel
theorem dL_law_389 : decode cL_law 389 = .ok (.iload_n 3, 1) := by decide +kernel
theorem dL_law_390 : decode cL_law 390 = .ok (.iconst 1, 1) := by decide +kernel
theorem dL_law_391 : decode cL_law 391 = .ok (.iadd, 1) := by decide +kernel
theorem dL_law_392 : decode cL_law 392 = .ok (.iaload, 1) := by decide +kernel
theorem dL_law_393 : decode cL_law 393 = .ok (.aload_n 0, 1) := by decide +kernel
theorem dL_law_394 : decode cL_law 394 = .ok (.iload_n 3, 1) := by decide +kernel
theorem dL_law_395 : decode cL_law 395 = .ok (.iconst 2, 1) := by decide +kernel
theorem dL_law_396 : decode cL_law 396 = .ok (.iadd, 1) := by decide +kernel
theorem dL_law_397 : decode cL_law 397 = .ok (.iaload, 1) := by decide +kernel
theorem dL_law_398 : decode cL_law 398 = .ok (.invokevirtual 48, 3) := by decide +kernel
theorem dL_law_401 : decode cL_law 401 = .ok (.if_icmp .eq 444, 3) := by decide +kernel
theorem dL_law_404 : decode cL_law 404 = .ok (.iconst 0, 1) := by decide +kernel
theorem dL_law_405 : decode cL_law 405 = .ok (.ireturn, 1) := by decide +kernel
theorem dL_law_406 : decode cL_law 406 = .ok (.aload_n 1, 1) := by decide +kernel
theorem dL_law_407 : decode cL_law 407 = .ok (.aload_n 0, 1) := by decide +kernel
theorem dL_law_408 : decode cL_law 408 = .ok (.iload_n 3, 1) := by decide +kernel
theorem dL_law_409 : decode cL_law 409 = .ok (.iconst 1, 1) := by decide +kernel
theorem dL_law_410 : decode cL_law 410 = .ok (.iadd, 1) := by decide +kernel
theorem dL_law_411 : decode cL_law 411 = .ok (.iaload, 1) := by decide +kernel
theorem dL_law_412 : decode cL_law 412 = .ok (.invokevirtual 49, 3) := by decide +kernel
theorem dL_law_415 : decode cL_law 415 = .ok (.aload_n 2, 1) := by decide +kernel
theorem dL_law_416 : decode cL_law 416 = .ok (.aload_n 0, 1) := by decide +kernel
theorem dL_law_417 : decode cL_law 417 = .ok (.iload_n 3, 1) := by decide +kernel
theorem dL_law_418 : decode cL_law 418 = .ok (.iconst 1, 1) := by decide +kernel
theorem dL_law_419 : decode cL_law 419 = .ok (.iadd, 1) := by decide +kernel
theorem dL_law_420 : decode cL_law 420 = .ok (.iaload, 1) := by decide +kernel
theorem dL_law_421 : decode cL_law 421 = .ok (.invokevirtual 52, 3) := by decide +kernel
theorem dL_law_424 : decode cL_law 424 = .ok (.if_icmp .eq 421, 3) := by decide +kernel
theorem dL_law_427 : decode cL_law 427 = .ok (.iconst 0, 1) := by decide +kernel
theorem dL_law_428 : decode cL_law 428 = .ok (.ireturn, 1) := by decide +kernel
theorem dL_law_429 : decode cL_law 429 = .ok (.aload_n 1, 1) := by decide +kernel
theorem dL_law_430 : decode cL_law 430 = .ok (.aload_n 0, 1) := by decide +kernel
theorem dL_law_431 : decode cL_law 431 = .ok (.iload_n 3, 1) := by decide +kernel
theorem dL_law_432 : decode cL_law 432 = .ok (.iconst 1, 1) := by decide +kernel
theorem dL_law_433 : decode cL_law 433 = .ok (.iadd, 1) := by decide +kernel
theorem dL_law_434 : decode cL_law 434 = .ok (.iaload, 1) := by decide +kernel
theorem dL_law_435 : decode cL_law 435 = .ok (.invokevirtual 53, 3) := by decide +kernel
theorem dL_law_438 : decode cL_law 438 = .ok (.aload_n 2, 1) := by decide +kernel
theorem dL_law_439 : decode cL_law 439 = .ok (.aload_n 0, 1) := by decide +kernel
theorem dL_law_440 : decode cL_law 440 = .ok (.iload_n 3, 1) := by decide +kernel
theorem dL_law_441 : decode cL_law 441 = .ok (.iconst 1, 1) := by decide +kernel
theorem dL_law_442 : decode cL_law 442 = .ok (.iadd, 1) := by decide +kernel
theorem dL_law_443 : decode cL_law 443 = .ok (.iaload, 1) := by decide +kernel
theorem dL_law_444 : decode cL_law 444 = .ok (.invokevirtual 56, 3) := by decide +kernel
theorem dL_law_447 : decode cL_law 447 = .ok (.if_icmp .eq 398, 3) := by decide +kernel
theorem dL_law_450 : decode cL_law 450 = .ok (.iconst 0, 1) := by decide +kernel
theorem dL_law_451 : decode cL_law 451 = .ok (.ireturn, 1) := by decide +kernel
theorem dL_law_452 : decode cL_law 452 = .ok (.aload_n 1, 1) := by decide +kernel
theorem dL_law_453 : decode cL_law 453 = .ok (.aload_n 0, 1) := by decide +kernel
theorem dL_law_454 : decode cL_law 454 = .ok (.iload_n 3, 1) := by decide +kernel
theorem dL_law_455 : decode cL_law 455 = .ok (.iconst 1, 1) := by decide +kernel
theorem dL_law_456 : decode cL_law 456 = .ok (.iadd, 1) := by decide +kernel
theorem dL_law_457 : decode cL_law 457 = .ok (.iaload, 1) := by decide +kernel
theorem dL_law_458 : decode cL_law 458 = .ok (.invokevirtual 57, 3) := by decide +kernel
theorem dL_law_461 : decode cL_law 461 = .ok (.aload_n 2, 1) := by decide +kernel
theorem dL_law_462 : decode cL_law 462 = .ok (.aload_n 0, 1) := by decide +kernel
theorem dL_law_463 : decode cL_law 463 = .ok (.iload_n 3, 1) := by decide +kernel
theorem dL_law_464 : decode cL_law 464 = .ok (.iconst 1, 1) := by decide +kernel
theorem dL_law_465 : decode cL_law 465 = .ok (.iadd, 1) := by decide +kernel
theorem dL_law_466 : decode cL_law 466 = .ok (.iaload, 1) := by decide +kernel
theorem dL_law_467 : decode cL_law 467 = .ok (.invokevirtual 60, 3) := by decide +kernel
theorem dL_law_470 : decode cL_law 470 = .ok (.if_icmp .eq 375, 3) := by decide +kernel
theorem dL_law_473 : decode cL_law 473 = .ok (.iconst 0, 1) := by decide +kernel
theorem dL_law_474 : decode cL_law 474 = .ok (.ireturn, 1) := by decide +kernel
theorem dL_law_475 : decode cL_law 475 = .ok (.aload_n 1, 1) := by decide +kernel
theorem dL_law_476 : decode cL_law 476 = .ok (.aload_n 0, 1) := by decide +kernel
theorem dL_law_477 : decode cL_law 477 = .ok (.iload_n 3, 1) := by decide +kernel
theorem dL_law_478 : decode cL_law 478 = .ok (.iconst 1, 1) := by decide +kernel
theorem dL_law_479 : decode cL_law 479 = .ok (.iadd, 1) := by decide +kernel
theorem dL_law_480 : decode cL_law 480 = .ok (.iaload, 1) := by decide +kernel
theorem dL_law_481 : decode cL_law 481 = .ok (.aload_n 0, 1) := by decide +kernel
theorem dL_law_482 : decode cL_law 482 = .ok (.iload_n 3, 1) := by decide +kernel
theorem dL_law_483 : decode cL_law 483 = .ok (.iconst 2, 1) := by decide +kernel
theorem dL_law_484 : decode cL_law 484 = .ok (.iadd, 1) := by decide +kernel
theorem dL_law_485 : decode cL_law 485 = .ok (.iaload, 1) := by decide +kernel
theorem dL_law_486 : decode cL_law 486 = .ok (.invokevirtual 61, 3) := by decide +kernel
theorem dL_law_489 : decode cL_law 489 = .ok (.aload_n 2, 1) := by decide +kernel
theorem dL_law_490 : decode cL_law 490 = .ok (.aload_n 0, 1) := by decide +kernel
theorem dL_law_491 : decode cL_law 491 = .ok (.iload_n 3, 1) := by decide +kernel
theorem dL_law_492 : decode cL_law 492 = .ok (.iconst 1, 1) := by decide +kernel
theorem dL_law_493 : decode cL_law 493 = .ok (.iadd, 1) := by decide +kernel
theorem dL_law_494 : decode cL_law 494 = .ok (.iaload, 1) := by decide +kernel
theorem dL_law_495 : decode cL_law 495 = .ok (.aload_n 0, 1) := by decide +kernel
theorem dL_law_496 : decode cL_law 496 = .ok (.iload_n 3, 1) := by decide +kernel
theorem dL_law_497 : decode cL_law 497 = .ok (.iconst 2, 1) := by decide +kernel
theorem dL_law_498 : decode cL_law 498 = .ok (.iadd, 1) := by decide +kernel
theorem dL_law_499 : decode cL_law 499 = .ok (.iaload, 1) := by decide +kernel
theorem dL_law_500 : decode cL_law 500 = .ok (.invokevirtual 64, 3) := by decide +kernel
theorem dL_law_503 : decode cL_law 503 = .ok (.if_icmp .eq 342, 3) := by decide +kernel
theorem dL_law_506 : decode cL_law 506 = .ok (.iconst 0, 1) := by decide +kernel
theorem dL_law_507 : decode cL_law 507 = .ok (.ireturn, 1) := by decide +kernel
theorem dL_law_508 : decode cL_law 508 = .ok (.aload_n 1, 1) := by decide +kernel
theorem dL_law_509 : decode cL_law 509 = .ok (.aload_n 0, 1) := by decide +kernel
theorem dL_law_510 : decode cL_law 510 = .ok (.iload_n 3, 1) := by decide +kernel
theorem dL_law_511 : decode cL_law 511 = .ok (.iconst 1, 1) := by decide +kernel
theorem dL_law_512 : decode cL_law 512 = .ok (.iadd, 1) := by decide +kernel
theorem dL_law_513 : decode cL_law 513 = .ok (.iaload, 1) := by decide +kernel
theorem dL_law_514 : decode cL_law 514 = .ok (.aload_n 0, 1) := by decide +kernel
theorem dL_law_515 : decode cL_law 515 = .ok (.iload_n 3, 1) := by decide +kernel
theorem dL_law_516 : decode cL_law 516 = .ok (.iconst 2, 1) := by decide +kernel
theorem dL_law_517 : decode cL_law 517 = .ok (.iadd, 1) := by decide +kernel
theorem dL_law_518 : decode cL_law 518 = .ok (.iaload, 1) := by decide +kernel
theorem dL_law_519 : decode cL_law 519 = .ok (.aload_n 0, 1) := by decide +kernel
theorem dL_law_520 : decode cL_law 520 = .ok (.iload_n 3, 1) := by decide +kernel
theorem dL_law_521 : decode cL_law 521 = .ok (.iconst 3, 1) := by decide +kernel
theorem dL_law_522 : decode cL_law 522 = .ok (.iadd, 1) := by decide +kernel
theorem dL_law_523 : decode cL_law 523 = .ok (.iaload, 1) := by decide +kernel
theorem dL_law_524 : decode cL_law 524 = .ok (.aload_n 0, 1) := by decide +kernel
theorem dL_law_525 : decode cL_law 525 = .ok (.iload_n 3, 1) := by decide +kernel
theorem dL_law_526 : decode cL_law 526 = .ok (.iconst 4, 1) := by decide +kernel
theorem dL_law_527 : decode cL_law 527 = .ok (.iadd, 1) := by decide +kernel
theorem dL_law_528 : decode cL_law 528 = .ok (.iaload, 1) := by decide +kernel
theorem dL_law_529 : decode cL_law 529 = .ok (.invokevirtual 65, 3) := by decide +kernel
theorem dL_law_532 : decode cL_law 532 = .ok (.aload_n 2, 1) := by decide +kernel
theorem dL_law_533 : decode cL_law 533 = .ok (.aload_n 0, 1) := by decide +kernel
theorem dL_law_534 : decode cL_law 534 = .ok (.iload_n 3, 1) := by decide +kernel
theorem dL_law_535 : decode cL_law 535 = .ok (.iconst 1, 1) := by decide +kernel
theorem dL_law_536 : decode cL_law 536 = .ok (.iadd, 1) := by decide +kernel
theorem dL_law_537 : decode cL_law 537 = .ok (.iaload, 1) := by decide +kernel
theorem dL_law_538 : decode cL_law 538 = .ok (.aload_n 0, 1) := by decide +kernel
theorem dL_law_539 : decode cL_law 539 = .ok (.iload_n 3, 1) := by decide +kernel
theorem dL_law_540 : decode cL_law 540 = .ok (.iconst 2, 1) := by decide +kernel
theorem dL_law_541 : decode cL_law 541 = .ok (.iadd, 1) := by decide +kernel
theorem dL_law_542 : decode cL_law 542 = .ok (.iaload, 1) := by decide +kernel
theorem dL_law_543 : decode cL_law 543 = .ok (.aload_n 0, 1) := by decide +kernel
theorem dL_law_544 : decode cL_law 544 = .ok (.iload_n 3, 1) := by decide +kernel
theorem dL_law_545 : decode cL_law 545 = .ok (.iconst 3, 1) := by decide +kernel
theorem dL_law_546 : decode cL_law 546 = .ok (.iadd, 1) := by decide +kernel
theorem dL_law_547 : decode cL_law 547 = .ok (.iaload, 1) := by decide +kernel
theorem dL_law_548 : decode cL_law 548 = .ok (.aload_n 0, 1) := by decide +kernel
theorem dL_law_549 : decode cL_law 549 = .ok (.iload_n 3, 1) := by decide +kernel
theorem dL_law_550 : decode cL_law 550 = .ok (.iconst 4, 1) := by decide +kernel
theorem dL_law_551 : decode cL_law 551 = .ok (.iadd, 1) := by decide +kernel
theorem dL_law_552 : decode cL_law 552 = .ok (.iaload, 1) := by decide +kernel
theorem dL_law_553 : decode cL_law 553 = .ok (.invokevirtual 68, 3) := by decide +kernel
theorem dL_law_556 : decode cL_law 556 = .ok (.if_icmp .eq 289, 3) := by decide +kernel
theorem dL_law_559 : decode cL_law 559 = .ok (.iconst 0, 1) := by decide +kernel
theorem dL_law_560 : decode cL_law 560 = .ok (.ireturn, 1) := by decide +kernel
theorem dL_law_561 : decode cL_law 561 = .ok (.aload_n 1, 1) := by decide +kernel
theorem dL_law_562 : decode cL_law 562 = .ok (.aload_n 0, 1) := by decide +kernel
theorem dL_law_563 : decode cL_law 563 = .ok (.iload_n 3, 1) := by decide +kernel
theorem dL_law_564 : decode cL_law 564 = .ok (.iconst 1, 1) := by decide +kernel
theorem dL_law_565 : decode cL_law 565 = .ok (.iadd, 1) := by decide +kernel
theorem dL_law_566 : decode cL_law 566 = .ok (.iaload, 1) := by decide +kernel
theorem dL_law_567 : decode cL_law 567 = .ok (.aload_n 0, 1) := by decide +kernel
theorem dL_law_568 : decode cL_law 568 = .ok (.iload_n 3, 1) := by decide +kernel
theorem dL_law_569 : decode cL_law 569 = .ok (.iconst 2, 1) := by decide +kernel
theorem dL_law_570 : decode cL_law 570 = .ok (.iadd, 1) := by decide +kernel
theorem dL_law_571 : decode cL_law 571 = .ok (.iaload, 1) := by decide +kernel
theorem dL_law_572 : decode cL_law 572 = .ok (.invokevirtual 69, 3) := by decide +kernel
theorem dL_law_575 : decode cL_law 575 = .ok (.aload_n 2, 1) := by decide +kernel
theorem dL_law_576 : decode cL_law 576 = .ok (.aload_n 0, 1) := by decide +kernel
theorem dL_law_577 : decode cL_law 577 = .ok (.iload_n 3, 1) := by decide +kernel
theorem dL_law_578 : decode cL_law 578 = .ok (.iconst 1, 1) := by decide +kernel
theorem dL_law_579 : decode cL_law 579 = .ok (.iadd, 1) := by decide +kernel
theorem dL_law_580 : decode cL_law 580 = .ok (.iaload, 1) := by decide +kernel
theorem dL_law_581 : decode cL_law 581 = .ok (.aload_n 0, 1) := by decide +kernel
theorem dL_law_582 : decode cL_law 582 = .ok (.iload_n 3, 1) := by decide +kernel
theorem dL_law_583 : decode cL_law 583 = .ok (.iconst 2, 1) := by decide +kernel
theorem dL_law_584 : decode cL_law 584 = .ok (.iadd, 1) := by decide +kernel
theorem dL_law_585 : decode cL_law 585 = .ok (.iaload, 1) := by decide +kernel
theorem dL_law_586 : decode cL_law 586 = .ok (.invokevirtual 72, 3) := by decide +kernel
theorem dL_law_589 : decode cL_law 589 = .ok (.if_icmp .eq 256, 3) := by decide +kernel
theorem dL_law_592 : decode cL_law 592 = .ok (.iconst 0, 1) := by decide +kernel
theorem dL_law_593 : decode cL_law 593 = .ok (.ireturn, 1) := by decide +kernel
theorem dL_law_594 : decode cL_law 594 = .ok (.aload_n 1, 1) := by decide +kernel
theorem dL_law_595 : decode cL_law 595 = .ok (.aload_n 0, 1) := by decide +kernel
theorem dL_law_596 : decode cL_law 596 = .ok (.iload_n 3, 1) := by decide +kernel
theorem dL_law_597 : decode cL_law 597 = .ok (.iconst 1, 1) := by decide +kernel
theorem dL_law_598 : decode cL_law 598 = .ok (.iadd, 1) := by decide +kernel
theorem dL_law_599 : decode cL_law 599 = .ok (.iaload, 1) := by decide +kernel
theorem dL_law_600 : decode cL_law 600 = .ok (.aload_n 0, 1) := by decide +kernel
theorem dL_law_601 : decode cL_law 601 = .ok (.iload_n 3, 1) := by decide +kernel
theorem dL_law_602 : decode cL_law 602 = .ok (.iconst 2, 1) := by decide +kernel
theorem dL_law_603 : decode cL_law 603 = .ok (.iadd, 1) := by decide +kernel
theorem dL_law_604 : decode cL_law 604 = .ok (.iaload, 1) := by decide +kernel
theorem dL_law_605 : decode cL_law 605 = .ok (.aload_n 0, 1) := by decide +kernel
theorem dL_law_606 : decode cL_law 606 = .ok (.iload_n 3, 1) := by decide +kernel
theorem dL_law_607 : decode cL_law 607 = .ok (.iconst 3, 1) := by decide +kernel
theorem dL_law_608 : decode cL_law 608 = .ok (.iadd, 1) := by decide +kernel
theorem dL_law_609 : decode cL_law 609 = .ok (.iaload, 1) := by decide +kernel
theorem dL_law_610 : decode cL_law 610 = .ok (.aload_n 0, 1) := by decide +kernel
theorem dL_law_611 : decode cL_law 611 = .ok (.iload_n 3, 1) := by decide +kernel
theorem dL_law_612 : decode cL_law 612 = .ok (.iconst 4, 1) := by decide +kernel
theorem dL_law_613 : decode cL_law 613 = .ok (.iadd, 1) := by decide +kernel
theorem dL_law_614 : decode cL_law 614 = .ok (.iaload, 1) := by decide +kernel
theorem dL_law_615 : decode cL_law 615 = .ok (.aload_n 0, 1) := by decide +kernel
theorem dL_law_616 : decode cL_law 616 = .ok (.iload_n 3, 1) := by decide +kernel
theorem dL_law_617 : decode cL_law 617 = .ok (.iconst 5, 1) := by decide +kernel
theorem dL_law_618 : decode cL_law 618 = .ok (.iadd, 1) := by decide +kernel
theorem dL_law_619 : decode cL_law 619 = .ok (.iaload, 1) := by decide +kernel
theorem dL_law_620 : decode cL_law 620 = .ok (.invokevirtual 73, 3) := by decide +kernel
theorem dL_law_623 : decode cL_law 623 = .ok (.aload_n 2, 1) := by decide +kernel
theorem dL_law_624 : decode cL_law 624 = .ok (.aload_n 0, 1) := by decide +kernel
theorem dL_law_625 : decode cL_law 625 = .ok (.iload_n 3, 1) := by decide +kernel
theorem dL_law_626 : decode cL_law 626 = .ok (.iconst 1, 1) := by decide +kernel
theorem dL_law_627 : decode cL_law 627 = .ok (.iadd, 1) := by decide +kernel
theorem dL_law_628 : decode cL_law 628 = .ok (.iaload, 1) := by decide +kernel
theorem dL_law_629 : decode cL_law 629 = .ok (.aload_n 0, 1) := by decide +kernel
theorem dL_law_630 : decode cL_law 630 = .ok (.iload_n 3, 1) := by decide +kernel
theorem dL_law_631 : decode cL_law 631 = .ok (.iconst 2, 1) := by decide +kernel
theorem dL_law_632 : decode cL_law 632 = .ok (.iadd, 1) := by decide +kernel
theorem dL_law_633 : decode cL_law 633 = .ok (.iaload, 1) := by decide +kernel
theorem dL_law_634 : decode cL_law 634 = .ok (.aload_n 0, 1) := by decide +kernel
theorem dL_law_635 : decode cL_law 635 = .ok (.iload_n 3, 1) := by decide +kernel
theorem dL_law_636 : decode cL_law 636 = .ok (.iconst 3, 1) := by decide +kernel
theorem dL_law_637 : decode cL_law 637 = .ok (.iadd, 1) := by decide +kernel
theorem dL_law_638 : decode cL_law 638 = .ok (.iaload, 1) := by decide +kernel
theorem dL_law_639 : decode cL_law 639 = .ok (.aload_n 0, 1) := by decide +kernel
theorem dL_law_640 : decode cL_law 640 = .ok (.iload_n 3, 1) := by decide +kernel
theorem dL_law_641 : decode cL_law 641 = .ok (.iconst 4, 1) := by decide +kernel
theorem dL_law_642 : decode cL_law 642 = .ok (.iadd, 1) := by decide +kernel
theorem dL_law_643 : decode cL_law 643 = .ok (.iaload, 1) := by decide +kernel
theorem dL_law_644 : decode cL_law 644 = .ok (.aload_n 0, 1) := by decide +kernel
theorem dL_law_645 : decode cL_law 645 = .ok (.iload_n 3, 1) := by decide +kernel
theorem dL_law_646 : decode cL_law 646 = .ok (.iconst 5, 1) := by decide +kernel
theorem dL_law_647 : decode cL_law 647 = .ok (.iadd, 1) := by decide +kernel
theorem dL_law_648 : decode cL_law 648 = .ok (.iaload, 1) := by decide +kernel
theorem dL_law_649 : decode cL_law 649 = .ok (.invokevirtual 77, 3) := by decide +kernel
theorem dL_law_652 : decode cL_law 652 = .ok (.if_icmp .eq 193, 3) := by decide +kernel
theorem dL_law_655 : decode cL_law 655 = .ok (.iconst 0, 1) := by decide +kernel
theorem dL_law_656 : decode cL_law 656 = .ok (.ireturn, 1) := by decide +kernel
theorem dL_law_657 : decode cL_law 657 = .ok (.aload_n 1, 1) := by decide +kernel
theorem dL_law_658 : decode cL_law 658 = .ok (.aload_n 0, 1) := by decide +kernel
theorem dL_law_659 : decode cL_law 659 = .ok (.iload_n 3, 1) := by decide +kernel
theorem dL_law_660 : decode cL_law 660 = .ok (.iconst 1, 1) := by decide +kernel
theorem dL_law_661 : decode cL_law 661 = .ok (.iadd, 1) := by decide +kernel
theorem dL_law_662 : decode cL_law 662 = .ok (.iaload, 1) := by decide +kernel
theorem dL_law_663 : decode cL_law 663 = .ok (.aload_n 0, 1) := by decide +kernel
theorem dL_law_664 : decode cL_law 664 = .ok (.iload_n 3, 1) := by decide +kernel
theorem dL_law_665 : decode cL_law 665 = .ok (.iconst 2, 1) := by decide +kernel
theorem dL_law_666 : decode cL_law 666 = .ok (.iadd, 1) := by decide +kernel
theorem dL_law_667 : decode cL_law 667 = .ok (.iaload, 1) := by decide +kernel
theorem dL_law_668 : decode cL_law 668 = .ok (.invokevirtual 78, 3) := by decide +kernel
theorem dL_law_671 : decode cL_law 671 = .ok (.aload_n 2, 1) := by decide +kernel
theorem dL_law_672 : decode cL_law 672 = .ok (.aload_n 0, 1) := by decide +kernel
theorem dL_law_673 : decode cL_law 673 = .ok (.iload_n 3, 1) := by decide +kernel
theorem dL_law_674 : decode cL_law 674 = .ok (.iconst 1, 1) := by decide +kernel
theorem dL_law_675 : decode cL_law 675 = .ok (.iadd, 1) := by decide +kernel
theorem dL_law_676 : decode cL_law 676 = .ok (.iaload, 1) := by decide +kernel
theorem dL_law_677 : decode cL_law 677 = .ok (.aload_n 0, 1) := by decide +kernel
theorem dL_law_678 : decode cL_law 678 = .ok (.iload_n 3, 1) := by decide +kernel
theorem dL_law_679 : decode cL_law 679 = .ok (.iconst 2, 1) := by decide +kernel
theorem dL_law_680 : decode cL_law 680 = .ok (.iadd, 1) := by decide +kernel
theorem dL_law_681 : decode cL_law 681 = .ok (.iaload, 1) := by decide +kernel
theorem dL_law_682 : decode cL_law 682 = .ok (.invokevirtual 81, 3) := by decide +kernel
theorem dL_law_685 : decode cL_law 685 = .ok (.if_icmp .eq 160, 3) := by decide +kernel
theorem dL_law_688 : decode cL_law 688 = .ok (.iconst 0, 1) := by decide +kernel
theorem dL_law_689 : decode cL_law 689 = .ok (.ireturn, 1) := by decide +kernel
theorem dL_law_690 : decode cL_law 690 = .ok (.aload_n 1, 1) := by decide +kernel
theorem dL_law_691 : decode cL_law 691 = .ok (.aload_n 0, 1) := by decide +kernel
theorem dL_law_692 : decode cL_law 692 = .ok (.iload_n 3, 1) := by decide +kernel
theorem dL_law_693 : decode cL_law 693 = .ok (.iconst 1, 1) := by decide +kernel
theorem dL_law_694 : decode cL_law 694 = .ok (.iadd, 1) := by decide +kernel
theorem dL_law_695 : decode cL_law 695 = .ok (.iaload, 1) := by decide +kernel
theorem dL_law_696 : decode cL_law 696 = .ok (.invokevirtual 82, 3) := by decide +kernel
theorem dL_law_699 : decode cL_law 699 = .ok (.aload_n 2, 1) := by decide +kernel
theorem dL_law_700 : decode cL_law 700 = .ok (.aload_n 0, 1) := by decide +kernel
theorem dL_law_701 : decode cL_law 701 = .ok (.iload_n 3, 1) := by decide +kernel
theorem dL_law_702 : decode cL_law 702 = .ok (.iconst 1, 1) := by decide +kernel
theorem dL_law_703 : decode cL_law 703 = .ok (.iadd, 1) := by decide +kernel
theorem dL_law_704 : decode cL_law 704 = .ok (.iaload, 1) := by decide +kernel
theorem dL_law_705 : decode cL_law 705 = .ok (.invokevirtual 85, 3) := by decide +kernel
theorem dL_law_708 : decode cL_law 708 = .ok (.if_icmp .eq 137, 3) := by decide +kernel
theorem dL_law_711 : decode cL_law 711 = .ok (.iconst 0, 1) := by decide +kernel
theorem dL_law_712 : decode cL_law 712 = .ok (.ireturn, 1) := by decide +kernel
theorem dL_law_713 : decode cL_law 713 = .ok (.aload_n 1, 1) := by decide +kernel
theorem dL_law_714 : decode cL_law 714 = .ok (.aload_n 0, 1) := by decide +kernel
theorem dL_law_715 : decode cL_law 715 = .ok (.iload_n 3, 1) := by decide +kernel
theorem dL_law_716 : decode cL_law 716 = .ok (.iconst 1, 1) := by decide +kernel
theorem dL_law_717 : decode cL_law 717 = .ok (.iadd, 1) := by decide +kernel
theorem dL_law_718 : decode cL_law 718 = .ok (.iaload, 1) := by decide +kernel
theorem dL_law_719 : decode cL_law 719 = .ok (.aload_n 0, 1) := by decide +kernel
theorem dL_law_720 : decode cL_law 720 = .ok (.iload_n 3, 1) := by decide +kernel
theorem dL_law_721 : decode cL_law 721 = .ok (.iconst 2, 1) := by decide +kernel
theorem dL_law_722 : decode cL_law 722 = .ok (.iadd, 1) := by decide +kernel
theorem dL_law_723 : decode cL_law 723 = .ok (.iaload, 1) := by decide +kernel
theorem dL_law_724 : decode cL_law 724 = .ok (.aload_n 0, 1) := by decide +kernel
theorem dL_law_725 : decode cL_law 725 = .ok (.iload_n 3, 1) := by decide +kernel
theorem dL_law_726 : decode cL_law 726 = .ok (.iconst 3, 1) := by decide +kernel
theorem dL_law_727 : decode cL_law 727 = .ok (.iadd, 1) := by decide +kernel
theorem dL_law_728 : decode cL_law 728 = .ok (.iaload, 1) := by decide +kernel
theorem dL_law_729 : decode cL_law 729 = .ok (.aload_n 0, 1) := by decide +kernel
theorem dL_law_730 : decode cL_law 730 = .ok (.iload_n 3, 1) := by decide +kernel
theorem dL_law_731 : decode cL_law 731 = .ok (.iconst 4, 1) := by decide +kernel
theorem dL_law_732 : decode cL_law 732 = .ok (.iadd, 1) := by decide +kernel
theorem dL_law_733 : decode cL_law 733 = .ok (.iaload, 1) := by decide +kernel
theorem dL_law_734 : decode cL_law 734 = .ok (.aload_n 0, 1) := by decide +kernel
theorem dL_law_735 : decode cL_law 735 = .ok (.iload_n 3, 1) := by decide +kernel
theorem dL_law_736 : decode cL_law 736 = .ok (.iconst 5, 1) := by decide +kernel
theorem dL_law_737 : decode cL_law 737 = .ok (.iadd, 1) := by decide +kernel
theorem dL_law_738 : decode cL_law 738 = .ok (.iaload, 1) := by decide +kernel
theorem dL_law_739 : decode cL_law 739 = .ok (.invokevirtual 86, 3) := by decide +kernel
theorem dL_law_742 : decode cL_law 742 = .ok (.aload_n 2, 1) := by decide +kernel
theorem dL_law_743 : decode cL_law 743 = .ok (.aload_n 0, 1) := by decide +kernel
theorem dL_law_744 : decode cL_law 744 = .ok (.iload_n 3, 1) := by decide +kernel
theorem dL_law_745 : decode cL_law 745 = .ok (.iconst 1, 1) := by decide +kernel
theorem dL_law_746 : decode cL_law 746 = .ok (.iadd, 1) := by decide +kernel
theorem dL_law_747 : decode cL_law 747 = .ok (.iaload, 1) := by decide +kernel
theorem dL_law_748 : decode cL_law 748 = .ok (.aload_n 0, 1) := by decide +kernel
theorem dL_law_749 : decode cL_law 749 = .ok (.iload_n 3, 1) := by decide +kernel
theorem dL_law_750 : decode cL_law 750 = .ok (.iconst 2, 1) := by decide +kernel
theorem dL_law_751 : decode cL_law 751 = .ok (.iadd, 1) := by decide +kernel
theorem dL_law_752 : decode cL_law 752 = .ok (.iaload, 1) := by decide +kernel
theorem dL_law_753 : decode cL_law 753 = .ok (.aload_n 0, 1) := by decide +kernel
theorem dL_law_754 : decode cL_law 754 = .ok (.iload_n 3, 1) := by decide +kernel
theorem dL_law_755 : decode cL_law 755 = .ok (.iconst 3, 1) := by decide +kernel
theorem dL_law_756 : decode cL_law 756 = .ok (.iadd, 1) := by decide +kernel
theorem dL_law_757 : decode cL_law 757 = .ok (.iaload, 1) := by decide +kernel
theorem dL_law_758 : decode cL_law 758 = .ok (.aload_n 0, 1) := by decide +kernel
theorem dL_law_759 : decode cL_law 759 = .ok (.iload_n 3, 1) := by decide +kernel
theorem dL_law_760 : decode cL_law 760 = .ok (.iconst 4, 1) := by decide +kernel
theorem dL_law_761 : decode cL_law 761 = .ok (.iadd, 1) := by decide +kernel
theorem dL_law_762 : decode cL_law 762 = .ok (.iaload, 1) := by decide +kernel
theorem dL_law_763 : decode cL_law 763 = .ok (.aload_n 0, 1) := by decide +kernel
theorem dL_law_764 : decode cL_law 764 = .ok (.iload_n 3, 1) := by decide +kernel
theorem dL_law_765 : decode cL_law 765 = .ok (.iconst 5, 1) := by decide +kernel
theorem dL_law_766 : decode cL_law 766 = .ok (.iadd, 1) := by decide +kernel
theorem dL_law_767 : decode cL_law 767 = .ok (.iaload, 1) := by decide +kernel
theorem dL_law_768 : decode cL_law 768 = .ok (.invokevirtual 89, 3) := by decide +kernel
theorem dL_law_771 : decode cL_law 771 = .ok (.if_icmp .eq 74, 3) := by decide +kernel
theorem dL_law_774 : decode cL_law 774 = .ok (.iconst 0, 1) := by decide +kernel
theorem dL_law_775 : decode cL_law 775 = .ok (.ireturn, 1) := by decide +kernel
theorem dL_law_776 : decode cL_law 776 = .ok (.aload_n 1, 1) := by decide +kernel
theorem dL_law_777 : decode cL_law 777 = .ok (.aload_n 0, 1) := by decide +kernel
theorem dL_law_778 : decode cL_law 778 = .ok (.iload_n 3, 1) := by decide +kernel
theorem dL_law_779 : decode cL_law 779 = .ok (.iconst 1, 1) := by decide +kernel
theorem dL_law_780 : decode cL_law 780 = .ok (.iadd, 1) := by decide +kernel
theorem dL_law_781 : decode cL_law 781 = .ok (.iaload, 1) := by decide +kernel
theorem dL_law_782 : decode cL_law 782 = .ok (.invokevirtual 90, 3) := by decide +kernel
theorem dL_law_785 : decode cL_law 785 = .ok (.aload_n 2, 1) := by decide +kernel
theorem dL_law_786 : decode cL_law 786 = .ok (.aload_n 0, 1) := by decide +kernel
theorem dL_law_787 : decode cL_law 787 = .ok (.iload_n 3, 1) := by decide +kernel
theorem dL_law_788 : decode cL_law 788 = .ok (.iconst 1, 1) := by decide +kernel
theorem dL_law_789 : decode cL_law 789 = .ok (.iadd, 1) := by decide +kernel
theorem dL_law_790 : decode cL_law 790 = .ok (.iaload, 1) := by decide +kernel
theorem dL_law_791 : decode cL_law 791 = .ok (.invokevirtual 93, 3) := by decide +kernel
theorem dL_law_794 : decode cL_law 794 = .ok (.if_icmp .eq 51, 3) := by decide +kernel
theorem dL_law_797 : decode cL_law 797 = .ok (.iconst 0, 1) := by decide +kernel
theorem dL_law_798 : decode cL_law 798 = .ok (.ireturn, 1) := by decide +kernel
theorem dL_law_799 : decode cL_law 799 = .ok (.aload_n 1, 1) := by decide +kernel
theorem dL_law_800 : decode cL_law 800 = .ok (.aload_n 0, 1) := by decide +kernel
theorem dL_law_801 : decode cL_law 801 = .ok (.iload_n 3, 1) := by decide +kernel
theorem dL_law_802 : decode cL_law 802 = .ok (.iconst 1, 1) := by decide +kernel
theorem dL_law_803 : decode cL_law 803 = .ok (.iadd, 1) := by decide +kernel
theorem dL_law_804 : decode cL_law 804 = .ok (.iaload, 1) := by decide +kernel
theorem dL_law_805 : decode cL_law 805 = .ok (.invokevirtual 94, 3) := by decide +kernel
theorem dL_law_808 : decode cL_law 808 = .ok (.aload_n 2, 1) := by decide +kernel
theorem dL_law_809 : decode cL_law 809 = .ok (.aload_n 0, 1) := by decide +kernel
theorem dL_law_810 : decode cL_law 810 = .ok (.iload_n 3, 1) := by decide +kernel
theorem dL_law_811 : decode cL_law 811 = .ok (.iconst 1, 1) := by decide +kernel
theorem dL_law_812 : decode cL_law 812 = .ok (.iadd, 1) := by decide +kernel
theorem dL_law_813 : decode cL_law 813 = .ok (.iaload, 1) := by decide +kernel
theorem dL_law_814 : decode cL_law 814 = .ok (.invokevirtual 97, 3) := by decide +kernel
theorem dL_law_817 : decode cL_law 817 = .ok (.if_icmp .eq 28, 3) := by decide +kernel
theorem dL_law_820 : decode cL_law 820 = .ok (.iconst 0, 1) := by decide +kernel
theorem dL_law_821 : decode cL_law 821 = .ok (.ireturn, 1) := by decide +kernel
theorem dL_law_822 : decode cL_law 822 = .ok (.aload_n 1, 1) := by decide +kernel
theorem dL_law_823 : decode cL_law 823 = .ok (.aload_n 0, 1) := by decide +kernel
theorem dL_law_824 : decode cL_law 824 = .ok (.iload_n 3, 1) := by decide +kernel
theorem dL_law_825 : decode cL_law 825 = .ok (.iconst 1, 1) := by decide +kernel
theorem dL_law_826 : decode cL_law 826 = .ok (.iadd, 1) := by decide +kernel
theorem dL_law_827 : decode cL_law 827 = .ok (.iaload, 1) := by decide +kernel
theorem dL_law_828 : decode cL_law 828 = .ok (.invokevirtual 98, 3) := by decide +kernel
theorem dL_law_831 : decode cL_law 831 = .ok (.aload_n 2, 1) := by decide +kernel
theorem dL_law_832 : decode cL_law 832 = .ok (.aload_n 0, 1) := by decide +kernel
theorem dL_law_833 : decode cL_law 833 = .ok (.iload_n 3, 1) := by decide +kernel
theorem dL_law_834 : decode cL_law 834 = .ok (.iconst 1, 1) := by decide +kernel
theorem dL_law_835 : decode cL_law 835 = .ok (.iadd, 1) := by decide +kernel
theorem dL_law_836 : decode cL_law 836 = .ok (.iaload, 1) := by decide +kernel
theorem dL_law_837 : decode cL_law 837 = .ok (.invokevirtual 101, 3) := by decide +kernel
theorem dL_law_840 : decode cL_law 840 = .ok (.if_icmp .eq 5, 3) := by decide +kernel
theorem dL_law_843 : decode cL_law 843 = .ok (.iconst 0, 1) := by decide +kernel
theorem dL_law_844 : decode cL_law 844 = .ok (.ireturn, 1) := by decide +kernel
theorem dL_law_845 : decode cL_law 845 = .ok (.iinc 3 6, 3) := by decide +kernel
theorem dL_law_848 : decode cL_law 848 = .ok (.goto (-830), 3) := by decide +kernel
theorem dL_law_851 : decode cL_law 851 = .ok (.iconst 1, 1) := by decide +kernel
theorem dL_law_852 : decode cL_law 852 = .ok (.ireturn, 1) := by decide +kernel
theorem dX0_init_0 : decode cX0_init 0 = .ok (.aload_n 0, 1) := by decide +kernel
theorem dX0_init_1 : decode cX0_init 1 = .ok (.invokespecial 3, 3) := by decide +kernel
theorem dX0_init_4 : decode cX0_init 4 = .ok (.aload_n 0, 1) := by decide +kernel
theorem dX0_init_5 : decode cX0_init 5 = .ok (.iconst 2, 1) := by decide +kernel
theorem dX0_init_6 : decode cX0_init 6 = .ok (.putfield 9, 3) := by decide +kernel
theorem dX0_init_9 : decode cX0_init 9 = .ok (.aload_n 0, 1) := by decide +kernel
theorem dX0_init_10 : decode cX0_init 10 = .ok (.bipush 6, 2) := by decide +kernel
theorem dX0_init_12 : decode cX0_init 12 = .ok (.putfield 15, 3) := by decide +kernel
theorem dX0_init_15 : decode cX0_init 15 = .ok (.aload_n 0, 1) := by decide +kernel
theorem dX0_init_16 : decode cX0_init 16 = .ok (.iconst 0, 1) := by decide +kernel
theorem dX0_init_17 : decode cX0_init 17 = .ok (.putfield 18, 3) := by decide +kernel
theorem dX0_init_20 : decode cX0_init 20 = .ok (.aload_n 0, 1) := by decide +kernel
theorem dX0_init_21 : decode cX0_init 21 = .ok (.iconst 0, 1) := by decide +kernel
theorem dX0_init_22 : decode cX0_init 22 = .ok (.putfield 21, 3) := by decide +kernel
theorem dX0_init_25 : decode cX0_init 25 = .ok (.aload_n 0, 1) := by decide +kernel
theorem dX0_init_26 : decode cX0_init 26 = .ok (.iconst 0, 1) := by decide +kernel
theorem dX0_init_27 : decode cX0_init 27 = .ok (.putfield 24, 3) := by decide +kernel
theorem dX0_init_30 : decode cX0_init 30 = .ok (.aload_n 0, 1) := by decide +kernel
theorem dX0_init_31 : decode cX0_init 31 = .ok (.iconst 0, 1) := by decide +kernel
theorem dX0_init_32 : decode cX0_init 32 = .ok (.putfield 27, 3) := by decide +kernel
theorem dX0_init_35 : decode cX0_init 35 = .ok (.aload_n 0, 1) := by decide +kernel
theorem dX0_init_36 : decode cX0_init 36 = .ok (.iconst 0, 1) := by decide +kernel
theorem dX0_init_37 : decode cX0_init 37 = .ok (.putfield 30, 3) := by decide +kernel
theorem dX0_init_40 : decode cX0_init 40 = .ok (.aload_n 0, 1) := by decide +kernel
theorem dX0_init_41 : decode cX0_init 41 = .ok (.iconst 0, 1) := by decide +kernel
theorem dX0_init_42 : decode cX0_init 42 = .ok (.putfield 33, 3) := by decide +kernel
theorem dX0_init_45 : decode cX0_init 45 = .ok (.aload_n 0, 1) := by decide +kernel
theorem dX0_init_46 : decode cX0_init 46 = .ok (.iconst 0, 1) := by decide +kernel
theorem dX0_init_47 : decode cX0_init 47 = .ok (.putfield 36, 3) := by decide +kernel
theorem dX0_init_50 : decode cX0_init 50 = .ok (.aload_n 0, 1) := by decide +kernel
theorem dX0_init_51 : decode cX0_init 51 = .ok (.iconst 4, 1) := by decide +kernel
theorem dX0_init_52 : decode cX0_init 52 = .ok (.newarray .int, 2) := by decide +kernel
theorem dX0_init_54 : decode cX0_init 54 = .ok (.putfield 39, 3) := by decide +kernel
theorem dX0_init_57 : decode cX0_init 57 = .ok (.aload_n 0, 1) := by decide +kernel
theorem dX0_init_58 : decode cX0_init 58 = .ok (.iconst 4, 1) := by decide +kernel
theorem dX0_init_59 : decode cX0_init 59 = .ok (.newarray .int, 2) := by decide +kernel
theorem dX0_init_61 : decode cX0_init 61 = .ok (.putfield 43, 3) := by decide +kernel
theorem dX0_init_64 : decode cX0_init 64 = .ok (.aload_n 0, 1) := by decide +kernel
theorem dX0_init_65 : decode cX0_init 65 = .ok (.aload_n 1, 1) := by decide +kernel
theorem dX0_init_66 : decode cX0_init 66 = .ok (.putfield 46, 3) := by decide +kernel
theorem dX0_init_69 : decode cX0_init 69 = .ok (.return_, 1) := by decide +kernel
theorem dX0_measure_0 : decode cX0_measure 0 = .ok (.aload_n 0, 1) := by decide +kernel
theorem dX0_measure_1 : decode cX0_measure 1 = .ok (.iconst 0, 1) := by decide +kernel
theorem dX0_measure_2 : decode cX0_measure 2 = .ok (.putfield 18, 3) := by decide +kernel
theorem dX0_measure_5 : decode cX0_measure 5 = .ok (.aload_n 0, 1) := by decide +kernel
theorem dX0_measure_6 : decode cX0_measure 6 = .ok (.iconst 0, 1) := by decide +kernel
theorem dX0_measure_7 : decode cX0_measure 7 = .ok (.putfield 21, 3) := by decide +kernel
theorem dX0_measure_10 : decode cX0_measure 10 = .ok (.aload_n 0, 1) := by decide +kernel
theorem dX0_measure_11 : decode cX0_measure 11 = .ok (.iconst 0, 1) := by decide +kernel
theorem dX0_measure_12 : decode cX0_measure 12 = .ok (.putfield 24, 3) := by decide +kernel
theorem dX0_measure_15 : decode cX0_measure 15 = .ok (.aload_n 0, 1) := by decide +kernel
theorem dX0_measure_16 : decode cX0_measure 16 = .ok (.iconst 0, 1) := by decide +kernel
theorem dX0_measure_17 : decode cX0_measure 17 = .ok (.putfield 27, 3) := by decide +kernel
theorem dX0_measure_20 : decode cX0_measure 20 = .ok (.aload_n 0, 1) := by decide +kernel
theorem dX0_measure_21 : decode cX0_measure 21 = .ok (.iconst 0, 1) := by decide +kernel
theorem dX0_measure_22 : decode cX0_measure 22 = .ok (.putfield 30, 3) := by decide +kernel
theorem dX0_measure_25 : decode cX0_measure 25 = .ok (.aload_n 0, 1) := by decide +kernel
theorem dX0_measure_26 : decode cX0_measure 26 = .ok (.iconst 0, 1) := by decide +kernel
theorem dX0_measure_27 : decode cX0_measure 27 = .ok (.putfield 33, 3) := by decide +kernel
theorem dX0_measure_30 : decode cX0_measure 30 = .ok (.aload_n 0, 1) := by decide +kernel
theorem dX0_measure_31 : decode cX0_measure 31 = .ok (.getfield 43, 3) := by decide +kernel
theorem dX0_measure_34 : decode cX0_measure 34 = .ok (.iconst 1, 1) := by decide +kernel
theorem dX0_measure_35 : decode cX0_measure 35 = .ok (.invokestatic 50, 3) := by decide +kernel
theorem dX0_measure_38 : decode cX0_measure 38 = .ok (.aload_n 0, 1) := by decide +kernel
theorem dX0_measure_39 : decode cX0_measure 39 = .ok (.aload_n 0, 1) := by decide +kernel
theorem dX0_measure_40 : decode cX0_measure 40 = .ok (.getfield 46, 3) := by decide +kernel
theorem dX0_measure_43 : decode cX0_measure 43 = .ok (.invokevirtual 56, 3) := by decide +kernel
theorem dX0_measure_46 : decode cX0_measure 46 = .ok (.iconst 0, 1) := by decide +kernel
theorem dX0_measure_47 : decode cX0_measure 47 = .ok (.invokevirtual 62, 3) := by decide +kernel
theorem dX0_measure_50 : decode cX0_measure 50 = .ok (.return_, 1) := by decide +kernel
theorem dX0_visit_0 : decode cX0_visit 0 = .ok (.aload_n 0, 1) := by decide +kernel
theorem dX0_visit_1 : decode cX0_visit 1 = .ok (.dup, 1) := by decide +kernel
theorem dX0_visit_2 : decode cX0_visit 2 = .ok (.getfield 18, 3) := by decide +kernel
theorem dX0_visit_5 : decode cX0_visit 5 = .ok (.iconst 1, 1) := by decide +kernel
theorem dX0_visit_6 : decode cX0_visit 6 = .ok (.iadd, 1) := by decide +kernel
theorem dX0_visit_7 : decode cX0_visit 7 = .ok (.putfield 18, 3) := by decide +kernel
theorem dX0_visit_10 : decode cX0_visit 10 = .ok (.aload_n 0, 1) := by decide +kernel
theorem dX0_visit_11 : decode cX0_visit 11 = .ok (.aload_n 0, 1) := by decide +kernel
theorem dX0_visit_12 : decode cX0_visit 12 = .ok (.getfield 24, 3) := by decide +kernel
theorem dX0_visit_15 : decode cX0_visit 15 = .ok (.iload_n 2, 1) := by decide +kernel
theorem dX0_visit_16 : decode cX0_visit 16 = .ok (.invokestatic 66, 3) := by decide +kernel
theorem dX0_visit_19 : decode cX0_visit 19 = .ok (.putfield 24, 3) := by decide +kernel
theorem dX0_visit_22 : decode cX0_visit 22 = .ok (.aload_n 0, 1) := by decide +kernel
theorem dX0_visit_23 : decode cX0_visit 23 = .ok (.iload_n 1, 1) := by decide +kernel
theorem dX0_visit_24 : decode cX0_visit 24 = .ok (.iload_n 2, 1) := by decide +kernel
theorem dX0_visit_25 : decode cX0_visit 25 = .ok (.invokevirtual 72, 3) := by decide +kernel
theorem dX0_visit_28 : decode cX0_visit 28 = .ok (.istore_n 3, 1) := by decide +kernel
theorem dX0_visit_29 : decode cX0_visit 29 = .ok (.iload_n 3, 1) := by decide +kernel
theorem dX0_visit_30 : decode cX0_visit 30 = .ok (.ifCond .ge 12, 3) := by decide +kernel
theorem dX0_visit_33 : decode cX0_visit 33 = .ok (.aload_n 0, 1) := by decide +kernel
theorem dX0_visit_34 : decode cX0_visit 34 = .ok (.iload_n 1, 1) := by decide +kernel
theorem dX0_visit_35 : decode cX0_visit 35 = .ok (.invokestatic 75, 3) := by decide +kernel
theorem dX0_visit_38 : decode cX0_visit 38 = .ok (.invokevirtual 81, 3) := by decide +kernel
theorem dX0_visit_41 : decode cX0_visit 41 = .ok (.return_, 1) := by decide +kernel
theorem dX0_visit_42 : decode cX0_visit 42 = .ok (.aload_n 0, 1) := by decide +kernel
theorem dX0_visit_43 : decode cX0_visit 43 = .ok (.getfield 43, 3) := by decide +kernel
theorem dX0_visit_46 : decode cX0_visit 46 = .ok (.iload_n 3, 1) := by decide +kernel
theorem dX0_visit_47 : decode cX0_visit 47 = .ok (.iaload, 1) := by decide +kernel
theorem dX0_visit_48 : decode cX0_visit 48 = .ok (.istore 4, 2) := by decide +kernel
theorem dX0_visit_50 : decode cX0_visit 50 = .ok (.aload_n 0, 1) := by decide +kernel
theorem dX0_visit_51 : decode cX0_visit 51 = .ok (.getfield 43, 3) := by decide +kernel
theorem dX0_visit_54 : decode cX0_visit 54 = .ok (.iload_n 3, 1) := by decide +kernel
theorem dX0_visit_55 : decode cX0_visit 55 = .ok (.iconst 2, 1) := by decide +kernel
theorem dX0_visit_56 : decode cX0_visit 56 = .ok (.iload 4, 2) := by decide +kernel
theorem dX0_visit_58 : decode cX0_visit 58 = .ok (.imul, 1) := by decide +kernel
theorem dX0_visit_59 : decode cX0_visit 59 = .ok (.iastore, 1) := by decide +kernel
theorem dX0_visit_60 : decode cX0_visit 60 = .ok (.aload_n 0, 1) := by decide +kernel
theorem dX0_visit_61 : decode cX0_visit 61 = .ok (.iload_n 1, 1) := by decide +kernel
theorem dX0_visit_62 : decode cX0_visit 62 = .ok (.aload_n 0, 1) := by decide +kernel
theorem dX0_visit_63 : decode cX0_visit 63 = .ok (.getfield 46, 3) := by decide +kernel
theorem dX0_visit_66 : decode cX0_visit 66 = .ok (.getfield 85, 3) := by decide +kernel
theorem dX0_visit_69 : decode cX0_visit 69 = .ok (.iload_n 3, 1) := by decide +kernel
theorem dX0_visit_70 : decode cX0_visit 70 = .ok (.aaload, 1) := by decide +kernel
theorem dX0_visit_71 : decode cX0_visit 71 = .ok (.iconst 2, 1) := by decide +kernel
theorem dX0_visit_72 : decode cX0_visit 72 = .ok (.iload 4, 2) := by decide +kernel
theorem dX0_visit_74 : decode cX0_visit 74 = .ok (.imul, 1) := by decide +kernel
theorem dX0_visit_75 : decode cX0_visit 75 = .ok (.iaload, 1) := by decide +kernel
theorem dX0_visit_76 : decode cX0_visit 76 = .ok (.iand, 1) := by decide +kernel
theorem dX0_visit_77 : decode cX0_visit 77 = .ok (.iload_n 2, 1) := by decide +kernel
theorem dX0_visit_78 : decode cX0_visit 78 = .ok (.iconst 1, 1) := by decide +kernel
theorem dX0_visit_79 : decode cX0_visit 79 = .ok (.iadd, 1) := by decide +kernel
theorem dX0_visit_80 : decode cX0_visit 80 = .ok (.invokevirtual 62, 3) := by decide +kernel
theorem dX0_visit_83 : decode cX0_visit 83 = .ok (.aload_n 0, 1) := by decide +kernel
theorem dX0_visit_84 : decode cX0_visit 84 = .ok (.getfield 43, 3) := by decide +kernel
theorem dX0_visit_87 : decode cX0_visit 87 = .ok (.iload_n 3, 1) := by decide +kernel
theorem dX0_visit_88 : decode cX0_visit 88 = .ok (.iconst 2, 1) := by decide +kernel
theorem dX0_visit_89 : decode cX0_visit 89 = .ok (.iload 4, 2) := by decide +kernel
theorem dX0_visit_91 : decode cX0_visit 91 = .ok (.imul, 1) := by decide +kernel
theorem dX0_visit_92 : decode cX0_visit 92 = .ok (.iconst 1, 1) := by decide +kernel
theorem dX0_visit_93 : decode cX0_visit 93 = .ok (.iadd, 1) := by decide +kernel
theorem dX0_visit_94 : decode cX0_visit 94 = .ok (.iastore, 1) := by decide +kernel
theorem dX0_visit_95 : decode cX0_visit 95 = .ok (.aload_n 0, 1) := by decide +kernel
theorem dX0_visit_96 : decode cX0_visit 96 = .ok (.iload_n 1, 1) := by decide +kernel
theorem dX0_visit_97 : decode cX0_visit 97 = .ok (.aload_n 0, 1) := by decide +kernel
theorem dX0_visit_98 : decode cX0_visit 98 = .ok (.getfield 46, 3) := by decide +kernel
theorem dX0_visit_101 : decode cX0_visit 101 = .ok (.getfield 85, 3) := by decide +kernel
theorem dX0_visit_104 : decode cX0_visit 104 = .ok (.iload_n 3, 1) := by decide +kernel
theorem dX0_visit_105 : decode cX0_visit 105 = .ok (.aaload, 1) := by decide +kernel
theorem dX0_visit_106 : decode cX0_visit 106 = .ok (.iconst 2, 1) := by decide +kernel
theorem dX0_visit_107 : decode cX0_visit 107 = .ok (.iload 4, 2) := by decide +kernel
theorem dX0_visit_109 : decode cX0_visit 109 = .ok (.imul, 1) := by decide +kernel
theorem dX0_visit_110 : decode cX0_visit 110 = .ok (.iconst 1, 1) := by decide +kernel
theorem dX0_visit_111 : decode cX0_visit 111 = .ok (.iadd, 1) := by decide +kernel
theorem dX0_visit_112 : decode cX0_visit 112 = .ok (.iaload, 1) := by decide +kernel
theorem dX0_visit_113 : decode cX0_visit 113 = .ok (.iand, 1) := by decide +kernel
theorem dX0_visit_114 : decode cX0_visit 114 = .ok (.iload_n 2, 1) := by decide +kernel
theorem dX0_visit_115 : decode cX0_visit 115 = .ok (.iconst 1, 1) := by decide +kernel
theorem dX0_visit_116 : decode cX0_visit 116 = .ok (.iadd, 1) := by decide +kernel
theorem dX0_visit_117 : decode cX0_visit 117 = .ok (.invokevirtual 62, 3) := by decide +kernel
theorem dX0_visit_120 : decode cX0_visit 120 = .ok (.aload_n 0, 1) := by decide +kernel
theorem dX0_visit_121 : decode cX0_visit 121 = .ok (.getfield 43, 3) := by decide +kernel
theorem dX0_visit_124 : decode cX0_visit 124 = .ok (.iload_n 3, 1) := by decide +kernel
theorem dX0_visit_125 : decode cX0_visit 125 = .ok (.iload 4, 2) := by decide +kernel
theorem dX0_visit_127 : decode cX0_visit 127 = .ok (.iastore, 1) := by decide +kernel
theorem dX0_visit_128 : decode cX0_visit 128 = .ok (.return_, 1) := by decide +kernel
theorem dX0_addLeaf_0 : decode cX0_addLeaf 0 = .ok (.aload_n 0, 1) := by decide +kernel
theorem dX0_addLeaf_1 : decode cX0_addLeaf 1 = .ok (.dup, 1) := by decide +kernel
theorem dX0_addLeaf_2 : decode cX0_addLeaf 2 = .ok (.getfield 21, 3) := by decide +kernel
theorem dX0_addLeaf_5 : decode cX0_addLeaf 5 = .ok (.iconst 1, 1) := by decide +kernel
theorem dX0_addLeaf_6 : decode cX0_addLeaf 6 = .ok (.iadd, 1) := by decide +kernel
theorem dX0_addLeaf_7 : decode cX0_addLeaf 7 = .ok (.putfield 21, 3) := by decide +kernel
theorem dX0_addLeaf_10 : decode cX0_addLeaf 10 = .ok (.aload_n 0, 1) := by decide +kernel
theorem dX0_addLeaf_11 : decode cX0_addLeaf 11 = .ok (.dup, 1) := by decide +kernel
theorem dX0_addLeaf_12 : decode cX0_addLeaf 12 = .ok (.getfield 27, 3) := by decide +kernel
theorem dX0_addLeaf_15 : decode cX0_addLeaf 15 = .ok (.iload_n 1, 1) := by decide +kernel
theorem dX0_addLeaf_16 : decode cX0_addLeaf 16 = .ok (.iadd, 1) := by decide +kernel
theorem dX0_addLeaf_17 : decode cX0_addLeaf 17 = .ok (.putfield 27, 3) := by decide +kernel
theorem dX0_addLeaf_20 : decode cX0_addLeaf 20 = .ok (.aload_n 0, 1) := by decide +kernel
theorem dX0_addLeaf_21 : decode cX0_addLeaf 21 = .ok (.aload_n 0, 1) := by decide +kernel
theorem dX0_addLeaf_22 : decode cX0_addLeaf 22 = .ok (.getfield 30, 3) := by decide +kernel
theorem dX0_addLeaf_25 : decode cX0_addLeaf 25 = .ok (.iload_n 1, 1) := by decide +kernel
theorem dX0_addLeaf_26 : decode cX0_addLeaf 26 = .ok (.invokestatic 66, 3) := by decide +kernel
theorem dX0_addLeaf_29 : decode cX0_addLeaf 29 = .ok (.putfield 30, 3) := by decide +kernel
theorem dX0_addLeaf_32 : decode cX0_addLeaf 32 = .ok (.iload_n 1, 1) := by decide +kernel
theorem dX0_addLeaf_33 : decode cX0_addLeaf 33 = .ok (.ifCond .ne 13, 3) := by decide +kernel
theorem dX0_addLeaf_36 : decode cX0_addLeaf 36 = .ok (.aload_n 0, 1) := by decide +kernel
theorem dX0_addLeaf_37 : decode cX0_addLeaf 37 = .ok (.dup, 1) := by decide +kernel
theorem dX0_addLeaf_38 : decode cX0_addLeaf 38 = .ok (.getfield 33, 3) := by decide +kernel
theorem dX0_addLeaf_41 : decode cX0_addLeaf 41 = .ok (.iconst 1, 1) := by decide +kernel
theorem dX0_addLeaf_42 : decode cX0_addLeaf 42 = .ok (.iadd, 1) := by decide +kernel
theorem dX0_addLeaf_43 : decode cX0_addLeaf 43 = .ok (.putfield 33, 3) := by decide +kernel
theorem dX0_addLeaf_46 : decode cX0_addLeaf 46 = .ok (.return_, 1) := by decide +kernel
theorem dX0_cutField_0 : decode cX0_cutField 0 = .ok (.iload_n 1, 1) := by decide +kernel
theorem dX0_cutField_1 : decode cX0_cutField 1 = .ok (.invokestatic 75, 3) := by decide +kernel
theorem dX0_cutField_4 : decode cX0_cutField 4 = .ok (.istore_n 3, 1) := by decide +kernel
theorem dX0_cutField_5 : decode cX0_cutField 5 = .ok (.iload_n 3, 1) := by decide +kernel
theorem dX0_cutField_6 : decode cX0_cutField 6 = .ok (.aload_n 0, 1) := by decide +kernel
theorem dX0_cutField_7 : decode cX0_cutField 7 = .ok (.getfield 9, 3) := by decide +kernel
theorem dX0_cutField_10 : decode cX0_cutField 10 = .ok (.if_icmp .le 11, 3) := by decide +kernel
theorem dX0_cutField_13 : decode cX0_cutField 13 = .ok (.iload_n 2, 1) := by decide +kernel
theorem dX0_cutField_14 : decode cX0_cutField 14 = .ok (.aload_n 0, 1) := by decide +kernel
theorem dX0_cutField_15 : decode cX0_cutField 15 = .ok (.getfield 15, 3) := by decide +kernel
theorem dX0_cutField_18 : decode cX0_cutField 18 = .ok (.if_icmp .lt 5, 3) := by decide +kernel
theorem dX0_cutField_21 : decode cX0_cutField 21 = .ok (.iconst (-1), 1) := by decide +kernel
theorem dX0_cutField_22 : decode cX0_cutField 22 = .ok (.ireturn, 1) := by decide +kernel
theorem dX0_cutField_23 : decode cX0_cutField 23 = .ok (.iconst (-1), 1) := by decide +kernel
theorem dX0_cutField_24 : decode cX0_cutField 24 = .ok (.istore 4, 2) := by decide +kernel
theorem dX0_cutField_26 : decode cX0_cutField 26 = .ok (.iload_n 3, 1) := by decide +kernel
theorem dX0_cutField_27 : decode cX0_cutField 27 = .ok (.istore 5, 2) := by decide +kernel
theorem dX0_cutField_29 : decode cX0_cutField 29 = .ok (.iconst 0, 1) := by decide +kernel
theorem dX0_cutField_30 : decode cX0_cutField 30 = .ok (.istore 6, 2) := by decide +kernel
theorem dX0_cutField_32 : decode cX0_cutField 32 = .ok (.iconst 0, 1) := by decide +kernel
theorem dX0_cutField_33 : decode cX0_cutField 33 = .ok (.istore 7, 2) := by decide +kernel
theorem dX0_cutField_35 : decode cX0_cutField 35 = .ok (.iload 7, 2) := by decide +kernel
theorem dX0_cutField_37 : decode cX0_cutField 37 = .ok (.iconst 4, 1) := by decide +kernel
theorem dX0_cutField_38 : decode cX0_cutField 38 = .ok (.if_icmp .ge 138, 3) := by decide +kernel
theorem dX0_cutField_41 : decode cX0_cutField 41 = .ok (.aload_n 0, 1) := by decide +kernel
theorem dX0_cutField_42 : decode cX0_cutField 42 = .ok (.getfield 43, 3) := by decide +kernel
theorem dX0_cutField_45 : decode cX0_cutField 45 = .ok (.iload 7, 2) := by decide +kernel
theorem dX0_cutField_47 : decode cX0_cutField 47 = .ok (.iaload, 1) := by decide +kernel
theorem dX0_cutField_48 : decode cX0_cutField 48 = .ok (.getstatic 89, 3) := by decide +kernel
theorem dX0_cutField_51 : decode cX0_cutField 51 = .ok (.iload 7, 2) := by decide +kernel
theorem dX0_cutField_53 : decode cX0_cutField 53 = .ok (.iaload, 1) := by decide +kernel
theorem dX0_cutField_54 : decode cX0_cutField 54 = .ok (.if_icmp .le 6, 3) := by decide +kernel
theorem dX0_cutField_57 : decode cX0_cutField 57 = .ok (.goto 113, 3) := by decide +kernel
theorem dX0_cutField_60 : decode cX0_cutField 60 = .ok (.iload_n 1, 1) := by decide +kernel
theorem dX0_cutField_61 : decode cX0_cutField 61 = .ok (.aload_n 0, 1) := by decide +kernel
theorem dX0_cutField_62 : decode cX0_cutField 62 = .ok (.getfield 46, 3) := by decide +kernel
theorem dX0_cutField_65 : decode cX0_cutField 65 = .ok (.getfield 85, 3) := by decide +kernel
theorem dX0_cutField_68 : decode cX0_cutField 68 = .ok (.iload 7, 2) := by decide +kernel
theorem dX0_cutField_70 : decode cX0_cutField 70 = .ok (.aaload, 1) := by decide +kernel
theorem dX0_cutField_71 : decode cX0_cutField 71 = .ok (.iconst 2, 1) := by decide +kernel
theorem dX0_cutField_72 : decode cX0_cutField 72 = .ok (.aload_n 0, 1) := by decide +kernel
theorem dX0_cutField_73 : decode cX0_cutField 73 = .ok (.getfield 43, 3) := by decide +kernel
theorem dX0_cutField_76 : decode cX0_cutField 76 = .ok (.iload 7, 2) := by decide +kernel
theorem dX0_cutField_78 : decode cX0_cutField 78 = .ok (.iaload, 1) := by decide +kernel
theorem dX0_cutField_79 : decode cX0_cutField 79 = .ok (.imul, 1) := by decide +kernel
theorem dX0_cutField_80 : decode cX0_cutField 80 = .ok (.iaload, 1) := by decide +kernel
theorem dX0_cutField_81 : decode cX0_cutField 81 = .ok (.iand, 1) := by decide +kernel
theorem dX0_cutField_82 : decode cX0_cutField 82 = .ok (.invokestatic 75, 3) := by decide +kernel
theorem dX0_cutField_85 : decode cX0_cutField 85 = .ok (.istore 8, 2) := by decide +kernel
theorem dX0_cutField_87 : decode cX0_cutField 87 = .ok (.iload_n 1, 1) := by decide +kernel
theorem dX0_cutField_88 : decode cX0_cutField 88 = .ok (.aload_n 0, 1) := by decide +kernel
theorem dX0_cutField_89 : decode cX0_cutField 89 = .ok (.getfield 46, 3) := by decide +kernel
theorem dX0_cutField_92 : decode cX0_cutField 92 = .ok (.getfield 85, 3) := by decide +kernel
theorem dX0_cutField_95 : decode cX0_cutField 95 = .ok (.iload 7, 2) := by decide +kernel
theorem dX0_cutField_97 : decode cX0_cutField 97 = .ok (.aaload, 1) := by decide +kernel
theorem dX0_cutField_98 : decode cX0_cutField 98 = .ok (.iconst 2, 1) := by decide +kernel
theorem dX0_cutField_99 : decode cX0_cutField 99 = .ok (.aload_n 0, 1) := by decide +kernel
theorem dX0_cutField_100 : decode cX0_cutField 100 = .ok (.getfield 43, 3) := by decide +kernel
theorem dX0_cutField_103 : decode cX0_cutField 103 = .ok (.iload 7, 2) := by decide +kernel
theorem dX0_cutField_105 : decode cX0_cutField 105 = .ok (.iaload, 1) := by decide +kernel
theorem dX0_cutField_106 : decode cX0_cutField 106 = .ok (.imul, 1) := by decide +kernel
theorem dX0_cutField_107 : decode cX0_cutField 107 = .ok (.iconst 1, 1) := by decide +kernel
theorem dX0_cutField_108 : decode cX0_cutField 108 = .ok (.iadd, 1) := by decide +kernel
theorem dX0_cutField_109 : decode cX0_cutField 109 = .ok (.iaload, 1) := by decide +kernel
theorem dX0_cutField_110 : decode cX0_cutField 110 = .ok (.iand, 1) := by decide +kernel
theorem dX0_cutField_111 : decode cX0_cutField 111 = .ok (.invokestatic 75, 3) := by decide +kernel
theorem dX0_cutField_114 : decode cX0_cutField 114 = .ok (.istore 9, 2) := by decide +kernel
theorem dX0_cutField_116 : decode cX0_cutField 116 = .ok (.iload 8, 2) := by decide +kernel
theorem dX0_cutField_118 : decode cX0_cutField 118 = .ok (.iload 9, 2) := by decide +kernel
theorem dX0_cutField_120 : decode cX0_cutField 120 = .ok (.invokestatic 66, 3) := by decide +kernel
theorem dX0_cutField_123 : decode cX0_cutField 123 = .ok (.istore 10, 2) := by decide +kernel
theorem dX0_cutField_125 : decode cX0_cutField 125 = .ok (.iload 8, 2) := by decide +kernel
theorem dX0_cutField_127 : decode cX0_cutField 127 = .ok (.iload 9, 2) := by decide +kernel
theorem dX0_cutField_129 : decode cX0_cutField 129 = .ok (.iadd, 1) := by decide +kernel
theorem dX0_cutField_130 : decode cX0_cutField 130 = .ok (.istore 11, 2) := by decide +kernel
theorem dX0_cutField_132 : decode cX0_cutField 132 = .ok (.iload 10, 2) := by decide +kernel
theorem dX0_cutField_134 : decode cX0_cutField 134 = .ok (.iload 5, 2) := by decide +kernel
theorem dX0_cutField_136 : decode cX0_cutField 136 = .ok (.if_icmp .lt 22, 3) := by decide +kernel
theorem dX0_cutField_139 : decode cX0_cutField 139 = .ok (.iload 4, 2) := by decide +kernel
theorem dX0_cutField_141 : decode cX0_cutField 141 = .ok (.ifCond .lt 29, 3) := by decide +kernel
theorem dX0_cutField_144 : decode cX0_cutField 144 = .ok (.iload 10, 2) := by decide +kernel
theorem dX0_cutField_146 : decode cX0_cutField 146 = .ok (.iload 5, 2) := by decide +kernel
theorem dX0_cutField_148 : decode cX0_cutField 148 = .ok (.if_icmp .ne 22, 3) := by decide +kernel
theorem dX0_cutField_151 : decode cX0_cutField 151 = .ok (.iload 11, 2) := by decide +kernel
theorem dX0_cutField_153 : decode cX0_cutField 153 = .ok (.iload 6, 2) := by decide +kernel
theorem dX0_cutField_155 : decode cX0_cutField 155 = .ok (.if_icmp .ge 15, 3) := by decide +kernel
theorem dX0_cutField_158 : decode cX0_cutField 158 = .ok (.iload 7, 2) := by decide +kernel
theorem dX0_cutField_160 : decode cX0_cutField 160 = .ok (.istore 4, 2) := by decide +kernel
theorem dX0_cutField_162 : decode cX0_cutField 162 = .ok (.iload 10, 2) := by decide +kernel
theorem dX0_cutField_164 : decode cX0_cutField 164 = .ok (.istore 5, 2) := by decide +kernel
theorem dX0_cutField_166 : decode cX0_cutField 166 = .ok (.iload 11, 2) := by decide +kernel
theorem dX0_cutField_168 : decode cX0_cutField 168 = .ok (.istore 6, 2) := by decide +kernel
theorem dX0_cutField_170 : decode cX0_cutField 170 = .ok (.iinc 7 1, 3) := by decide +kernel
theorem dX0_cutField_173 : decode cX0_cutField 173 = .ok (.goto (-138), 3) := by decide +kernel
theorem dX0_cutField_176 : decode cX0_cutField 176 = .ok (.iload 4, 2) := by decide +kernel
theorem dX0_cutField_178 : decode cX0_cutField 178 = .ok (.ireturn, 1) := by decide +kernel
theorem dX0_descend_0 : decode cX0_descend 0 = .ok (.aload_n 0, 1) := by decide +kernel
theorem dX0_descend_1 : decode cX0_descend 1 = .ok (.getfield 43, 3) := by decide +kernel
theorem dX0_descend_4 : decode cX0_descend 4 = .ok (.iconst 1, 1) := by decide +kernel
theorem dX0_descend_5 : decode cX0_descend 5 = .ok (.invokestatic 50, 3) := by decide +kernel
theorem dX0_descend_8 : decode cX0_descend 8 = .ok (.aload_n 0, 1) := by decide +kernel
theorem dX0_descend_9 : decode cX0_descend 9 = .ok (.getfield 39, 3) := by decide +kernel
theorem dX0_descend_12 : decode cX0_descend 12 = .ok (.iconst 0, 1) := by decide +kernel
theorem dX0_descend_13 : decode cX0_descend 13 = .ok (.invokestatic 50, 3) := by decide +kernel
theorem dX0_descend_16 : decode cX0_descend 16 = .ok (.aload_n 0, 1) := by decide +kernel
theorem dX0_descend_17 : decode cX0_descend 17 = .ok (.iconst 0, 1) := by decide +kernel
theorem dX0_descend_18 : decode cX0_descend 18 = .ok (.putfield 36, 3) := by decide +kernel
theorem dX0_descend_21 : decode cX0_descend 21 = .ok (.aload_n 0, 1) := by decide +kernel
theorem dX0_descend_22 : decode cX0_descend 22 = .ok (.getfield 46, 3) := by decide +kernel
theorem dX0_descend_25 : decode cX0_descend 25 = .ok (.invokevirtual 56, 3) := by decide +kernel
theorem dX0_descend_28 : decode cX0_descend 28 = .ok (.istore_n 2, 1) := by decide +kernel
theorem dX0_descend_29 : decode cX0_descend 29 = .ok (.iconst 0, 1) := by decide +kernel
theorem dX0_descend_30 : decode cX0_descend 30 = .ok (.istore_n 3, 1) := by decide +kernel
theorem dX0_descend_31 : decode cX0_descend 31 = .ok (.iload_n 3, 1) := by decide +kernel
theorem dX0_descend_32 : decode cX0_descend 32 = .ok (.bipush 8, 2) := by decide +kernel
theorem dX0_descend_34 : decode cX0_descend 34 = .ok (.if_icmp .ge 98, 3) := by decide +kernel
theorem dX0_descend_37 : decode cX0_descend 37 = .ok (.aload_n 0, 1) := by decide +kernel
theorem dX0_descend_38 : decode cX0_descend 38 = .ok (.iload_n 2, 1) := by decide +kernel
theorem dX0_descend_39 : decode cX0_descend 39 = .ok (.iload_n 3, 1) := by decide +kernel
theorem dX0_descend_40 : decode cX0_descend 40 = .ok (.invokevirtual 72, 3) := by decide +kernel
theorem dX0_descend_43 : decode cX0_descend 43 = .ok (.istore 4, 2) := by decide +kernel
theorem dX0_descend_45 : decode cX0_descend 45 = .ok (.iload 4, 2) := by decide +kernel
theorem dX0_descend_47 : decode cX0_descend 47 = .ok (.ifCond .ge 5, 3) := by decide +kernel
theorem dX0_descend_50 : decode cX0_descend 50 = .ok (.iload_n 2, 1) := by decide +kernel
theorem dX0_descend_51 : decode cX0_descend 51 = .ok (.ireturn, 1) := by decide +kernel
theorem dX0_descend_52 : decode cX0_descend 52 = .ok (.aload_n 0, 1) := by decide +kernel
theorem dX0_descend_53 : decode cX0_descend 53 = .ok (.getfield 39, 3) := by decide +kernel
theorem dX0_descend_56 : decode cX0_descend 56 = .ok (.iload 4, 2) := by decide +kernel
theorem dX0_descend_58 : decode cX0_descend 58 = .ok (.dup2, 1) := by decide +kernel
theorem dX0_descend_59 : decode cX0_descend 59 = .ok (.iaload, 1) := by decide +kernel
theorem dX0_descend_60 : decode cX0_descend 60 = .ok (.iconst 1, 1) := by decide +kernel
theorem dX0_descend_61 : decode cX0_descend 61 = .ok (.iadd, 1) := by decide +kernel
theorem dX0_descend_62 : decode cX0_descend 62 = .ok (.iastore, 1) := by decide +kernel
theorem dX0_descend_63 : decode cX0_descend 63 = .ok (.aload_n 0, 1) := by decide +kernel
theorem dX0_descend_64 : decode cX0_descend 64 = .ok (.getfield 43, 3) := by decide +kernel
theorem dX0_descend_67 : decode cX0_descend 67 = .ok (.iload 4, 2) := by decide +kernel
theorem dX0_descend_69 : decode cX0_descend 69 = .ok (.getstatic 89, 3) := by decide +kernel
theorem dX0_descend_72 : decode cX0_descend 72 = .ok (.iload 4, 2) := by decide +kernel
theorem dX0_descend_74 : decode cX0_descend 74 = .ok (.iaload, 1) := by decide +kernel
theorem dX0_descend_75 : decode cX0_descend 75 = .ok (.iconst 1, 1) := by decide +kernel
theorem dX0_descend_76 : decode cX0_descend 76 = .ok (.iadd, 1) := by decide +kernel
theorem dX0_descend_77 : decode cX0_descend 77 = .ok (.aload_n 1, 1) := by decide +kernel
theorem dX0_descend_78 : decode cX0_descend 78 = .ok (.iload 4, 2) := by decide +kernel
theorem dX0_descend_80 : decode cX0_descend 80 = .ok (.iaload, 1) := by decide +kernel
theorem dX0_descend_81 : decode cX0_descend 81 = .ok (.iadd, 1) := by decide +kernel
theorem dX0_descend_82 : decode cX0_descend 82 = .ok (.getstatic 92, 3) := by decide +kernel
theorem dX0_descend_85 : decode cX0_descend 85 = .ok (.iload 4, 2) := by decide +kernel
theorem dX0_descend_87 : decode cX0_descend 87 = .ok (.iaload, 1) := by decide +kernel
theorem dX0_descend_88 : decode cX0_descend 88 = .ok (.aload_n 0, 1) := by decide +kernel
theorem dX0_descend_89 : decode cX0_descend 89 = .ok (.getfield 39, 3) := by decide +kernel
theorem dX0_descend_92 : decode cX0_descend 92 = .ok (.iload 4, 2) := by decide +kernel
theorem dX0_descend_94 : decode cX0_descend 94 = .ok (.iaload, 1) := by decide +kernel
theorem dX0_descend_95 : decode cX0_descend 95 = .ok (.isub, 1) := by decide +kernel
theorem dX0_descend_96 : decode cX0_descend 96 = .ok (.ishr, 1) := by decide +kernel
theorem dX0_descend_97 : decode cX0_descend 97 = .ok (.iastore, 1) := by decide +kernel
theorem dX0_descend_98 : decode cX0_descend 98 = .ok (.iload_n 2, 1) := by decide +kernel
theorem dX0_descend_99 : decode cX0_descend 99 = .ok (.aload_n 0, 1) := by decide +kernel
theorem dX0_descend_100 : decode cX0_descend 100 = .ok (.getfield 46, 3) := by decide +kernel
theorem dX0_descend_103 : decode cX0_descend 103 = .ok (.getfield 85, 3) := by decide +kernel
theorem dX0_descend_106 : decode cX0_descend 106 = .ok (.iload 4, 2) := by decide +kernel
theorem dX0_descend_108 : decode cX0_descend 108 = .ok (.aaload, 1) := by decide +kernel
theorem dX0_descend_109 : decode cX0_descend 109 = .ok (.aload_n 0, 1) := by decide +kernel
theorem dX0_descend_110 : decode cX0_descend 110 = .ok (.getfield 43, 3) := by decide +kernel
theorem dX0_descend_113 : decode cX0_descend 113 = .ok (.iload 4, 2) := by decide +kernel
theorem dX0_descend_115 : decode cX0_descend 115 = .ok (.iaload, 1) := by decide +kernel
theorem dX0_descend_116 : decode cX0_descend 116 = .ok (.iaload, 1) := by decide +kernel
theorem dX0_descend_117 : decode cX0_descend 117 = .ok (.iand, 1) := by decide +kernel
theorem dX0_descend_118 : decode cX0_descend 118 = .ok (.istore_n 2, 1) := by decide +kernel
theorem dX0_descend_119 : decode cX0_descend 119 = .ok (.aload_n 0, 1) := by decide +kernel
theorem dX0_descend_120 : decode cX0_descend 120 = .ok (.iload_n 3, 1) := by decide +kernel
theorem dX0_descend_121 : decode cX0_descend 121 = .ok (.iconst 1, 1) := by decide +kernel
theorem dX0_descend_122 : decode cX0_descend 122 = .ok (.iadd, 1) := by decide +kernel
theorem dX0_descend_123 : decode cX0_descend 123 = .ok (.putfield 36, 3) := by decide +kernel
theorem dX0_descend_126 : decode cX0_descend 126 = .ok (.iinc 3 1, 3) := by decide +kernel
theorem dX0_descend_129 : decode cX0_descend 129 = .ok (.goto (-98), 3) := by decide +kernel
theorem dX0_descend_132 : decode cX0_descend 132 = .ok (.iload_n 2, 1) := by decide +kernel
theorem dX0_descend_133 : decode cX0_descend 133 = .ok (.ireturn, 1) := by decide +kernel
theorem dX1_init_0 : decode cX1_init 0 = .ok (.aload_n 0, 1) := by decide +kernel
theorem dX1_init_1 : decode cX1_init 1 = .ok (.invokespecial 1, 3) := by decide +kernel
theorem dX1_init_4 : decode cX1_init 4 = .ok (.aload_n 0, 1) := by decide +kernel
theorem dX1_init_5 : decode cX1_init 5 = .ok (.iconst 0, 1) := by decide +kernel
theorem dX1_init_6 : decode cX1_init 6 = .ok (.putfield 7, 3) := by decide +kernel
theorem dX1_init_9 : decode cX1_init 9 = .ok (.aload_n 0, 1) := by decide +kernel
theorem dX1_init_10 : decode cX1_init 10 = .ok (.iconst 0, 1) := by decide +kernel
theorem dX1_init_11 : decode cX1_init 11 = .ok (.putfield 13, 3) := by decide +kernel
theorem dX1_init_14 : decode cX1_init 14 = .ok (.aload_n 0, 1) := by decide +kernel
theorem dX1_init_15 : decode cX1_init 15 = .ok (.iconst 0, 1) := by decide +kernel
theorem dX1_init_16 : decode cX1_init 16 = .ok (.putfield 17, 3) := by decide +kernel
theorem dX1_init_19 : decode cX1_init 19 = .ok (.aload_n 0, 1) := by decide +kernel
theorem dX1_init_20 : decode cX1_init 20 = .ok (.new 20, 3) := by decide +kernel
theorem dX1_init_23 : decode cX1_init 23 = .ok (.dup, 1) := by decide +kernel
theorem dX1_init_24 : decode cX1_init 24 = .ok (.invokespecial 22, 3) := by decide +kernel
theorem dX1_init_27 : decode cX1_init 27 = .ok (.putfield 23, 3) := by decide +kernel
theorem dX1_init_30 : decode cX1_init 30 = .ok (.return_, 1) := by decide +kernel
theorem dX2_init_0 : decode cX2_init 0 = .ok (.aload_n 0, 1) := by decide +kernel
theorem dX2_init_1 : decode cX2_init 1 = .ok (.invokespecial 3, 3) := by decide +kernel
theorem dX2_init_4 : decode cX2_init 4 = .ok (.aload_n 0, 1) := by decide +kernel
theorem dX2_init_5 : decode cX2_init 5 = .ok (.iconst 4, 1) := by decide +kernel
theorem dX2_init_6 : decode cX2_init 6 = .ok (.sipush 128, 3) := by decide +kernel
theorem dX2_init_9 : decode cX2_init 9 = .ok (.multianewarray 9 2, 4) := by decide +kernel
theorem dX2_init_13 : decode cX2_init 13 = .ok (.putfield 11, 3) := by decide +kernel
theorem dX2_init_16 : decode cX2_init 16 = .ok (.aload_n 0, 1) := by decide +kernel
theorem dX2_init_17 : decode cX2_init 17 = .ok (.aload_n 1, 1) := by decide +kernel
theorem dX2_init_18 : decode cX2_init 18 = .ok (.putfield 16, 3) := by decide +kernel
theorem dX2_init_21 : decode cX2_init 21 = .ok (.return_, 1) := by decide +kernel
theorem dX2_build_0 : decode cX2_build 0 = .ok (.iconst 0, 1) := by decide +kernel
theorem dX2_build_1 : decode cX2_build 1 = .ok (.istore_n 1, 1) := by decide +kernel
theorem dX2_build_2 : decode cX2_build 2 = .ok (.iload_n 1, 1) := by decide +kernel
theorem dX2_build_3 : decode cX2_build 3 = .ok (.iconst 4, 1) := by decide +kernel
theorem dX2_build_4 : decode cX2_build 4 = .ok (.if_icmp .ge 68, 3) := by decide +kernel
theorem dX2_build_7 : decode cX2_build 7 = .ok (.aload_n 0, 1) := by decide +kernel
theorem dX2_build_8 : decode cX2_build 8 = .ok (.aload_n 0, 1) := by decide +kernel
theorem dX2_build_9 : decode cX2_build 9 = .ok (.getfield 11, 3) := by decide +kernel
theorem dX2_build_12 : decode cX2_build 12 = .ok (.iload_n 1, 1) := by decide +kernel
theorem dX2_build_13 : decode cX2_build 13 = .ok (.aaload, 1) := by decide +kernel
theorem dX2_build_14 : decode cX2_build 14 = .ok (.iload_n 1, 1) := by decide +kernel
theorem dX2_build_15 : decode cX2_build 15 = .ok (.invokevirtual 20, 3) := by decide +kernel
theorem dX2_build_18 : decode cX2_build 18 = .ok (.getstatic 24, 3) := by decide +kernel
theorem dX2_build_21 : decode cX2_build 21 = .ok (.iload_n 1, 1) := by decide +kernel
theorem dX2_build_22 : decode cX2_build 22 = .ok (.iaload, 1) := by decide +kernel
theorem dX2_build_23 : decode cX2_build 23 = .ok (.istore_n 2, 1) := by decide +kernel
theorem dX2_build_24 : decode cX2_build 24 = .ok (.iload_n 2, 1) := by decide +kernel
theorem dX2_build_25 : decode cX2_build 25 = .ok (.iconst 1, 1) := by decide +kernel
theorem dX2_build_26 : decode cX2_build 26 = .ok (.if_icmp .lt 40, 3) := by decide +kernel
theorem dX2_build_29 : decode cX2_build 29 = .ok (.aload_n 0, 1) := by decide +kernel
theorem dX2_build_30 : decode cX2_build 30 = .ok (.getfield 11, 3) := by decide +kernel
theorem dX2_build_33 : decode cX2_build 33 = .ok (.iload_n 1, 1) := by decide +kernel
theorem dX2_build_34 : decode cX2_build 34 = .ok (.aaload, 1) := by decide +kernel
theorem dX2_build_35 : decode cX2_build 35 = .ok (.iload_n 2, 1) := by decide +kernel
theorem dX2_build_36 : decode cX2_build 36 = .ok (.aload_n 0, 1) := by decide +kernel
theorem dX2_build_37 : decode cX2_build 37 = .ok (.getfield 11, 3) := by decide +kernel
theorem dX2_build_40 : decode cX2_build 40 = .ok (.iload_n 1, 1) := by decide +kernel
theorem dX2_build_41 : decode cX2_build 41 = .ok (.aaload, 1) := by decide +kernel
theorem dX2_build_42 : decode cX2_build 42 = .ok (.iconst 2, 1) := by decide +kernel
theorem dX2_build_43 : decode cX2_build 43 = .ok (.iload_n 2, 1) := by decide +kernel
theorem dX2_build_44 : decode cX2_build 44 = .ok (.imul, 1) := by decide +kernel
theorem dX2_build_45 : decode cX2_build 45 = .ok (.iaload, 1) := by decide +kernel
theorem dX2_build_46 : decode cX2_build 46 = .ok (.aload_n 0, 1) := by decide +kernel
theorem dX2_build_47 : decode cX2_build 47 = .ok (.getfield 11, 3) := by decide +kernel
theorem dX2_build_50 : decode cX2_build 50 = .ok (.iload_n 1, 1) := by decide +kernel
theorem dX2_build_51 : decode cX2_build 51 = .ok (.aaload, 1) := by decide +kernel
theorem dX2_build_52 : decode cX2_build 52 = .ok (.iconst 2, 1) := by decide +kernel
theorem dX2_build_53 : decode cX2_build 53 = .ok (.iload_n 2, 1) := by decide +kernel
theorem dX2_build_54 : decode cX2_build 54 = .ok (.imul, 1) := by decide +kernel
theorem dX2_build_55 : decode cX2_build 55 = .ok (.iconst 1, 1) := by decide +kernel
theorem dX2_build_56 : decode cX2_build 56 = .ok (.iadd, 1) := by decide +kernel
theorem dX2_build_57 : decode cX2_build 57 = .ok (.iaload, 1) := by decide +kernel
theorem dX2_build_58 : decode cX2_build 58 = .ok (.ior, 1) := by decide +kernel
theorem dX2_build_59 : decode cX2_build 59 = .ok (.iastore, 1) := by decide +kernel
theorem dX2_build_60 : decode cX2_build 60 = .ok (.iinc 2 (-1), 3) := by decide +kernel
theorem dX2_build_63 : decode cX2_build 63 = .ok (.goto (-39), 3) := by decide +kernel
theorem dX2_build_66 : decode cX2_build 66 = .ok (.iinc 1 1, 3) := by decide +kernel
theorem dX2_build_69 : decode cX2_build 69 = .ok (.goto (-67), 3) := by decide +kernel
theorem dX2_build_72 : decode cX2_build 72 = .ok (.return_, 1) := by decide +kernel
theorem dX2_fillNumbers_0 : decode cX2_fillNumbers 0 = .ok (.getstatic 24, 3) := by decide +kernel
theorem dX2_fillNumbers_3 : decode cX2_fillNumbers 3 = .ok (.iload_n 2, 1) := by decide +kernel
theorem dX2_fillNumbers_4 : decode cX2_fillNumbers 4 = .ok (.iaload, 1) := by decide +kernel
theorem dX2_fillNumbers_5 : decode cX2_fillNumbers 5 = .ok (.iconst 1, 1) := by decide +kernel
theorem dX2_fillNumbers_6 : decode cX2_fillNumbers 6 = .ok (.iadd, 1) := by decide +kernel
theorem dX2_fillNumbers_7 : decode cX2_fillNumbers 7 = .ok (.istore_n 3, 1) := by decide +kernel
theorem dX2_fillNumbers_8 : decode cX2_fillNumbers 8 = .ok (.iconst 0, 1) := by decide +kernel
theorem dX2_fillNumbers_9 : decode cX2_fillNumbers 9 = .ok (.istore 4, 2) := by decide +kernel
theorem dX2_fillNumbers_11 : decode cX2_fillNumbers 11 = .ok (.iload 4, 2) := by decide +kernel
theorem dX2_fillNumbers_13 : decode cX2_fillNumbers 13 = .ok (.getstatic 24, 3) := by decide +kernel
theorem dX2_fillNumbers_16 : decode cX2_fillNumbers 16 = .ok (.iload_n 2, 1) := by decide +kernel
theorem dX2_fillNumbers_17 : decode cX2_fillNumbers 17 = .ok (.iaload, 1) := by decide +kernel
theorem dX2_fillNumbers_18 : decode cX2_fillNumbers 18 = .ok (.if_icmp .gt 16, 3) := by decide +kernel
theorem dX2_fillNumbers_21 : decode cX2_fillNumbers 21 = .ok (.aload_n 1, 1) := by decide +kernel
theorem dX2_fillNumbers_22 : decode cX2_fillNumbers 22 = .ok (.iload_n 3, 1) := by decide +kernel
theorem dX2_fillNumbers_23 : decode cX2_fillNumbers 23 = .ok (.iload 4, 2) := by decide +kernel
theorem dX2_fillNumbers_25 : decode cX2_fillNumbers 25 = .ok (.iadd, 1) := by decide +kernel
theorem dX2_fillNumbers_26 : decode cX2_fillNumbers 26 = .ok (.iconst 0, 1) := by decide +kernel
theorem dX2_fillNumbers_27 : decode cX2_fillNumbers 27 = .ok (.iastore, 1) := by decide +kernel
theorem dX2_fillNumbers_28 : decode cX2_fillNumbers 28 = .ok (.iinc 4 1, 3) := by decide +kernel
theorem dX2_fillNumbers_31 : decode cX2_fillNumbers 31 = .ok (.goto (-20), 3) := by decide +kernel
theorem dX2_fillNumbers_34 : decode cX2_fillNumbers 34 = .ok (.iconst 0, 1) := by decide +kernel
theorem dX2_fillNumbers_35 : decode cX2_fillNumbers 35 = .ok (.istore 4, 2) := by decide +kernel
theorem dX2_fillNumbers_37 : decode cX2_fillNumbers 37 = .ok (.iload 4, 2) := by decide +kernel
theorem dX2_fillNumbers_39 : decode cX2_fillNumbers 39 = .ok (.aload_n 0, 1) := by decide +kernel
theorem dX2_fillNumbers_40 : decode cX2_fillNumbers 40 = .ok (.getfield 16, 3) := by decide +kernel
theorem dX2_fillNumbers_43 : decode cX2_fillNumbers 43 = .ok (.getfield 28, 3) := by decide +kernel
theorem dX2_fillNumbers_46 : decode cX2_fillNumbers 46 = .ok (.if_icmp .ge 83, 3) := by decide +kernel
theorem dX2_fillNumbers_49 : decode cX2_fillNumbers 49 = .ok (.aload_n 0, 1) := by decide +kernel
theorem dX2_fillNumbers_50 : decode cX2_fillNumbers 50 = .ok (.getfield 16, 3) := by decide +kernel
theorem dX2_fillNumbers_53 : decode cX2_fillNumbers 53 = .ok (.getfield 34, 3) := by decide +kernel
theorem dX2_fillNumbers_56 : decode cX2_fillNumbers 56 = .ok (.iload 4, 2) := by decide +kernel
theorem dX2_fillNumbers_58 : decode cX2_fillNumbers 58 = .ok (.iaload, 1) := by decide +kernel
theorem dX2_fillNumbers_59 : decode cX2_fillNumbers 59 = .ok (.istore 5, 2) := by decide +kernel
theorem dX2_fillNumbers_61 : decode cX2_fillNumbers 61 = .ok (.aload_n 1, 1) := by decide +kernel
theorem dX2_fillNumbers_62 : decode cX2_fillNumbers 62 = .ok (.iload_n 3, 1) := by decide +kernel
theorem dX2_fillNumbers_63 : decode cX2_fillNumbers 63 = .ok (.aload_n 0, 1) := by decide +kernel
theorem dX2_fillNumbers_64 : decode cX2_fillNumbers 64 = .ok (.getfield 16, 3) := by decide +kernel
theorem dX2_fillNumbers_67 : decode cX2_fillNumbers 67 = .ok (.getfield 37, 3) := by decide +kernel
theorem dX2_fillNumbers_70 : decode cX2_fillNumbers 70 = .ok (.iload_n 2, 1) := by decide +kernel
theorem dX2_fillNumbers_71 : decode cX2_fillNumbers 71 = .ok (.aaload, 1) := by decide +kernel
theorem dX2_fillNumbers_72 : decode cX2_fillNumbers 72 = .ok (.iload 5, 2) := by decide +kernel
theorem dX2_fillNumbers_74 : decode cX2_fillNumbers 74 = .ok (.iaload, 1) := by decide +kernel
theorem dX2_fillNumbers_75 : decode cX2_fillNumbers 75 = .ok (.iadd, 1) := by decide +kernel
theorem dX2_fillNumbers_76 : decode cX2_fillNumbers 76 = .ok (.dup2, 1) := by decide +kernel
theorem dX2_fillNumbers_77 : decode cX2_fillNumbers 77 = .ok (.iaload, 1) := by decide +kernel
theorem dX2_fillNumbers_78 : decode cX2_fillNumbers 78 = .ok (.iconst 1, 1) := by decide +kernel
theorem dX2_fillNumbers_79 : decode cX2_fillNumbers 79 = .ok (.iload 4, 2) := by decide +kernel
theorem dX2_fillNumbers_81 : decode cX2_fillNumbers 81 = .ok (.ishl, 1) := by decide +kernel
theorem dX2_fillNumbers_82 : decode cX2_fillNumbers 82 = .ok (.ixor, 1) := by decide +kernel
theorem dX2_fillNumbers_83 : decode cX2_fillNumbers 83 = .ok (.iastore, 1) := by decide +kernel
theorem dX2_fillNumbers_84 : decode cX2_fillNumbers 84 = .ok (.aload_n 0, 1) := by decide +kernel
theorem dX2_fillNumbers_85 : decode cX2_fillNumbers 85 = .ok (.getfield 16, 3) := by decide +kernel
theorem dX2_fillNumbers_88 : decode cX2_fillNumbers 88 = .ok (.getfield 40, 3) := by decide +kernel
theorem dX2_fillNumbers_91 : decode cX2_fillNumbers 91 = .ok (.iload_n 2, 1) := by decide +kernel
theorem dX2_fillNumbers_92 : decode cX2_fillNumbers 92 = .ok (.aaload, 1) := by decide +kernel
theorem dX2_fillNumbers_93 : decode cX2_fillNumbers 93 = .ok (.iload 5, 2) := by decide +kernel
theorem dX2_fillNumbers_95 : decode cX2_fillNumbers 95 = .ok (.iaload, 1) := by decide +kernel
theorem dX2_fillNumbers_96 : decode cX2_fillNumbers 96 = .ok (.iconst 1, 1) := by decide +kernel
theorem dX2_fillNumbers_97 : decode cX2_fillNumbers 97 = .ok (.iadd, 1) := by decide +kernel
theorem dX2_fillNumbers_98 : decode cX2_fillNumbers 98 = .ok (.istore 6, 2) := by decide +kernel
theorem dX2_fillNumbers_100 : decode cX2_fillNumbers 100 = .ok (.iload 6, 2) := by decide +kernel
theorem dX2_fillNumbers_102 : decode cX2_fillNumbers 102 = .ok (.getstatic 24, 3) := by decide +kernel
theorem dX2_fillNumbers_105 : decode cX2_fillNumbers 105 = .ok (.iload_n 2, 1) := by decide +kernel
theorem dX2_fillNumbers_106 : decode cX2_fillNumbers 106 = .ok (.iaload, 1) := by decide +kernel
theorem dX2_fillNumbers_107 : decode cX2_fillNumbers 107 = .ok (.if_icmp .gt 16, 3) := by decide +kernel
theorem dX2_fillNumbers_110 : decode cX2_fillNumbers 110 = .ok (.aload_n 1, 1) := by decide +kernel
theorem dX2_fillNumbers_111 : decode cX2_fillNumbers 111 = .ok (.iload_n 3, 1) := by decide +kernel
theorem dX2_fillNumbers_112 : decode cX2_fillNumbers 112 = .ok (.iload 6, 2) := by decide +kernel
theorem dX2_fillNumbers_114 : decode cX2_fillNumbers 114 = .ok (.iadd, 1) := by decide +kernel
theorem dX2_fillNumbers_115 : decode cX2_fillNumbers 115 = .ok (.dup2, 1) := by decide +kernel
theorem dX2_fillNumbers_116 : decode cX2_fillNumbers 116 = .ok (.iaload, 1) := by decide +kernel
theorem dX2_fillNumbers_117 : decode cX2_fillNumbers 117 = .ok (.iconst 1, 1) := by decide +kernel
theorem dX2_fillNumbers_118 : decode cX2_fillNumbers 118 = .ok (.iload 4, 2) := by decide +kernel
theorem dX2_fillNumbers_120 : decode cX2_fillNumbers 120 = .ok (.ishl, 1) := by decide +kernel
theorem dX2_fillNumbers_121 : decode cX2_fillNumbers 121 = .ok (.ixor, 1) := by decide +kernel
theorem dX2_fillNumbers_122 : decode cX2_fillNumbers 122 = .ok (.iastore, 1) := by decide +kernel
theorem dX2_fillNumbers_123 : decode cX2_fillNumbers 123 = .ok (.iinc 4 1, 3) := by decide +kernel
theorem dX2_fillNumbers_126 : decode cX2_fillNumbers 126 = .ok (.goto (-89), 3) := by decide +kernel
theorem dX2_fillNumbers_129 : decode cX2_fillNumbers 129 = .ok (.iconst 1, 1) := by decide +kernel
theorem dX2_fillNumbers_130 : decode cX2_fillNumbers 130 = .ok (.istore 4, 2) := by decide +kernel
theorem dX2_fillNumbers_132 : decode cX2_fillNumbers 132 = .ok (.iload 4, 2) := by decide +kernel
theorem dX2_fillNumbers_134 : decode cX2_fillNumbers 134 = .ok (.getstatic 24, 3) := by decide +kernel
theorem dX2_fillNumbers_137 : decode cX2_fillNumbers 137 = .ok (.iload_n 2, 1) := by decide +kernel
theorem dX2_fillNumbers_138 : decode cX2_fillNumbers 138 = .ok (.iaload, 1) := by decide +kernel
theorem dX2_fillNumbers_139 : decode cX2_fillNumbers 139 = .ok (.if_icmp .gt 26, 3) := by decide +kernel
theorem dX2_fillNumbers_142 : decode cX2_fillNumbers 142 = .ok (.aload_n 1, 1) := by decide +kernel
theorem dX2_fillNumbers_143 : decode cX2_fillNumbers 143 = .ok (.iload_n 3, 1) := by decide +kernel
theorem dX2_fillNumbers_144 : decode cX2_fillNumbers 144 = .ok (.iload 4, 2) := by decide +kernel
theorem dX2_fillNumbers_146 : decode cX2_fillNumbers 146 = .ok (.iadd, 1) := by decide +kernel
theorem dX2_fillNumbers_147 : decode cX2_fillNumbers 147 = .ok (.dup2, 1) := by decide +kernel
theorem dX2_fillNumbers_148 : decode cX2_fillNumbers 148 = .ok (.iaload, 1) := by decide +kernel
theorem dX2_fillNumbers_149 : decode cX2_fillNumbers 149 = .ok (.aload_n 1, 1) := by decide +kernel
theorem dX2_fillNumbers_150 : decode cX2_fillNumbers 150 = .ok (.iload_n 3, 1) := by decide +kernel
theorem dX2_fillNumbers_151 : decode cX2_fillNumbers 151 = .ok (.iload 4, 2) := by decide +kernel
theorem dX2_fillNumbers_153 : decode cX2_fillNumbers 153 = .ok (.iadd, 1) := by decide +kernel
theorem dX2_fillNumbers_154 : decode cX2_fillNumbers 154 = .ok (.iconst 1, 1) := by decide +kernel
theorem dX2_fillNumbers_155 : decode cX2_fillNumbers 155 = .ok (.isub, 1) := by decide +kernel
theorem dX2_fillNumbers_156 : decode cX2_fillNumbers 156 = .ok (.iaload, 1) := by decide +kernel
theorem dX2_fillNumbers_157 : decode cX2_fillNumbers 157 = .ok (.ixor, 1) := by decide +kernel
theorem dX2_fillNumbers_158 : decode cX2_fillNumbers 158 = .ok (.iastore, 1) := by decide +kernel
theorem dX2_fillNumbers_159 : decode cX2_fillNumbers 159 = .ok (.iinc 4 1, 3) := by decide +kernel
theorem dX2_fillNumbers_162 : decode cX2_fillNumbers 162 = .ok (.goto (-30), 3) := by decide +kernel
theorem dX2_fillNumbers_165 : decode cX2_fillNumbers 165 = .ok (.return_, 1) := by decide +kernel
theorem dX2_ofNumber_0 : decode cX2_ofNumber 0 = .ok (.aload_n 0, 1) := by decide +kernel
theorem dX2_ofNumber_1 : decode cX2_ofNumber 1 = .ok (.getfield 11, 3) := by decide +kernel
theorem dX2_ofNumber_4 : decode cX2_ofNumber 4 = .ok (.iload_n 1, 1) := by decide +kernel
theorem dX2_ofNumber_5 : decode cX2_ofNumber 5 = .ok (.aaload, 1) := by decide +kernel
theorem dX2_ofNumber_6 : decode cX2_ofNumber 6 = .ok (.getstatic 24, 3) := by decide +kernel
theorem dX2_ofNumber_9 : decode cX2_ofNumber 9 = .ok (.iload_n 1, 1) := by decide +kernel
theorem dX2_ofNumber_10 : decode cX2_ofNumber 10 = .ok (.iaload, 1) := by decide +kernel
theorem dX2_ofNumber_11 : decode cX2_ofNumber 11 = .ok (.iconst 1, 1) := by decide +kernel
theorem dX2_ofNumber_12 : decode cX2_ofNumber 12 = .ok (.iadd, 1) := by decide +kernel
theorem dX2_ofNumber_13 : decode cX2_ofNumber 13 = .ok (.iload_n 2, 1) := by decide +kernel
theorem dX2_ofNumber_14 : decode cX2_ofNumber 14 = .ok (.iadd, 1) := by decide +kernel
theorem dX2_ofNumber_15 : decode cX2_ofNumber 15 = .ok (.iaload, 1) := by decide +kernel
theorem dX2_ofNumber_16 : decode cX2_ofNumber 16 = .ok (.ireturn, 1) := by decide +kernel
theorem dX2_fitting_0 : decode cX2_fitting 0 = .ok (.aload_n 0, 1) := by decide +kernel
theorem dX2_fitting_1 : decode cX2_fitting 1 = .ok (.invokevirtual 43, 3) := by decide +kernel
theorem dX2_fitting_4 : decode cX2_fitting 4 = .ok (.istore_n 2, 1) := by decide +kernel
theorem dX2_fitting_5 : decode cX2_fitting 5 = .ok (.iconst 0, 1) := by decide +kernel
theorem dX2_fitting_6 : decode cX2_fitting 6 = .ok (.istore_n 3, 1) := by decide +kernel
theorem dX2_fitting_7 : decode cX2_fitting 7 = .ok (.iload_n 3, 1) := by decide +kernel
theorem dX2_fitting_8 : decode cX2_fitting 8 = .ok (.iconst 4, 1) := by decide +kernel
theorem dX2_fitting_9 : decode cX2_fitting 9 = .ok (.if_icmp .ge 20, 3) := by decide +kernel
theorem dX2_fitting_12 : decode cX2_fitting 12 = .ok (.iload_n 2, 1) := by decide +kernel
theorem dX2_fitting_13 : decode cX2_fitting 13 = .ok (.aload_n 0, 1) := by decide +kernel
theorem dX2_fitting_14 : decode cX2_fitting 14 = .ok (.iload_n 3, 1) := by decide +kernel
theorem dX2_fitting_15 : decode cX2_fitting 15 = .ok (.aload_n 1, 1) := by decide +kernel
theorem dX2_fitting_16 : decode cX2_fitting 16 = .ok (.iload_n 3, 1) := by decide +kernel
theorem dX2_fitting_17 : decode cX2_fitting 17 = .ok (.iaload, 1) := by decide +kernel
theorem dX2_fitting_18 : decode cX2_fitting 18 = .ok (.invokevirtual 47, 3) := by decide +kernel
theorem dX2_fitting_21 : decode cX2_fitting 21 = .ok (.iand, 1) := by decide +kernel
theorem dX2_fitting_22 : decode cX2_fitting 22 = .ok (.istore_n 2, 1) := by decide +kernel
theorem dX2_fitting_23 : decode cX2_fitting 23 = .ok (.iinc 3 1, 3) := by decide +kernel
theorem dX2_fitting_26 : decode cX2_fitting 26 = .ok (.goto (-19), 3) := by decide +kernel
theorem dX2_fitting_29 : decode cX2_fitting 29 = .ok (.iload_n 2, 1) := by decide +kernel
theorem dX2_fitting_30 : decode cX2_fitting 30 = .ok (.ireturn, 1) := by decide +kernel
theorem dX2_all_0 : decode cX2_all 0 = .ok (.iconst 1, 1) := by decide +kernel
theorem dX2_all_1 : decode cX2_all 1 = .ok (.aload_n 0, 1) := by decide +kernel
theorem dX2_all_2 : decode cX2_all 2 = .ok (.getfield 16, 3) := by decide +kernel
theorem dX2_all_5 : decode cX2_all 5 = .ok (.getfield 28, 3) := by decide +kernel
theorem dX2_all_8 : decode cX2_all 8 = .ok (.ishl, 1) := by decide +kernel
theorem dX2_all_9 : decode cX2_all 9 = .ok (.iconst 1, 1) := by decide +kernel
theorem dX2_all_10 : decode cX2_all 10 = .ok (.isub, 1) := by decide +kernel
theorem dX2_all_11 : decode cX2_all 11 = .ok (.ireturn, 1) := by decide +kernel
theorem dX3_init_0 : decode cX3_init 0 = .ok (.aload_n 0, 1) := by decide +kernel
theorem dX3_init_1 : decode cX3_init 1 = .ok (.invokespecial 3, 3) := by decide +kernel
theorem dX3_init_4 : decode cX3_init 4 = .ok (.aload_n 0, 1) := by decide +kernel
theorem dX3_init_5 : decode cX3_init 5 = .ok (.iconst 0, 1) := by decide +kernel
theorem dX3_init_6 : decode cX3_init 6 = .ok (.putfield 9, 3) := by decide +kernel
theorem dX3_init_9 : decode cX3_init 9 = .ok (.aload_n 0, 1) := by decide +kernel
theorem dX3_init_10 : decode cX3_init 10 = .ok (.iconst 4, 1) := by decide +kernel
theorem dX3_init_11 : decode cX3_init 11 = .ok (.bipush 16, 2) := by decide +kernel
theorem dX3_init_13 : decode cX3_init 13 = .ok (.multianewarray 15 2, 4) := by decide +kernel
theorem dX3_init_17 : decode cX3_init 17 = .ok (.putfield 17, 3) := by decide +kernel
theorem dX3_init_20 : decode cX3_init 20 = .ok (.aload_n 0, 1) := by decide +kernel
theorem dX3_init_21 : decode cX3_init 21 = .ok (.iconst 4, 1) := by decide +kernel
theorem dX3_init_22 : decode cX3_init 22 = .ok (.bipush 16, 2) := by decide +kernel
theorem dX3_init_24 : decode cX3_init 24 = .ok (.multianewarray 15 2, 4) := by decide +kernel
theorem dX3_init_28 : decode cX3_init 28 = .ok (.putfield 20, 3) := by decide +kernel
theorem dX3_init_31 : decode cX3_init 31 = .ok (.aload_n 0, 1) := by decide +kernel
theorem dX3_init_32 : decode cX3_init 32 = .ok (.bipush 16, 2) := by decide +kernel
theorem dX3_init_34 : decode cX3_init 34 = .ok (.newarray .int, 2) := by decide +kernel
theorem dX3_init_36 : decode cX3_init 36 = .ok (.putfield 23, 3) := by decide +kernel
theorem dX3_init_39 : decode cX3_init 39 = .ok (.aload_n 0, 1) := by decide +kernel
theorem dX3_init_40 : decode cX3_init 40 = .ok (.bipush 16, 2) := by decide +kernel
theorem dX3_init_42 : decode cX3_init 42 = .ok (.newarray .int, 2) := by decide +kernel
theorem dX3_init_44 : decode cX3_init 44 = .ok (.putfield 27, 3) := by decide +kernel
theorem dX3_init_47 : decode cX3_init 47 = .ok (.aload_n 0, 1) := by decide +kernel
theorem dX3_init_48 : decode cX3_init 48 = .ok (.bipush 16, 2) := by decide +kernel
theorem dX3_init_50 : decode cX3_init 50 = .ok (.newarray .int, 2) := by decide +kernel
theorem dX3_init_52 : decode cX3_init 52 = .ok (.putfield 30, 3) := by decide +kernel
theorem dX3_init_55 : decode cX3_init 55 = .ok (.aload_n 0, 1) := by decide +kernel
theorem dX3_init_56 : decode cX3_init 56 = .ok (.bipush 16, 2) := by decide +kernel
theorem dX3_init_58 : decode cX3_init 58 = .ok (.newarray .int, 2) := by decide +kernel
theorem dX3_init_60 : decode cX3_init 60 = .ok (.putfield 33, 3) := by decide +kernel
theorem dX3_init_63 : decode cX3_init 63 = .ok (.return_, 1) := by decide +kernel
theorem dX3_has_0 : decode cX3_has 0 = .ok (.iload_n 1, 1) := by decide +kernel
theorem dX3_has_1 : decode cX3_has 1 = .ok (.ifCond .lt 15, 3) := by decide +kernel
end
section
theorem dX3_has_4 : decode cX3_has 4 = .ok (.iload_n 1, 1) := by decide +kernel
theorem dX3_has_5 : decode cX3_has 5 = .ok (.aload_n 0, 1) := by decide +kernel
theorem dX3_has_6 : decode cX3_has 6 = .ok (.getfield 9, 3) := by decide +kernel
theorem dX3_has_9 : decode cX3_has 9 = .ok (.if_icmp .ge 7, 3) := by decide +kernel
theorem dX3_has_12 : decode cX3_has 12 = .ok (.iconst 1, 1) := by decide +kernel
theorem dX3_has_13 : decode cX3_has 13 = .ok (.goto 4, 3) := by decide +kernel
theorem dX3_has_16 : decode cX3_has 16 = .ok (.iconst 0, 1) := by decide +kernel
theorem dX3_has_17 : decode cX3_has 17 = .ok (.ireturn, 1) := by decide +kernel
theorem dX3_add_0 : decode cX3_add 0 = .ok (.aload_n 0, 1) := by decide +kernel
theorem dX3_add_1 : decode cX3_add 1 = .ok (.getfield 9, 3) := by decide +kernel
theorem dX3_add_4 : decode cX3_add 4 = .ok (.bipush 16, 2) := by decide +kernel
theorem dX3_add_6 : decode cX3_add 6 = .ok (.if_icmp .lt 4, 3) := by decide +kernel
theorem dX3_add_9 : decode cX3_add 9 = .ok (.return_, 1) := by decide +kernel
theorem dX3_add_10 : decode cX3_add 10 = .ok (.iconst 0, 1) := by decide +kernel
theorem dX3_add_11 : decode cX3_add 11 = .ok (.istore 5, 2) := by decide +kernel
theorem dX3_add_13 : decode cX3_add 13 = .ok (.iload 5, 2) := by decide +kernel
theorem dX3_add_15 : decode cX3_add 15 = .ok (.iconst 4, 1) := by decide +kernel
theorem dX3_add_16 : decode cX3_add 16 = .ok (.if_icmp .ge 41, 3) := by decide +kernel
theorem dX3_add_19 : decode cX3_add 19 = .ok (.aload_n 0, 1) := by decide +kernel
theorem dX3_add_20 : decode cX3_add 20 = .ok (.getfield 17, 3) := by decide +kernel
theorem dX3_add_23 : decode cX3_add 23 = .ok (.iload 5, 2) := by decide +kernel
theorem dX3_add_25 : decode cX3_add 25 = .ok (.aaload, 1) := by decide +kernel
theorem dX3_add_26 : decode cX3_add 26 = .ok (.aload_n 0, 1) := by decide +kernel
theorem dX3_add_27 : decode cX3_add 27 = .ok (.getfield 9, 3) := by decide +kernel
theorem dX3_add_30 : decode cX3_add 30 = .ok (.aload_n 1, 1) := by decide +kernel
theorem dX3_add_31 : decode cX3_add 31 = .ok (.iload 5, 2) := by decide +kernel
theorem dX3_add_33 : decode cX3_add 33 = .ok (.iaload, 1) := by decide +kernel
theorem dX3_add_34 : decode cX3_add 34 = .ok (.iastore, 1) := by decide +kernel
theorem dX3_add_35 : decode cX3_add 35 = .ok (.aload_n 0, 1) := by decide +kernel
theorem dX3_add_36 : decode cX3_add 36 = .ok (.getfield 20, 3) := by decide +kernel
theorem dX3_add_39 : decode cX3_add 39 = .ok (.iload 5, 2) := by decide +kernel
theorem dX3_add_41 : decode cX3_add 41 = .ok (.aaload, 1) := by decide +kernel
theorem dX3_add_42 : decode cX3_add 42 = .ok (.aload_n 0, 1) := by decide +kernel
theorem dX3_add_43 : decode cX3_add 43 = .ok (.getfield 9, 3) := by decide +kernel
theorem dX3_add_46 : decode cX3_add 46 = .ok (.aload_n 2, 1) := by decide +kernel
theorem dX3_add_47 : decode cX3_add 47 = .ok (.iload 5, 2) := by decide +kernel
theorem dX3_add_49 : decode cX3_add 49 = .ok (.iaload, 1) := by decide +kernel
theorem dX3_add_50 : decode cX3_add 50 = .ok (.iastore, 1) := by decide +kernel
theorem dX3_add_51 : decode cX3_add 51 = .ok (.iinc 5 1, 3) := by decide +kernel
theorem dX3_add_54 : decode cX3_add 54 = .ok (.goto (-41), 3) := by decide +kernel
theorem dX3_add_57 : decode cX3_add 57 = .ok (.aload_n 0, 1) := by decide +kernel
theorem dX3_add_58 : decode cX3_add 58 = .ok (.getfield 23, 3) := by decide +kernel
theorem dX3_add_61 : decode cX3_add 61 = .ok (.aload_n 0, 1) := by decide +kernel
theorem dX3_add_62 : decode cX3_add 62 = .ok (.getfield 9, 3) := by decide +kernel
theorem dX3_add_65 : decode cX3_add 65 = .ok (.iload_n 3, 1) := by decide +kernel
theorem dX3_add_66 : decode cX3_add 66 = .ok (.iastore, 1) := by decide +kernel
theorem dX3_add_67 : decode cX3_add 67 = .ok (.aload_n 0, 1) := by decide +kernel
theorem dX3_add_68 : decode cX3_add 68 = .ok (.getfield 27, 3) := by decide +kernel
theorem dX3_add_71 : decode cX3_add 71 = .ok (.aload_n 0, 1) := by decide +kernel
theorem dX3_add_72 : decode cX3_add 72 = .ok (.getfield 9, 3) := by decide +kernel
theorem dX3_add_75 : decode cX3_add 75 = .ok (.iload 4, 2) := by decide +kernel
theorem dX3_add_77 : decode cX3_add 77 = .ok (.iastore, 1) := by decide +kernel
theorem dX3_add_78 : decode cX3_add 78 = .ok (.aload_n 0, 1) := by decide +kernel
theorem dX3_add_79 : decode cX3_add 79 = .ok (.dup, 1) := by decide +kernel
theorem dX3_add_80 : decode cX3_add 80 = .ok (.getfield 9, 3) := by decide +kernel
theorem dX3_add_83 : decode cX3_add 83 = .ok (.iconst 1, 1) := by decide +kernel
theorem dX3_add_84 : decode cX3_add 84 = .ok (.iadd, 1) := by decide +kernel
theorem dX3_add_85 : decode cX3_add 85 = .ok (.putfield 9, 3) := by decide +kernel
theorem dX3_add_88 : decode cX3_add 88 = .ok (.return_, 1) := by decide +kernel
theorem dX3_remove_0 : decode cX3_remove 0 = .ok (.aload_n 0, 1) := by decide +kernel
theorem dX3_remove_1 : decode cX3_remove 1 = .ok (.iload_n 1, 1) := by decide +kernel
theorem dX3_remove_2 : decode cX3_remove 2 = .ok (.invokevirtual 36, 3) := by decide +kernel
theorem dX3_remove_5 : decode cX3_remove 5 = .ok (.ifCond .ne 4, 3) := by decide +kernel
theorem dX3_remove_8 : decode cX3_remove 8 = .ok (.return_, 1) := by decide +kernel
theorem dX3_remove_9 : decode cX3_remove 9 = .ok (.iload_n 1, 1) := by decide +kernel
theorem dX3_remove_10 : decode cX3_remove 10 = .ok (.istore_n 2, 1) := by decide +kernel
theorem dX3_remove_11 : decode cX3_remove 11 = .ok (.iload_n 2, 1) := by decide +kernel
theorem dX3_remove_12 : decode cX3_remove 12 = .ok (.iconst 1, 1) := by decide +kernel
theorem dX3_remove_13 : decode cX3_remove 13 = .ok (.iadd, 1) := by decide +kernel
theorem dX3_remove_14 : decode cX3_remove 14 = .ok (.aload_n 0, 1) := by decide +kernel
theorem dX3_remove_15 : decode cX3_remove 15 = .ok (.getfield 9, 3) := by decide +kernel
theorem dX3_remove_18 : decode cX3_remove 18 = .ok (.if_icmp .ge 18, 3) := by decide +kernel
theorem dX3_remove_21 : decode cX3_remove 21 = .ok (.aload_n 0, 1) := by decide +kernel
theorem dX3_remove_22 : decode cX3_remove 22 = .ok (.aload_n 0, 1) := by decide +kernel
theorem dX3_remove_23 : decode cX3_remove 23 = .ok (.iload_n 2, 1) := by decide +kernel
theorem dX3_remove_24 : decode cX3_remove 24 = .ok (.iconst 1, 1) := by decide +kernel
theorem dX3_remove_25 : decode cX3_remove 25 = .ok (.iadd, 1) := by decide +kernel
theorem dX3_remove_26 : decode cX3_remove 26 = .ok (.iload_n 2, 1) := by decide +kernel
theorem dX3_remove_27 : decode cX3_remove 27 = .ok (.invokevirtual 40, 3) := by decide +kernel
theorem dX3_remove_30 : decode cX3_remove 30 = .ok (.iinc 2 1, 3) := by decide +kernel
theorem dX3_remove_33 : decode cX3_remove 33 = .ok (.goto (-22), 3) := by decide +kernel
theorem dX3_remove_36 : decode cX3_remove 36 = .ok (.aload_n 0, 1) := by decide +kernel
theorem dX3_remove_37 : decode cX3_remove 37 = .ok (.dup, 1) := by decide +kernel
theorem dX3_remove_38 : decode cX3_remove 38 = .ok (.getfield 9, 3) := by decide +kernel
theorem dX3_remove_41 : decode cX3_remove 41 = .ok (.iconst 1, 1) := by decide +kernel
theorem dX3_remove_42 : decode cX3_remove 42 = .ok (.isub, 1) := by decide +kernel
theorem dX3_remove_43 : decode cX3_remove 43 = .ok (.putfield 9, 3) := by decide +kernel
theorem dX3_remove_46 : decode cX3_remove 46 = .ok (.return_, 1) := by decide +kernel
theorem dX3_copyFrom_0 : decode cX3_copyFrom 0 = .ok (.aload_n 0, 1) := by decide +kernel
theorem dX3_copyFrom_1 : decode cX3_copyFrom 1 = .ok (.aload_n 1, 1) := by decide +kernel
theorem dX3_copyFrom_2 : decode cX3_copyFrom 2 = .ok (.getfield 9, 3) := by decide +kernel
theorem dX3_copyFrom_5 : decode cX3_copyFrom 5 = .ok (.putfield 9, 3) := by decide +kernel
theorem dX3_copyFrom_8 : decode cX3_copyFrom 8 = .ok (.iconst 0, 1) := by decide +kernel
theorem dX3_copyFrom_9 : decode cX3_copyFrom 9 = .ok (.istore_n 2, 1) := by decide +kernel
theorem dX3_copyFrom_10 : decode cX3_copyFrom 10 = .ok (.iload_n 2, 1) := by decide +kernel
theorem dX3_copyFrom_11 : decode cX3_copyFrom 11 = .ok (.aload_n 0, 1) := by decide +kernel
theorem dX3_copyFrom_12 : decode cX3_copyFrom 12 = .ok (.getfield 9, 3) := by decide +kernel
theorem dX3_copyFrom_15 : decode cX3_copyFrom 15 = .ok (.if_icmp .ge 16, 3) := by decide +kernel
theorem dX3_copyFrom_18 : decode cX3_copyFrom 18 = .ok (.aload_n 0, 1) := by decide +kernel
theorem dX3_copyFrom_19 : decode cX3_copyFrom 19 = .ok (.aload_n 1, 1) := by decide +kernel
theorem dX3_copyFrom_20 : decode cX3_copyFrom 20 = .ok (.iload_n 2, 1) := by decide +kernel
theorem dX3_copyFrom_21 : decode cX3_copyFrom 21 = .ok (.iload_n 2, 1) := by decide +kernel
theorem dX3_copyFrom_22 : decode cX3_copyFrom 22 = .ok (.invokevirtual 40, 3) := by decide +kernel
theorem dX3_copyFrom_25 : decode cX3_copyFrom 25 = .ok (.iinc 2 1, 3) := by decide +kernel
theorem dX3_copyFrom_28 : decode cX3_copyFrom 28 = .ok (.goto (-18), 3) := by decide +kernel
theorem dX3_copyFrom_31 : decode cX3_copyFrom 31 = .ok (.return_, 1) := by decide +kernel
theorem dX3_copyRule_0 : decode cX3_copyRule 0 = .ok (.iconst 0, 1) := by decide +kernel
theorem dX3_copyRule_1 : decode cX3_copyRule 1 = .ok (.istore 4, 2) := by decide +kernel
theorem dX3_copyRule_3 : decode cX3_copyRule 3 = .ok (.iload 4, 2) := by decide +kernel
theorem dX3_copyRule_5 : decode cX3_copyRule 5 = .ok (.iconst 4, 1) := by decide +kernel
theorem dX3_copyRule_6 : decode cX3_copyRule 6 = .ok (.if_icmp .ge 45, 3) := by decide +kernel
theorem dX3_copyRule_9 : decode cX3_copyRule 9 = .ok (.aload_n 0, 1) := by decide +kernel
theorem dX3_copyRule_10 : decode cX3_copyRule 10 = .ok (.getfield 17, 3) := by decide +kernel
theorem dX3_copyRule_13 : decode cX3_copyRule 13 = .ok (.iload 4, 2) := by decide +kernel
theorem dX3_copyRule_15 : decode cX3_copyRule 15 = .ok (.aaload, 1) := by decide +kernel
theorem dX3_copyRule_16 : decode cX3_copyRule 16 = .ok (.iload_n 3, 1) := by decide +kernel
theorem dX3_copyRule_17 : decode cX3_copyRule 17 = .ok (.aload_n 1, 1) := by decide +kernel
theorem dX3_copyRule_18 : decode cX3_copyRule 18 = .ok (.getfield 17, 3) := by decide +kernel
theorem dX3_copyRule_21 : decode cX3_copyRule 21 = .ok (.iload 4, 2) := by decide +kernel
theorem dX3_copyRule_23 : decode cX3_copyRule 23 = .ok (.aaload, 1) := by decide +kernel
theorem dX3_copyRule_24 : decode cX3_copyRule 24 = .ok (.iload_n 2, 1) := by decide +kernel
theorem dX3_copyRule_25 : decode cX3_copyRule 25 = .ok (.iaload, 1) := by decide +kernel
theorem dX3_copyRule_26 : decode cX3_copyRule 26 = .ok (.iastore, 1) := by decide +kernel
theorem dX3_copyRule_27 : decode cX3_copyRule 27 = .ok (.aload_n 0, 1) := by decide +kernel
theorem dX3_copyRule_28 : decode cX3_copyRule 28 = .ok (.getfield 20, 3) := by decide +kernel
theorem dX3_copyRule_31 : decode cX3_copyRule 31 = .ok (.iload 4, 2) := by decide +kernel
theorem dX3_copyRule_33 : decode cX3_copyRule 33 = .ok (.aaload, 1) := by decide +kernel
theorem dX3_copyRule_34 : decode cX3_copyRule 34 = .ok (.iload_n 3, 1) := by decide +kernel
theorem dX3_copyRule_35 : decode cX3_copyRule 35 = .ok (.aload_n 1, 1) := by decide +kernel
theorem dX3_copyRule_36 : decode cX3_copyRule 36 = .ok (.getfield 20, 3) := by decide +kernel
theorem dX3_copyRule_39 : decode cX3_copyRule 39 = .ok (.iload 4, 2) := by decide +kernel
theorem dX3_copyRule_41 : decode cX3_copyRule 41 = .ok (.aaload, 1) := by decide +kernel
theorem dX3_copyRule_42 : decode cX3_copyRule 42 = .ok (.iload_n 2, 1) := by decide +kernel
theorem dX3_copyRule_43 : decode cX3_copyRule 43 = .ok (.iaload, 1) := by decide +kernel
theorem dX3_copyRule_44 : decode cX3_copyRule 44 = .ok (.iastore, 1) := by decide +kernel
theorem dX3_copyRule_45 : decode cX3_copyRule 45 = .ok (.iinc 4 1, 3) := by decide +kernel
theorem dX3_copyRule_48 : decode cX3_copyRule 48 = .ok (.goto (-45), 3) := by decide +kernel
theorem dX3_copyRule_51 : decode cX3_copyRule 51 = .ok (.aload_n 0, 1) := by decide +kernel
theorem dX3_copyRule_52 : decode cX3_copyRule 52 = .ok (.getfield 23, 3) := by decide +kernel
theorem dX3_copyRule_55 : decode cX3_copyRule 55 = .ok (.iload_n 3, 1) := by decide +kernel
theorem dX3_copyRule_56 : decode cX3_copyRule 56 = .ok (.aload_n 1, 1) := by decide +kernel
theorem dX3_copyRule_57 : decode cX3_copyRule 57 = .ok (.getfield 23, 3) := by decide +kernel
theorem dX3_copyRule_60 : decode cX3_copyRule 60 = .ok (.iload_n 2, 1) := by decide +kernel
theorem dX3_copyRule_61 : decode cX3_copyRule 61 = .ok (.iaload, 1) := by decide +kernel
theorem dX3_copyRule_62 : decode cX3_copyRule 62 = .ok (.iastore, 1) := by decide +kernel
theorem dX3_copyRule_63 : decode cX3_copyRule 63 = .ok (.aload_n 0, 1) := by decide +kernel
theorem dX3_copyRule_64 : decode cX3_copyRule 64 = .ok (.getfield 27, 3) := by decide +kernel
theorem dX3_copyRule_67 : decode cX3_copyRule 67 = .ok (.iload_n 3, 1) := by decide +kernel
theorem dX3_copyRule_68 : decode cX3_copyRule 68 = .ok (.aload_n 1, 1) := by decide +kernel
theorem dX3_copyRule_69 : decode cX3_copyRule 69 = .ok (.getfield 27, 3) := by decide +kernel
theorem dX3_copyRule_72 : decode cX3_copyRule 72 = .ok (.iload_n 2, 1) := by decide +kernel
theorem dX3_copyRule_73 : decode cX3_copyRule 73 = .ok (.iaload, 1) := by decide +kernel
theorem dX3_copyRule_74 : decode cX3_copyRule 74 = .ok (.iastore, 1) := by decide +kernel
theorem dX3_copyRule_75 : decode cX3_copyRule 75 = .ok (.return_, 1) := by decide +kernel
theorem dX3_sort_0 : decode cX3_sort 0 = .ok (.iconst 0, 1) := by decide +kernel
theorem dX3_sort_1 : decode cX3_sort 1 = .ok (.istore_n 1, 1) := by decide +kernel
theorem dX3_sort_2 : decode cX3_sort 2 = .ok (.iload_n 1, 1) := by decide +kernel
theorem dX3_sort_3 : decode cX3_sort 3 = .ok (.aload_n 0, 1) := by decide +kernel
theorem dX3_sort_4 : decode cX3_sort 4 = .ok (.getfield 9, 3) := by decide +kernel
theorem dX3_sort_7 : decode cX3_sort 7 = .ok (.if_icmp .ge 53, 3) := by decide +kernel
theorem dX3_sort_10 : decode cX3_sort 10 = .ok (.iconst 0, 1) := by decide +kernel
theorem dX3_sort_11 : decode cX3_sort 11 = .ok (.istore_n 2, 1) := by decide +kernel
theorem dX3_sort_12 : decode cX3_sort 12 = .ok (.iconst 0, 1) := by decide +kernel
theorem dX3_sort_13 : decode cX3_sort 13 = .ok (.istore_n 3, 1) := by decide +kernel
theorem dX3_sort_14 : decode cX3_sort 14 = .ok (.iload_n 3, 1) := by decide +kernel
theorem dX3_sort_15 : decode cX3_sort 15 = .ok (.aload_n 0, 1) := by decide +kernel
theorem dX3_sort_16 : decode cX3_sort 16 = .ok (.getfield 9, 3) := by decide +kernel
theorem dX3_sort_19 : decode cX3_sort 19 = .ok (.if_icmp .ge 21, 3) := by decide +kernel
theorem dX3_sort_22 : decode cX3_sort 22 = .ok (.aload_n 0, 1) := by decide +kernel
theorem dX3_sort_23 : decode cX3_sort 23 = .ok (.iload_n 3, 1) := by decide +kernel
theorem dX3_sort_24 : decode cX3_sort 24 = .ok (.iload_n 1, 1) := by decide +kernel
theorem dX3_sort_25 : decode cX3_sort 25 = .ok (.invokevirtual 44, 3) := by decide +kernel
theorem dX3_sort_28 : decode cX3_sort 28 = .ok (.ifCond .eq 6, 3) := by decide +kernel
theorem dX3_sort_31 : decode cX3_sort 31 = .ok (.iinc 2 1, 3) := by decide +kernel
theorem dX3_sort_34 : decode cX3_sort 34 = .ok (.iinc 3 1, 3) := by decide +kernel
theorem dX3_sort_37 : decode cX3_sort 37 = .ok (.goto (-23), 3) := by decide +kernel
theorem dX3_sort_40 : decode cX3_sort 40 = .ok (.aload_n 0, 1) := by decide +kernel
theorem dX3_sort_41 : decode cX3_sort 41 = .ok (.getfield 33, 3) := by decide +kernel
theorem dX3_sort_44 : decode cX3_sort 44 = .ok (.iload_n 1, 1) := by decide +kernel
theorem dX3_sort_45 : decode cX3_sort 45 = .ok (.iload_n 2, 1) := by decide +kernel
theorem dX3_sort_46 : decode cX3_sort 46 = .ok (.iastore, 1) := by decide +kernel
theorem dX3_sort_47 : decode cX3_sort 47 = .ok (.aload_n 0, 1) := by decide +kernel
theorem dX3_sort_48 : decode cX3_sort 48 = .ok (.getfield 30, 3) := by decide +kernel
theorem dX3_sort_51 : decode cX3_sort 51 = .ok (.iload_n 2, 1) := by decide +kernel
theorem dX3_sort_52 : decode cX3_sort 52 = .ok (.iload_n 1, 1) := by decide +kernel
theorem dX3_sort_53 : decode cX3_sort 53 = .ok (.iastore, 1) := by decide +kernel
theorem dX3_sort_54 : decode cX3_sort 54 = .ok (.iinc 1 1, 3) := by decide +kernel
theorem dX3_sort_57 : decode cX3_sort 57 = .ok (.goto (-55), 3) := by decide +kernel
theorem dX3_sort_60 : decode cX3_sort 60 = .ok (.return_, 1) := by decide +kernel
theorem dX3_isAhead_0 : decode cX3_isAhead 0 = .ok (.aload_n 0, 1) := by decide +kernel
theorem dX3_isAhead_1 : decode cX3_isAhead 1 = .ok (.getfield 23, 3) := by decide +kernel
theorem dX3_isAhead_4 : decode cX3_isAhead 4 = .ok (.iload_n 1, 1) := by decide +kernel
theorem dX3_isAhead_5 : decode cX3_isAhead 5 = .ok (.iaload, 1) := by decide +kernel
theorem dX3_isAhead_6 : decode cX3_isAhead 6 = .ok (.aload_n 0, 1) := by decide +kernel
theorem dX3_isAhead_7 : decode cX3_isAhead 7 = .ok (.getfield 23, 3) := by decide +kernel
theorem dX3_isAhead_10 : decode cX3_isAhead 10 = .ok (.iload_n 2, 1) := by decide +kernel
theorem dX3_isAhead_11 : decode cX3_isAhead 11 = .ok (.iaload, 1) := by decide +kernel
theorem dX3_isAhead_12 : decode cX3_isAhead 12 = .ok (.if_icmp .lt 23, 3) := by decide +kernel
theorem dX3_isAhead_15 : decode cX3_isAhead 15 = .ok (.aload_n 0, 1) := by decide +kernel
theorem dX3_isAhead_16 : decode cX3_isAhead 16 = .ok (.getfield 23, 3) := by decide +kernel
theorem dX3_isAhead_19 : decode cX3_isAhead 19 = .ok (.iload_n 1, 1) := by decide +kernel
theorem dX3_isAhead_20 : decode cX3_isAhead 20 = .ok (.iaload, 1) := by decide +kernel
theorem dX3_isAhead_21 : decode cX3_isAhead 21 = .ok (.aload_n 0, 1) := by decide +kernel
theorem dX3_isAhead_22 : decode cX3_isAhead 22 = .ok (.getfield 23, 3) := by decide +kernel
theorem dX3_isAhead_25 : decode cX3_isAhead 25 = .ok (.iload_n 2, 1) := by decide +kernel
theorem dX3_isAhead_26 : decode cX3_isAhead 26 = .ok (.iaload, 1) := by decide +kernel
theorem dX3_isAhead_27 : decode cX3_isAhead 27 = .ok (.if_icmp .ne 12, 3) := by decide +kernel
theorem dX3_isAhead_30 : decode cX3_isAhead 30 = .ok (.iload_n 1, 1) := by decide +kernel
theorem dX3_isAhead_31 : decode cX3_isAhead 31 = .ok (.iload_n 2, 1) := by decide +kernel
theorem dX3_isAhead_32 : decode cX3_isAhead 32 = .ok (.if_icmp .ge 7, 3) := by decide +kernel
theorem dX3_isAhead_35 : decode cX3_isAhead 35 = .ok (.iconst 1, 1) := by decide +kernel
theorem dX3_isAhead_36 : decode cX3_isAhead 36 = .ok (.goto 4, 3) := by decide +kernel
theorem dX3_isAhead_39 : decode cX3_isAhead 39 = .ok (.iconst 0, 1) := by decide +kernel
theorem dX3_isAhead_40 : decode cX3_isAhead 40 = .ok (.ireturn, 1) := by decide +kernel
theorem dX3_takes_0 : decode cX3_takes 0 = .ok (.aload_n 0, 1) := by decide +kernel
theorem dX3_takes_1 : decode cX3_takes 1 = .ok (.getfield 17, 3) := by decide +kernel
theorem dX3_takes_4 : decode cX3_takes 4 = .ok (.iload_n 2, 1) := by decide +kernel
theorem dX3_takes_5 : decode cX3_takes 5 = .ok (.aaload, 1) := by decide +kernel
theorem dX3_takes_6 : decode cX3_takes 6 = .ok (.iload_n 1, 1) := by decide +kernel
theorem dX3_takes_7 : decode cX3_takes 7 = .ok (.iaload, 1) := by decide +kernel
theorem dX3_takes_8 : decode cX3_takes 8 = .ok (.iload_n 3, 1) := by decide +kernel
theorem dX3_takes_9 : decode cX3_takes 9 = .ok (.if_icmp .gt 19, 3) := by decide +kernel
theorem dX3_takes_12 : decode cX3_takes 12 = .ok (.iload_n 3, 1) := by decide +kernel
theorem dX3_takes_13 : decode cX3_takes 13 = .ok (.aload_n 0, 1) := by decide +kernel
theorem dX3_takes_14 : decode cX3_takes 14 = .ok (.getfield 20, 3) := by decide +kernel
theorem dX3_takes_17 : decode cX3_takes 17 = .ok (.iload_n 2, 1) := by decide +kernel
theorem dX3_takes_18 : decode cX3_takes 18 = .ok (.aaload, 1) := by decide +kernel
theorem dX3_takes_19 : decode cX3_takes 19 = .ok (.iload_n 1, 1) := by decide +kernel
theorem dX3_takes_20 : decode cX3_takes 20 = .ok (.iaload, 1) := by decide +kernel
theorem dX3_takes_21 : decode cX3_takes 21 = .ok (.if_icmp .gt 7, 3) := by decide +kernel
theorem dX3_takes_24 : decode cX3_takes 24 = .ok (.iconst 1, 1) := by decide +kernel
theorem dX3_takes_25 : decode cX3_takes 25 = .ok (.goto 4, 3) := by decide +kernel
theorem dX3_takes_28 : decode cX3_takes 28 = .ok (.iconst 0, 1) := by decide +kernel
theorem dX3_takes_29 : decode cX3_takes 29 = .ok (.ireturn, 1) := by decide +kernel
theorem dX3_shared_0 : decode cX3_shared 0 = .ok (.aload_n 0, 1) := by decide +kernel
theorem dX3_shared_1 : decode cX3_shared 1 = .ok (.getfield 17, 3) := by decide +kernel
theorem dX3_shared_4 : decode cX3_shared 4 = .ok (.iload_n 3, 1) := by decide +kernel
theorem dX3_shared_5 : decode cX3_shared 5 = .ok (.aaload, 1) := by decide +kernel
theorem dX3_shared_6 : decode cX3_shared 6 = .ok (.iload_n 1, 1) := by decide +kernel
theorem dX3_shared_7 : decode cX3_shared 7 = .ok (.iaload, 1) := by decide +kernel
theorem dX3_shared_8 : decode cX3_shared 8 = .ok (.aload_n 0, 1) := by decide +kernel
theorem dX3_shared_9 : decode cX3_shared 9 = .ok (.getfield 17, 3) := by decide +kernel
theorem dX3_shared_12 : decode cX3_shared 12 = .ok (.iload_n 3, 1) := by decide +kernel
theorem dX3_shared_13 : decode cX3_shared 13 = .ok (.aaload, 1) := by decide +kernel
theorem dX3_shared_14 : decode cX3_shared 14 = .ok (.iload_n 2, 1) := by decide +kernel
theorem dX3_shared_15 : decode cX3_shared 15 = .ok (.iaload, 1) := by decide +kernel
theorem dX3_shared_16 : decode cX3_shared 16 = .ok (.invokestatic 48, 3) := by decide +kernel
theorem dX3_shared_19 : decode cX3_shared 19 = .ok (.istore 4, 2) := by decide +kernel
theorem dX3_shared_21 : decode cX3_shared 21 = .ok (.aload_n 0, 1) := by decide +kernel
theorem dX3_shared_22 : decode cX3_shared 22 = .ok (.getfield 20, 3) := by decide +kernel
theorem dX3_shared_25 : decode cX3_shared 25 = .ok (.iload_n 3, 1) := by decide +kernel
theorem dX3_shared_26 : decode cX3_shared 26 = .ok (.aaload, 1) := by decide +kernel
theorem dX3_shared_27 : decode cX3_shared 27 = .ok (.iload_n 1, 1) := by decide +kernel
theorem dX3_shared_28 : decode cX3_shared 28 = .ok (.iaload, 1) := by decide +kernel
theorem dX3_shared_29 : decode cX3_shared 29 = .ok (.aload_n 0, 1) := by decide +kernel
theorem dX3_shared_30 : decode cX3_shared 30 = .ok (.getfield 20, 3) := by decide +kernel
theorem dX3_shared_33 : decode cX3_shared 33 = .ok (.iload_n 3, 1) := by decide +kernel
theorem dX3_shared_34 : decode cX3_shared 34 = .ok (.aaload, 1) := by decide +kernel
theorem dX3_shared_35 : decode cX3_shared 35 = .ok (.iload_n 2, 1) := by decide +kernel
theorem dX3_shared_36 : decode cX3_shared 36 = .ok (.iaload, 1) := by decide +kernel
theorem dX3_shared_37 : decode cX3_shared 37 = .ok (.invokestatic 54, 3) := by decide +kernel
theorem dX3_shared_40 : decode cX3_shared 40 = .ok (.istore 5, 2) := by decide +kernel
theorem dX3_shared_42 : decode cX3_shared 42 = .ok (.iconst 0, 1) := by decide +kernel
theorem dX3_shared_43 : decode cX3_shared 43 = .ok (.iload 5, 2) := by decide +kernel
theorem dX3_shared_45 : decode cX3_shared 45 = .ok (.iload 4, 2) := by decide +kernel
theorem dX3_shared_47 : decode cX3_shared 47 = .ok (.isub, 1) := by decide +kernel
theorem dX3_shared_48 : decode cX3_shared 48 = .ok (.iconst 1, 1) := by decide +kernel
theorem dX3_shared_49 : decode cX3_shared 49 = .ok (.iadd, 1) := by decide +kernel
theorem dX3_shared_50 : decode cX3_shared 50 = .ok (.invokestatic 48, 3) := by decide +kernel
theorem dX3_shared_53 : decode cX3_shared 53 = .ok (.ireturn, 1) := by decide +kernel
theorem dX3_coverOf_0 : decode cX3_coverOf 0 = .ok (.iconst 0, 1) := by decide +kernel
theorem dX3_coverOf_1 : decode cX3_coverOf 1 = .ok (.istore_n 2, 1) := by decide +kernel
theorem dX3_coverOf_2 : decode cX3_coverOf 2 = .ok (.iload_n 2, 1) := by decide +kernel
theorem dX3_coverOf_3 : decode cX3_coverOf 3 = .ok (.aload_n 0, 1) := by decide +kernel
theorem dX3_coverOf_4 : decode cX3_coverOf 4 = .ok (.getfield 33, 3) := by decide +kernel
theorem dX3_coverOf_7 : decode cX3_coverOf 7 = .ok (.iload_n 1, 1) := by decide +kernel
theorem dX3_coverOf_8 : decode cX3_coverOf 8 = .ok (.iaload, 1) := by decide +kernel
theorem dX3_coverOf_9 : decode cX3_coverOf 9 = .ok (.if_icmp .ge 30, 3) := by decide +kernel
theorem dX3_coverOf_12 : decode cX3_coverOf 12 = .ok (.aload_n 0, 1) := by decide +kernel
theorem dX3_coverOf_13 : decode cX3_coverOf 13 = .ok (.aload_n 0, 1) := by decide +kernel
theorem dX3_coverOf_14 : decode cX3_coverOf 14 = .ok (.getfield 30, 3) := by decide +kernel
theorem dX3_coverOf_17 : decode cX3_coverOf 17 = .ok (.iload_n 2, 1) := by decide +kernel
theorem dX3_coverOf_18 : decode cX3_coverOf 18 = .ok (.iaload, 1) := by decide +kernel
theorem dX3_coverOf_19 : decode cX3_coverOf 19 = .ok (.iload_n 1, 1) := by decide +kernel
theorem dX3_coverOf_20 : decode cX3_coverOf 20 = .ok (.invokevirtual 57, 3) := by decide +kernel
theorem dX3_coverOf_23 : decode cX3_coverOf 23 = .ok (.ifCond .eq 10, 3) := by decide +kernel
theorem dX3_coverOf_26 : decode cX3_coverOf 26 = .ok (.aload_n 0, 1) := by decide +kernel
theorem dX3_coverOf_27 : decode cX3_coverOf 27 = .ok (.getfield 30, 3) := by decide +kernel
theorem dX3_coverOf_30 : decode cX3_coverOf 30 = .ok (.iload_n 2, 1) := by decide +kernel
theorem dX3_coverOf_31 : decode cX3_coverOf 31 = .ok (.iaload, 1) := by decide +kernel
theorem dX3_coverOf_32 : decode cX3_coverOf 32 = .ok (.ireturn, 1) := by decide +kernel
theorem dX3_coverOf_33 : decode cX3_coverOf 33 = .ok (.iinc 2 1, 3) := by decide +kernel
theorem dX3_coverOf_36 : decode cX3_coverOf 36 = .ok (.goto (-34), 3) := by decide +kernel
theorem dX3_coverOf_39 : decode cX3_coverOf 39 = .ok (.bipush (-6), 2) := by decide +kernel
theorem dX3_coverOf_41 : decode cX3_coverOf 41 = .ok (.ireturn, 1) := by decide +kernel
theorem dX3_holds_0 : decode cX3_holds 0 = .ok (.iconst 0, 1) := by decide +kernel
theorem dX3_holds_1 : decode cX3_holds 1 = .ok (.istore_n 3, 1) := by decide +kernel
theorem dX3_holds_2 : decode cX3_holds 2 = .ok (.iload_n 3, 1) := by decide +kernel
theorem dX3_holds_3 : decode cX3_holds 3 = .ok (.iconst 4, 1) := by decide +kernel
theorem dX3_holds_4 : decode cX3_holds 4 = .ok (.if_icmp .ge 49, 3) := by decide +kernel
theorem dX3_holds_7 : decode cX3_holds 7 = .ok (.aload_n 0, 1) := by decide +kernel
theorem dX3_holds_8 : decode cX3_holds 8 = .ok (.getfield 17, 3) := by decide +kernel
theorem dX3_holds_11 : decode cX3_holds 11 = .ok (.iload_n 3, 1) := by decide +kernel
theorem dX3_holds_12 : decode cX3_holds 12 = .ok (.aaload, 1) := by decide +kernel
theorem dX3_holds_13 : decode cX3_holds 13 = .ok (.iload_n 1, 1) := by decide +kernel
theorem dX3_holds_14 : decode cX3_holds 14 = .ok (.iaload, 1) := by decide +kernel
theorem dX3_holds_15 : decode cX3_holds 15 = .ok (.aload_n 0, 1) := by decide +kernel
theorem dX3_holds_16 : decode cX3_holds 16 = .ok (.getfield 17, 3) := by decide +kernel
theorem dX3_holds_19 : decode cX3_holds 19 = .ok (.iload_n 3, 1) := by decide +kernel
theorem dX3_holds_20 : decode cX3_holds 20 = .ok (.aaload, 1) := by decide +kernel
theorem dX3_holds_21 : decode cX3_holds 21 = .ok (.iload_n 2, 1) := by decide +kernel
theorem dX3_holds_22 : decode cX3_holds 22 = .ok (.iaload, 1) := by decide +kernel
theorem dX3_holds_23 : decode cX3_holds 23 = .ok (.if_icmp .gt 22, 3) := by decide +kernel
theorem dX3_holds_26 : decode cX3_holds 26 = .ok (.aload_n 0, 1) := by decide +kernel
theorem dX3_holds_27 : decode cX3_holds 27 = .ok (.getfield 20, 3) := by decide +kernel
theorem dX3_holds_30 : decode cX3_holds 30 = .ok (.iload_n 3, 1) := by decide +kernel
theorem dX3_holds_31 : decode cX3_holds 31 = .ok (.aaload, 1) := by decide +kernel
theorem dX3_holds_32 : decode cX3_holds 32 = .ok (.iload_n 1, 1) := by decide +kernel
theorem dX3_holds_33 : decode cX3_holds 33 = .ok (.iaload, 1) := by decide +kernel
theorem dX3_holds_34 : decode cX3_holds 34 = .ok (.aload_n 0, 1) := by decide +kernel
theorem dX3_holds_35 : decode cX3_holds 35 = .ok (.getfield 20, 3) := by decide +kernel
theorem dX3_holds_38 : decode cX3_holds 38 = .ok (.iload_n 3, 1) := by decide +kernel
theorem dX3_holds_39 : decode cX3_holds 39 = .ok (.aaload, 1) := by decide +kernel
theorem dX3_holds_40 : decode cX3_holds 40 = .ok (.iload_n 2, 1) := by decide +kernel
theorem dX3_holds_41 : decode cX3_holds 41 = .ok (.iaload, 1) := by decide +kernel
theorem dX3_holds_42 : decode cX3_holds 42 = .ok (.if_icmp .ge 5, 3) := by decide +kernel
theorem dX3_holds_45 : decode cX3_holds 45 = .ok (.iconst 0, 1) := by decide +kernel
theorem dX3_holds_46 : decode cX3_holds 46 = .ok (.ireturn, 1) := by decide +kernel
theorem dX3_holds_47 : decode cX3_holds 47 = .ok (.iinc 3 1, 3) := by decide +kernel
theorem dX3_holds_50 : decode cX3_holds 50 = .ok (.goto (-48), 3) := by decide +kernel
theorem dX3_holds_53 : decode cX3_holds 53 = .ok (.iconst 1, 1) := by decide +kernel
theorem dX3_holds_54 : decode cX3_holds 54 = .ok (.ireturn, 1) := by decide +kernel
theorem dX3_prefixLength_0 : decode cX3_prefixLength 0 = .ok (.iconst 0, 1) := by decide +kernel
theorem dX3_prefixLength_1 : decode cX3_prefixLength 1 = .ok (.istore 4, 2) := by decide +kernel
theorem dX3_prefixLength_3 : decode cX3_prefixLength 3 = .ok (.iload 4, 2) := by decide +kernel
theorem dX3_prefixLength_5 : decode cX3_prefixLength 5 = .ok (.getstatic 60, 3) := by decide +kernel
theorem dX3_prefixLength_8 : decode cX3_prefixLength 8 = .ok (.iload_n 2, 1) := by decide +kernel
theorem dX3_prefixLength_9 : decode cX3_prefixLength 9 = .ok (.iaload, 1) := by decide +kernel
theorem dX3_prefixLength_10 : decode cX3_prefixLength 10 = .ok (.if_icmp .ge 63, 3) := by decide +kernel
theorem dX3_prefixLength_13 : decode cX3_prefixLength 13 = .ok (.iconst 1, 1) := by decide +kernel
theorem dX3_prefixLength_14 : decode cX3_prefixLength 14 = .ok (.getstatic 60, 3) := by decide +kernel
theorem dX3_prefixLength_17 : decode cX3_prefixLength 17 = .ok (.iload_n 2, 1) := by decide +kernel
theorem dX3_prefixLength_18 : decode cX3_prefixLength 18 = .ok (.iaload, 1) := by decide +kernel
theorem dX3_prefixLength_19 : decode cX3_prefixLength 19 = .ok (.iload 4, 2) := by decide +kernel
theorem dX3_prefixLength_21 : decode cX3_prefixLength 21 = .ok (.isub, 1) := by decide +kernel
theorem dX3_prefixLength_22 : decode cX3_prefixLength 22 = .ok (.ishl, 1) := by decide +kernel
theorem dX3_prefixLength_23 : decode cX3_prefixLength 23 = .ok (.iconst 1, 1) := by decide +kernel
theorem dX3_prefixLength_24 : decode cX3_prefixLength 24 = .ok (.isub, 1) := by decide +kernel
theorem dX3_prefixLength_25 : decode cX3_prefixLength 25 = .ok (.istore 5, 2) := by decide +kernel
theorem dX3_prefixLength_27 : decode cX3_prefixLength 27 = .ok (.iload_n 3, 1) := by decide +kernel
theorem dX3_prefixLength_28 : decode cX3_prefixLength 28 = .ok (.iload 5, 2) := by decide +kernel
theorem dX3_prefixLength_30 : decode cX3_prefixLength 30 = .ok (.iconst (-1), 1) := by decide +kernel
theorem dX3_prefixLength_31 : decode cX3_prefixLength 31 = .ok (.ixor, 1) := by decide +kernel
theorem dX3_prefixLength_32 : decode cX3_prefixLength 32 = .ok (.iand, 1) := by decide +kernel
theorem dX3_prefixLength_33 : decode cX3_prefixLength 33 = .ok (.istore 6, 2) := by decide +kernel
theorem dX3_prefixLength_35 : decode cX3_prefixLength 35 = .ok (.aload_n 0, 1) := by decide +kernel
theorem dX3_prefixLength_36 : decode cX3_prefixLength 36 = .ok (.getfield 17, 3) := by decide +kernel
theorem dX3_prefixLength_39 : decode cX3_prefixLength 39 = .ok (.iload_n 2, 1) := by decide +kernel
theorem dX3_prefixLength_40 : decode cX3_prefixLength 40 = .ok (.aaload, 1) := by decide +kernel
theorem dX3_prefixLength_41 : decode cX3_prefixLength 41 = .ok (.iload_n 1, 1) := by decide +kernel
theorem dX3_prefixLength_42 : decode cX3_prefixLength 42 = .ok (.iaload, 1) := by decide +kernel
theorem dX3_prefixLength_43 : decode cX3_prefixLength 43 = .ok (.iload 6, 2) := by decide +kernel
theorem dX3_prefixLength_45 : decode cX3_prefixLength 45 = .ok (.if_icmp .gt 22, 3) := by decide +kernel
theorem dX3_prefixLength_48 : decode cX3_prefixLength 48 = .ok (.iload 6, 2) := by decide +kernel
theorem dX3_prefixLength_50 : decode cX3_prefixLength 50 = .ok (.iload 5, 2) := by decide +kernel
theorem dX3_prefixLength_52 : decode cX3_prefixLength 52 = .ok (.iadd, 1) := by decide +kernel
theorem dX3_prefixLength_53 : decode cX3_prefixLength 53 = .ok (.aload_n 0, 1) := by decide +kernel
theorem dX3_prefixLength_54 : decode cX3_prefixLength 54 = .ok (.getfield 20, 3) := by decide +kernel
theorem dX3_prefixLength_57 : decode cX3_prefixLength 57 = .ok (.iload_n 2, 1) := by decide +kernel
theorem dX3_prefixLength_58 : decode cX3_prefixLength 58 = .ok (.aaload, 1) := by decide +kernel
theorem dX3_prefixLength_59 : decode cX3_prefixLength 59 = .ok (.iload_n 1, 1) := by decide +kernel
theorem dX3_prefixLength_60 : decode cX3_prefixLength 60 = .ok (.iaload, 1) := by decide +kernel
theorem dX3_prefixLength_61 : decode cX3_prefixLength 61 = .ok (.if_icmp .gt 6, 3) := by decide +kernel
theorem dX3_prefixLength_64 : decode cX3_prefixLength 64 = .ok (.iload 4, 2) := by decide +kernel
theorem dX3_prefixLength_66 : decode cX3_prefixLength 66 = .ok (.ireturn, 1) := by decide +kernel
theorem dX3_prefixLength_67 : decode cX3_prefixLength 67 = .ok (.iinc 4 1, 3) := by decide +kernel
theorem dX3_prefixLength_70 : decode cX3_prefixLength 70 = .ok (.goto (-67), 3) := by decide +kernel
theorem dX3_prefixLength_73 : decode cX3_prefixLength 73 = .ok (.getstatic 60, 3) := by decide +kernel
theorem dX3_prefixLength_76 : decode cX3_prefixLength 76 = .ok (.iload_n 2, 1) := by decide +kernel
theorem dX3_prefixLength_77 : decode cX3_prefixLength 77 = .ok (.iaload, 1) := by decide +kernel
theorem dX3_prefixLength_78 : decode cX3_prefixLength 78 = .ok (.ireturn, 1) := by decide +kernel
theorem dX3_prefixValue_0 : decode cX3_prefixValue 0 = .ok (.aload_n 0, 1) := by decide +kernel
theorem dX3_prefixValue_1 : decode cX3_prefixValue 1 = .ok (.getfield 17, 3) := by decide +kernel
theorem dX3_prefixValue_4 : decode cX3_prefixValue 4 = .ok (.iload_n 2, 1) := by decide +kernel
theorem dX3_prefixValue_5 : decode cX3_prefixValue 5 = .ok (.aaload, 1) := by decide +kernel
theorem dX3_prefixValue_6 : decode cX3_prefixValue 6 = .ok (.iload_n 1, 1) := by decide +kernel
theorem dX3_prefixValue_7 : decode cX3_prefixValue 7 = .ok (.iaload, 1) := by decide +kernel
theorem dX3_prefixValue_8 : decode cX3_prefixValue 8 = .ok (.istore 4, 2) := by decide +kernel
theorem dX3_prefixValue_10 : decode cX3_prefixValue 10 = .ok (.iconst 0, 1) := by decide +kernel
theorem dX3_prefixValue_11 : decode cX3_prefixValue 11 = .ok (.istore 5, 2) := by decide +kernel
theorem dX3_prefixValue_13 : decode cX3_prefixValue 13 = .ok (.iload 5, 2) := by decide +kernel
theorem dX3_prefixValue_15 : decode cX3_prefixValue 15 = .ok (.bipush 64, 2) := by decide +kernel
theorem dX3_prefixValue_17 : decode cX3_prefixValue 17 = .ok (.if_icmp .ge 52, 3) := by decide +kernel
theorem dX3_prefixValue_20 : decode cX3_prefixValue 20 = .ok (.iload 4, 2) := by decide +kernel
theorem dX3_prefixValue_22 : decode cX3_prefixValue 22 = .ok (.aload_n 0, 1) := by decide +kernel
theorem dX3_prefixValue_23 : decode cX3_prefixValue 23 = .ok (.getfield 20, 3) := by decide +kernel
theorem dX3_prefixValue_26 : decode cX3_prefixValue 26 = .ok (.iload_n 2, 1) := by decide +kernel
theorem dX3_prefixValue_27 : decode cX3_prefixValue 27 = .ok (.aaload, 1) := by decide +kernel
theorem dX3_prefixValue_28 : decode cX3_prefixValue 28 = .ok (.iload_n 1, 1) := by decide +kernel
theorem dX3_prefixValue_29 : decode cX3_prefixValue 29 = .ok (.iaload, 1) := by decide +kernel
theorem dX3_prefixValue_30 : decode cX3_prefixValue 30 = .ok (.if_icmp .gt 39, 3) := by decide +kernel
theorem dX3_prefixValue_33 : decode cX3_prefixValue 33 = .ok (.iload 5, 2) := by decide +kernel
theorem dX3_prefixValue_35 : decode cX3_prefixValue 35 = .ok (.iload_n 3, 1) := by decide +kernel
theorem dX3_prefixValue_36 : decode cX3_prefixValue 36 = .ok (.if_icmp .ne 6, 3) := by decide +kernel
theorem dX3_prefixValue_39 : decode cX3_prefixValue 39 = .ok (.iload 4, 2) := by decide +kernel
theorem dX3_prefixValue_41 : decode cX3_prefixValue 41 = .ok (.ireturn, 1) := by decide +kernel
theorem dX3_prefixValue_42 : decode cX3_prefixValue 42 = .ok (.iload 4, 2) := by decide +kernel
theorem dX3_prefixValue_44 : decode cX3_prefixValue 44 = .ok (.iconst 1, 1) := by decide +kernel
theorem dX3_prefixValue_45 : decode cX3_prefixValue 45 = .ok (.getstatic 60, 3) := by decide +kernel
theorem dX3_prefixValue_48 : decode cX3_prefixValue 48 = .ok (.iload_n 2, 1) := by decide +kernel
theorem dX3_prefixValue_49 : decode cX3_prefixValue 49 = .ok (.iaload, 1) := by decide +kernel
theorem dX3_prefixValue_50 : decode cX3_prefixValue 50 = .ok (.aload_n 0, 1) := by decide +kernel
theorem dX3_prefixValue_51 : decode cX3_prefixValue 51 = .ok (.iload_n 1, 1) := by decide +kernel
theorem dX3_prefixValue_52 : decode cX3_prefixValue 52 = .ok (.iload_n 2, 1) := by decide +kernel
theorem dX3_prefixValue_53 : decode cX3_prefixValue 53 = .ok (.iload 4, 2) := by decide +kernel
theorem dX3_prefixValue_55 : decode cX3_prefixValue 55 = .ok (.invokevirtual 63, 3) := by decide +kernel
theorem dX3_prefixValue_58 : decode cX3_prefixValue 58 = .ok (.isub, 1) := by decide +kernel
theorem dX3_prefixValue_59 : decode cX3_prefixValue 59 = .ok (.ishl, 1) := by decide +kernel
theorem dX3_prefixValue_60 : decode cX3_prefixValue 60 = .ok (.iadd, 1) := by decide +kernel
theorem dX3_prefixValue_61 : decode cX3_prefixValue 61 = .ok (.istore 4, 2) := by decide +kernel
theorem dX3_prefixValue_63 : decode cX3_prefixValue 63 = .ok (.iinc 5 1, 3) := by decide +kernel
theorem dX3_prefixValue_66 : decode cX3_prefixValue 66 = .ok (.goto (-53), 3) := by decide +kernel
theorem dX3_prefixValue_69 : decode cX3_prefixValue 69 = .ok (.iconst (-1), 1) := by decide +kernel
theorem dX3_prefixValue_70 : decode cX3_prefixValue 70 = .ok (.ireturn, 1) := by decide +kernel
theorem dX3_prefixesOf_0 : decode cX3_prefixesOf 0 = .ok (.iload_n 3, 1) := by decide +kernel
theorem dX3_prefixesOf_1 : decode cX3_prefixesOf 1 = .ok (.ifCond .le 15, 3) := by decide +kernel
theorem dX3_prefixesOf_4 : decode cX3_prefixesOf 4 = .ok (.aload_n 0, 1) := by decide +kernel
theorem dX3_prefixesOf_5 : decode cX3_prefixesOf 5 = .ok (.iload_n 1, 1) := by decide +kernel
theorem dX3_prefixesOf_6 : decode cX3_prefixesOf 6 = .ok (.iload_n 2, 1) := by decide +kernel
theorem dX3_prefixesOf_7 : decode cX3_prefixesOf 7 = .ok (.iload_n 3, 1) := by decide +kernel
theorem dX3_prefixesOf_8 : decode cX3_prefixesOf 8 = .ok (.iconst 1, 1) := by decide +kernel
theorem dX3_prefixesOf_9 : decode cX3_prefixesOf 9 = .ok (.isub, 1) := by decide +kernel
theorem dX3_prefixesOf_10 : decode cX3_prefixesOf 10 = .ok (.invokevirtual 67, 3) := by decide +kernel
theorem dX3_prefixesOf_13 : decode cX3_prefixesOf 13 = .ok (.goto 4, 3) := by decide +kernel
theorem dX3_prefixesOf_16 : decode cX3_prefixesOf 16 = .ok (.iconst 0, 1) := by decide +kernel
theorem dX3_prefixesOf_17 : decode cX3_prefixesOf 17 = .ok (.istore 4, 2) := by decide +kernel
theorem dX3_prefixesOf_19 : decode cX3_prefixesOf 19 = .ok (.aload_n 0, 1) := by decide +kernel
theorem dX3_prefixesOf_20 : decode cX3_prefixesOf 20 = .ok (.iload_n 1, 1) := by decide +kernel
theorem dX3_prefixesOf_21 : decode cX3_prefixesOf 21 = .ok (.iload_n 2, 1) := by decide +kernel
theorem dX3_prefixesOf_22 : decode cX3_prefixesOf 22 = .ok (.iload_n 3, 1) := by decide +kernel
theorem dX3_prefixesOf_23 : decode cX3_prefixesOf 23 = .ok (.invokevirtual 67, 3) := by decide +kernel
theorem dX3_prefixesOf_26 : decode cX3_prefixesOf 26 = .ok (.iconst 2, 1) := by decide +kernel
theorem dX3_prefixesOf_27 : decode cX3_prefixesOf 27 = .ok (.iload 4, 2) := by decide +kernel
theorem dX3_prefixesOf_29 : decode cX3_prefixesOf 29 = .ok (.imul, 1) := by decide +kernel
theorem dX3_prefixesOf_30 : decode cX3_prefixesOf 30 = .ok (.isub, 1) := by decide +kernel
theorem dX3_prefixesOf_31 : decode cX3_prefixesOf 31 = .ok (.ireturn, 1) := by decide +kernel
theorem dX3_prefixesWithin_0 : decode cX3_prefixesWithin 0 = .ok (.getstatic 60, 3) := by decide +kernel
theorem dX3_prefixesWithin_3 : decode cX3_prefixesWithin 3 = .ok (.iload_n 2, 1) := by decide +kernel
theorem dX3_prefixesWithin_4 : decode cX3_prefixesWithin 4 = .ok (.iaload, 1) := by decide +kernel
theorem dX3_prefixesWithin_5 : decode cX3_prefixesWithin 5 = .ok (.iload_n 3, 1) := by decide +kernel
theorem dX3_prefixesWithin_6 : decode cX3_prefixesWithin 6 = .ok (.isub, 1) := by decide +kernel
theorem dX3_prefixesWithin_7 : decode cX3_prefixesWithin 7 = .ok (.istore 4, 2) := by decide +kernel
theorem dX3_prefixesWithin_9 : decode cX3_prefixesWithin 9 = .ok (.aload_n 0, 1) := by decide +kernel
theorem dX3_prefixesWithin_10 : decode cX3_prefixesWithin 10 = .ok (.getfield 17, 3) := by decide +kernel
theorem dX3_prefixesWithin_13 : decode cX3_prefixesWithin 13 = .ok (.iload_n 2, 1) := by decide +kernel
theorem dX3_prefixesWithin_14 : decode cX3_prefixesWithin 14 = .ok (.aaload, 1) := by decide +kernel
theorem dX3_prefixesWithin_15 : decode cX3_prefixesWithin 15 = .ok (.iload_n 1, 1) := by decide +kernel
theorem dX3_prefixesWithin_16 : decode cX3_prefixesWithin 16 = .ok (.iaload, 1) := by decide +kernel
theorem dX3_prefixesWithin_17 : decode cX3_prefixesWithin 17 = .ok (.iconst 1, 1) := by decide +kernel
theorem dX3_prefixesWithin_18 : decode cX3_prefixesWithin 18 = .ok (.iload 4, 2) := by decide +kernel
theorem dX3_prefixesWithin_20 : decode cX3_prefixesWithin 20 = .ok (.ishl, 1) := by decide +kernel
theorem dX3_prefixesWithin_21 : decode cX3_prefixesWithin 21 = .ok (.iadd, 1) := by decide +kernel
theorem dX3_prefixesWithin_22 : decode cX3_prefixesWithin 22 = .ok (.iconst 1, 1) := by decide +kernel
theorem dX3_prefixesWithin_23 : decode cX3_prefixesWithin 23 = .ok (.isub, 1) := by decide +kernel
theorem dX3_prefixesWithin_24 : decode cX3_prefixesWithin 24 = .ok (.iload 4, 2) := by decide +kernel
theorem dX3_prefixesWithin_26 : decode cX3_prefixesWithin 26 = .ok (.ishr, 1) := by decide +kernel
theorem dX3_prefixesWithin_27 : decode cX3_prefixesWithin 27 = .ok (.istore 5, 2) := by decide +kernel
theorem dX3_prefixesWithin_29 : decode cX3_prefixesWithin 29 = .ok (.aload_n 0, 1) := by decide +kernel
theorem dX3_prefixesWithin_30 : decode cX3_prefixesWithin 30 = .ok (.getfield 20, 3) := by decide +kernel
theorem dX3_prefixesWithin_33 : decode cX3_prefixesWithin 33 = .ok (.iload_n 2, 1) := by decide +kernel
theorem dX3_prefixesWithin_34 : decode cX3_prefixesWithin 34 = .ok (.aaload, 1) := by decide +kernel
theorem dX3_prefixesWithin_35 : decode cX3_prefixesWithin 35 = .ok (.iload_n 1, 1) := by decide +kernel
theorem dX3_prefixesWithin_36 : decode cX3_prefixesWithin 36 = .ok (.iaload, 1) := by decide +kernel
theorem dX3_prefixesWithin_37 : decode cX3_prefixesWithin 37 = .ok (.iconst 1, 1) := by decide +kernel
theorem dX3_prefixesWithin_38 : decode cX3_prefixesWithin 38 = .ok (.iadd, 1) := by decide +kernel
theorem dX3_prefixesWithin_39 : decode cX3_prefixesWithin 39 = .ok (.iload 4, 2) := by decide +kernel
theorem dX3_prefixesWithin_41 : decode cX3_prefixesWithin 41 = .ok (.ishr, 1) := by decide +kernel
theorem dX3_prefixesWithin_42 : decode cX3_prefixesWithin 42 = .ok (.istore 6, 2) := by decide +kernel
theorem dX3_prefixesWithin_44 : decode cX3_prefixesWithin 44 = .ok (.iconst 0, 1) := by decide +kernel
theorem dX3_prefixesWithin_45 : decode cX3_prefixesWithin 45 = .ok (.iload 6, 2) := by decide +kernel
theorem dX3_prefixesWithin_47 : decode cX3_prefixesWithin 47 = .ok (.iload 5, 2) := by decide +kernel
theorem dX3_prefixesWithin_49 : decode cX3_prefixesWithin 49 = .ok (.isub, 1) := by decide +kernel
theorem dX3_prefixesWithin_50 : decode cX3_prefixesWithin 50 = .ok (.invokestatic 48, 3) := by decide +kernel
theorem dX3_prefixesWithin_53 : decode cX3_prefixesWithin 53 = .ok (.ireturn, 1) := by decide +kernel
theorem dX4_init_0 : decode cX4_init 0 = .ok (.aload_n 0, 1) := by decide +kernel
theorem dX4_init_1 : decode cX4_init 1 = .ok (.invokespecial 3, 3) := by decide +kernel
theorem dX4_init_4 : decode cX4_init 4 = .ok (.aload_n 0, 1) := by decide +kernel
theorem dX4_init_5 : decode cX4_init 5 = .ok (.iconst 1, 1) := by decide +kernel
theorem dX4_init_6 : decode cX4_init 6 = .ok (.putfield 9, 3) := by decide +kernel
theorem dX4_init_9 : decode cX4_init 9 = .ok (.aload_n 0, 1) := by decide +kernel
theorem dX4_init_10 : decode cX4_init 10 = .ok (.iconst 0, 1) := by decide +kernel
theorem dX4_init_11 : decode cX4_init 11 = .ok (.putfield 15, 3) := by decide +kernel
theorem dX4_init_14 : decode cX4_init 14 = .ok (.aload_n 0, 1) := by decide +kernel
theorem dX4_init_15 : decode cX4_init 15 = .ok (.bipush 16, 2) := by decide +kernel
theorem dX4_init_17 : decode cX4_init 17 = .ok (.newarray .int, 2) := by decide +kernel
theorem dX4_init_19 : decode cX4_init 19 = .ok (.putfield 19, 3) := by decide +kernel
theorem dX4_init_22 : decode cX4_init 22 = .ok (.aload_n 0, 1) := by decide +kernel
theorem dX4_init_23 : decode cX4_init 23 = .ok (.bipush 16, 2) := by decide +kernel
theorem dX4_init_25 : decode cX4_init 25 = .ok (.newarray .boolean, 2) := by decide +kernel
theorem dX4_init_27 : decode cX4_init 27 = .ok (.putfield 23, 3) := by decide +kernel
theorem dX4_init_30 : decode cX4_init 30 = .ok (.aload_n 0, 1) := by decide +kernel
theorem dX4_init_31 : decode cX4_init 31 = .ok (.iconst 4, 1) := by decide +kernel
theorem dX4_init_32 : decode cX4_init 32 = .ok (.newarray .int, 2) := by decide +kernel
theorem dX4_init_34 : decode cX4_init 34 = .ok (.putfield 27, 3) := by decide +kernel
theorem dX4_init_37 : decode cX4_init 37 = .ok (.aload_n 0, 1) := by decide +kernel
theorem dX4_init_38 : decode cX4_init 38 = .ok (.iconst 4, 1) := by decide +kernel
theorem dX4_init_39 : decode cX4_init 39 = .ok (.bipush 64, 2) := by decide +kernel
theorem dX4_init_41 : decode cX4_init 41 = .ok (.multianewarray 30 2, 4) := by decide +kernel
theorem dX4_init_45 : decode cX4_init 45 = .ok (.putfield 32, 3) := by decide +kernel
theorem dX4_init_48 : decode cX4_init 48 = .ok (.aload_n 0, 1) := by decide +kernel
theorem dX4_init_49 : decode cX4_init 49 = .ok (.iconst 4, 1) := by decide +kernel
theorem dX4_init_50 : decode cX4_init 50 = .ok (.bipush 64, 2) := by decide +kernel
theorem dX4_init_52 : decode cX4_init 52 = .ok (.multianewarray 30 2, 4) := by decide +kernel
theorem dX4_init_56 : decode cX4_init 56 = .ok (.putfield 35, 3) := by decide +kernel
theorem dX4_init_59 : decode cX4_init 59 = .ok (.aload_n 0, 1) := by decide +kernel
theorem dX4_init_60 : decode cX4_init 60 = .ok (.aload_n 1, 1) := by decide +kernel
theorem dX4_init_61 : decode cX4_init 61 = .ok (.putfield 38, 3) := by decide +kernel
theorem dX4_init_64 : decode cX4_init 64 = .ok (.aload_n 0, 1) := by decide +kernel
theorem dX4_init_65 : decode cX4_init 65 = .ok (.aload_n 2, 1) := by decide +kernel
theorem dX4_init_66 : decode cX4_init 66 = .ok (.putfield 42, 3) := by decide +kernel
theorem dX4_init_69 : decode cX4_init 69 = .ok (.return_, 1) := by decide +kernel
theorem dX4_refresh_0 : decode cX4_refresh 0 = .ok (.aload_n 0, 1) := by decide +kernel
theorem dX4_refresh_1 : decode cX4_refresh 1 = .ok (.getfield 9, 3) := by decide +kernel
theorem dX4_refresh_4 : decode cX4_refresh 4 = .ok (.ifCond .ne 4, 3) := by decide +kernel
theorem dX4_refresh_7 : decode cX4_refresh 7 = .ok (.return_, 1) := by decide +kernel
theorem dX4_refresh_8 : decode cX4_refresh 8 = .ok (.aload_n 0, 1) := by decide +kernel
theorem dX4_refresh_9 : decode cX4_refresh 9 = .ok (.iconst 0, 1) := by decide +kernel
theorem dX4_refresh_10 : decode cX4_refresh 10 = .ok (.putfield 15, 3) := by decide +kernel
theorem dX4_refresh_13 : decode cX4_refresh 13 = .ok (.iconst 0, 1) := by decide +kernel
theorem dX4_refresh_14 : decode cX4_refresh 14 = .ok (.istore_n 1, 1) := by decide +kernel
theorem dX4_refresh_15 : decode cX4_refresh 15 = .ok (.iload_n 1, 1) := by decide +kernel
theorem dX4_refresh_16 : decode cX4_refresh 16 = .ok (.bipush 16, 2) := by decide +kernel
theorem dX4_refresh_18 : decode cX4_refresh 18 = .ok (.if_icmp .ge 23, 3) := by decide +kernel
theorem dX4_refresh_21 : decode cX4_refresh 21 = .ok (.aload_n 0, 1) := by decide +kernel
theorem dX4_refresh_22 : decode cX4_refresh 22 = .ok (.getfield 19, 3) := by decide +kernel
theorem dX4_refresh_25 : decode cX4_refresh 25 = .ok (.iload_n 1, 1) := by decide +kernel
theorem dX4_refresh_26 : decode cX4_refresh 26 = .ok (.iconst 0, 1) := by decide +kernel
theorem dX4_refresh_27 : decode cX4_refresh 27 = .ok (.iastore, 1) := by decide +kernel
theorem dX4_refresh_28 : decode cX4_refresh 28 = .ok (.aload_n 0, 1) := by decide +kernel
theorem dX4_refresh_29 : decode cX4_refresh 29 = .ok (.getfield 23, 3) := by decide +kernel
theorem dX4_refresh_32 : decode cX4_refresh 32 = .ok (.iload_n 1, 1) := by decide +kernel
theorem dX4_refresh_33 : decode cX4_refresh 33 = .ok (.iconst 0, 1) := by decide +kernel
theorem dX4_refresh_34 : decode cX4_refresh 34 = .ok (.bastore, 1) := by decide +kernel
theorem dX4_refresh_35 : decode cX4_refresh 35 = .ok (.iinc 1 1, 3) := by decide +kernel
theorem dX4_refresh_38 : decode cX4_refresh 38 = .ok (.goto (-23), 3) := by decide +kernel
theorem dX4_refresh_41 : decode cX4_refresh 41 = .ok (.iconst 0, 1) := by decide +kernel
theorem dX4_refresh_42 : decode cX4_refresh 42 = .ok (.istore_n 1, 1) := by decide +kernel
theorem dX4_refresh_43 : decode cX4_refresh 43 = .ok (.iload_n 1, 1) := by decide +kernel
theorem dX4_refresh_44 : decode cX4_refresh 44 = .ok (.iconst 4, 1) := by decide +kernel
theorem dX4_refresh_45 : decode cX4_refresh 45 = .ok (.if_icmp .ge 14, 3) := by decide +kernel
theorem dX4_refresh_48 : decode cX4_refresh 48 = .ok (.aload_n 0, 1) := by decide +kernel
theorem dX4_refresh_49 : decode cX4_refresh 49 = .ok (.iload_n 1, 1) := by decide +kernel
theorem dX4_refresh_50 : decode cX4_refresh 50 = .ok (.invokevirtual 46, 3) := by decide +kernel
theorem dX4_refresh_53 : decode cX4_refresh 53 = .ok (.iinc 1 1, 3) := by decide +kernel
theorem dX4_refresh_56 : decode cX4_refresh 56 = .ok (.goto (-13), 3) := by decide +kernel
theorem dX4_refresh_59 : decode cX4_refresh 59 = .ok (.aload_n 0, 1) := by decide +kernel
theorem dX4_refresh_60 : decode cX4_refresh 60 = .ok (.iconst 0, 1) := by decide +kernel
theorem dX4_refresh_61 : decode cX4_refresh 61 = .ok (.aload_n 0, 1) := by decide +kernel
theorem dX4_refresh_62 : decode cX4_refresh 62 = .ok (.getfield 42, 3) := by decide +kernel
theorem dX4_refresh_65 : decode cX4_refresh 65 = .ok (.invokevirtual 50, 3) := by decide +kernel
theorem dX4_refresh_68 : decode cX4_refresh 68 = .ok (.iconst 1, 1) := by decide +kernel
theorem dX4_refresh_69 : decode cX4_refresh 69 = .ok (.invokevirtual 56, 3) := by decide +kernel
theorem dX4_refresh_72 : decode cX4_refresh 72 = .ok (.aload_n 0, 1) := by decide +kernel
theorem dX4_refresh_73 : decode cX4_refresh 73 = .ok (.iconst 0, 1) := by decide +kernel
theorem dX4_refresh_74 : decode cX4_refresh 74 = .ok (.putfield 9, 3) := by decide +kernel
theorem dX4_refresh_77 : decode cX4_refresh 77 = .ok (.return_, 1) := by decide +kernel
theorem dX4_gatherRuns_0 : decode cX4_gatherRuns 0 = .ok (.iconst (-1), 1) := by decide +kernel
theorem dX4_gatherRuns_1 : decode cX4_gatherRuns 1 = .ok (.istore_n 2, 1) := by decide +kernel
theorem dX4_gatherRuns_2 : decode cX4_gatherRuns 2 = .ok (.iconst 0, 1) := by decide +kernel
theorem dX4_gatherRuns_3 : decode cX4_gatherRuns 3 = .ok (.istore_n 3, 1) := by decide +kernel
theorem dX4_gatherRuns_4 : decode cX4_gatherRuns 4 = .ok (.iload_n 3, 1) := by decide +kernel
theorem dX4_gatherRuns_5 : decode cX4_gatherRuns 5 = .ok (.getstatic 60, 3) := by decide +kernel
theorem dX4_gatherRuns_8 : decode cX4_gatherRuns 8 = .ok (.iload_n 1, 1) := by decide +kernel
theorem dX4_gatherRuns_9 : decode cX4_gatherRuns 9 = .ok (.iaload, 1) := by decide +kernel
theorem dX4_gatherRuns_10 : decode cX4_gatherRuns 10 = .ok (.if_icmp .gt 71, 3) := by decide +kernel
theorem dX4_gatherRuns_13 : decode cX4_gatherRuns 13 = .ok (.aload_n 0, 1) := by decide +kernel
theorem dX4_gatherRuns_14 : decode cX4_gatherRuns 14 = .ok (.getfield 42, 3) := by decide +kernel
theorem dX4_gatherRuns_17 : decode cX4_gatherRuns 17 = .ok (.iload_n 1, 1) := by decide +kernel
theorem dX4_gatherRuns_18 : decode cX4_gatherRuns 18 = .ok (.iload_n 3, 1) := by decide +kernel
theorem dX4_gatherRuns_19 : decode cX4_gatherRuns 19 = .ok (.invokevirtual 63, 3) := by decide +kernel
theorem dX4_gatherRuns_22 : decode cX4_gatherRuns 22 = .ok (.istore 4, 2) := by decide +kernel
theorem dX4_gatherRuns_24 : decode cX4_gatherRuns 24 = .ok (.iload_n 2, 1) := by decide +kernel
theorem dX4_gatherRuns_25 : decode cX4_gatherRuns 25 = .ok (.ifCond .lt 16, 3) := by decide +kernel
theorem dX4_gatherRuns_28 : decode cX4_gatherRuns 28 = .ok (.iload 4, 2) := by decide +kernel
theorem dX4_gatherRuns_30 : decode cX4_gatherRuns 30 = .ok (.aload_n 0, 1) := by decide +kernel
theorem dX4_gatherRuns_31 : decode cX4_gatherRuns 31 = .ok (.getfield 32, 3) := by decide +kernel
theorem dX4_gatherRuns_34 : decode cX4_gatherRuns 34 = .ok (.iload_n 1, 1) := by decide +kernel
theorem dX4_gatherRuns_35 : decode cX4_gatherRuns 35 = .ok (.aaload, 1) := by decide +kernel
theorem dX4_gatherRuns_36 : decode cX4_gatherRuns 36 = .ok (.iload_n 2, 1) := by decide +kernel
theorem dX4_gatherRuns_37 : decode cX4_gatherRuns 37 = .ok (.iaload, 1) := by decide +kernel
theorem dX4_gatherRuns_38 : decode cX4_gatherRuns 38 = .ok (.if_icmp .eq 25, 3) := by decide +kernel
theorem dX4_gatherRuns_41 : decode cX4_gatherRuns 41 = .ok (.iinc 2 1, 3) := by decide +kernel
theorem dX4_gatherRuns_44 : decode cX4_gatherRuns 44 = .ok (.aload_n 0, 1) := by decide +kernel
theorem dX4_gatherRuns_45 : decode cX4_gatherRuns 45 = .ok (.getfield 32, 3) := by decide +kernel
theorem dX4_gatherRuns_48 : decode cX4_gatherRuns 48 = .ok (.iload_n 1, 1) := by decide +kernel
theorem dX4_gatherRuns_49 : decode cX4_gatherRuns 49 = .ok (.aaload, 1) := by decide +kernel
theorem dX4_gatherRuns_50 : decode cX4_gatherRuns 50 = .ok (.iload_n 2, 1) := by decide +kernel
theorem dX4_gatherRuns_51 : decode cX4_gatherRuns 51 = .ok (.iload 4, 2) := by decide +kernel
theorem dX4_gatherRuns_53 : decode cX4_gatherRuns 53 = .ok (.iastore, 1) := by decide +kernel
theorem dX4_gatherRuns_54 : decode cX4_gatherRuns 54 = .ok (.aload_n 0, 1) := by decide +kernel
theorem dX4_gatherRuns_55 : decode cX4_gatherRuns 55 = .ok (.getfield 35, 3) := by decide +kernel
theorem dX4_gatherRuns_58 : decode cX4_gatherRuns 58 = .ok (.iload_n 1, 1) := by decide +kernel
theorem dX4_gatherRuns_59 : decode cX4_gatherRuns 59 = .ok (.aaload, 1) := by decide +kernel
theorem dX4_gatherRuns_60 : decode cX4_gatherRuns 60 = .ok (.iload_n 2, 1) := by decide +kernel
theorem dX4_gatherRuns_61 : decode cX4_gatherRuns 61 = .ok (.iconst 0, 1) := by decide +kernel
theorem dX4_gatherRuns_62 : decode cX4_gatherRuns 62 = .ok (.iastore, 1) := by decide +kernel
theorem dX4_gatherRuns_63 : decode cX4_gatherRuns 63 = .ok (.aload_n 0, 1) := by decide +kernel
theorem dX4_gatherRuns_64 : decode cX4_gatherRuns 64 = .ok (.getfield 35, 3) := by decide +kernel
theorem dX4_gatherRuns_67 : decode cX4_gatherRuns 67 = .ok (.iload_n 1, 1) := by decide +kernel
theorem dX4_gatherRuns_68 : decode cX4_gatherRuns 68 = .ok (.aaload, 1) := by decide +kernel
theorem dX4_gatherRuns_69 : decode cX4_gatherRuns 69 = .ok (.iload_n 2, 1) := by decide +kernel
theorem dX4_gatherRuns_70 : decode cX4_gatherRuns 70 = .ok (.dup2, 1) := by decide +kernel
theorem dX4_gatherRuns_71 : decode cX4_gatherRuns 71 = .ok (.iaload, 1) := by decide +kernel
theorem dX4_gatherRuns_72 : decode cX4_gatherRuns 72 = .ok (.iconst 1, 1) := by decide +kernel
theorem dX4_gatherRuns_73 : decode cX4_gatherRuns 73 = .ok (.iadd, 1) := by decide +kernel
theorem dX4_gatherRuns_74 : decode cX4_gatherRuns 74 = .ok (.iastore, 1) := by decide +kernel
theorem dX4_gatherRuns_75 : decode cX4_gatherRuns 75 = .ok (.iinc 3 1, 3) := by decide +kernel
theorem dX4_gatherRuns_78 : decode cX4_gatherRuns 78 = .ok (.goto (-74), 3) := by decide +kernel
theorem dX4_gatherRuns_81 : decode cX4_gatherRuns 81 = .ok (.aload_n 0, 1) := by decide +kernel
theorem dX4_gatherRuns_82 : decode cX4_gatherRuns 82 = .ok (.getfield 27, 3) := by decide +kernel
theorem dX4_gatherRuns_85 : decode cX4_gatherRuns 85 = .ok (.iload_n 1, 1) := by decide +kernel
theorem dX4_gatherRuns_86 : decode cX4_gatherRuns 86 = .ok (.iload_n 2, 1) := by decide +kernel
theorem dX4_gatherRuns_87 : decode cX4_gatherRuns 87 = .ok (.iconst 1, 1) := by decide +kernel
theorem dX4_gatherRuns_88 : decode cX4_gatherRuns 88 = .ok (.iadd, 1) := by decide +kernel
theorem dX4_gatherRuns_89 : decode cX4_gatherRuns 89 = .ok (.iastore, 1) := by decide +kernel
theorem dX4_gatherRuns_90 : decode cX4_gatherRuns 90 = .ok (.return_, 1) := by decide +kernel
theorem dX4_sweep_0 : decode cX4_sweep 0 = .ok (.iload_n 2, 1) := by decide +kernel
theorem dX4_sweep_1 : decode cX4_sweep 1 = .ok (.ifCond .eq 8, 3) := by decide +kernel
theorem dX4_sweep_4 : decode cX4_sweep 4 = .ok (.iload_n 1, 1) := by decide +kernel
theorem dX4_sweep_5 : decode cX4_sweep 5 = .ok (.iconst 4, 1) := by decide +kernel
theorem dX4_sweep_6 : decode cX4_sweep 6 = .ok (.if_icmp .lt 16, 3) := by decide +kernel
theorem dX4_sweep_9 : decode cX4_sweep 9 = .ok (.aload_n 0, 1) := by decide +kernel
theorem dX4_sweep_10 : decode cX4_sweep 10 = .ok (.iload_n 2, 1) := by decide +kernel
theorem dX4_sweep_11 : decode cX4_sweep 11 = .ok (.iload_n 3, 1) := by decide +kernel
theorem dX4_sweep_12 : decode cX4_sweep 12 = .ok (.getstatic 67, 3) := by decide +kernel
theorem dX4_sweep_15 : decode cX4_sweep 15 = .ok (.iload_n 1, 1) := by decide +kernel
theorem dX4_sweep_16 : decode cX4_sweep 16 = .ok (.iaload, 1) := by decide +kernel
theorem dX4_sweep_17 : decode cX4_sweep 17 = .ok (.imul, 1) := by decide +kernel
theorem dX4_sweep_18 : decode cX4_sweep 18 = .ok (.invokevirtual 70, 3) := by decide +kernel
theorem dX4_sweep_21 : decode cX4_sweep 21 = .ok (.return_, 1) := by decide +kernel
theorem dX4_sweep_22 : decode cX4_sweep 22 = .ok (.iload_n 2, 1) := by decide +kernel
theorem dX4_sweep_23 : decode cX4_sweep 23 = .ok (.aload_n 0, 1) := by decide +kernel
theorem dX4_sweep_24 : decode cX4_sweep 24 = .ok (.getfield 32, 3) := by decide +kernel
theorem dX4_sweep_27 : decode cX4_sweep 27 = .ok (.iload_n 1, 1) := by decide +kernel
theorem dX4_sweep_28 : decode cX4_sweep 28 = .ok (.aaload, 1) := by decide +kernel
theorem dX4_sweep_29 : decode cX4_sweep 29 = .ok (.iconst 0, 1) := by decide +kernel
theorem dX4_sweep_30 : decode cX4_sweep 30 = .ok (.iaload, 1) := by decide +kernel
theorem dX4_sweep_31 : decode cX4_sweep 31 = .ok (.iand, 1) := by decide +kernel
theorem dX4_sweep_32 : decode cX4_sweep 32 = .ok (.istore 4, 2) := by decide +kernel
theorem dX4_sweep_34 : decode cX4_sweep 34 = .ok (.aload_n 0, 1) := by decide +kernel
theorem dX4_sweep_35 : decode cX4_sweep 35 = .ok (.getfield 35, 3) := by decide +kernel
theorem dX4_sweep_38 : decode cX4_sweep 38 = .ok (.iload_n 1, 1) := by decide +kernel
theorem dX4_sweep_39 : decode cX4_sweep 39 = .ok (.aaload, 1) := by decide +kernel
theorem dX4_sweep_40 : decode cX4_sweep 40 = .ok (.iconst 0, 1) := by decide +kernel
theorem dX4_sweep_41 : decode cX4_sweep 41 = .ok (.iaload, 1) := by decide +kernel
theorem dX4_sweep_42 : decode cX4_sweep 42 = .ok (.istore 5, 2) := by decide +kernel
theorem dX4_sweep_44 : decode cX4_sweep 44 = .ok (.iconst 1, 1) := by decide +kernel
theorem dX4_sweep_45 : decode cX4_sweep 45 = .ok (.istore 6, 2) := by decide +kernel
theorem dX4_sweep_47 : decode cX4_sweep 47 = .ok (.iload 6, 2) := by decide +kernel
theorem dX4_sweep_49 : decode cX4_sweep 49 = .ok (.aload_n 0, 1) := by decide +kernel
theorem dX4_sweep_50 : decode cX4_sweep 50 = .ok (.getfield 27, 3) := by decide +kernel
theorem dX4_sweep_53 : decode cX4_sweep 53 = .ok (.iload_n 1, 1) := by decide +kernel
theorem dX4_sweep_54 : decode cX4_sweep 54 = .ok (.iaload, 1) := by decide +kernel
theorem dX4_sweep_55 : decode cX4_sweep 55 = .ok (.if_icmp .ge 63, 3) := by decide +kernel
theorem dX4_sweep_58 : decode cX4_sweep 58 = .ok (.iload_n 2, 1) := by decide +kernel
theorem dX4_sweep_59 : decode cX4_sweep 59 = .ok (.aload_n 0, 1) := by decide +kernel
theorem dX4_sweep_60 : decode cX4_sweep 60 = .ok (.getfield 32, 3) := by decide +kernel
theorem dX4_sweep_63 : decode cX4_sweep 63 = .ok (.iload_n 1, 1) := by decide +kernel
theorem dX4_sweep_64 : decode cX4_sweep 64 = .ok (.aaload, 1) := by decide +kernel
theorem dX4_sweep_65 : decode cX4_sweep 65 = .ok (.iload 6, 2) := by decide +kernel
theorem dX4_sweep_67 : decode cX4_sweep 67 = .ok (.iaload, 1) := by decide +kernel
theorem dX4_sweep_68 : decode cX4_sweep 68 = .ok (.iand, 1) := by decide +kernel
theorem dX4_sweep_69 : decode cX4_sweep 69 = .ok (.istore 7, 2) := by decide +kernel
theorem dX4_sweep_71 : decode cX4_sweep 71 = .ok (.iload 7, 2) := by decide +kernel
theorem dX4_sweep_73 : decode cX4_sweep 73 = .ok (.iload 4, 2) := by decide +kernel
theorem dX4_sweep_75 : decode cX4_sweep 75 = .ok (.if_icmp .eq 23, 3) := by decide +kernel
theorem dX4_sweep_78 : decode cX4_sweep 78 = .ok (.aload_n 0, 1) := by decide +kernel
theorem dX4_sweep_79 : decode cX4_sweep 79 = .ok (.iload_n 1, 1) := by decide +kernel
theorem dX4_sweep_80 : decode cX4_sweep 80 = .ok (.iconst 1, 1) := by decide +kernel
theorem dX4_sweep_81 : decode cX4_sweep 81 = .ok (.iadd, 1) := by decide +kernel
theorem dX4_sweep_82 : decode cX4_sweep 82 = .ok (.iload 4, 2) := by decide +kernel
theorem dX4_sweep_84 : decode cX4_sweep 84 = .ok (.iload_n 3, 1) := by decide +kernel
theorem dX4_sweep_85 : decode cX4_sweep 85 = .ok (.iload 5, 2) := by decide +kernel
theorem dX4_sweep_87 : decode cX4_sweep 87 = .ok (.imul, 1) := by decide +kernel
theorem dX4_sweep_88 : decode cX4_sweep 88 = .ok (.invokevirtual 56, 3) := by decide +kernel
theorem dX4_sweep_91 : decode cX4_sweep 91 = .ok (.iload 7, 2) := by decide +kernel
theorem dX4_sweep_93 : decode cX4_sweep 93 = .ok (.istore 4, 2) := by decide +kernel
theorem dX4_sweep_95 : decode cX4_sweep 95 = .ok (.iconst 0, 1) := by decide +kernel
theorem dX4_sweep_96 : decode cX4_sweep 96 = .ok (.istore 5, 2) := by decide +kernel
theorem dX4_sweep_98 : decode cX4_sweep 98 = .ok (.iload 5, 2) := by decide +kernel
theorem dX4_sweep_100 : decode cX4_sweep 100 = .ok (.aload_n 0, 1) := by decide +kernel
theorem dX4_sweep_101 : decode cX4_sweep 101 = .ok (.getfield 35, 3) := by decide +kernel
theorem dX4_sweep_104 : decode cX4_sweep 104 = .ok (.iload_n 1, 1) := by decide +kernel
theorem dX4_sweep_105 : decode cX4_sweep 105 = .ok (.aaload, 1) := by decide +kernel
theorem dX4_sweep_106 : decode cX4_sweep 106 = .ok (.iload 6, 2) := by decide +kernel
theorem dX4_sweep_108 : decode cX4_sweep 108 = .ok (.iaload, 1) := by decide +kernel
theorem dX4_sweep_109 : decode cX4_sweep 109 = .ok (.iadd, 1) := by decide +kernel
theorem dX4_sweep_110 : decode cX4_sweep 110 = .ok (.istore 5, 2) := by decide +kernel
theorem dX4_sweep_112 : decode cX4_sweep 112 = .ok (.iinc 6 1, 3) := by decide +kernel
theorem dX4_sweep_115 : decode cX4_sweep 115 = .ok (.goto (-68), 3) := by decide +kernel
theorem dX4_sweep_118 : decode cX4_sweep 118 = .ok (.aload_n 0, 1) := by decide +kernel
theorem dX4_sweep_119 : decode cX4_sweep 119 = .ok (.iload_n 1, 1) := by decide +kernel
theorem dX4_sweep_120 : decode cX4_sweep 120 = .ok (.iconst 1, 1) := by decide +kernel
theorem dX4_sweep_121 : decode cX4_sweep 121 = .ok (.iadd, 1) := by decide +kernel
theorem dX4_sweep_122 : decode cX4_sweep 122 = .ok (.iload 4, 2) := by decide +kernel
theorem dX4_sweep_124 : decode cX4_sweep 124 = .ok (.iload_n 3, 1) := by decide +kernel
theorem dX4_sweep_125 : decode cX4_sweep 125 = .ok (.iload 5, 2) := by decide +kernel
theorem dX4_sweep_127 : decode cX4_sweep 127 = .ok (.imul, 1) := by decide +kernel
theorem dX4_sweep_128 : decode cX4_sweep 128 = .ok (.invokevirtual 56, 3) := by decide +kernel
theorem dX4_sweep_131 : decode cX4_sweep 131 = .ok (.return_, 1) := by decide +kernel
theorem dX4_tally_0 : decode cX4_tally 0 = .ok (.iload_n 1, 1) := by decide +kernel
theorem dX4_tally_1 : decode cX4_tally 1 = .ok (.invokestatic 74, 3) := by decide +kernel
theorem dX4_tally_4 : decode cX4_tally 4 = .ok (.istore_n 3, 1) := by decide +kernel
theorem dX4_tally_5 : decode cX4_tally 5 = .ok (.iload_n 3, 1) := by decide +kernel
theorem dX4_tally_6 : decode cX4_tally 6 = .ok (.ifCond .ge 14, 3) := by decide +kernel
theorem dX4_tally_9 : decode cX4_tally 9 = .ok (.aload_n 0, 1) := by decide +kernel
theorem dX4_tally_10 : decode cX4_tally 10 = .ok (.dup, 1) := by decide +kernel
theorem dX4_tally_11 : decode cX4_tally 11 = .ok (.getfield 15, 3) := by decide +kernel
theorem dX4_tally_14 : decode cX4_tally 14 = .ok (.iload_n 2, 1) := by decide +kernel
theorem dX4_tally_15 : decode cX4_tally 15 = .ok (.iadd, 1) := by decide +kernel
theorem dX4_tally_16 : decode cX4_tally 16 = .ok (.putfield 15, 3) := by decide +kernel
theorem dX4_tally_19 : decode cX4_tally 19 = .ok (.return_, 1) := by decide +kernel
theorem dX4_tally_20 : decode cX4_tally 20 = .ok (.aload_n 0, 1) := by decide +kernel
theorem dX4_tally_21 : decode cX4_tally 21 = .ok (.getfield 19, 3) := by decide +kernel
theorem dX4_tally_24 : decode cX4_tally 24 = .ok (.iload_n 3, 1) := by decide +kernel
theorem dX4_tally_25 : decode cX4_tally 25 = .ok (.dup2, 1) := by decide +kernel
theorem dX4_tally_26 : decode cX4_tally 26 = .ok (.iaload, 1) := by decide +kernel
theorem dX4_tally_27 : decode cX4_tally 27 = .ok (.iload_n 2, 1) := by decide +kernel
theorem dX4_tally_28 : decode cX4_tally 28 = .ok (.iadd, 1) := by decide +kernel
theorem dX4_tally_29 : decode cX4_tally 29 = .ok (.iastore, 1) := by decide +kernel
theorem dX4_tally_30 : decode cX4_tally 30 = .ok (.iload_n 1, 1) := by decide +kernel
theorem dX4_tally_31 : decode cX4_tally 31 = .ok (.iload_n 1, 1) := by decide +kernel
theorem dX4_tally_32 : decode cX4_tally 32 = .ok (.iconst 1, 1) := by decide +kernel
theorem dX4_tally_33 : decode cX4_tally 33 = .ok (.isub, 1) := by decide +kernel
theorem dX4_tally_34 : decode cX4_tally 34 = .ok (.iand, 1) := by decide +kernel
theorem dX4_tally_35 : decode cX4_tally 35 = .ok (.invokestatic 74, 3) := by decide +kernel
theorem dX4_tally_38 : decode cX4_tally 38 = .ok (.istore 4, 2) := by decide +kernel
theorem dX4_tally_40 : decode cX4_tally 40 = .ok (.iload 4, 2) := by decide +kernel
theorem dX4_tally_42 : decode cX4_tally 42 = .ok (.ifCond .lt 17, 3) := by decide +kernel
theorem dX4_tally_45 : decode cX4_tally 45 = .ok (.aload_n 0, 1) := by decide +kernel
theorem dX4_tally_46 : decode cX4_tally 46 = .ok (.iload 4, 2) := by decide +kernel
theorem dX4_tally_48 : decode cX4_tally 48 = .ok (.invokevirtual 78, 3) := by decide +kernel
theorem dX4_tally_51 : decode cX4_tally 51 = .ok (.aload_n 0, 1) := by decide +kernel
theorem dX4_tally_52 : decode cX4_tally 52 = .ok (.iload_n 3, 1) := by decide +kernel
theorem dX4_tally_53 : decode cX4_tally 53 = .ok (.invokevirtual 78, 3) := by decide +kernel
theorem dX4_tally_56 : decode cX4_tally 56 = .ok (.if_icmp .eq 10, 3) := by decide +kernel
theorem dX4_tally_59 : decode cX4_tally 59 = .ok (.aload_n 0, 1) := by decide +kernel
theorem dX4_tally_60 : decode cX4_tally 60 = .ok (.getfield 23, 3) := by decide +kernel
theorem dX4_tally_63 : decode cX4_tally 63 = .ok (.iload_n 3, 1) := by decide +kernel
theorem dX4_tally_64 : decode cX4_tally 64 = .ok (.iconst 1, 1) := by decide +kernel
theorem dX4_tally_65 : decode cX4_tally 65 = .ok (.bastore, 1) := by decide +kernel
theorem dX4_tally_66 : decode cX4_tally 66 = .ok (.return_, 1) := by decide +kernel
theorem dX4_actionAt_0 : decode cX4_actionAt 0 = .ok (.aload_n 0, 1) := by decide +kernel
theorem dX4_actionAt_1 : decode cX4_actionAt 1 = .ok (.getfield 38, 3) := by decide +kernel
theorem dX4_actionAt_4 : decode cX4_actionAt 4 = .ok (.getfield 81, 3) := by decide +kernel
theorem dX4_actionAt_7 : decode cX4_actionAt 7 = .ok (.aload_n 0, 1) := by decide +kernel
theorem dX4_actionAt_8 : decode cX4_actionAt 8 = .ok (.getfield 38, 3) := by decide +kernel
theorem dX4_actionAt_11 : decode cX4_actionAt 11 = .ok (.getfield 86, 3) := by decide +kernel
theorem dX4_actionAt_14 : decode cX4_actionAt 14 = .ok (.iload_n 1, 1) := by decide +kernel
theorem dX4_actionAt_15 : decode cX4_actionAt 15 = .ok (.iaload, 1) := by decide +kernel
theorem dX4_actionAt_16 : decode cX4_actionAt 16 = .ok (.iaload, 1) := by decide +kernel
theorem dX4_actionAt_17 : decode cX4_actionAt 17 = .ok (.ireturn, 1) := by decide +kernel
theorem dX4_wonByAction_0 : decode cX4_wonByAction 0 = .ok (.iconst 0, 1) := by decide +kernel
theorem dX4_wonByAction_1 : decode cX4_wonByAction 1 = .ok (.istore_n 2, 1) := by decide +kernel
theorem dX4_wonByAction_2 : decode cX4_wonByAction 2 = .ok (.iconst 0, 1) := by decide +kernel
theorem dX4_wonByAction_3 : decode cX4_wonByAction 3 = .ok (.istore_n 3, 1) := by decide +kernel
theorem dX4_wonByAction_4 : decode cX4_wonByAction 4 = .ok (.iload_n 3, 1) := by decide +kernel
theorem dX4_wonByAction_5 : decode cX4_wonByAction 5 = .ok (.aload_n 0, 1) := by decide +kernel
theorem dX4_wonByAction_6 : decode cX4_wonByAction 6 = .ok (.getfield 38, 3) := by decide +kernel
theorem dX4_wonByAction_9 : decode cX4_wonByAction 9 = .ok (.getfield 89, 3) := by decide +kernel
theorem dX4_wonByAction_12 : decode cX4_wonByAction 12 = .ok (.if_icmp .ge 27, 3) := by decide +kernel
theorem dX4_wonByAction_15 : decode cX4_wonByAction 15 = .ok (.aload_n 0, 1) := by decide +kernel
theorem dX4_wonByAction_16 : decode cX4_wonByAction 16 = .ok (.iload_n 3, 1) := by decide +kernel
theorem dX4_wonByAction_17 : decode cX4_wonByAction 17 = .ok (.invokevirtual 78, 3) := by decide +kernel
theorem dX4_wonByAction_20 : decode cX4_wonByAction 20 = .ok (.iload_n 1, 1) := by decide +kernel
theorem dX4_wonByAction_21 : decode cX4_wonByAction 21 = .ok (.if_icmp .ne 12, 3) := by decide +kernel
theorem dX4_wonByAction_24 : decode cX4_wonByAction 24 = .ok (.iload_n 2, 1) := by decide +kernel
theorem dX4_wonByAction_25 : decode cX4_wonByAction 25 = .ok (.aload_n 0, 1) := by decide +kernel
theorem dX4_wonByAction_26 : decode cX4_wonByAction 26 = .ok (.getfield 19, 3) := by decide +kernel
theorem dX4_wonByAction_29 : decode cX4_wonByAction 29 = .ok (.iload_n 3, 1) := by decide +kernel
theorem dX4_wonByAction_30 : decode cX4_wonByAction 30 = .ok (.iaload, 1) := by decide +kernel
theorem dX4_wonByAction_31 : decode cX4_wonByAction 31 = .ok (.iadd, 1) := by decide +kernel
theorem dX4_wonByAction_32 : decode cX4_wonByAction 32 = .ok (.istore_n 2, 1) := by decide +kernel
theorem dX4_wonByAction_33 : decode cX4_wonByAction 33 = .ok (.iinc 3 1, 3) := by decide +kernel
theorem dX4_wonByAction_36 : decode cX4_wonByAction 36 = .ok (.goto (-32), 3) := by decide +kernel
theorem dX4_wonByAction_39 : decode cX4_wonByAction 39 = .ok (.iload_n 2, 1) := by decide +kernel
theorem dX4_wonByAction_40 : decode cX4_wonByAction 40 = .ok (.ireturn, 1) := by decide +kernel
theorem dX5_init_0 : decode cX5_init 0 = .ok (.aload_n 0, 1) := by decide +kernel
theorem dX5_init_1 : decode cX5_init 1 = .ok (.invokespecial 3, 3) := by decide +kernel
theorem dX5_init_4 : decode cX5_init 4 = .ok (.aload_n 0, 1) := by decide +kernel
theorem dX5_init_5 : decode cX5_init 5 = .ok (.iconst 1, 1) := by decide +kernel
theorem dX5_init_6 : decode cX5_init 6 = .ok (.putfield 9, 3) := by decide +kernel
theorem dX5_init_9 : decode cX5_init 9 = .ok (.aload_n 0, 1) := by decide +kernel
theorem dX5_init_10 : decode cX5_init 10 = .ok (.iconst 0, 1) := by decide +kernel
theorem dX5_init_11 : decode cX5_init 11 = .ok (.putfield 15, 3) := by decide +kernel
theorem dX5_init_14 : decode cX5_init 14 = .ok (.aload_n 0, 1) := by decide +kernel
theorem dX5_init_15 : decode cX5_init 15 = .ok (.sipush 1029, 3) := by decide +kernel
theorem dX5_init_18 : decode cX5_init 18 = .ok (.newarray .int, 2) := by decide +kernel
theorem dX5_init_20 : decode cX5_init 20 = .ok (.putfield 19, 3) := by decide +kernel
theorem dX5_init_23 : decode cX5_init 23 = .ok (.aload_n 0, 1) := by decide +kernel
theorem dX5_init_24 : decode cX5_init 24 = .ok (.sipush 1029, 3) := by decide +kernel
theorem dX5_init_27 : decode cX5_init 27 = .ok (.newarray .int, 2) := by decide +kernel
theorem dX5_init_29 : decode cX5_init 29 = .ok (.putfield 23, 3) := by decide +kernel
theorem dX5_init_32 : decode cX5_init 32 = .ok (.aload_n 0, 1) := by decide +kernel
theorem dX5_init_33 : decode cX5_init 33 = .ok (.sipush 1029, 3) := by decide +kernel
theorem dX5_init_36 : decode cX5_init 36 = .ok (.newarray .int, 2) := by decide +kernel
theorem dX5_init_38 : decode cX5_init 38 = .ok (.putfield 26, 3) := by decide +kernel
theorem dX5_init_41 : decode cX5_init 41 = .ok (.aload_n 0, 1) := by decide +kernel
theorem dX5_init_42 : decode cX5_init 42 = .ok (.sipush 1029, 3) := by decide +kernel
theorem dX5_init_45 : decode cX5_init 45 = .ok (.newarray .int, 2) := by decide +kernel
theorem dX5_init_47 : decode cX5_init 47 = .ok (.putfield 29, 3) := by decide +kernel
theorem dX5_init_50 : decode cX5_init 50 = .ok (.aload_n 0, 1) := by decide +kernel
theorem dX5_init_51 : decode cX5_init 51 = .ok (.sipush 2048, 3) := by decide +kernel
theorem dX5_init_54 : decode cX5_init 54 = .ok (.newarray .int, 2) := by decide +kernel
theorem dX5_init_56 : decode cX5_init 56 = .ok (.putfield 32, 3) := by decide +kernel
theorem dX5_init_59 : decode cX5_init 59 = .ok (.aload_n 0, 1) := by decide +kernel
theorem dX5_init_60 : decode cX5_init 60 = .ok (.iconst 4, 1) := by decide +kernel
theorem dX5_init_61 : decode cX5_init 61 = .ok (.bipush 7, 2) := by decide +kernel
theorem dX5_init_63 : decode cX5_init 63 = .ok (.multianewarray 35 2, 4) := by decide +kernel
theorem dX5_init_67 : decode cX5_init 67 = .ok (.putfield 37, 3) := by decide +kernel
theorem dX5_init_70 : decode cX5_init 70 = .ok (.aload_n 0, 1) := by decide +kernel
theorem dX5_init_71 : decode cX5_init 71 = .ok (.iconst (-1), 1) := by decide +kernel
theorem dX5_init_72 : decode cX5_init 72 = .ok (.putfield 40, 3) := by decide +kernel
theorem dX5_init_75 : decode cX5_init 75 = .ok (.aload_n 0, 1) := by decide +kernel
theorem dX5_init_76 : decode cX5_init 76 = .ok (.iconst 0, 1) := by decide +kernel
theorem dX5_init_77 : decode cX5_init 77 = .ok (.putfield 43, 3) := by decide +kernel
theorem dX5_init_80 : decode cX5_init 80 = .ok (.aload_n 0, 1) := by decide +kernel
theorem dX5_init_81 : decode cX5_init 81 = .ok (.bipush 16, 2) := by decide +kernel
theorem dX5_init_83 : decode cX5_init 83 = .ok (.newarray .int, 2) := by decide +kernel
theorem dX5_init_85 : decode cX5_init 85 = .ok (.putfield 46, 3) := by decide +kernel
theorem dX5_init_88 : decode cX5_init 88 = .ok (.aload_n 0, 1) := by decide +kernel
theorem dX5_init_89 : decode cX5_init 89 = .ok (.aload_n 1, 1) := by decide +kernel
theorem dX5_init_90 : decode cX5_init 90 = .ok (.putfield 49, 3) := by decide +kernel
theorem dX5_init_93 : decode cX5_init 93 = .ok (.return_, 1) := by decide +kernel
theorem dX5_lengthIn_0 : decode cX5_lengthIn 0 = .ok (.aload_n 0, 1) := by decide +kernel
theorem dX5_lengthIn_1 : decode cX5_lengthIn 1 = .ok (.getfield 29, 3) := by decide +kernel
theorem dX5_lengthIn_4 : decode cX5_lengthIn 4 = .ok (.iload_n 1, 1) := by decide +kernel
theorem dX5_lengthIn_5 : decode cX5_lengthIn 5 = .ok (.iaload, 1) := by decide +kernel
theorem dX5_lengthIn_6 : decode cX5_lengthIn 6 = .ok (.getstatic 53, 3) := by decide +kernel
theorem dX5_lengthIn_9 : decode cX5_lengthIn 9 = .ok (.iload_n 2, 1) := by decide +kernel
theorem dX5_lengthIn_10 : decode cX5_lengthIn 10 = .ok (.iaload, 1) := by decide +kernel
theorem dX5_lengthIn_11 : decode cX5_lengthIn 11 = .ok (.ishr, 1) := by decide +kernel
theorem dX5_lengthIn_12 : decode cX5_lengthIn 12 = .ok (.getstatic 56, 3) := by decide +kernel
theorem dX5_lengthIn_15 : decode cX5_lengthIn 15 = .ok (.iload_n 2, 1) := by decide +kernel
theorem dX5_lengthIn_16 : decode cX5_lengthIn 16 = .ok (.iaload, 1) := by decide +kernel
theorem dX5_lengthIn_17 : decode cX5_lengthIn 17 = .ok (.iand, 1) := by decide +kernel
theorem dX5_lengthIn_18 : decode cX5_lengthIn 18 = .ok (.ireturn, 1) := by decide +kernel
theorem dX5_refresh_0 : decode cX5_refresh 0 = .ok (.aload_n 0, 1) := by decide +kernel
theorem dX5_refresh_1 : decode cX5_refresh 1 = .ok (.getfield 9, 3) := by decide +kernel
theorem dX5_refresh_4 : decode cX5_refresh 4 = .ok (.ifCond .ne 4, 3) := by decide +kernel
theorem dX5_refresh_7 : decode cX5_refresh 7 = .ok (.return_, 1) := by decide +kernel
theorem dX5_refresh_8 : decode cX5_refresh 8 = .ok (.aload_n 0, 1) := by decide +kernel
theorem dX5_refresh_9 : decode cX5_refresh 9 = .ok (.iconst 0, 1) := by decide +kernel
theorem dX5_refresh_10 : decode cX5_refresh 10 = .ok (.putfield 15, 3) := by decide +kernel
theorem dX5_refresh_13 : decode cX5_refresh 13 = .ok (.aload_n 0, 1) := by decide +kernel
theorem dX5_refresh_14 : decode cX5_refresh 14 = .ok (.getfield 32, 3) := by decide +kernel
theorem dX5_refresh_17 : decode cX5_refresh 17 = .ok (.iconst (-1), 1) := by decide +kernel
theorem dX5_refresh_18 : decode cX5_refresh 18 = .ok (.invokestatic 59, 3) := by decide +kernel
theorem dX5_refresh_21 : decode cX5_refresh 21 = .ok (.iconst 0, 1) := by decide +kernel
theorem dX5_refresh_22 : decode cX5_refresh 22 = .ok (.istore_n 1, 1) := by decide +kernel
theorem dX5_refresh_23 : decode cX5_refresh 23 = .ok (.iload_n 1, 1) := by decide +kernel
theorem dX5_refresh_24 : decode cX5_refresh 24 = .ok (.aload_n 0, 1) := by decide +kernel
theorem dX5_refresh_25 : decode cX5_refresh 25 = .ok (.getfield 49, 3) := by decide +kernel
theorem dX5_refresh_28 : decode cX5_refresh 28 = .ok (.getfield 65, 3) := by decide +kernel
theorem dX5_refresh_31 : decode cX5_refresh 31 = .ok (.if_icmp .ge 30, 3) := by decide +kernel
theorem dX5_refresh_34 : decode cX5_refresh 34 = .ok (.aload_n 0, 1) := by decide +kernel
theorem dX5_refresh_35 : decode cX5_refresh 35 = .ok (.aload_n 0, 1) := by decide +kernel
theorem dX5_refresh_36 : decode cX5_refresh 36 = .ok (.getfield 49, 3) := by decide +kernel
theorem dX5_refresh_39 : decode cX5_refresh 39 = .ok (.getfield 68, 3) := by decide +kernel
theorem dX5_refresh_42 : decode cX5_refresh 42 = .ok (.iload_n 1, 1) := by decide +kernel
theorem dX5_refresh_43 : decode cX5_refresh 43 = .ok (.iaload, 1) := by decide +kernel
theorem dX5_refresh_44 : decode cX5_refresh 44 = .ok (.invokevirtual 71, 3) := by decide +kernel
theorem dX5_refresh_47 : decode cX5_refresh 47 = .ok (.aload_n 0, 1) := by decide +kernel
theorem dX5_refresh_48 : decode cX5_refresh 48 = .ok (.iconst 0, 1) := by decide +kernel
theorem dX5_refresh_49 : decode cX5_refresh 49 = .ok (.iconst 0, 1) := by decide +kernel
theorem dX5_refresh_50 : decode cX5_refresh 50 = .ok (.iconst 1, 1) := by decide +kernel
theorem dX5_refresh_51 : decode cX5_refresh 51 = .ok (.iload_n 1, 1) := by decide +kernel
theorem dX5_refresh_52 : decode cX5_refresh 52 = .ok (.invokevirtual 75, 3) := by decide +kernel
theorem dX5_refresh_55 : decode cX5_refresh 55 = .ok (.iinc 1 1, 3) := by decide +kernel
theorem dX5_refresh_58 : decode cX5_refresh 58 = .ok (.goto (-35), 3) := by decide +kernel
theorem dX5_refresh_61 : decode cX5_refresh 61 = .ok (.aload_n 0, 1) := by decide +kernel
theorem dX5_refresh_62 : decode cX5_refresh 62 = .ok (.iconst 0, 1) := by decide +kernel
theorem dX5_refresh_63 : decode cX5_refresh 63 = .ok (.putfield 9, 3) := by decide +kernel
theorem dX5_refresh_66 : decode cX5_refresh 66 = .ok (.return_, 1) := by decide +kernel
theorem dX5_countPieces_0 : decode cX5_countPieces 0 = .ok (.iconst 0, 1) := by decide +kernel
theorem dX5_countPieces_1 : decode cX5_countPieces 1 = .ok (.istore_n 2, 1) := by decide +kernel
theorem dX5_countPieces_2 : decode cX5_countPieces 2 = .ok (.iload_n 2, 1) := by decide +kernel
theorem dX5_countPieces_3 : decode cX5_countPieces 3 = .ok (.iconst 4, 1) := by decide +kernel
theorem dX5_countPieces_4 : decode cX5_countPieces 4 = .ok (.if_icmp .ge 44, 3) := by decide +kernel
theorem dX5_countPieces_7 : decode cX5_countPieces 7 = .ok (.iconst 0, 1) := by decide +kernel
theorem dX5_countPieces_8 : decode cX5_countPieces 8 = .ok (.istore_n 3, 1) := by decide +kernel
theorem dX5_countPieces_9 : decode cX5_countPieces 9 = .ok (.iload_n 3, 1) := by decide +kernel
theorem dX5_countPieces_10 : decode cX5_countPieces 10 = .ok (.getstatic 79, 3) := by decide +kernel
theorem dX5_countPieces_13 : decode cX5_countPieces 13 = .ok (.iload_n 2, 1) := by decide +kernel
theorem dX5_countPieces_14 : decode cX5_countPieces 14 = .ok (.iaload, 1) := by decide +kernel
theorem dX5_countPieces_15 : decode cX5_countPieces 15 = .ok (.if_icmp .gt 27, 3) := by decide +kernel
theorem dX5_countPieces_18 : decode cX5_countPieces 18 = .ok (.aload_n 0, 1) := by decide +kernel
theorem dX5_countPieces_19 : decode cX5_countPieces 19 = .ok (.getfield 37, 3) := by decide +kernel
theorem dX5_countPieces_22 : decode cX5_countPieces 22 = .ok (.iload_n 2, 1) := by decide +kernel
theorem dX5_countPieces_23 : decode cX5_countPieces 23 = .ok (.aaload, 1) := by decide +kernel
theorem dX5_countPieces_24 : decode cX5_countPieces 24 = .ok (.iload_n 3, 1) := by decide +kernel
theorem dX5_countPieces_25 : decode cX5_countPieces 25 = .ok (.aload_n 0, 1) := by decide +kernel
theorem dX5_countPieces_26 : decode cX5_countPieces 26 = .ok (.getfield 49, 3) := by decide +kernel
theorem dX5_countPieces_29 : decode cX5_countPieces 29 = .ok (.iload_n 1, 1) := by decide +kernel
theorem dX5_countPieces_30 : decode cX5_countPieces 30 = .ok (.iload_n 2, 1) := by decide +kernel
theorem dX5_countPieces_31 : decode cX5_countPieces 31 = .ok (.iload_n 3, 1) := by decide +kernel
theorem dX5_countPieces_32 : decode cX5_countPieces 32 = .ok (.invokevirtual 82, 3) := by decide +kernel
theorem dX5_countPieces_35 : decode cX5_countPieces 35 = .ok (.iastore, 1) := by decide +kernel
theorem dX5_countPieces_36 : decode cX5_countPieces 36 = .ok (.iinc 3 1, 3) := by decide +kernel
theorem dX5_countPieces_39 : decode cX5_countPieces 39 = .ok (.goto (-30), 3) := by decide +kernel
theorem dX5_countPieces_42 : decode cX5_countPieces 42 = .ok (.iinc 2 1, 3) := by decide +kernel
theorem dX5_countPieces_45 : decode cX5_countPieces 45 = .ok (.goto (-43), 3) := by decide +kernel
theorem dX5_countPieces_48 : decode cX5_countPieces 48 = .ok (.return_, 1) := by decide +kernel
theorem dX5_enter_0 : decode cX5_enter 0 = .ok (.iload_n 1, 1) := by decide +kernel
theorem dX5_enter_1 : decode cX5_enter 1 = .ok (.iconst 4, 1) := by decide +kernel
theorem dX5_enter_2 : decode cX5_enter 2 = .ok (.if_icmp .lt 12, 3) := by decide +kernel
theorem dX5_enter_5 : decode cX5_enter 5 = .ok (.aload_n 0, 1) := by decide +kernel
theorem dX5_enter_6 : decode cX5_enter 6 = .ok (.iload_n 2, 1) := by decide +kernel
theorem dX5_enter_7 : decode cX5_enter 7 = .ok (.iload_n 3, 1) := by decide +kernel
theorem dX5_enter_8 : decode cX5_enter 8 = .ok (.iload 4, 2) := by decide +kernel
theorem dX5_enter_10 : decode cX5_enter 10 = .ok (.invokevirtual 86, 3) := by decide +kernel
theorem dX5_enter_13 : decode cX5_enter 13 = .ok (.return_, 1) := by decide +kernel
theorem dX5_enter_14 : decode cX5_enter 14 = .ok (.getstatic 79, 3) := by decide +kernel
theorem dX5_enter_17 : decode cX5_enter 17 = .ok (.iload_n 1, 1) := by decide +kernel
theorem dX5_enter_18 : decode cX5_enter 18 = .ok (.iaload, 1) := by decide +kernel
theorem dX5_enter_19 : decode cX5_enter 19 = .ok (.istore 5, 2) := by decide +kernel
theorem dX5_enter_21 : decode cX5_enter 21 = .ok (.iload 5, 2) := by decide +kernel
theorem dX5_enter_23 : decode cX5_enter 23 = .ok (.ifCond .lt 51, 3) := by decide +kernel
theorem dX5_enter_26 : decode cX5_enter 26 = .ok (.aload_n 0, 1) := by decide +kernel
theorem dX5_enter_27 : decode cX5_enter 27 = .ok (.getfield 37, 3) := by decide +kernel
theorem dX5_enter_30 : decode cX5_enter 30 = .ok (.iload_n 1, 1) := by decide +kernel
theorem dX5_enter_31 : decode cX5_enter 31 = .ok (.aaload, 1) := by decide +kernel
theorem dX5_enter_32 : decode cX5_enter 32 = .ok (.iload 5, 2) := by decide +kernel
theorem dX5_enter_34 : decode cX5_enter 34 = .ok (.iaload, 1) := by decide +kernel
theorem dX5_enter_35 : decode cX5_enter 35 = .ok (.ifCond .le 33, 3) := by decide +kernel
theorem dX5_enter_38 : decode cX5_enter 38 = .ok (.aload_n 0, 1) := by decide +kernel
theorem dX5_enter_39 : decode cX5_enter 39 = .ok (.iload_n 1, 1) := by decide +kernel
theorem dX5_enter_40 : decode cX5_enter 40 = .ok (.iconst 1, 1) := by decide +kernel
theorem dX5_enter_41 : decode cX5_enter 41 = .ok (.iadd, 1) := by decide +kernel
theorem dX5_enter_42 : decode cX5_enter 42 = .ok (.iload_n 2, 1) := by decide +kernel
theorem dX5_enter_43 : decode cX5_enter 43 = .ok (.iload 5, 2) := by decide +kernel
theorem dX5_enter_45 : decode cX5_enter 45 = .ok (.getstatic 53, 3) := by decide +kernel
theorem dX5_enter_48 : decode cX5_enter 48 = .ok (.iload_n 1, 1) := by decide +kernel
theorem dX5_enter_49 : decode cX5_enter 49 = .ok (.iaload, 1) := by decide +kernel
theorem dX5_enter_50 : decode cX5_enter 50 = .ok (.ishl, 1) := by decide +kernel
theorem dX5_enter_51 : decode cX5_enter 51 = .ok (.ior, 1) := by decide +kernel
theorem dX5_enter_52 : decode cX5_enter 52 = .ok (.iload_n 3, 1) := by decide +kernel
theorem dX5_enter_53 : decode cX5_enter 53 = .ok (.aload_n 0, 1) := by decide +kernel
theorem dX5_enter_54 : decode cX5_enter 54 = .ok (.getfield 37, 3) := by decide +kernel
theorem dX5_enter_57 : decode cX5_enter 57 = .ok (.iload_n 1, 1) := by decide +kernel
theorem dX5_enter_58 : decode cX5_enter 58 = .ok (.aaload, 1) := by decide +kernel
theorem dX5_enter_59 : decode cX5_enter 59 = .ok (.iload 5, 2) := by decide +kernel
theorem dX5_enter_61 : decode cX5_enter 61 = .ok (.iaload, 1) := by decide +kernel
theorem dX5_enter_62 : decode cX5_enter 62 = .ok (.imul, 1) := by decide +kernel
theorem dX5_enter_63 : decode cX5_enter 63 = .ok (.iload 4, 2) := by decide +kernel
theorem dX5_enter_65 : decode cX5_enter 65 = .ok (.invokevirtual 75, 3) := by decide +kernel
theorem dX5_enter_68 : decode cX5_enter 68 = .ok (.iinc 5 (-1), 3) := by decide +kernel
theorem dX5_enter_71 : decode cX5_enter 71 = .ok (.goto (-50), 3) := by decide +kernel
theorem dX5_enter_74 : decode cX5_enter 74 = .ok (.return_, 1) := by decide +kernel
theorem dX5_put_0 : decode cX5_put 0 = .ok (.aload_n 0, 1) := by decide +kernel
theorem dX5_put_1 : decode cX5_put 1 = .ok (.getfield 32, 3) := by decide +kernel
theorem dX5_put_4 : decode cX5_put 4 = .ok (.iload_n 1, 1) := by decide +kernel
theorem dX5_put_5 : decode cX5_put 5 = .ok (.iaload, 1) := by decide +kernel
theorem dX5_put_6 : decode cX5_put 6 = .ok (.istore 4, 2) := by decide +kernel
theorem dX5_put_8 : decode cX5_put 8 = .ok (.iload 4, 2) := by decide +kernel
theorem dX5_put_10 : decode cX5_put 10 = .ok (.ifCond .ge 70, 3) := by decide +kernel
theorem dX5_put_13 : decode cX5_put 13 = .ok (.aload_n 0, 1) := by decide +kernel
theorem dX5_put_14 : decode cX5_put 14 = .ok (.getfield 15, 3) := by decide +kernel
theorem dX5_put_17 : decode cX5_put 17 = .ok (.sipush 1029, 3) := by decide +kernel
theorem dX5_put_20 : decode cX5_put 20 = .ok (.if_icmp .lt 4, 3) := by decide +kernel
theorem dX5_put_23 : decode cX5_put 23 = .ok (.return_, 1) := by decide +kernel
theorem dX5_put_24 : decode cX5_put 24 = .ok (.aload_n 0, 1) := by decide +kernel
theorem dX5_put_25 : decode cX5_put 25 = .ok (.getfield 15, 3) := by decide +kernel
theorem dX5_put_28 : decode cX5_put 28 = .ok (.istore 4, 2) := by decide +kernel
theorem dX5_put_30 : decode cX5_put 30 = .ok (.aload_n 0, 1) := by decide +kernel
theorem dX5_put_31 : decode cX5_put 31 = .ok (.dup, 1) := by decide +kernel
theorem dX5_put_32 : decode cX5_put 32 = .ok (.getfield 15, 3) := by decide +kernel
theorem dX5_put_35 : decode cX5_put 35 = .ok (.iconst 1, 1) := by decide +kernel
theorem dX5_put_36 : decode cX5_put 36 = .ok (.iadd, 1) := by decide +kernel
theorem dX5_put_37 : decode cX5_put 37 = .ok (.putfield 15, 3) := by decide +kernel
theorem dX5_put_40 : decode cX5_put 40 = .ok (.aload_n 0, 1) := by decide +kernel
theorem dX5_put_41 : decode cX5_put 41 = .ok (.getfield 32, 3) := by decide +kernel
theorem dX5_put_44 : decode cX5_put 44 = .ok (.iload_n 1, 1) := by decide +kernel
theorem dX5_put_45 : decode cX5_put 45 = .ok (.iload 4, 2) := by decide +kernel
theorem dX5_put_47 : decode cX5_put 47 = .ok (.iastore, 1) := by decide +kernel
theorem dX5_put_48 : decode cX5_put 48 = .ok (.aload_n 0, 1) := by decide +kernel
theorem dX5_put_49 : decode cX5_put 49 = .ok (.getfield 29, 3) := by decide +kernel
theorem dX5_put_52 : decode cX5_put 52 = .ok (.iload 4, 2) := by decide +kernel
theorem dX5_put_54 : decode cX5_put 54 = .ok (.iload_n 1, 1) := by decide +kernel
theorem dX5_put_55 : decode cX5_put 55 = .ok (.iastore, 1) := by decide +kernel
theorem dX5_put_56 : decode cX5_put 56 = .ok (.aload_n 0, 1) := by decide +kernel
theorem dX5_put_57 : decode cX5_put 57 = .ok (.getfield 23, 3) := by decide +kernel
theorem dX5_put_60 : decode cX5_put 60 = .ok (.iload 4, 2) := by decide +kernel
theorem dX5_put_62 : decode cX5_put 62 = .ok (.iload_n 3, 1) := by decide +kernel
theorem dX5_put_63 : decode cX5_put 63 = .ok (.iastore, 1) := by decide +kernel
theorem dX5_put_64 : decode cX5_put 64 = .ok (.aload_n 0, 1) := by decide +kernel
theorem dX5_put_65 : decode cX5_put 65 = .ok (.getfield 19, 3) := by decide +kernel
theorem dX5_put_68 : decode cX5_put 68 = .ok (.iload 4, 2) := by decide +kernel
theorem dX5_put_70 : decode cX5_put 70 = .ok (.iconst 0, 1) := by decide +kernel
theorem dX5_put_71 : decode cX5_put 71 = .ok (.iastore, 1) := by decide +kernel
theorem dX5_put_72 : decode cX5_put 72 = .ok (.aload_n 0, 1) := by decide +kernel
theorem dX5_put_73 : decode cX5_put 73 = .ok (.getfield 26, 3) := by decide +kernel
theorem dX5_put_76 : decode cX5_put 76 = .ok (.iload 4, 2) := by decide +kernel
theorem dX5_put_78 : decode cX5_put 78 = .ok (.iconst 0, 1) := by decide +kernel
theorem dX5_put_79 : decode cX5_put 79 = .ok (.iastore, 1) := by decide +kernel
theorem dX5_put_80 : decode cX5_put 80 = .ok (.aload_n 0, 1) := by decide +kernel
theorem dX5_put_81 : decode cX5_put 81 = .ok (.getfield 19, 3) := by decide +kernel
theorem dX5_put_84 : decode cX5_put 84 = .ok (.iload 4, 2) := by decide +kernel
theorem dX5_put_86 : decode cX5_put 86 = .ok (.dup2, 1) := by decide +kernel
theorem dX5_put_87 : decode cX5_put 87 = .ok (.iaload, 1) := by decide +kernel
theorem dX5_put_88 : decode cX5_put 88 = .ok (.iload_n 2, 1) := by decide +kernel
theorem dX5_put_89 : decode cX5_put 89 = .ok (.iadd, 1) := by decide +kernel
theorem dX5_put_90 : decode cX5_put 90 = .ok (.iastore, 1) := by decide +kernel
theorem dX5_put_91 : decode cX5_put 91 = .ok (.aload_n 0, 1) := by decide +kernel
theorem dX5_put_92 : decode cX5_put 92 = .ok (.getfield 26, 3) := by decide +kernel
theorem dX5_put_95 : decode cX5_put 95 = .ok (.iload 4, 2) := by decide +kernel
theorem dX5_put_97 : decode cX5_put 97 = .ok (.dup2, 1) := by decide +kernel
theorem dX5_put_98 : decode cX5_put 98 = .ok (.iaload, 1) := by decide +kernel
theorem dX5_put_99 : decode cX5_put 99 = .ok (.iconst 1, 1) := by decide +kernel
theorem dX5_put_100 : decode cX5_put 100 = .ok (.iadd, 1) := by decide +kernel
theorem dX5_put_101 : decode cX5_put 101 = .ok (.iastore, 1) := by decide +kernel
theorem dX5_put_102 : decode cX5_put 102 = .ok (.return_, 1) := by decide +kernel
theorem dX5_search_0 : decode cX5_search 0 = .ok (.iconst 0, 1) := by decide +kernel
theorem dX5_search_1 : decode cX5_search 1 = .ok (.istore_n 2, 1) := by decide +kernel
theorem dX5_search_2 : decode cX5_search 2 = .ok (.iload_n 2, 1) := by decide +kernel
theorem dX5_search_3 : decode cX5_search 3 = .ok (.aload_n 0, 1) := by decide +kernel
theorem dX5_search_4 : decode cX5_search 4 = .ok (.getfield 49, 3) := by decide +kernel
theorem dX5_search_7 : decode cX5_search 7 = .ok (.getfield 65, 3) := by decide +kernel
theorem dX5_search_10 : decode cX5_search 10 = .ok (.if_icmp .ge 29, 3) := by decide +kernel
theorem dX5_search_13 : decode cX5_search 13 = .ok (.aload_n 0, 1) := by decide +kernel
theorem dX5_search_14 : decode cX5_search 14 = .ok (.getfield 46, 3) := by decide +kernel
theorem dX5_search_17 : decode cX5_search 17 = .ok (.iload_n 2, 1) := by decide +kernel
theorem dX5_search_18 : decode cX5_search 18 = .ok (.aload_n 0, 1) := by decide +kernel
theorem dX5_search_19 : decode cX5_search 19 = .ok (.aload_n 0, 1) := by decide +kernel
theorem dX5_search_20 : decode cX5_search 20 = .ok (.getfield 49, 3) := by decide +kernel
theorem dX5_search_23 : decode cX5_search 23 = .ok (.getfield 68, 3) := by decide +kernel
theorem dX5_search_26 : decode cX5_search 26 = .ok (.iload_n 2, 1) := by decide +kernel
theorem dX5_search_27 : decode cX5_search 27 = .ok (.iaload, 1) := by decide +kernel
theorem dX5_search_28 : decode cX5_search 28 = .ok (.aload_n 1, 1) := by decide +kernel
theorem dX5_search_29 : decode cX5_search 29 = .ok (.invokevirtual 90, 3) := by decide +kernel
theorem dX5_search_32 : decode cX5_search 32 = .ok (.iastore, 1) := by decide +kernel
theorem dX5_search_33 : decode cX5_search 33 = .ok (.iinc 2 1, 3) := by decide +kernel
theorem dX5_search_36 : decode cX5_search 36 = .ok (.goto (-34), 3) := by decide +kernel
theorem dX5_search_39 : decode cX5_search 39 = .ok (.aload_n 0, 1) := by decide +kernel
theorem dX5_search_40 : decode cX5_search 40 = .ok (.iconst (-1), 1) := by decide +kernel
theorem dX5_search_41 : decode cX5_search 41 = .ok (.putfield 40, 3) := by decide +kernel
theorem dX5_search_44 : decode cX5_search 44 = .ok (.aload_n 0, 1) := by decide +kernel
theorem dX5_search_45 : decode cX5_search 45 = .ok (.iconst 0, 1) := by decide +kernel
theorem dX5_search_46 : decode cX5_search 46 = .ok (.putfield 43, 3) := by decide +kernel
theorem dX5_search_49 : decode cX5_search 49 = .ok (.iconst 0, 1) := by decide +kernel
theorem dX5_search_50 : decode cX5_search 50 = .ok (.istore_n 2, 1) := by decide +kernel
theorem dX5_search_51 : decode cX5_search 51 = .ok (.iload_n 2, 1) := by decide +kernel
theorem dX5_search_52 : decode cX5_search 52 = .ok (.aload_n 0, 1) := by decide +kernel
theorem dX5_search_53 : decode cX5_search 53 = .ok (.getfield 15, 3) := by decide +kernel
theorem dX5_search_56 : decode cX5_search 56 = .ok (.if_icmp .ge 75, 3) := by decide +kernel
theorem dX5_search_59 : decode cX5_search 59 = .ok (.aload_n 0, 1) := by decide +kernel
theorem dX5_search_60 : decode cX5_search 60 = .ok (.getfield 40, 3) := by decide +kernel
theorem dX5_search_63 : decode cX5_search 63 = .ok (.ifCond .lt 17, 3) := by decide +kernel
theorem dX5_search_66 : decode cX5_search 66 = .ok (.aload_n 0, 1) := by decide +kernel
theorem dX5_search_67 : decode cX5_search 67 = .ok (.getfield 23, 3) := by decide +kernel
theorem dX5_search_70 : decode cX5_search 70 = .ok (.iload_n 2, 1) := by decide +kernel
theorem dX5_search_71 : decode cX5_search 71 = .ok (.iaload, 1) := by decide +kernel
theorem dX5_search_72 : decode cX5_search 72 = .ok (.aload_n 0, 1) := by decide +kernel
theorem dX5_search_73 : decode cX5_search 73 = .ok (.getfield 40, 3) := by decide +kernel
theorem dX5_search_76 : decode cX5_search 76 = .ok (.if_icmp .lt 4, 3) := by decide +kernel
theorem dX5_search_79 : decode cX5_search 79 = .ok (.return_, 1) := by decide +kernel
theorem dX5_search_80 : decode cX5_search 80 = .ok (.aload_n 0, 1) := by decide +kernel
theorem dX5_search_81 : decode cX5_search 81 = .ok (.dup, 1) := by decide +kernel
theorem dX5_search_82 : decode cX5_search 82 = .ok (.getfield 43, 3) := by decide +kernel
theorem dX5_search_85 : decode cX5_search 85 = .ok (.iconst 1, 1) := by decide +kernel
theorem dX5_search_86 : decode cX5_search 86 = .ok (.iadd, 1) := by decide +kernel
theorem dX5_search_87 : decode cX5_search 87 = .ok (.putfield 43, 3) := by decide +kernel
theorem dX5_search_90 : decode cX5_search 90 = .ok (.aload_n 0, 1) := by decide +kernel
theorem dX5_search_91 : decode cX5_search 91 = .ok (.aload_n 0, 1) := by decide +kernel
theorem dX5_search_92 : decode cX5_search 92 = .ok (.getfield 29, 3) := by decide +kernel
theorem dX5_search_95 : decode cX5_search 95 = .ok (.iload_n 2, 1) := by decide +kernel
theorem dX5_search_96 : decode cX5_search 96 = .ok (.iaload, 1) := by decide +kernel
theorem dX5_search_97 : decode cX5_search 97 = .ok (.invokevirtual 94, 3) := by decide +kernel
theorem dX5_search_100 : decode cX5_search 100 = .ok (.istore_n 3, 1) := by decide +kernel
theorem dX5_search_101 : decode cX5_search 101 = .ok (.iload_n 3, 1) := by decide +kernel
theorem dX5_search_102 : decode cX5_search 102 = .ok (.ifCond .lt 23, 3) := by decide +kernel
theorem dX5_search_105 : decode cX5_search 105 = .ok (.aload_n 0, 1) := by decide +kernel
theorem dX5_search_106 : decode cX5_search 106 = .ok (.getfield 40, 3) := by decide +kernel
theorem dX5_search_109 : decode cX5_search 109 = .ok (.ifCond .lt 11, 3) := by decide +kernel
theorem dX5_search_112 : decode cX5_search 112 = .ok (.iload_n 3, 1) := by decide +kernel
theorem dX5_search_113 : decode cX5_search 113 = .ok (.aload_n 0, 1) := by decide +kernel
theorem dX5_search_114 : decode cX5_search 114 = .ok (.getfield 40, 3) := by decide +kernel
theorem dX5_search_117 : decode cX5_search 117 = .ok (.if_icmp .ge 8, 3) := by decide +kernel
theorem dX5_search_120 : decode cX5_search 120 = .ok (.aload_n 0, 1) := by decide +kernel
theorem dX5_search_121 : decode cX5_search 121 = .ok (.iload_n 3, 1) := by decide +kernel
theorem dX5_search_122 : decode cX5_search 122 = .ok (.putfield 40, 3) := by decide +kernel
theorem dX5_search_125 : decode cX5_search 125 = .ok (.iinc 2 1, 3) := by decide +kernel
theorem dX5_search_128 : decode cX5_search 128 = .ok (.goto (-77), 3) := by decide +kernel
theorem dX5_search_131 : decode cX5_search 131 = .ok (.return_, 1) := by decide +kernel
theorem dX5_packetKey_0 : decode cX5_packetKey 0 = .ok (.iconst 0, 1) := by decide +kernel
theorem dX5_packetKey_1 : decode cX5_packetKey 1 = .ok (.istore_n 3, 1) := by decide +kernel
theorem dX5_packetKey_2 : decode cX5_packetKey 2 = .ok (.iconst 0, 1) := by decide +kernel
theorem dX5_packetKey_3 : decode cX5_packetKey 3 = .ok (.istore 4, 2) := by decide +kernel
theorem dX5_packetKey_5 : decode cX5_packetKey 5 = .ok (.iload 4, 2) := by decide +kernel
theorem dX5_packetKey_7 : decode cX5_packetKey 7 = .ok (.iconst 4, 1) := by decide +kernel
theorem dX5_packetKey_8 : decode cX5_packetKey 8 = .ok (.if_icmp .ge 52, 3) := by decide +kernel
theorem dX5_packetKey_11 : decode cX5_packetKey 11 = .ok (.aload_n 0, 1) := by decide +kernel
theorem dX5_packetKey_12 : decode cX5_packetKey 12 = .ok (.getfield 49, 3) := by decide +kernel
theorem dX5_packetKey_15 : decode cX5_packetKey 15 = .ok (.iload_n 1, 1) := by decide +kernel
theorem dX5_packetKey_16 : decode cX5_packetKey 16 = .ok (.iload 4, 2) := by decide +kernel
theorem dX5_packetKey_18 : decode cX5_packetKey 18 = .ok (.aload_n 2, 1) := by decide +kernel
theorem dX5_packetKey_19 : decode cX5_packetKey 19 = .ok (.iload 4, 2) := by decide +kernel
theorem dX5_packetKey_21 : decode cX5_packetKey 21 = .ok (.iaload, 1) := by decide +kernel
theorem dX5_packetKey_22 : decode cX5_packetKey 22 = .ok (.invokevirtual 98, 3) := by decide +kernel
theorem dX5_packetKey_25 : decode cX5_packetKey 25 = .ok (.ifCond .ne 5, 3) := by decide +kernel
theorem dX5_packetKey_28 : decode cX5_packetKey 28 = .ok (.iconst (-1), 1) := by decide +kernel
theorem dX5_packetKey_29 : decode cX5_packetKey 29 = .ok (.ireturn, 1) := by decide +kernel
theorem dX5_packetKey_30 : decode cX5_packetKey 30 = .ok (.iload_n 3, 1) := by decide +kernel
theorem dX5_packetKey_31 : decode cX5_packetKey 31 = .ok (.aload_n 0, 1) := by decide +kernel
theorem dX5_packetKey_32 : decode cX5_packetKey 32 = .ok (.getfield 49, 3) := by decide +kernel
theorem dX5_packetKey_35 : decode cX5_packetKey 35 = .ok (.iload_n 1, 1) := by decide +kernel
theorem dX5_packetKey_36 : decode cX5_packetKey 36 = .ok (.iload 4, 2) := by decide +kernel
theorem dX5_packetKey_38 : decode cX5_packetKey 38 = .ok (.aload_n 2, 1) := by decide +kernel
theorem dX5_packetKey_39 : decode cX5_packetKey 39 = .ok (.iload 4, 2) := by decide +kernel
theorem dX5_packetKey_41 : decode cX5_packetKey 41 = .ok (.iaload, 1) := by decide +kernel
theorem dX5_packetKey_42 : decode cX5_packetKey 42 = .ok (.invokevirtual 102, 3) := by decide +kernel
theorem dX5_packetKey_45 : decode cX5_packetKey 45 = .ok (.getstatic 53, 3) := by decide +kernel
theorem dX5_packetKey_48 : decode cX5_packetKey 48 = .ok (.iload 4, 2) := by decide +kernel
theorem dX5_packetKey_50 : decode cX5_packetKey 50 = .ok (.iaload, 1) := by decide +kernel
theorem dX5_packetKey_51 : decode cX5_packetKey 51 = .ok (.ishl, 1) := by decide +kernel
theorem dX5_packetKey_52 : decode cX5_packetKey 52 = .ok (.ior, 1) := by decide +kernel
theorem dX5_packetKey_53 : decode cX5_packetKey 53 = .ok (.istore_n 3, 1) := by decide +kernel
theorem dX5_packetKey_54 : decode cX5_packetKey 54 = .ok (.iinc 4 1, 3) := by decide +kernel
theorem dX5_packetKey_57 : decode cX5_packetKey 57 = .ok (.goto (-52), 3) := by decide +kernel
theorem dX5_packetKey_60 : decode cX5_packetKey 60 = .ok (.iload_n 3, 1) := by decide +kernel
theorem dX5_packetKey_61 : decode cX5_packetKey 61 = .ok (.ireturn, 1) := by decide +kernel
theorem dX5_firstWithKey_0 : decode cX5_firstWithKey 0 = .ok (.iconst 0, 1) := by decide +kernel
theorem dX5_firstWithKey_1 : decode cX5_firstWithKey 1 = .ok (.istore_n 2, 1) := by decide +kernel
theorem dX5_firstWithKey_2 : decode cX5_firstWithKey 2 = .ok (.iload_n 2, 1) := by decide +kernel
theorem dX5_firstWithKey_3 : decode cX5_firstWithKey 3 = .ok (.aload_n 0, 1) := by decide +kernel
theorem dX5_firstWithKey_4 : decode cX5_firstWithKey 4 = .ok (.getfield 49, 3) := by decide +kernel
theorem dX5_firstWithKey_7 : decode cX5_firstWithKey 7 = .ok (.getfield 65, 3) := by decide +kernel
theorem dX5_firstWithKey_10 : decode cX5_firstWithKey 10 = .ok (.if_icmp .ge 21, 3) := by decide +kernel
theorem dX5_firstWithKey_13 : decode cX5_firstWithKey 13 = .ok (.aload_n 0, 1) := by decide +kernel
theorem dX5_firstWithKey_14 : decode cX5_firstWithKey 14 = .ok (.getfield 46, 3) := by decide +kernel
theorem dX5_firstWithKey_17 : decode cX5_firstWithKey 17 = .ok (.iload_n 2, 1) := by decide +kernel
theorem dX5_firstWithKey_18 : decode cX5_firstWithKey 18 = .ok (.iaload, 1) := by decide +kernel
theorem dX5_firstWithKey_19 : decode cX5_firstWithKey 19 = .ok (.iload_n 1, 1) := by decide +kernel
theorem dX5_firstWithKey_20 : decode cX5_firstWithKey 20 = .ok (.if_icmp .ne 5, 3) := by decide +kernel
theorem dX5_firstWithKey_23 : decode cX5_firstWithKey 23 = .ok (.iload_n 2, 1) := by decide +kernel
theorem dX5_firstWithKey_24 : decode cX5_firstWithKey 24 = .ok (.ireturn, 1) := by decide +kernel
theorem dX5_firstWithKey_25 : decode cX5_firstWithKey 25 = .ok (.iinc 2 1, 3) := by decide +kernel
theorem dX5_firstWithKey_28 : decode cX5_firstWithKey 28 = .ok (.goto (-26), 3) := by decide +kernel
theorem dX5_firstWithKey_31 : decode cX5_firstWithKey 31 = .ok (.iconst (-1), 1) := by decide +kernel
theorem dX5_firstWithKey_32 : decode cX5_firstWithKey 32 = .ok (.ireturn, 1) := by decide +kernel
theorem dX6_init_0 : decode cX6_init 0 = .ok (.aload_n 0, 1) := by decide +kernel
theorem dX6_init_1 : decode cX6_init 1 = .ok (.invokespecial 1, 3) := by decide +kernel
theorem dX6_init_4 : decode cX6_init 4 = .ok (.aload_n 0, 1) := by decide +kernel
theorem dX6_init_5 : decode cX6_init 5 = .ok (.new 7, 3) := by decide +kernel
theorem dX6_init_8 : decode cX6_init 8 = .ok (.dup, 1) := by decide +kernel
theorem dX6_init_9 : decode cX6_init 9 = .ok (.invokespecial 9, 3) := by decide +kernel
theorem dX6_init_12 : decode cX6_init 12 = .ok (.putfield 10, 3) := by decide +kernel
theorem dX6_init_15 : decode cX6_init 15 = .ok (.aload_n 0, 1) := by decide +kernel
theorem dX6_init_16 : decode cX6_init 16 = .ok (.new 16, 3) := by decide +kernel
theorem dX6_init_19 : decode cX6_init 19 = .ok (.dup, 1) := by decide +kernel
theorem dX6_init_20 : decode cX6_init 20 = .ok (.aload_n 0, 1) := by decide +kernel
theorem dX6_init_21 : decode cX6_init 21 = .ok (.getfield 10, 3) := by decide +kernel
theorem dX6_init_24 : decode cX6_init 24 = .ok (.invokespecial 18, 3) := by decide +kernel
theorem dX6_init_27 : decode cX6_init 27 = .ok (.putfield 21, 3) := by decide +kernel
theorem dX6_init_30 : decode cX6_init 30 = .ok (.aload_n 0, 1) := by decide +kernel
theorem dX6_init_31 : decode cX6_init 31 = .ok (.new 25, 3) := by decide +kernel
theorem dX6_init_34 : decode cX6_init 34 = .ok (.dup, 1) := by decide +kernel
theorem dX6_init_35 : decode cX6_init 35 = .ok (.aload_n 0, 1) := by decide +kernel
theorem dX6_init_36 : decode cX6_init 36 = .ok (.getfield 10, 3) := by decide +kernel
theorem dX6_init_39 : decode cX6_init 39 = .ok (.aload_n 0, 1) := by decide +kernel
theorem dX6_init_40 : decode cX6_init 40 = .ok (.getfield 21, 3) := by decide +kernel
theorem dX6_init_43 : decode cX6_init 43 = .ok (.invokespecial 27, 3) := by decide +kernel
theorem dX6_init_46 : decode cX6_init 46 = .ok (.putfield 30, 3) := by decide +kernel
theorem dX6_init_49 : decode cX6_init 49 = .ok (.aload_n 0, 1) := by decide +kernel
theorem dX6_init_50 : decode cX6_init 50 = .ok (.new 34, 3) := by decide +kernel
theorem dX6_init_53 : decode cX6_init 53 = .ok (.dup, 1) := by decide +kernel
theorem dX6_init_54 : decode cX6_init 54 = .ok (.aload_n 0, 1) := by decide +kernel
theorem dX6_init_55 : decode cX6_init 55 = .ok (.getfield 10, 3) := by decide +kernel
theorem dX6_init_58 : decode cX6_init 58 = .ok (.invokespecial 36, 3) := by decide +kernel
theorem dX6_init_61 : decode cX6_init 61 = .ok (.putfield 37, 3) := by decide +kernel
theorem dX6_init_64 : decode cX6_init 64 = .ok (.aload_n 0, 1) := by decide +kernel
theorem dX6_init_65 : decode cX6_init 65 = .ok (.new 41, 3) := by decide +kernel
theorem dX6_init_68 : decode cX6_init 68 = .ok (.dup, 1) := by decide +kernel
theorem dX6_init_69 : decode cX6_init 69 = .ok (.aload_n 0, 1) := by decide +kernel
theorem dX6_init_70 : decode cX6_init 70 = .ok (.getfield 21, 3) := by decide +kernel
theorem dX6_init_73 : decode cX6_init 73 = .ok (.invokespecial 43, 3) := by decide +kernel
theorem dX6_init_76 : decode cX6_init 76 = .ok (.putfield 46, 3) := by decide +kernel
theorem dX6_init_79 : decode cX6_init 79 = .ok (.aload_n 0, 1) := by decide +kernel
theorem dX6_init_80 : decode cX6_init 80 = .ok (.iconst 2, 1) := by decide +kernel
theorem dX6_init_81 : decode cX6_init 81 = .ok (.anewarray 50, 3) := by decide +kernel
theorem dX6_init_84 : decode cX6_init 84 = .ok (.putfield 52, 3) := by decide +kernel
theorem dX6_init_87 : decode cX6_init 87 = .ok (.iconst 0, 1) := by decide +kernel
theorem dX6_init_88 : decode cX6_init 88 = .ok (.istore_n 1, 1) := by decide +kernel
theorem dX6_init_89 : decode cX6_init 89 = .ok (.iload_n 1, 1) := by decide +kernel
theorem dX6_init_90 : decode cX6_init 90 = .ok (.iconst 2, 1) := by decide +kernel
theorem dX6_init_91 : decode cX6_init 91 = .ok (.if_icmp .ge 22, 3) := by decide +kernel
theorem dX6_init_94 : decode cX6_init 94 = .ok (.aload_n 0, 1) := by decide +kernel
theorem dX6_init_95 : decode cX6_init 95 = .ok (.getfield 52, 3) := by decide +kernel
theorem dX6_init_98 : decode cX6_init 98 = .ok (.iload_n 1, 1) := by decide +kernel
theorem dX6_init_99 : decode cX6_init 99 = .ok (.new 50, 3) := by decide +kernel
theorem dX6_init_102 : decode cX6_init 102 = .ok (.dup, 1) := by decide +kernel
theorem dX6_init_103 : decode cX6_init 103 = .ok (.invokespecial 56, 3) := by decide +kernel
theorem dX6_init_106 : decode cX6_init 106 = .ok (.aastore, 1) := by decide +kernel
theorem dX6_init_107 : decode cX6_init 107 = .ok (.iinc 1 1, 3) := by decide +kernel
theorem dX6_init_110 : decode cX6_init 110 = .ok (.goto (-21), 3) := by decide +kernel
theorem dX6_init_113 : decode cX6_init 113 = .ok (.aload_n 0, 1) := by decide +kernel
theorem dX6_init_114 : decode cX6_init 114 = .ok (.iconst 4, 1) := by decide +kernel
theorem dX6_init_115 : decode cX6_init 115 = .ok (.newarray .int, 2) := by decide +kernel
theorem dX6_init_117 : decode cX6_init 117 = .ok (.putfield 57, 3) := by decide +kernel
theorem dX6_init_120 : decode cX6_init 120 = .ok (.aload_n 0, 1) := by decide +kernel
theorem dX6_init_121 : decode cX6_init 121 = .ok (.iconst 4, 1) := by decide +kernel
theorem dX6_init_122 : decode cX6_init 122 = .ok (.newarray .int, 2) := by decide +kernel
theorem dX6_init_124 : decode cX6_init 124 = .ok (.putfield 61, 3) := by decide +kernel
theorem dX6_init_127 : decode cX6_init 127 = .ok (.aload_n 0, 1) := by decide +kernel
theorem dX6_init_128 : decode cX6_init 128 = .ok (.iconst 4, 1) := by decide +kernel
theorem dX6_init_129 : decode cX6_init 129 = .ok (.newarray .int, 2) := by decide +kernel
theorem dX6_init_131 : decode cX6_init 131 = .ok (.putfield 64, 3) := by decide +kernel
theorem dX6_init_134 : decode cX6_init 134 = .ok (.aload_n 0, 1) := by decide +kernel
theorem dX6_init_135 : decode cX6_init 135 = .ok (.invokevirtual 67, 3) := by decide +kernel
theorem dX6_init_138 : decode cX6_init 138 = .ok (.return_, 1) := by decide +kernel
theorem dX6_draft_0 : decode cX6_draft 0 = .ok (.iload_n 1, 1) := by decide +kernel
theorem dX6_draft_1 : decode cX6_draft 1 = .ok (.invokestatic 70, 3) := by decide +kernel
theorem dX6_draft_4 : decode cX6_draft 4 = .ok (.ifCond .ne 5, 3) := by decide +kernel
theorem dX6_draft_7 : decode cX6_draft 7 = .ok (.iconst (-1), 1) := by decide +kernel
theorem dX6_draft_8 : decode cX6_draft 8 = .ok (.ireturn, 1) := by decide +kernel
theorem dX6_draft_9 : decode cX6_draft 9 = .ok (.iload_n 1, 1) := by decide +kernel
theorem dX6_draft_10 : decode cX6_draft 10 = .ok (.iload_n 2, 1) := by decide +kernel
theorem dX6_draft_11 : decode cX6_draft 11 = .ok (.invokestatic 74, 3) := by decide +kernel
theorem dX6_draft_14 : decode cX6_draft 14 = .ok (.ifCond .eq 16, 3) := by decide +kernel
theorem dX6_draft_17 : decode cX6_draft 17 = .ok (.iload_n 1, 1) := by decide +kernel
theorem dX6_draft_18 : decode cX6_draft 18 = .ok (.iload_n 3, 1) := by decide +kernel
theorem dX6_draft_19 : decode cX6_draft 19 = .ok (.invokestatic 74, 3) := by decide +kernel
theorem dX6_draft_22 : decode cX6_draft 22 = .ok (.ifCond .eq 8, 3) := by decide +kernel
theorem dX6_draft_25 : decode cX6_draft 25 = .ok (.iload_n 2, 1) := by decide +kernel
theorem dX6_draft_26 : decode cX6_draft 26 = .ok (.iload_n 3, 1) := by decide +kernel
theorem dX6_draft_27 : decode cX6_draft 27 = .ok (.if_icmp .le 6, 3) := by decide +kernel
theorem dX6_draft_30 : decode cX6_draft 30 = .ok (.bipush (-2), 2) := by decide +kernel
theorem dX6_draft_32 : decode cX6_draft 32 = .ok (.ireturn, 1) := by decide +kernel
theorem dX6_draft_33 : decode cX6_draft 33 = .ok (.aload_n 0, 1) := by decide +kernel
theorem dX6_draft_34 : decode cX6_draft 34 = .ok (.getfield 57, 3) := by decide +kernel
theorem dX6_draft_37 : decode cX6_draft 37 = .ok (.iload_n 1, 1) := by decide +kernel
theorem dX6_draft_38 : decode cX6_draft 38 = .ok (.iload_n 2, 1) := by decide +kernel
theorem dX6_draft_39 : decode cX6_draft 39 = .ok (.iastore, 1) := by decide +kernel
theorem dX6_draft_40 : decode cX6_draft 40 = .ok (.aload_n 0, 1) := by decide +kernel
theorem dX6_draft_41 : decode cX6_draft 41 = .ok (.getfield 61, 3) := by decide +kernel
theorem dX6_draft_44 : decode cX6_draft 44 = .ok (.iload_n 1, 1) := by decide +kernel
theorem dX6_draft_45 : decode cX6_draft 45 = .ok (.iload_n 3, 1) := by decide +kernel
theorem dX6_draft_46 : decode cX6_draft 46 = .ok (.iastore, 1) := by decide +kernel
theorem dX6_draft_47 : decode cX6_draft 47 = .ok (.iload_n 3, 1) := by decide +kernel
theorem dX6_draft_48 : decode cX6_draft 48 = .ok (.iload_n 2, 1) := by decide +kernel
theorem dX6_draft_49 : decode cX6_draft 49 = .ok (.isub, 1) := by decide +kernel
theorem dX6_draft_50 : decode cX6_draft 50 = .ok (.iconst 1, 1) := by decide +kernel
theorem dX6_draft_51 : decode cX6_draft 51 = .ok (.iadd, 1) := by decide +kernel
theorem dX6_draft_52 : decode cX6_draft 52 = .ok (.ireturn, 1) := by decide +kernel
theorem dX6_rule_0 : decode cX6_rule 0 = .ok (.iload_n 1, 1) := by decide +kernel
theorem dX6_rule_1 : decode cX6_rule 1 = .ok (.invokestatic 78, 3) := by decide +kernel
theorem dX6_rule_4 : decode cX6_rule 4 = .ok (.ifCond .eq 10, 3) := by decide +kernel
theorem dX6_rule_7 : decode cX6_rule 7 = .ok (.iload_n 2, 1) := by decide +kernel
theorem dX6_rule_8 : decode cX6_rule 8 = .ok (.invokestatic 81, 3) := by decide +kernel
theorem dX6_rule_11 : decode cX6_rule 11 = .ok (.ifCond .ne 6, 3) := by decide +kernel
theorem dX6_rule_14 : decode cX6_rule 14 = .ok (.bipush (-2), 2) := by decide +kernel
theorem dX6_rule_16 : decode cX6_rule 16 = .ok (.ireturn, 1) := by decide +kernel
theorem dX6_rule_17 : decode cX6_rule 17 = .ok (.aload_n 0, 1) := by decide +kernel
theorem dX6_rule_18 : decode cX6_rule 18 = .ok (.getfield 10, 3) := by decide +kernel
theorem dX6_rule_21 : decode cX6_rule 21 = .ok (.getfield 84, 3) := by decide +kernel
theorem dX6_rule_24 : decode cX6_rule 24 = .ok (.bipush 16, 2) := by decide +kernel
theorem dX6_rule_26 : decode cX6_rule 26 = .ok (.if_icmp .lt 6, 3) := by decide +kernel
theorem dX6_rule_29 : decode cX6_rule 29 = .ok (.bipush (-4), 2) := by decide +kernel
theorem dX6_rule_31 : decode cX6_rule 31 = .ok (.ireturn, 1) := by decide +kernel
theorem dX6_rule_32 : decode cX6_rule 32 = .ok (.aload_n 0, 1) := by decide +kernel
theorem dX6_rule_33 : decode cX6_rule 33 = .ok (.getfield 10, 3) := by decide +kernel
theorem dX6_rule_36 : decode cX6_rule 36 = .ok (.aload_n 0, 1) := by decide +kernel
theorem dX6_rule_37 : decode cX6_rule 37 = .ok (.getfield 57, 3) := by decide +kernel
theorem dX6_rule_40 : decode cX6_rule 40 = .ok (.aload_n 0, 1) := by decide +kernel
theorem dX6_rule_41 : decode cX6_rule 41 = .ok (.getfield 61, 3) := by decide +kernel
theorem dX6_rule_44 : decode cX6_rule 44 = .ok (.iload_n 1, 1) := by decide +kernel
theorem dX6_rule_45 : decode cX6_rule 45 = .ok (.iload_n 2, 1) := by decide +kernel
theorem dX6_rule_46 : decode cX6_rule 46 = .ok (.invokevirtual 88, 3) := by decide +kernel
theorem dX6_rule_49 : decode cX6_rule 49 = .ok (.aload_n 0, 1) := by decide +kernel
theorem dX6_rule_50 : decode cX6_rule 50 = .ok (.invokevirtual 67, 3) := by decide +kernel
theorem dX6_rule_53 : decode cX6_rule 53 = .ok (.aload_n 0, 1) := by decide +kernel
theorem dX6_rule_54 : decode cX6_rule 54 = .ok (.invokevirtual 92, 3) := by decide +kernel
theorem dX6_rule_57 : decode cX6_rule 57 = .ok (.aload_n 0, 1) := by decide +kernel
theorem dX6_rule_58 : decode cX6_rule 58 = .ok (.getfield 10, 3) := by decide +kernel
theorem dX6_rule_61 : decode cX6_rule 61 = .ok (.getfield 84, 3) := by decide +kernel
theorem dX6_rule_64 : decode cX6_rule 64 = .ok (.iconst 1, 1) := by decide +kernel
theorem dX6_rule_65 : decode cX6_rule 65 = .ok (.isub, 1) := by decide +kernel
theorem dX6_rule_66 : decode cX6_rule 66 = .ok (.ireturn, 1) := by decide +kernel
theorem dX6_drop_0 : decode cX6_drop 0 = .ok (.aload_n 0, 1) := by decide +kernel
theorem dX6_drop_1 : decode cX6_drop 1 = .ok (.getfield 10, 3) := by decide +kernel
theorem dX6_drop_4 : decode cX6_drop 4 = .ok (.iload_n 1, 1) := by decide +kernel
theorem dX6_drop_5 : decode cX6_drop 5 = .ok (.invokevirtual 95, 3) := by decide +kernel
theorem dX6_drop_8 : decode cX6_drop 8 = .ok (.ifCond .ne 5, 3) := by decide +kernel
theorem dX6_drop_11 : decode cX6_drop 11 = .ok (.iconst (-1), 1) := by decide +kernel
theorem dX6_drop_12 : decode cX6_drop 12 = .ok (.ireturn, 1) := by decide +kernel
theorem dX6_drop_13 : decode cX6_drop 13 = .ok (.aload_n 0, 1) := by decide +kernel
theorem dX6_drop_14 : decode cX6_drop 14 = .ok (.getfield 10, 3) := by decide +kernel
theorem dX6_drop_17 : decode cX6_drop 17 = .ok (.iload_n 1, 1) := by decide +kernel
theorem dX6_drop_18 : decode cX6_drop 18 = .ok (.invokevirtual 98, 3) := by decide +kernel
theorem dX6_drop_21 : decode cX6_drop 21 = .ok (.aload_n 0, 1) := by decide +kernel
end
section
theorem dX6_drop_22 : decode cX6_drop 22 = .ok (.invokevirtual 92, 3) := by decide +kernel
theorem dX6_drop_25 : decode cX6_drop 25 = .ok (.aload_n 0, 1) := by decide +kernel
theorem dX6_drop_26 : decode cX6_drop 26 = .ok (.getfield 10, 3) := by decide +kernel
theorem dX6_drop_29 : decode cX6_drop 29 = .ok (.getfield 84, 3) := by decide +kernel
theorem dX6_drop_32 : decode cX6_drop 32 = .ok (.ireturn, 1) := by decide +kernel
theorem dX6_rank_0 : decode cX6_rank 0 = .ok (.aload_n 0, 1) := by decide +kernel
theorem dX6_rank_1 : decode cX6_rank 1 = .ok (.getfield 10, 3) := by decide +kernel
theorem dX6_rank_4 : decode cX6_rank 4 = .ok (.iload_n 1, 1) := by decide +kernel
theorem dX6_rank_5 : decode cX6_rank 5 = .ok (.invokevirtual 95, 3) := by decide +kernel
theorem dX6_rank_8 : decode cX6_rank 8 = .ok (.ifCond .ne 5, 3) := by decide +kernel
theorem dX6_rank_11 : decode cX6_rank 11 = .ok (.iconst (-1), 1) := by decide +kernel
theorem dX6_rank_12 : decode cX6_rank 12 = .ok (.ireturn, 1) := by decide +kernel
theorem dX6_rank_13 : decode cX6_rank 13 = .ok (.iload_n 2, 1) := by decide +kernel
theorem dX6_rank_14 : decode cX6_rank 14 = .ok (.invokestatic 78, 3) := by decide +kernel
theorem dX6_rank_17 : decode cX6_rank 17 = .ok (.ifCond .ne 6, 3) := by decide +kernel
theorem dX6_rank_20 : decode cX6_rank 20 = .ok (.bipush (-2), 2) := by decide +kernel
theorem dX6_rank_22 : decode cX6_rank 22 = .ok (.ireturn, 1) := by decide +kernel
theorem dX6_rank_23 : decode cX6_rank 23 = .ok (.aload_n 0, 1) := by decide +kernel
theorem dX6_rank_24 : decode cX6_rank 24 = .ok (.getfield 10, 3) := by decide +kernel
theorem dX6_rank_27 : decode cX6_rank 27 = .ok (.getfield 102, 3) := by decide +kernel
theorem dX6_rank_30 : decode cX6_rank 30 = .ok (.iload_n 1, 1) := by decide +kernel
theorem dX6_rank_31 : decode cX6_rank 31 = .ok (.iload_n 2, 1) := by decide +kernel
theorem dX6_rank_32 : decode cX6_rank 32 = .ok (.iastore, 1) := by decide +kernel
theorem dX6_rank_33 : decode cX6_rank 33 = .ok (.aload_n 0, 1) := by decide +kernel
theorem dX6_rank_34 : decode cX6_rank 34 = .ok (.invokevirtual 92, 3) := by decide +kernel
theorem dX6_rank_37 : decode cX6_rank 37 = .ok (.aload_n 0, 1) := by decide +kernel
theorem dX6_rank_38 : decode cX6_rank 38 = .ok (.getfield 10, 3) := by decide +kernel
theorem dX6_rank_41 : decode cX6_rank 41 = .ok (.getfield 105, 3) := by decide +kernel
theorem dX6_rank_44 : decode cX6_rank 44 = .ok (.iload_n 1, 1) := by decide +kernel
theorem dX6_rank_45 : decode cX6_rank 45 = .ok (.iaload, 1) := by decide +kernel
theorem dX6_rank_46 : decode cX6_rank 46 = .ok (.ireturn, 1) := by decide +kernel
theorem dX6_told_0 : decode cX6_told 0 = .ok (.aload_n 0, 1) := by decide +kernel
theorem dX6_told_1 : decode cX6_told 1 = .ok (.getfield 10, 3) := by decide +kernel
theorem dX6_told_4 : decode cX6_told 4 = .ok (.iload_n 1, 1) := by decide +kernel
theorem dX6_told_5 : decode cX6_told 5 = .ok (.invokevirtual 95, 3) := by decide +kernel
theorem dX6_told_8 : decode cX6_told 8 = .ok (.ifCond .ne 5, 3) := by decide +kernel
theorem dX6_told_11 : decode cX6_told 11 = .ok (.iconst (-1), 1) := by decide +kernel
theorem dX6_told_12 : decode cX6_told 12 = .ok (.ireturn, 1) := by decide +kernel
theorem dX6_told_13 : decode cX6_told 13 = .ok (.iload_n 2, 1) := by decide +kernel
theorem dX6_told_14 : decode cX6_told 14 = .ok (.tableswitch 56 0 2 #[26, 36, 46], 26) := by decide +kernel
theorem dX6_told_40 : decode cX6_told 40 = .ok (.aload_n 0, 1) := by decide +kernel
theorem dX6_told_41 : decode cX6_told 41 = .ok (.getfield 10, 3) := by decide +kernel
theorem dX6_told_44 : decode cX6_told 44 = .ok (.getfield 102, 3) := by decide +kernel
theorem dX6_told_47 : decode cX6_told 47 = .ok (.iload_n 1, 1) := by decide +kernel
theorem dX6_told_48 : decode cX6_told 48 = .ok (.iaload, 1) := by decide +kernel
theorem dX6_told_49 : decode cX6_told 49 = .ok (.ireturn, 1) := by decide +kernel
theorem dX6_told_50 : decode cX6_told 50 = .ok (.aload_n 0, 1) := by decide +kernel
theorem dX6_told_51 : decode cX6_told 51 = .ok (.getfield 10, 3) := by decide +kernel
theorem dX6_told_54 : decode cX6_told 54 = .ok (.getfield 108, 3) := by decide +kernel
theorem dX6_told_57 : decode cX6_told 57 = .ok (.iload_n 1, 1) := by decide +kernel
theorem dX6_told_58 : decode cX6_told 58 = .ok (.iaload, 1) := by decide +kernel
theorem dX6_told_59 : decode cX6_told 59 = .ok (.ireturn, 1) := by decide +kernel
theorem dX6_told_60 : decode cX6_told 60 = .ok (.aload_n 0, 1) := by decide +kernel
theorem dX6_told_61 : decode cX6_told 61 = .ok (.getfield 10, 3) := by decide +kernel
theorem dX6_told_64 : decode cX6_told 64 = .ok (.getfield 105, 3) := by decide +kernel
theorem dX6_told_67 : decode cX6_told 67 = .ok (.iload_n 1, 1) := by decide +kernel
theorem dX6_told_68 : decode cX6_told 68 = .ok (.iaload, 1) := by decide +kernel
theorem dX6_told_69 : decode cX6_told 69 = .ok (.ireturn, 1) := by decide +kernel
theorem dX6_told_70 : decode cX6_told 70 = .ok (.aload_n 0, 1) := by decide +kernel
theorem dX6_told_71 : decode cX6_told 71 = .ok (.iload_n 1, 1) := by decide +kernel
theorem dX6_told_72 : decode cX6_told 72 = .ok (.iload_n 2, 1) := by decide +kernel
theorem dX6_told_73 : decode cX6_told 73 = .ok (.bipush 10, 2) := by decide +kernel
theorem dX6_told_75 : decode cX6_told 75 = .ok (.isub, 1) := by decide +kernel
theorem dX6_told_76 : decode cX6_told 76 = .ok (.invokevirtual 111, 3) := by decide +kernel
theorem dX6_told_79 : decode cX6_told 79 = .ok (.ireturn, 1) := by decide +kernel
theorem dX6_first_0 : decode cX6_first 0 = .ok (.iload_n 1, 1) := by decide +kernel
theorem dX6_first_1 : decode cX6_first 1 = .ok (.iload_n 2, 1) := by decide +kernel
theorem dX6_first_2 : decode cX6_first 2 = .ok (.iload_n 3, 1) := by decide +kernel
theorem dX6_first_3 : decode cX6_first 3 = .ok (.iload 4, 2) := by decide +kernel
theorem dX6_first_5 : decode cX6_first 5 = .ok (.invokestatic 115, 3) := by decide +kernel
theorem dX6_first_8 : decode cX6_first 8 = .ok (.ifCond .ne 6, 3) := by decide +kernel
theorem dX6_first_11 : decode cX6_first 11 = .ok (.bipush (-2), 2) := by decide +kernel
theorem dX6_first_13 : decode cX6_first 13 = .ok (.ireturn, 1) := by decide +kernel
theorem dX6_first_14 : decode cX6_first 14 = .ok (.aload_n 0, 1) := by decide +kernel
theorem dX6_first_15 : decode cX6_first 15 = .ok (.iload_n 1, 1) := by decide +kernel
theorem dX6_first_16 : decode cX6_first 16 = .ok (.iload_n 2, 1) := by decide +kernel
theorem dX6_first_17 : decode cX6_first 17 = .ok (.iload_n 3, 1) := by decide +kernel
theorem dX6_first_18 : decode cX6_first 18 = .ok (.iload 4, 2) := by decide +kernel
theorem dX6_first_20 : decode cX6_first 20 = .ok (.invokevirtual 119, 3) := by decide +kernel
theorem dX6_first_23 : decode cX6_first 23 = .ok (.aload_n 0, 1) := by decide +kernel
theorem dX6_first_24 : decode cX6_first 24 = .ok (.aload_n 0, 1) := by decide +kernel
theorem dX6_first_25 : decode cX6_first 25 = .ok (.getfield 21, 3) := by decide +kernel
theorem dX6_first_28 : decode cX6_first 28 = .ok (.aload_n 0, 1) := by decide +kernel
theorem dX6_first_29 : decode cX6_first 29 = .ok (.getfield 64, 3) := by decide +kernel
theorem dX6_first_32 : decode cX6_first 32 = .ok (.invokevirtual 123, 3) := by decide +kernel
theorem dX6_first_35 : decode cX6_first 35 = .ok (.invokestatic 127, 3) := by decide +kernel
theorem dX6_first_38 : decode cX6_first 38 = .ok (.invokevirtual 131, 3) := by decide +kernel
theorem dX6_first_41 : decode cX6_first 41 = .ok (.ireturn, 1) := by decide +kernel
theorem dX6_wins_0 : decode cX6_wins 0 = .ok (.aload_n 0, 1) := by decide +kernel
theorem dX6_wins_1 : decode cX6_wins 1 = .ok (.getfield 10, 3) := by decide +kernel
theorem dX6_wins_4 : decode cX6_wins 4 = .ok (.iload_n 1, 1) := by decide +kernel
theorem dX6_wins_5 : decode cX6_wins 5 = .ok (.invokevirtual 95, 3) := by decide +kernel
theorem dX6_wins_8 : decode cX6_wins 8 = .ok (.ifCond .ne 5, 3) := by decide +kernel
theorem dX6_wins_11 : decode cX6_wins 11 = .ok (.iconst (-1), 1) := by decide +kernel
theorem dX6_wins_12 : decode cX6_wins 12 = .ok (.ireturn, 1) := by decide +kernel
theorem dX6_wins_13 : decode cX6_wins 13 = .ok (.aload_n 0, 1) := by decide +kernel
theorem dX6_wins_14 : decode cX6_wins 14 = .ok (.getfield 30, 3) := by decide +kernel
theorem dX6_wins_17 : decode cX6_wins 17 = .ok (.invokevirtual 134, 3) := by decide +kernel
theorem dX6_wins_20 : decode cX6_wins 20 = .ok (.aload_n 0, 1) := by decide +kernel
theorem dX6_wins_21 : decode cX6_wins 21 = .ok (.getfield 30, 3) := by decide +kernel
theorem dX6_wins_24 : decode cX6_wins 24 = .ok (.getfield 137, 3) := by decide +kernel
theorem dX6_wins_27 : decode cX6_wins 27 = .ok (.aload_n 0, 1) := by decide +kernel
theorem dX6_wins_28 : decode cX6_wins 28 = .ok (.getfield 10, 3) := by decide +kernel
theorem dX6_wins_31 : decode cX6_wins 31 = .ok (.getfield 105, 3) := by decide +kernel
theorem dX6_wins_34 : decode cX6_wins 34 = .ok (.iload_n 1, 1) := by decide +kernel
theorem dX6_wins_35 : decode cX6_wins 35 = .ok (.iaload, 1) := by decide +kernel
theorem dX6_wins_36 : decode cX6_wins 36 = .ok (.iaload, 1) := by decide +kernel
theorem dX6_wins_37 : decode cX6_wins 37 = .ok (.ireturn, 1) := by decide +kernel
theorem dX6_overlap_0 : decode cX6_overlap 0 = .ok (.aload_n 0, 1) := by decide +kernel
theorem dX6_overlap_1 : decode cX6_overlap 1 = .ok (.getfield 10, 3) := by decide +kernel
theorem dX6_overlap_4 : decode cX6_overlap 4 = .ok (.iload_n 1, 1) := by decide +kernel
theorem dX6_overlap_5 : decode cX6_overlap 5 = .ok (.invokevirtual 95, 3) := by decide +kernel
theorem dX6_overlap_8 : decode cX6_overlap 8 = .ok (.ifCond .eq 14, 3) := by decide +kernel
theorem dX6_overlap_11 : decode cX6_overlap 11 = .ok (.aload_n 0, 1) := by decide +kernel
theorem dX6_overlap_12 : decode cX6_overlap 12 = .ok (.getfield 10, 3) := by decide +kernel
theorem dX6_overlap_15 : decode cX6_overlap 15 = .ok (.iload_n 2, 1) := by decide +kernel
theorem dX6_overlap_16 : decode cX6_overlap 16 = .ok (.invokevirtual 95, 3) := by decide +kernel
theorem dX6_overlap_19 : decode cX6_overlap 19 = .ok (.ifCond .ne 5, 3) := by decide +kernel
theorem dX6_overlap_22 : decode cX6_overlap 22 = .ok (.iconst (-1), 1) := by decide +kernel
theorem dX6_overlap_23 : decode cX6_overlap 23 = .ok (.ireturn, 1) := by decide +kernel
theorem dX6_overlap_24 : decode cX6_overlap 24 = .ok (.iconst 1, 1) := by decide +kernel
theorem dX6_overlap_25 : decode cX6_overlap 25 = .ok (.istore_n 3, 1) := by decide +kernel
theorem dX6_overlap_26 : decode cX6_overlap 26 = .ok (.iconst 0, 1) := by decide +kernel
theorem dX6_overlap_27 : decode cX6_overlap 27 = .ok (.istore 4, 2) := by decide +kernel
theorem dX6_overlap_29 : decode cX6_overlap 29 = .ok (.iload 4, 2) := by decide +kernel
theorem dX6_overlap_31 : decode cX6_overlap 31 = .ok (.iconst 4, 1) := by decide +kernel
theorem dX6_overlap_32 : decode cX6_overlap 32 = .ok (.if_icmp .ge 23, 3) := by decide +kernel
theorem dX6_overlap_35 : decode cX6_overlap 35 = .ok (.iload_n 3, 1) := by decide +kernel
theorem dX6_overlap_36 : decode cX6_overlap 36 = .ok (.aload_n 0, 1) := by decide +kernel
theorem dX6_overlap_37 : decode cX6_overlap 37 = .ok (.getfield 10, 3) := by decide +kernel
theorem dX6_overlap_40 : decode cX6_overlap 40 = .ok (.iload_n 1, 1) := by decide +kernel
theorem dX6_overlap_41 : decode cX6_overlap 41 = .ok (.iload_n 2, 1) := by decide +kernel
theorem dX6_overlap_42 : decode cX6_overlap 42 = .ok (.iload 4, 2) := by decide +kernel
theorem dX6_overlap_44 : decode cX6_overlap 44 = .ok (.invokevirtual 140, 3) := by decide +kernel
theorem dX6_overlap_47 : decode cX6_overlap 47 = .ok (.imul, 1) := by decide +kernel
theorem dX6_overlap_48 : decode cX6_overlap 48 = .ok (.istore_n 3, 1) := by decide +kernel
theorem dX6_overlap_49 : decode cX6_overlap 49 = .ok (.iinc 4 1, 3) := by decide +kernel
theorem dX6_overlap_52 : decode cX6_overlap 52 = .ok (.goto (-23), 3) := by decide +kernel
theorem dX6_overlap_55 : decode cX6_overlap 55 = .ok (.iload_n 3, 1) := by decide +kernel
theorem dX6_overlap_56 : decode cX6_overlap 56 = .ok (.ireturn, 1) := by decide +kernel
theorem dX6_covered_0 : decode cX6_covered 0 = .ok (.aload_n 0, 1) := by decide +kernel
theorem dX6_covered_1 : decode cX6_covered 1 = .ok (.getfield 10, 3) := by decide +kernel
theorem dX6_covered_4 : decode cX6_covered 4 = .ok (.iload_n 1, 1) := by decide +kernel
theorem dX6_covered_5 : decode cX6_covered 5 = .ok (.invokevirtual 95, 3) := by decide +kernel
theorem dX6_covered_8 : decode cX6_covered 8 = .ok (.ifCond .ne 5, 3) := by decide +kernel
theorem dX6_covered_11 : decode cX6_covered 11 = .ok (.iconst (-1), 1) := by decide +kernel
theorem dX6_covered_12 : decode cX6_covered 12 = .ok (.ireturn, 1) := by decide +kernel
theorem dX6_covered_13 : decode cX6_covered 13 = .ok (.aload_n 0, 1) := by decide +kernel
theorem dX6_covered_14 : decode cX6_covered 14 = .ok (.getfield 10, 3) := by decide +kernel
theorem dX6_covered_17 : decode cX6_covered 17 = .ok (.iload_n 1, 1) := by decide +kernel
theorem dX6_covered_18 : decode cX6_covered 18 = .ok (.invokevirtual 144, 3) := by decide +kernel
theorem dX6_covered_21 : decode cX6_covered 21 = .ok (.ireturn, 1) := by decide +kernel
theorem dX6_idle_0 : decode cX6_idle 0 = .ok (.aload_n 0, 1) := by decide +kernel
theorem dX6_idle_1 : decode cX6_idle 1 = .ok (.getfield 10, 3) := by decide +kernel
theorem dX6_idle_4 : decode cX6_idle 4 = .ok (.iload_n 1, 1) := by decide +kernel
theorem dX6_idle_5 : decode cX6_idle 5 = .ok (.invokevirtual 95, 3) := by decide +kernel
theorem dX6_idle_8 : decode cX6_idle 8 = .ok (.ifCond .ne 5, 3) := by decide +kernel
theorem dX6_idle_11 : decode cX6_idle 11 = .ok (.iconst (-1), 1) := by decide +kernel
theorem dX6_idle_12 : decode cX6_idle 12 = .ok (.ireturn, 1) := by decide +kernel
theorem dX6_idle_13 : decode cX6_idle 13 = .ok (.aload_n 0, 1) := by decide +kernel
theorem dX6_idle_14 : decode cX6_idle 14 = .ok (.getfield 30, 3) := by decide +kernel
theorem dX6_idle_17 : decode cX6_idle 17 = .ok (.invokevirtual 134, 3) := by decide +kernel
theorem dX6_idle_20 : decode cX6_idle 20 = .ok (.aload_n 0, 1) := by decide +kernel
theorem dX6_idle_21 : decode cX6_idle 21 = .ok (.getfield 30, 3) := by decide +kernel
theorem dX6_idle_24 : decode cX6_idle 24 = .ok (.getfield 147, 3) := by decide +kernel
theorem dX6_idle_27 : decode cX6_idle 27 = .ok (.aload_n 0, 1) := by decide +kernel
theorem dX6_idle_28 : decode cX6_idle 28 = .ok (.getfield 10, 3) := by decide +kernel
theorem dX6_idle_31 : decode cX6_idle 31 = .ok (.getfield 105, 3) := by decide +kernel
theorem dX6_idle_34 : decode cX6_idle 34 = .ok (.iload_n 1, 1) := by decide +kernel
theorem dX6_idle_35 : decode cX6_idle 35 = .ok (.iaload, 1) := by decide +kernel
theorem dX6_idle_36 : decode cX6_idle 36 = .ok (.baload, 1) := by decide +kernel
theorem dX6_idle_37 : decode cX6_idle 37 = .ok (.ifCond .eq 7, 3) := by decide +kernel
theorem dX6_idle_40 : decode cX6_idle 40 = .ok (.iconst 0, 1) := by decide +kernel
theorem dX6_idle_41 : decode cX6_idle 41 = .ok (.goto 4, 3) := by decide +kernel
theorem dX6_idle_44 : decode cX6_idle 44 = .ok (.iconst 1, 1) := by decide +kernel
theorem dX6_idle_45 : decode cX6_idle 45 = .ok (.ireturn, 1) := by decide +kernel
theorem dX6_packets_0 : decode cX6_packets 0 = .ok (.iload_n 1, 1) := by decide +kernel
theorem dX6_packets_1 : decode cX6_packets 1 = .ok (.iconst (-1), 1) := by decide +kernel
theorem dX6_packets_2 : decode cX6_packets 2 = .ok (.if_icmp .eq 13, 3) := by decide +kernel
theorem dX6_packets_5 : decode cX6_packets 5 = .ok (.iload_n 1, 1) := by decide +kernel
theorem dX6_packets_6 : decode cX6_packets 6 = .ok (.invokestatic 81, 3) := by decide +kernel
theorem dX6_packets_9 : decode cX6_packets 9 = .ok (.ifCond .ne 6, 3) := by decide +kernel
theorem dX6_packets_12 : decode cX6_packets 12 = .ok (.bipush (-2), 2) := by decide +kernel
theorem dX6_packets_14 : decode cX6_packets 14 = .ok (.ireturn, 1) := by decide +kernel
theorem dX6_packets_15 : decode cX6_packets 15 = .ok (.aload_n 0, 1) := by decide +kernel
theorem dX6_packets_16 : decode cX6_packets 16 = .ok (.getfield 30, 3) := by decide +kernel
theorem dX6_packets_19 : decode cX6_packets 19 = .ok (.invokevirtual 134, 3) := by decide +kernel
theorem dX6_packets_22 : decode cX6_packets 22 = .ok (.iload_n 1, 1) := by decide +kernel
theorem dX6_packets_23 : decode cX6_packets 23 = .ok (.iconst (-1), 1) := by decide +kernel
theorem dX6_packets_24 : decode cX6_packets 24 = .ok (.if_icmp .ne 13, 3) := by decide +kernel
theorem dX6_packets_27 : decode cX6_packets 27 = .ok (.aload_n 0, 1) := by decide +kernel
theorem dX6_packets_28 : decode cX6_packets 28 = .ok (.getfield 30, 3) := by decide +kernel
theorem dX6_packets_31 : decode cX6_packets 31 = .ok (.getfield 151, 3) := by decide +kernel
theorem dX6_packets_34 : decode cX6_packets 34 = .ok (.goto 11, 3) := by decide +kernel
theorem dX6_packets_37 : decode cX6_packets 37 = .ok (.aload_n 0, 1) := by decide +kernel
theorem dX6_packets_38 : decode cX6_packets 38 = .ok (.getfield 30, 3) := by decide +kernel
theorem dX6_packets_41 : decode cX6_packets 41 = .ok (.iload_n 1, 1) := by decide +kernel
theorem dX6_packets_42 : decode cX6_packets 42 = .ok (.invokevirtual 154, 3) := by decide +kernel
theorem dX6_packets_45 : decode cX6_packets 45 = .ok (.ireturn, 1) := by decide +kernel
theorem dX6_split_0 : decode cX6_split 0 = .ok (.aload_n 0, 1) := by decide +kernel
theorem dX6_split_1 : decode cX6_split 1 = .ok (.getfield 10, 3) := by decide +kernel
theorem dX6_split_4 : decode cX6_split 4 = .ok (.iload_n 1, 1) := by decide +kernel
theorem dX6_split_5 : decode cX6_split 5 = .ok (.invokevirtual 95, 3) := by decide +kernel
theorem dX6_split_8 : decode cX6_split 8 = .ok (.ifCond .eq 10, 3) := by decide +kernel
theorem dX6_split_11 : decode cX6_split 11 = .ok (.iload_n 2, 1) := by decide +kernel
theorem dX6_split_12 : decode cX6_split 12 = .ok (.invokestatic 70, 3) := by decide +kernel
theorem dX6_split_15 : decode cX6_split 15 = .ok (.ifCond .ne 5, 3) := by decide +kernel
theorem dX6_split_18 : decode cX6_split 18 = .ok (.iconst (-1), 1) := by decide +kernel
theorem dX6_split_19 : decode cX6_split 19 = .ok (.ireturn, 1) := by decide +kernel
theorem dX6_split_20 : decode cX6_split 20 = .ok (.iconst 0, 1) := by decide +kernel
theorem dX6_split_21 : decode cX6_split 21 = .ok (.istore_n 3, 1) := by decide +kernel
theorem dX6_split_22 : decode cX6_split 22 = .ok (.iconst 0, 1) := by decide +kernel
theorem dX6_split_23 : decode cX6_split 23 = .ok (.istore 4, 2) := by decide +kernel
theorem dX6_split_25 : decode cX6_split 25 = .ok (.iload 4, 2) := by decide +kernel
theorem dX6_split_27 : decode cX6_split 27 = .ok (.getstatic 157, 3) := by decide +kernel
theorem dX6_split_30 : decode cX6_split 30 = .ok (.iload_n 2, 1) := by decide +kernel
theorem dX6_split_31 : decode cX6_split 31 = .ok (.iaload, 1) := by decide +kernel
theorem dX6_split_32 : decode cX6_split 32 = .ok (.if_icmp .gt 23, 3) := by decide +kernel
theorem dX6_split_35 : decode cX6_split 35 = .ok (.iload_n 3, 1) := by decide +kernel
theorem dX6_split_36 : decode cX6_split 36 = .ok (.aload_n 0, 1) := by decide +kernel
theorem dX6_split_37 : decode cX6_split 37 = .ok (.getfield 10, 3) := by decide +kernel
theorem dX6_split_40 : decode cX6_split 40 = .ok (.iload_n 1, 1) := by decide +kernel
theorem dX6_split_41 : decode cX6_split 41 = .ok (.iload_n 2, 1) := by decide +kernel
theorem dX6_split_42 : decode cX6_split 42 = .ok (.iload 4, 2) := by decide +kernel
theorem dX6_split_44 : decode cX6_split 44 = .ok (.invokevirtual 160, 3) := by decide +kernel
theorem dX6_split_47 : decode cX6_split 47 = .ok (.iadd, 1) := by decide +kernel
theorem dX6_split_48 : decode cX6_split 48 = .ok (.istore_n 3, 1) := by decide +kernel
theorem dX6_split_49 : decode cX6_split 49 = .ok (.iinc 4 1, 3) := by decide +kernel
theorem dX6_split_52 : decode cX6_split 52 = .ok (.goto (-27), 3) := by decide +kernel
theorem dX6_split_55 : decode cX6_split 55 = .ok (.iload_n 3, 1) := by decide +kernel
theorem dX6_split_56 : decode cX6_split 56 = .ok (.ireturn, 1) := by decide +kernel
theorem dX6_prefix_0 : decode cX6_prefix 0 = .ok (.aload_n 0, 1) := by decide +kernel
theorem dX6_prefix_1 : decode cX6_prefix 1 = .ok (.getfield 10, 3) := by decide +kernel
theorem dX6_prefix_4 : decode cX6_prefix 4 = .ok (.iload_n 1, 1) := by decide +kernel
theorem dX6_prefix_5 : decode cX6_prefix 5 = .ok (.invokevirtual 95, 3) := by decide +kernel
theorem dX6_prefix_8 : decode cX6_prefix 8 = .ok (.ifCond .eq 10, 3) := by decide +kernel
theorem dX6_prefix_11 : decode cX6_prefix 11 = .ok (.iload_n 2, 1) := by decide +kernel
theorem dX6_prefix_12 : decode cX6_prefix 12 = .ok (.invokestatic 70, 3) := by decide +kernel
theorem dX6_prefix_15 : decode cX6_prefix 15 = .ok (.ifCond .ne 5, 3) := by decide +kernel
theorem dX6_prefix_18 : decode cX6_prefix 18 = .ok (.iconst (-1), 1) := by decide +kernel
theorem dX6_prefix_19 : decode cX6_prefix 19 = .ok (.ireturn, 1) := by decide +kernel
theorem dX6_prefix_20 : decode cX6_prefix 20 = .ok (.iload 4, 2) := by decide +kernel
theorem dX6_prefix_22 : decode cX6_prefix 22 = .ok (.ifCond .eq 12, 3) := by decide +kernel
theorem dX6_prefix_25 : decode cX6_prefix 25 = .ok (.iload 4, 2) := by decide +kernel
theorem dX6_prefix_27 : decode cX6_prefix 27 = .ok (.iconst 1, 1) := by decide +kernel
theorem dX6_prefix_28 : decode cX6_prefix 28 = .ok (.if_icmp .eq 6, 3) := by decide +kernel
theorem dX6_prefix_31 : decode cX6_prefix 31 = .ok (.bipush (-2), 2) := by decide +kernel
theorem dX6_prefix_33 : decode cX6_prefix 33 = .ok (.ireturn, 1) := by decide +kernel
theorem dX6_prefix_34 : decode cX6_prefix 34 = .ok (.aload_n 0, 1) := by decide +kernel
theorem dX6_prefix_35 : decode cX6_prefix 35 = .ok (.getfield 10, 3) := by decide +kernel
theorem dX6_prefix_38 : decode cX6_prefix 38 = .ok (.iload_n 1, 1) := by decide +kernel
theorem dX6_prefix_39 : decode cX6_prefix 39 = .ok (.iload_n 2, 1) := by decide +kernel
theorem dX6_prefix_40 : decode cX6_prefix 40 = .ok (.iload_n 3, 1) := by decide +kernel
theorem dX6_prefix_41 : decode cX6_prefix 41 = .ok (.invokevirtual 163, 3) := by decide +kernel
theorem dX6_prefix_44 : decode cX6_prefix 44 = .ok (.istore 5, 2) := by decide +kernel
theorem dX6_prefix_46 : decode cX6_prefix 46 = .ok (.iload 5, 2) := by decide +kernel
theorem dX6_prefix_48 : decode cX6_prefix 48 = .ok (.ifCond .ge 6, 3) := by decide +kernel
theorem dX6_prefix_51 : decode cX6_prefix 51 = .ok (.bipush (-6), 2) := by decide +kernel
theorem dX6_prefix_53 : decode cX6_prefix 53 = .ok (.ireturn, 1) := by decide +kernel
theorem dX6_prefix_54 : decode cX6_prefix 54 = .ok (.iload 4, 2) := by decide +kernel
theorem dX6_prefix_56 : decode cX6_prefix 56 = .ok (.ifCond .ne 8, 3) := by decide +kernel
theorem dX6_prefix_59 : decode cX6_prefix 59 = .ok (.iload 5, 2) := by decide +kernel
theorem dX6_prefix_61 : decode cX6_prefix 61 = .ok (.goto 14, 3) := by decide +kernel
theorem dX6_prefix_64 : decode cX6_prefix 64 = .ok (.aload_n 0, 1) := by decide +kernel
theorem dX6_prefix_65 : decode cX6_prefix 65 = .ok (.getfield 10, 3) := by decide +kernel
theorem dX6_prefix_68 : decode cX6_prefix 68 = .ok (.iload_n 1, 1) := by decide +kernel
theorem dX6_prefix_69 : decode cX6_prefix 69 = .ok (.iload_n 2, 1) := by decide +kernel
theorem dX6_prefix_70 : decode cX6_prefix 70 = .ok (.iload 5, 2) := by decide +kernel
theorem dX6_prefix_72 : decode cX6_prefix 72 = .ok (.invokevirtual 166, 3) := by decide +kernel
theorem dX6_prefix_75 : decode cX6_prefix 75 = .ok (.ireturn, 1) := by decide +kernel
theorem dX6_tuple_0 : decode cX6_tuple 0 = .ok (.iload_n 2, 1) := by decide +kernel
theorem dX6_tuple_1 : decode cX6_tuple 1 = .ok (.ifCond .lt 9, 3) := by decide +kernel
theorem dX6_tuple_4 : decode cX6_tuple 4 = .ok (.iload_n 2, 1) := by decide +kernel
theorem dX6_tuple_5 : decode cX6_tuple 5 = .ok (.bipush 6, 2) := by decide +kernel
theorem dX6_tuple_7 : decode cX6_tuple 7 = .ok (.if_icmp .le 6, 3) := by decide +kernel
theorem dX6_tuple_10 : decode cX6_tuple 10 = .ok (.bipush (-2), 2) := by decide +kernel
theorem dX6_tuple_12 : decode cX6_tuple 12 = .ok (.ireturn, 1) := by decide +kernel
theorem dX6_tuple_13 : decode cX6_tuple 13 = .ok (.aload_n 0, 1) := by decide +kernel
theorem dX6_tuple_14 : decode cX6_tuple 14 = .ok (.getfield 37, 3) := by decide +kernel
theorem dX6_tuple_17 : decode cX6_tuple 17 = .ok (.invokevirtual 169, 3) := by decide +kernel
theorem dX6_tuple_20 : decode cX6_tuple 20 = .ok (.iload_n 1, 1) := by decide +kernel
theorem dX6_tuple_21 : decode cX6_tuple 21 = .ok (.ifCond .lt 14, 3) := by decide +kernel
theorem dX6_tuple_24 : decode cX6_tuple 24 = .ok (.iload_n 1, 1) := by decide +kernel
theorem dX6_tuple_25 : decode cX6_tuple 25 = .ok (.aload_n 0, 1) := by decide +kernel
theorem dX6_tuple_26 : decode cX6_tuple 26 = .ok (.getfield 37, 3) := by decide +kernel
theorem dX6_tuple_29 : decode cX6_tuple 29 = .ok (.getfield 170, 3) := by decide +kernel
theorem dX6_tuple_32 : decode cX6_tuple 32 = .ok (.if_icmp .lt 6, 3) := by decide +kernel
theorem dX6_tuple_35 : decode cX6_tuple 35 = .ok (.bipush (-6), 2) := by decide +kernel
theorem dX6_tuple_37 : decode cX6_tuple 37 = .ok (.ireturn, 1) := by decide +kernel
theorem dX6_tuple_38 : decode cX6_tuple 38 = .ok (.iload_n 2, 1) := by decide +kernel
theorem dX6_tuple_39 : decode cX6_tuple 39 = .ok (.tableswitch 59 4 6 #[25, 35, 49], 25) := by decide +kernel
theorem dX6_tuple_64 : decode cX6_tuple 64 = .ok (.aload_n 0, 1) := by decide +kernel
theorem dX6_tuple_65 : decode cX6_tuple 65 = .ok (.getfield 37, 3) := by decide +kernel
theorem dX6_tuple_68 : decode cX6_tuple 68 = .ok (.getfield 171, 3) := by decide +kernel
theorem dX6_tuple_71 : decode cX6_tuple 71 = .ok (.iload_n 1, 1) := by decide +kernel
theorem dX6_tuple_72 : decode cX6_tuple 72 = .ok (.iaload, 1) := by decide +kernel
theorem dX6_tuple_73 : decode cX6_tuple 73 = .ok (.ireturn, 1) := by decide +kernel
theorem dX6_tuple_74 : decode cX6_tuple 74 = .ok (.aload_n 0, 1) := by decide +kernel
theorem dX6_tuple_75 : decode cX6_tuple 75 = .ok (.aload_n 0, 1) := by decide +kernel
theorem dX6_tuple_76 : decode cX6_tuple 76 = .ok (.getfield 37, 3) := by decide +kernel
theorem dX6_tuple_79 : decode cX6_tuple 79 = .ok (.getfield 174, 3) := by decide +kernel
theorem dX6_tuple_82 : decode cX6_tuple 82 = .ok (.iload_n 1, 1) := by decide +kernel
theorem dX6_tuple_83 : decode cX6_tuple 83 = .ok (.iaload, 1) := by decide +kernel
theorem dX6_tuple_84 : decode cX6_tuple 84 = .ok (.invokevirtual 131, 3) := by decide +kernel
theorem dX6_tuple_87 : decode cX6_tuple 87 = .ok (.ireturn, 1) := by decide +kernel
theorem dX6_tuple_88 : decode cX6_tuple 88 = .ok (.aload_n 0, 1) := by decide +kernel
theorem dX6_tuple_89 : decode cX6_tuple 89 = .ok (.getfield 37, 3) := by decide +kernel
theorem dX6_tuple_92 : decode cX6_tuple 92 = .ok (.getfield 177, 3) := by decide +kernel
theorem dX6_tuple_95 : decode cX6_tuple 95 = .ok (.iload_n 1, 1) := by decide +kernel
theorem dX6_tuple_96 : decode cX6_tuple 96 = .ok (.iaload, 1) := by decide +kernel
theorem dX6_tuple_97 : decode cX6_tuple 97 = .ok (.ireturn, 1) := by decide +kernel
theorem dX6_tuple_98 : decode cX6_tuple 98 = .ok (.aload_n 0, 1) := by decide +kernel
theorem dX6_tuple_99 : decode cX6_tuple 99 = .ok (.getfield 37, 3) := by decide +kernel
theorem dX6_tuple_102 : decode cX6_tuple 102 = .ok (.iload_n 1, 1) := by decide +kernel
theorem dX6_tuple_103 : decode cX6_tuple 103 = .ok (.iload_n 2, 1) := by decide +kernel
theorem dX6_tuple_104 : decode cX6_tuple 104 = .ok (.invokevirtual 180, 3) := by decide +kernel
theorem dX6_tuple_107 : decode cX6_tuple 107 = .ok (.ireturn, 1) := by decide +kernel
theorem dX6_probe_0 : decode cX6_probe 0 = .ok (.iload_n 1, 1) := by decide +kernel
theorem dX6_probe_1 : decode cX6_probe 1 = .ok (.iload_n 2, 1) := by decide +kernel
theorem dX6_probe_2 : decode cX6_probe 2 = .ok (.iload_n 3, 1) := by decide +kernel
theorem dX6_probe_3 : decode cX6_probe 3 = .ok (.iload 4, 2) := by decide +kernel
theorem dX6_probe_5 : decode cX6_probe 5 = .ok (.invokestatic 115, 3) := by decide +kernel
theorem dX6_probe_8 : decode cX6_probe 8 = .ok (.ifCond .eq 14, 3) := by decide +kernel
theorem dX6_probe_11 : decode cX6_probe 11 = .ok (.iload 5, 2) := by decide +kernel
theorem dX6_probe_13 : decode cX6_probe 13 = .ok (.ifCond .lt 9, 3) := by decide +kernel
theorem dX6_probe_16 : decode cX6_probe 16 = .ok (.iload 5, 2) := by decide +kernel
theorem dX6_probe_18 : decode cX6_probe 18 = .ok (.iconst 2, 1) := by decide +kernel
theorem dX6_probe_19 : decode cX6_probe 19 = .ok (.if_icmp .le 6, 3) := by decide +kernel
theorem dX6_probe_22 : decode cX6_probe 22 = .ok (.bipush (-2), 2) := by decide +kernel
theorem dX6_probe_24 : decode cX6_probe 24 = .ok (.ireturn, 1) := by decide +kernel
theorem dX6_probe_25 : decode cX6_probe 25 = .ok (.aload_n 0, 1) := by decide +kernel
theorem dX6_probe_26 : decode cX6_probe 26 = .ok (.iload_n 1, 1) := by decide +kernel
theorem dX6_probe_27 : decode cX6_probe 27 = .ok (.iload_n 2, 1) := by decide +kernel
theorem dX6_probe_28 : decode cX6_probe 28 = .ok (.iload_n 3, 1) := by decide +kernel
theorem dX6_probe_29 : decode cX6_probe 29 = .ok (.iload 4, 2) := by decide +kernel
theorem dX6_probe_31 : decode cX6_probe 31 = .ok (.invokevirtual 119, 3) := by decide +kernel
theorem dX6_probe_34 : decode cX6_probe 34 = .ok (.aload_n 0, 1) := by decide +kernel
theorem dX6_probe_35 : decode cX6_probe 35 = .ok (.getfield 37, 3) := by decide +kernel
theorem dX6_probe_38 : decode cX6_probe 38 = .ok (.invokevirtual 169, 3) := by decide +kernel
theorem dX6_probe_41 : decode cX6_probe 41 = .ok (.aload_n 0, 1) := by decide +kernel
theorem dX6_probe_42 : decode cX6_probe 42 = .ok (.getfield 37, 3) := by decide +kernel
theorem dX6_probe_45 : decode cX6_probe 45 = .ok (.aload_n 0, 1) := by decide +kernel
theorem dX6_probe_46 : decode cX6_probe 46 = .ok (.getfield 64, 3) := by decide +kernel
theorem dX6_probe_49 : decode cX6_probe 49 = .ok (.invokevirtual 183, 3) := by decide +kernel
theorem dX6_probe_52 : decode cX6_probe 52 = .ok (.iload 5, 2) := by decide +kernel
theorem dX6_probe_54 : decode cX6_probe 54 = .ok (.lookupswitch 46 #[(0, 26), (1, 38)], 26) := by decide +kernel
theorem dX6_probe_80 : decode cX6_probe 80 = .ok (.aload_n 0, 1) := by decide +kernel
theorem dX6_probe_81 : decode cX6_probe 81 = .ok (.aload_n 0, 1) := by decide +kernel
theorem dX6_probe_82 : decode cX6_probe 82 = .ok (.getfield 37, 3) := by decide +kernel
theorem dX6_probe_85 : decode cX6_probe 85 = .ok (.getfield 187, 3) := by decide +kernel
theorem dX6_probe_88 : decode cX6_probe 88 = .ok (.invokevirtual 131, 3) := by decide +kernel
theorem dX6_probe_91 : decode cX6_probe 91 = .ok (.ireturn, 1) := by decide +kernel
theorem dX6_probe_92 : decode cX6_probe 92 = .ok (.aload_n 0, 1) := by decide +kernel
theorem dX6_probe_93 : decode cX6_probe 93 = .ok (.getfield 37, 3) := by decide +kernel
theorem dX6_probe_96 : decode cX6_probe 96 = .ok (.getfield 190, 3) := by decide +kernel
theorem dX6_probe_99 : decode cX6_probe 99 = .ok (.ireturn, 1) := by decide +kernel
theorem dX6_probe_100 : decode cX6_probe 100 = .ok (.aload_n 0, 1) := by decide +kernel
theorem dX6_probe_101 : decode cX6_probe 101 = .ok (.getfield 37, 3) := by decide +kernel
theorem dX6_probe_104 : decode cX6_probe 104 = .ok (.getfield 190, 3) := by decide +kernel
theorem dX6_probe_107 : decode cX6_probe 107 = .ok (.ifCond .le 15, 3) := by decide +kernel
theorem dX6_probe_110 : decode cX6_probe 110 = .ok (.aload_n 0, 1) := by decide +kernel
theorem dX6_probe_111 : decode cX6_probe 111 = .ok (.getfield 37, 3) := by decide +kernel
theorem dX6_probe_114 : decode cX6_probe 114 = .ok (.getfield 190, 3) := by decide +kernel
theorem dX6_probe_117 : decode cX6_probe 117 = .ok (.iconst 1, 1) := by decide +kernel
theorem dX6_probe_118 : decode cX6_probe 118 = .ok (.isub, 1) := by decide +kernel
theorem dX6_probe_119 : decode cX6_probe 119 = .ok (.goto 5, 3) := by decide +kernel
theorem dX6_probe_122 : decode cX6_probe 122 = .ok (.bipush (-6), 2) := by decide +kernel
theorem dX6_probe_124 : decode cX6_probe 124 = .ok (.ireturn, 1) := by decide +kernel
theorem dX6_grow_0 : decode cX6_grow 0 = .ok (.iload_n 1, 1) := by decide +kernel
theorem dX6_grow_1 : decode cX6_grow 1 = .ok (.ifCond .ne 31, 3) := by decide +kernel
theorem dX6_grow_4 : decode cX6_grow 4 = .ok (.iload_n 2, 1) := by decide +kernel
theorem dX6_grow_5 : decode cX6_grow 5 = .ok (.iconst 1, 1) := by decide +kernel
theorem dX6_grow_6 : decode cX6_grow 6 = .ok (.if_icmp .lt 26, 3) := by decide +kernel
theorem dX6_grow_9 : decode cX6_grow 9 = .ok (.iload_n 2, 1) := by decide +kernel
theorem dX6_grow_10 : decode cX6_grow 10 = .ok (.iconst 4, 1) := by decide +kernel
theorem dX6_grow_11 : decode cX6_grow 11 = .ok (.if_icmp .gt 21, 3) := by decide +kernel
theorem dX6_grow_14 : decode cX6_grow 14 = .ok (.aload_n 0, 1) := by decide +kernel
theorem dX6_grow_15 : decode cX6_grow 15 = .ok (.getfield 46, 3) := by decide +kernel
theorem dX6_grow_18 : decode cX6_grow 18 = .ok (.getfield 193, 3) := by decide +kernel
theorem dX6_grow_21 : decode cX6_grow 21 = .ok (.istore_n 3, 1) := by decide +kernel
theorem dX6_grow_22 : decode cX6_grow 22 = .ok (.aload_n 0, 1) := by decide +kernel
theorem dX6_grow_23 : decode cX6_grow 23 = .ok (.getfield 46, 3) := by decide +kernel
theorem dX6_grow_26 : decode cX6_grow 26 = .ok (.iload_n 2, 1) := by decide +kernel
theorem dX6_grow_27 : decode cX6_grow 27 = .ok (.putfield 193, 3) := by decide +kernel
theorem dX6_grow_30 : decode cX6_grow 30 = .ok (.iload_n 3, 1) := by decide +kernel
theorem dX6_grow_31 : decode cX6_grow 31 = .ok (.ireturn, 1) := by decide +kernel
theorem dX6_grow_32 : decode cX6_grow 32 = .ok (.iload_n 1, 1) := by decide +kernel
theorem dX6_grow_33 : decode cX6_grow 33 = .ok (.iconst 1, 1) := by decide +kernel
theorem dX6_grow_34 : decode cX6_grow 34 = .ok (.if_icmp .ne 32, 3) := by decide +kernel
theorem dX6_grow_37 : decode cX6_grow 37 = .ok (.iload_n 2, 1) := by decide +kernel
theorem dX6_grow_38 : decode cX6_grow 38 = .ok (.iconst 1, 1) := by decide +kernel
theorem dX6_grow_39 : decode cX6_grow 39 = .ok (.if_icmp .lt 27, 3) := by decide +kernel
theorem dX6_grow_42 : decode cX6_grow 42 = .ok (.iload_n 2, 1) := by decide +kernel
theorem dX6_grow_43 : decode cX6_grow 43 = .ok (.bipush 8, 2) := by decide +kernel
theorem dX6_grow_45 : decode cX6_grow 45 = .ok (.if_icmp .gt 21, 3) := by decide +kernel
theorem dX6_grow_48 : decode cX6_grow 48 = .ok (.aload_n 0, 1) := by decide +kernel
theorem dX6_grow_49 : decode cX6_grow 49 = .ok (.getfield 46, 3) := by decide +kernel
theorem dX6_grow_52 : decode cX6_grow 52 = .ok (.getfield 196, 3) := by decide +kernel
theorem dX6_grow_55 : decode cX6_grow 55 = .ok (.istore_n 3, 1) := by decide +kernel
theorem dX6_grow_56 : decode cX6_grow 56 = .ok (.aload_n 0, 1) := by decide +kernel
theorem dX6_grow_57 : decode cX6_grow 57 = .ok (.getfield 46, 3) := by decide +kernel
theorem dX6_grow_60 : decode cX6_grow 60 = .ok (.iload_n 2, 1) := by decide +kernel
theorem dX6_grow_61 : decode cX6_grow 61 = .ok (.putfield 196, 3) := by decide +kernel
theorem dX6_grow_64 : decode cX6_grow 64 = .ok (.iload_n 3, 1) := by decide +kernel
theorem dX6_grow_65 : decode cX6_grow 65 = .ok (.ireturn, 1) := by decide +kernel
theorem dX6_grow_66 : decode cX6_grow 66 = .ok (.bipush (-2), 2) := by decide +kernel
theorem dX6_grow_68 : decode cX6_grow 68 = .ok (.ireturn, 1) := by decide +kernel
theorem dX6_tree_0 : decode cX6_tree 0 = .ok (.iload_n 1, 1) := by decide +kernel
theorem dX6_tree_1 : decode cX6_tree 1 = .ok (.ifCond .lt 8, 3) := by decide +kernel
theorem dX6_tree_4 : decode cX6_tree 4 = .ok (.iload_n 1, 1) := by decide +kernel
theorem dX6_tree_5 : decode cX6_tree 5 = .ok (.iconst 5, 1) := by decide +kernel
theorem dX6_tree_6 : decode cX6_tree 6 = .ok (.if_icmp .le 6, 3) := by decide +kernel
theorem dX6_tree_9 : decode cX6_tree 9 = .ok (.bipush (-2), 2) := by decide +kernel
theorem dX6_tree_11 : decode cX6_tree 11 = .ok (.ireturn, 1) := by decide +kernel
theorem dX6_tree_12 : decode cX6_tree 12 = .ok (.aload_n 0, 1) := by decide +kernel
theorem dX6_tree_13 : decode cX6_tree 13 = .ok (.getfield 46, 3) := by decide +kernel
theorem dX6_tree_16 : decode cX6_tree 16 = .ok (.invokevirtual 199, 3) := by decide +kernel
theorem dX6_tree_19 : decode cX6_tree 19 = .ok (.iload_n 1, 1) := by decide +kernel
theorem dX6_tree_20 : decode cX6_tree 20 = .ok (.tableswitch 76 0 4 #[36, 44, 52, 60, 68], 36) := by decide +kernel
theorem dX6_tree_56 : decode cX6_tree 56 = .ok (.aload_n 0, 1) := by decide +kernel
theorem dX6_tree_57 : decode cX6_tree 57 = .ok (.getfield 46, 3) := by decide +kernel
theorem dX6_tree_60 : decode cX6_tree 60 = .ok (.getfield 202, 3) := by decide +kernel
theorem dX6_tree_63 : decode cX6_tree 63 = .ok (.ireturn, 1) := by decide +kernel
theorem dX6_tree_64 : decode cX6_tree 64 = .ok (.aload_n 0, 1) := by decide +kernel
theorem dX6_tree_65 : decode cX6_tree 65 = .ok (.getfield 46, 3) := by decide +kernel
theorem dX6_tree_68 : decode cX6_tree 68 = .ok (.getfield 205, 3) := by decide +kernel
theorem dX6_tree_71 : decode cX6_tree 71 = .ok (.ireturn, 1) := by decide +kernel
theorem dX6_tree_72 : decode cX6_tree 72 = .ok (.aload_n 0, 1) := by decide +kernel
theorem dX6_tree_73 : decode cX6_tree 73 = .ok (.getfield 46, 3) := by decide +kernel
theorem dX6_tree_76 : decode cX6_tree 76 = .ok (.getfield 208, 3) := by decide +kernel
theorem dX6_tree_79 : decode cX6_tree 79 = .ok (.ireturn, 1) := by decide +kernel
theorem dX6_tree_80 : decode cX6_tree 80 = .ok (.aload_n 0, 1) := by decide +kernel
theorem dX6_tree_81 : decode cX6_tree 81 = .ok (.getfield 46, 3) := by decide +kernel
theorem dX6_tree_84 : decode cX6_tree 84 = .ok (.getfield 211, 3) := by decide +kernel
theorem dX6_tree_87 : decode cX6_tree 87 = .ok (.ireturn, 1) := by decide +kernel
theorem dX6_tree_88 : decode cX6_tree 88 = .ok (.aload_n 0, 1) := by decide +kernel
theorem dX6_tree_89 : decode cX6_tree 89 = .ok (.getfield 46, 3) := by decide +kernel
theorem dX6_tree_92 : decode cX6_tree 92 = .ok (.getfield 214, 3) := by decide +kernel
theorem dX6_tree_95 : decode cX6_tree 95 = .ok (.ireturn, 1) := by decide +kernel
theorem dX6_tree_96 : decode cX6_tree 96 = .ok (.aload_n 0, 1) := by decide +kernel
theorem dX6_tree_97 : decode cX6_tree 97 = .ok (.getfield 46, 3) := by decide +kernel
theorem dX6_tree_100 : decode cX6_tree 100 = .ok (.getfield 217, 3) := by decide +kernel
theorem dX6_tree_103 : decode cX6_tree 103 = .ok (.ireturn, 1) := by decide +kernel
theorem dX6_walk_0 : decode cX6_walk 0 = .ok (.iload 5, 2) := by decide +kernel
theorem dX6_walk_2 : decode cX6_walk 2 = .ok (.bipush 10, 2) := by decide +kernel
theorem dX6_walk_4 : decode cX6_walk 4 = .ok (.if_icmp .lt 18, 3) := by decide +kernel
theorem dX6_walk_7 : decode cX6_walk 7 = .ok (.iload 5, 2) := by decide +kernel
theorem dX6_walk_9 : decode cX6_walk 9 = .ok (.bipush 10, 2) := by decide +kernel
theorem dX6_walk_11 : decode cX6_walk 11 = .ok (.isub, 1) := by decide +kernel
theorem dX6_walk_12 : decode cX6_walk 12 = .ok (.invokestatic 70, 3) := by decide +kernel
theorem dX6_walk_15 : decode cX6_walk 15 = .ok (.ifCond .eq 7, 3) := by decide +kernel
theorem dX6_walk_18 : decode cX6_walk 18 = .ok (.iconst 1, 1) := by decide +kernel
theorem dX6_walk_19 : decode cX6_walk 19 = .ok (.goto 4, 3) := by decide +kernel
theorem dX6_walk_22 : decode cX6_walk 22 = .ok (.iconst 0, 1) := by decide +kernel
theorem dX6_walk_23 : decode cX6_walk 23 = .ok (.istore 6, 2) := by decide +kernel
theorem dX6_walk_25 : decode cX6_walk 25 = .ok (.iload_n 1, 1) := by decide +kernel
theorem dX6_walk_26 : decode cX6_walk 26 = .ok (.iload_n 2, 1) := by decide +kernel
theorem dX6_walk_27 : decode cX6_walk 27 = .ok (.iload_n 3, 1) := by decide +kernel
theorem dX6_walk_28 : decode cX6_walk 28 = .ok (.iload 4, 2) := by decide +kernel
theorem dX6_walk_30 : decode cX6_walk 30 = .ok (.invokestatic 115, 3) := by decide +kernel
theorem dX6_walk_33 : decode cX6_walk 33 = .ok (.ifCond .eq 19, 3) := by decide +kernel
theorem dX6_walk_36 : decode cX6_walk 36 = .ok (.iload 6, 2) := by decide +kernel
theorem dX6_walk_38 : decode cX6_walk 38 = .ok (.ifCond .ne 17, 3) := by decide +kernel
theorem dX6_walk_41 : decode cX6_walk 41 = .ok (.iload 5, 2) := by decide +kernel
theorem dX6_walk_43 : decode cX6_walk 43 = .ok (.ifCond .lt 9, 3) := by decide +kernel
theorem dX6_walk_46 : decode cX6_walk 46 = .ok (.iload 5, 2) := by decide +kernel
theorem dX6_walk_48 : decode cX6_walk 48 = .ok (.iconst 2, 1) := by decide +kernel
theorem dX6_walk_49 : decode cX6_walk 49 = .ok (.if_icmp .le 6, 3) := by decide +kernel
theorem dX6_walk_52 : decode cX6_walk 52 = .ok (.bipush (-2), 2) := by decide +kernel
theorem dX6_walk_54 : decode cX6_walk 54 = .ok (.ireturn, 1) := by decide +kernel
theorem dX6_walk_55 : decode cX6_walk 55 = .ok (.aload_n 0, 1) := by decide +kernel
theorem dX6_walk_56 : decode cX6_walk 56 = .ok (.iload_n 1, 1) := by decide +kernel
theorem dX6_walk_57 : decode cX6_walk 57 = .ok (.iload_n 2, 1) := by decide +kernel
theorem dX6_walk_58 : decode cX6_walk 58 = .ok (.iload_n 3, 1) := by decide +kernel
theorem dX6_walk_59 : decode cX6_walk 59 = .ok (.iload 4, 2) := by decide +kernel
theorem dX6_walk_61 : decode cX6_walk 61 = .ok (.invokevirtual 119, 3) := by decide +kernel
theorem dX6_walk_64 : decode cX6_walk 64 = .ok (.aload_n 0, 1) := by decide +kernel
theorem dX6_walk_65 : decode cX6_walk 65 = .ok (.getfield 46, 3) := by decide +kernel
theorem dX6_walk_68 : decode cX6_walk 68 = .ok (.aload_n 0, 1) := by decide +kernel
theorem dX6_walk_69 : decode cX6_walk 69 = .ok (.getfield 64, 3) := by decide +kernel
theorem dX6_walk_72 : decode cX6_walk 72 = .ok (.invokevirtual 220, 3) := by decide +kernel
theorem dX6_walk_75 : decode cX6_walk 75 = .ok (.istore 7, 2) := by decide +kernel
theorem dX6_walk_77 : decode cX6_walk 77 = .ok (.iload 6, 2) := by decide +kernel
theorem dX6_walk_79 : decode cX6_walk 79 = .ok (.ifCond .eq 17, 3) := by decide +kernel
theorem dX6_walk_82 : decode cX6_walk 82 = .ok (.aload_n 0, 1) := by decide +kernel
theorem dX6_walk_83 : decode cX6_walk 83 = .ok (.getfield 46, 3) := by decide +kernel
theorem dX6_walk_86 : decode cX6_walk 86 = .ok (.getfield 223, 3) := by decide +kernel
theorem dX6_walk_89 : decode cX6_walk 89 = .ok (.iload 5, 2) := by decide +kernel
theorem dX6_walk_91 : decode cX6_walk 91 = .ok (.bipush 10, 2) := by decide +kernel
theorem dX6_walk_93 : decode cX6_walk 93 = .ok (.isub, 1) := by decide +kernel
theorem dX6_walk_94 : decode cX6_walk 94 = .ok (.iaload, 1) := by decide +kernel
theorem dX6_walk_95 : decode cX6_walk 95 = .ok (.ireturn, 1) := by decide +kernel
theorem dX6_walk_96 : decode cX6_walk 96 = .ok (.iload 5, 2) := by decide +kernel
theorem dX6_walk_98 : decode cX6_walk 98 = .ok (.lookupswitch 40 #[(0, 26), (1, 34)], 26) := by decide +kernel
theorem dX6_walk_124 : decode cX6_walk 124 = .ok (.aload_n 0, 1) := by decide +kernel
theorem dX6_walk_125 : decode cX6_walk 125 = .ok (.getfield 46, 3) := by decide +kernel
theorem dX6_walk_128 : decode cX6_walk 128 = .ok (.getfield 226, 3) := by decide +kernel
theorem dX6_walk_131 : decode cX6_walk 131 = .ok (.ireturn, 1) := by decide +kernel
theorem dX6_walk_132 : decode cX6_walk 132 = .ok (.iload 7, 2) := by decide +kernel
theorem dX6_walk_134 : decode cX6_walk 134 = .ok (.invokestatic 229, 3) := by decide +kernel
theorem dX6_walk_137 : decode cX6_walk 137 = .ok (.ireturn, 1) := by decide +kernel
theorem dX6_walk_138 : decode cX6_walk 138 = .ok (.iload 7, 2) := by decide +kernel
theorem dX6_walk_140 : decode cX6_walk 140 = .ok (.aload_n 0, 1) := by decide +kernel
theorem dX6_walk_141 : decode cX6_walk 141 = .ok (.getfield 21, 3) := by decide +kernel
theorem dX6_walk_144 : decode cX6_walk 144 = .ok (.aload_n 0, 1) := by decide +kernel
theorem dX6_walk_145 : decode cX6_walk 145 = .ok (.getfield 64, 3) := by decide +kernel
theorem dX6_walk_148 : decode cX6_walk 148 = .ok (.invokevirtual 123, 3) := by decide +kernel
theorem dX6_walk_151 : decode cX6_walk 151 = .ok (.invokestatic 234, 3) := by decide +kernel
theorem dX6_walk_154 : decode cX6_walk 154 = .ok (.ireturn, 1) := by decide +kernel
theorem dX6_image_0 : decode cX6_image 0 = .ok (.iload_n 1, 1) := by decide +kernel
theorem dX6_image_1 : decode cX6_image 1 = .ok (.ifCond .lt 8, 3) := by decide +kernel
theorem dX6_image_4 : decode cX6_image 4 = .ok (.iload_n 1, 1) := by decide +kernel
theorem dX6_image_5 : decode cX6_image 5 = .ok (.iconst 2, 1) := by decide +kernel
theorem dX6_image_6 : decode cX6_image 6 = .ok (.if_icmp .lt 6, 3) := by decide +kernel
theorem dX6_image_9 : decode cX6_image 9 = .ok (.bipush (-2), 2) := by decide +kernel
theorem dX6_image_11 : decode cX6_image 11 = .ok (.ireturn, 1) := by decide +kernel
theorem dX6_image_12 : decode cX6_image 12 = .ok (.aload_n 0, 1) := by decide +kernel
theorem dX6_image_13 : decode cX6_image 13 = .ok (.getfield 52, 3) := by decide +kernel
theorem dX6_image_16 : decode cX6_image 16 = .ok (.iload_n 1, 1) := by decide +kernel
theorem dX6_image_17 : decode cX6_image 17 = .ok (.aaload, 1) := by decide +kernel
theorem dX6_image_18 : decode cX6_image 18 = .ok (.astore_n 2, 1) := by decide +kernel
theorem dX6_image_19 : decode cX6_image 19 = .ok (.aload_n 2, 1) := by decide +kernel
theorem dX6_image_20 : decode cX6_image 20 = .ok (.getfield 237, 3) := by decide +kernel
theorem dX6_image_23 : decode cX6_image 23 = .ok (.aload_n 0, 1) := by decide +kernel
theorem dX6_image_24 : decode cX6_image 24 = .ok (.getfield 10, 3) := by decide +kernel
theorem dX6_image_27 : decode cX6_image 27 = .ok (.invokevirtual 238, 3) := by decide +kernel
theorem dX6_image_30 : decode cX6_image 30 = .ok (.aload_n 2, 1) := by decide +kernel
theorem dX6_image_31 : decode cX6_image 31 = .ok (.aload_n 0, 1) := by decide +kernel
theorem dX6_image_32 : decode cX6_image 32 = .ok (.getfield 46, 3) := by decide +kernel
theorem dX6_image_35 : decode cX6_image 35 = .ok (.getfield 193, 3) := by decide +kernel
theorem dX6_image_38 : decode cX6_image 38 = .ok (.putfield 241, 3) := by decide +kernel
theorem dX6_image_41 : decode cX6_image 41 = .ok (.aload_n 2, 1) := by decide +kernel
theorem dX6_image_42 : decode cX6_image 42 = .ok (.aload_n 0, 1) := by decide +kernel
theorem dX6_image_43 : decode cX6_image 43 = .ok (.getfield 46, 3) := by decide +kernel
theorem dX6_image_46 : decode cX6_image 46 = .ok (.getfield 196, 3) := by decide +kernel
theorem dX6_image_49 : decode cX6_image 49 = .ok (.putfield 242, 3) := by decide +kernel
theorem dX6_image_52 : decode cX6_image 52 = .ok (.aload_n 2, 1) := by decide +kernel
theorem dX6_image_53 : decode cX6_image 53 = .ok (.iconst 1, 1) := by decide +kernel
theorem dX6_image_54 : decode cX6_image 54 = .ok (.putfield 243, 3) := by decide +kernel
theorem dX6_image_57 : decode cX6_image 57 = .ok (.iconst 1, 1) := by decide +kernel
theorem dX6_image_58 : decode cX6_image 58 = .ok (.ireturn, 1) := by decide +kernel
theorem dX6_restore_0 : decode cX6_restore 0 = .ok (.iload_n 1, 1) := by decide +kernel
theorem dX6_restore_1 : decode cX6_restore 1 = .ok (.ifCond .lt 8, 3) := by decide +kernel
theorem dX6_restore_4 : decode cX6_restore 4 = .ok (.iload_n 1, 1) := by decide +kernel
theorem dX6_restore_5 : decode cX6_restore 5 = .ok (.iconst 2, 1) := by decide +kernel
theorem dX6_restore_6 : decode cX6_restore 6 = .ok (.if_icmp .lt 6, 3) := by decide +kernel
theorem dX6_restore_9 : decode cX6_restore 9 = .ok (.bipush (-2), 2) := by decide +kernel
theorem dX6_restore_11 : decode cX6_restore 11 = .ok (.ireturn, 1) := by decide +kernel
theorem dX6_restore_12 : decode cX6_restore 12 = .ok (.aload_n 0, 1) := by decide +kernel
theorem dX6_restore_13 : decode cX6_restore 13 = .ok (.getfield 52, 3) := by decide +kernel
theorem dX6_restore_16 : decode cX6_restore 16 = .ok (.iload_n 1, 1) := by decide +kernel
theorem dX6_restore_17 : decode cX6_restore 17 = .ok (.aaload, 1) := by decide +kernel
theorem dX6_restore_18 : decode cX6_restore 18 = .ok (.astore_n 2, 1) := by decide +kernel
theorem dX6_restore_19 : decode cX6_restore 19 = .ok (.aload_n 2, 1) := by decide +kernel
theorem dX6_restore_20 : decode cX6_restore 20 = .ok (.getfield 243, 3) := by decide +kernel
theorem dX6_restore_23 : decode cX6_restore 23 = .ok (.ifCond .ne 6, 3) := by decide +kernel
theorem dX6_restore_26 : decode cX6_restore 26 = .ok (.bipush (-3), 2) := by decide +kernel
theorem dX6_restore_28 : decode cX6_restore 28 = .ok (.ireturn, 1) := by decide +kernel
theorem dX6_restore_29 : decode cX6_restore 29 = .ok (.aload_n 0, 1) := by decide +kernel
theorem dX6_restore_30 : decode cX6_restore 30 = .ok (.getfield 10, 3) := by decide +kernel
theorem dX6_restore_33 : decode cX6_restore 33 = .ok (.aload_n 2, 1) := by decide +kernel
theorem dX6_restore_34 : decode cX6_restore 34 = .ok (.getfield 237, 3) := by decide +kernel
theorem dX6_restore_37 : decode cX6_restore 37 = .ok (.invokevirtual 238, 3) := by decide +kernel
theorem dX6_restore_40 : decode cX6_restore 40 = .ok (.aload_n 0, 1) := by decide +kernel
theorem dX6_restore_41 : decode cX6_restore 41 = .ok (.getfield 46, 3) := by decide +kernel
theorem dX6_restore_44 : decode cX6_restore 44 = .ok (.aload_n 2, 1) := by decide +kernel
theorem dX6_restore_45 : decode cX6_restore 45 = .ok (.getfield 241, 3) := by decide +kernel
theorem dX6_restore_48 : decode cX6_restore 48 = .ok (.putfield 193, 3) := by decide +kernel
theorem dX6_restore_51 : decode cX6_restore 51 = .ok (.aload_n 0, 1) := by decide +kernel
theorem dX6_restore_52 : decode cX6_restore 52 = .ok (.getfield 46, 3) := by decide +kernel
theorem dX6_restore_55 : decode cX6_restore 55 = .ok (.aload_n 2, 1) := by decide +kernel
theorem dX6_restore_56 : decode cX6_restore 56 = .ok (.getfield 242, 3) := by decide +kernel
theorem dX6_restore_59 : decode cX6_restore 59 = .ok (.putfield 196, 3) := by decide +kernel
theorem dX6_restore_62 : decode cX6_restore 62 = .ok (.aload_n 0, 1) := by decide +kernel
theorem dX6_restore_63 : decode cX6_restore 63 = .ok (.invokevirtual 92, 3) := by decide +kernel
theorem dX6_restore_66 : decode cX6_restore 66 = .ok (.iconst 1, 1) := by decide +kernel
theorem dX6_restore_67 : decode cX6_restore 67 = .ok (.ireturn, 1) := by decide +kernel
theorem dX6_count_0 : decode cX6_count 0 = .ok (.iload_n 1, 1) := by decide +kernel
theorem dX6_count_1 : decode cX6_count 1 = .ok (.tableswitch 96 0 7 #[47, 55, 60, 65, 73, 81, 86, 91], 47) := by decide +kernel
theorem dX6_count_48 : decode cX6_count 48 = .ok (.aload_n 0, 1) := by decide +kernel
theorem dX6_count_49 : decode cX6_count 49 = .ok (.getfield 10, 3) := by decide +kernel
theorem dX6_count_52 : decode cX6_count 52 = .ok (.getfield 84, 3) := by decide +kernel
theorem dX6_count_55 : decode cX6_count 55 = .ok (.ireturn, 1) := by decide +kernel
theorem dX6_count_56 : decode cX6_count 56 = .ok (.aload_n 0, 1) := by decide +kernel
theorem dX6_count_57 : decode cX6_count 57 = .ok (.invokevirtual 247, 3) := by decide +kernel
theorem dX6_count_60 : decode cX6_count 60 = .ok (.ireturn, 1) := by decide +kernel
theorem dX6_count_61 : decode cX6_count 61 = .ok (.aload_n 0, 1) := by decide +kernel
theorem dX6_count_62 : decode cX6_count 62 = .ok (.invokevirtual 251, 3) := by decide +kernel
theorem dX6_count_65 : decode cX6_count 65 = .ok (.ireturn, 1) := by decide +kernel
theorem dX6_count_66 : decode cX6_count 66 = .ok (.aload_n 0, 1) := by decide +kernel
theorem dX6_count_67 : decode cX6_count 67 = .ok (.getfield 46, 3) := by decide +kernel
theorem dX6_count_70 : decode cX6_count 70 = .ok (.getfield 193, 3) := by decide +kernel
theorem dX6_count_73 : decode cX6_count 73 = .ok (.ireturn, 1) := by decide +kernel
theorem dX6_count_74 : decode cX6_count 74 = .ok (.aload_n 0, 1) := by decide +kernel
theorem dX6_count_75 : decode cX6_count 75 = .ok (.getfield 46, 3) := by decide +kernel
theorem dX6_count_78 : decode cX6_count 78 = .ok (.getfield 196, 3) := by decide +kernel
theorem dX6_count_81 : decode cX6_count 81 = .ok (.ireturn, 1) := by decide +kernel
theorem dX6_count_82 : decode cX6_count 82 = .ok (.aload_n 0, 1) := by decide +kernel
theorem dX6_count_83 : decode cX6_count 83 = .ok (.invokevirtual 254, 3) := by decide +kernel
theorem dX6_count_86 : decode cX6_count 86 = .ok (.ireturn, 1) := by decide +kernel
theorem dX6_count_87 : decode cX6_count 87 = .ok (.aload_n 0, 1) := by decide +kernel
theorem dX6_count_88 : decode cX6_count 88 = .ok (.invokevirtual 257, 3) := by decide +kernel
theorem dX6_count_91 : decode cX6_count 91 = .ok (.ireturn, 1) := by decide +kernel
theorem dX6_count_92 : decode cX6_count 92 = .ok (.aload_n 0, 1) := by decide +kernel
theorem dX6_count_93 : decode cX6_count 93 = .ok (.invokevirtual 260, 3) := by decide +kernel
theorem dX6_count_96 : decode cX6_count 96 = .ok (.ireturn, 1) := by decide +kernel
theorem dX6_count_97 : decode cX6_count 97 = .ok (.bipush (-2), 2) := by decide +kernel
theorem dX6_count_99 : decode cX6_count 99 = .ok (.ireturn, 1) := by decide +kernel
theorem dX6_isField_0 : decode cX6_isField 0 = .ok (.iload_n 0, 1) := by decide +kernel
theorem dX6_isField_1 : decode cX6_isField 1 = .ok (.ifCond .lt 12, 3) := by decide +kernel
theorem dX6_isField_4 : decode cX6_isField 4 = .ok (.iload_n 0, 1) := by decide +kernel
theorem dX6_isField_5 : decode cX6_isField 5 = .ok (.iconst 4, 1) := by decide +kernel
theorem dX6_isField_6 : decode cX6_isField 6 = .ok (.if_icmp .ge 7, 3) := by decide +kernel
theorem dX6_isField_9 : decode cX6_isField 9 = .ok (.iconst 1, 1) := by decide +kernel
theorem dX6_isField_10 : decode cX6_isField 10 = .ok (.goto 4, 3) := by decide +kernel
theorem dX6_isField_13 : decode cX6_isField 13 = .ok (.iconst 0, 1) := by decide +kernel
theorem dX6_isField_14 : decode cX6_isField 14 = .ok (.ireturn, 1) := by decide +kernel
theorem dX6_isNumber_0 : decode cX6_isNumber 0 = .ok (.iload_n 1, 1) := by decide +kernel
theorem dX6_isNumber_1 : decode cX6_isNumber 1 = .ok (.ifCond .lt 16, 3) := by decide +kernel
theorem dX6_isNumber_4 : decode cX6_isNumber 4 = .ok (.iload_n 1, 1) := by decide +kernel
theorem dX6_isNumber_5 : decode cX6_isNumber 5 = .ok (.getstatic 263, 3) := by decide +kernel
theorem dX6_isNumber_8 : decode cX6_isNumber 8 = .ok (.iload_n 0, 1) := by decide +kernel
theorem dX6_isNumber_9 : decode cX6_isNumber 9 = .ok (.iaload, 1) := by decide +kernel
theorem dX6_isNumber_10 : decode cX6_isNumber 10 = .ok (.if_icmp .gt 7, 3) := by decide +kernel
theorem dX6_isNumber_13 : decode cX6_isNumber 13 = .ok (.iconst 1, 1) := by decide +kernel
theorem dX6_isNumber_14 : decode cX6_isNumber 14 = .ok (.goto 4, 3) := by decide +kernel
theorem dX6_isNumber_17 : decode cX6_isNumber 17 = .ok (.iconst 0, 1) := by decide +kernel
theorem dX6_isNumber_18 : decode cX6_isNumber 18 = .ok (.ireturn, 1) := by decide +kernel
theorem dX6_isPacket_0 : decode cX6_isPacket 0 = .ok (.iconst 0, 1) := by decide +kernel
theorem dX6_isPacket_1 : decode cX6_isPacket 1 = .ok (.iload_n 0, 1) := by decide +kernel
theorem dX6_isPacket_2 : decode cX6_isPacket 2 = .ok (.invokestatic 74, 3) := by decide +kernel
theorem dX6_isPacket_5 : decode cX6_isPacket 5 = .ok (.ifCond .eq 31, 3) := by decide +kernel
theorem dX6_isPacket_8 : decode cX6_isPacket 8 = .ok (.iconst 1, 1) := by decide +kernel
theorem dX6_isPacket_9 : decode cX6_isPacket 9 = .ok (.iload_n 1, 1) := by decide +kernel
theorem dX6_isPacket_10 : decode cX6_isPacket 10 = .ok (.invokestatic 74, 3) := by decide +kernel
theorem dX6_isPacket_13 : decode cX6_isPacket 13 = .ok (.ifCond .eq 23, 3) := by decide +kernel
theorem dX6_isPacket_16 : decode cX6_isPacket 16 = .ok (.iconst 2, 1) := by decide +kernel
theorem dX6_isPacket_17 : decode cX6_isPacket 17 = .ok (.iload_n 2, 1) := by decide +kernel
theorem dX6_isPacket_18 : decode cX6_isPacket 18 = .ok (.invokestatic 74, 3) := by decide +kernel
theorem dX6_isPacket_21 : decode cX6_isPacket 21 = .ok (.ifCond .eq 15, 3) := by decide +kernel
theorem dX6_isPacket_24 : decode cX6_isPacket 24 = .ok (.iconst 3, 1) := by decide +kernel
theorem dX6_isPacket_25 : decode cX6_isPacket 25 = .ok (.iload_n 3, 1) := by decide +kernel
theorem dX6_isPacket_26 : decode cX6_isPacket 26 = .ok (.invokestatic 74, 3) := by decide +kernel
theorem dX6_isPacket_29 : decode cX6_isPacket 29 = .ok (.ifCond .eq 7, 3) := by decide +kernel
theorem dX6_isPacket_32 : decode cX6_isPacket 32 = .ok (.iconst 1, 1) := by decide +kernel
theorem dX6_isPacket_33 : decode cX6_isPacket 33 = .ok (.goto 4, 3) := by decide +kernel
theorem dX6_isPacket_36 : decode cX6_isPacket 36 = .ok (.iconst 0, 1) := by decide +kernel
theorem dX6_isPacket_37 : decode cX6_isPacket 37 = .ok (.ireturn, 1) := by decide +kernel
theorem dX6_isRank_0 : decode cX6_isRank 0 = .ok (.iload_n 0, 1) := by decide +kernel
theorem dX6_isRank_1 : decode cX6_isRank 1 = .ok (.ifCond .lt 14, 3) := by decide +kernel
theorem dX6_isRank_4 : decode cX6_isRank 4 = .ok (.iload_n 0, 1) := by decide +kernel
theorem dX6_isRank_5 : decode cX6_isRank 5 = .ok (.sipush 999, 3) := by decide +kernel
theorem dX6_isRank_8 : decode cX6_isRank 8 = .ok (.if_icmp .gt 7, 3) := by decide +kernel
theorem dX6_isRank_11 : decode cX6_isRank 11 = .ok (.iconst 1, 1) := by decide +kernel
theorem dX6_isRank_12 : decode cX6_isRank 12 = .ok (.goto 4, 3) := by decide +kernel
theorem dX6_isRank_15 : decode cX6_isRank 15 = .ok (.iconst 0, 1) := by decide +kernel
theorem dX6_isRank_16 : decode cX6_isRank 16 = .ok (.ireturn, 1) := by decide +kernel
theorem dX6_isAction_0 : decode cX6_isAction 0 = .ok (.iload_n 0, 1) := by decide +kernel
theorem dX6_isAction_1 : decode cX6_isAction 1 = .ok (.ifCond .lt 13, 3) := by decide +kernel
theorem dX6_isAction_4 : decode cX6_isAction 4 = .ok (.iload_n 0, 1) := by decide +kernel
theorem dX6_isAction_5 : decode cX6_isAction 5 = .ok (.bipush 9, 2) := by decide +kernel
theorem dX6_isAction_7 : decode cX6_isAction 7 = .ok (.if_icmp .gt 7, 3) := by decide +kernel
theorem dX6_isAction_10 : decode cX6_isAction 10 = .ok (.iconst 1, 1) := by decide +kernel
theorem dX6_isAction_11 : decode cX6_isAction 11 = .ok (.goto 4, 3) := by decide +kernel
theorem dX6_isAction_14 : decode cX6_isAction 14 = .ok (.iconst 0, 1) := by decide +kernel
theorem dX6_isAction_15 : decode cX6_isAction 15 = .ok (.ireturn, 1) := by decide +kernel
theorem dX6_lowestBit_0 : decode cX6_lowestBit 0 = .ok (.iload_n 0, 1) := by decide +kernel
theorem dX6_lowestBit_1 : decode cX6_lowestBit 1 = .ok (.ifCond .ne 7, 3) := by decide +kernel
theorem dX6_lowestBit_4 : decode cX6_lowestBit 4 = .ok (.iconst (-1), 1) := by decide +kernel
theorem dX6_lowestBit_5 : decode cX6_lowestBit 5 = .ok (.goto 12, 3) := by decide +kernel
theorem dX6_lowestBit_8 : decode cX6_lowestBit 8 = .ok (.iload_n 0, 1) := by decide +kernel
theorem dX6_lowestBit_9 : decode cX6_lowestBit 9 = .ok (.iload_n 0, 1) := by decide +kernel
theorem dX6_lowestBit_10 : decode cX6_lowestBit 10 = .ok (.ineg, 1) := by decide +kernel
theorem dX6_lowestBit_11 : decode cX6_lowestBit 11 = .ok (.iand, 1) := by decide +kernel
theorem dX6_lowestBit_12 : decode cX6_lowestBit 12 = .ok (.iconst 1, 1) := by decide +kernel
theorem dX6_lowestBit_13 : decode cX6_lowestBit 13 = .ok (.isub, 1) := by decide +kernel
theorem dX6_lowestBit_14 : decode cX6_lowestBit 14 = .ok (.invokestatic 229, 3) := by decide +kernel
theorem dX6_lowestBit_17 : decode cX6_lowestBit 17 = .ok (.ireturn, 1) := by decide +kernel
theorem dX6_setPacket_0 : decode cX6_setPacket 0 = .ok (.aload_n 0, 1) := by decide +kernel
theorem dX6_setPacket_1 : decode cX6_setPacket 1 = .ok (.getfield 64, 3) := by decide +kernel
theorem dX6_setPacket_4 : decode cX6_setPacket 4 = .ok (.iconst 0, 1) := by decide +kernel
theorem dX6_setPacket_5 : decode cX6_setPacket 5 = .ok (.iload_n 1, 1) := by decide +kernel
theorem dX6_setPacket_6 : decode cX6_setPacket 6 = .ok (.iastore, 1) := by decide +kernel
theorem dX6_setPacket_7 : decode cX6_setPacket 7 = .ok (.aload_n 0, 1) := by decide +kernel
theorem dX6_setPacket_8 : decode cX6_setPacket 8 = .ok (.getfield 64, 3) := by decide +kernel
theorem dX6_setPacket_11 : decode cX6_setPacket 11 = .ok (.iconst 1, 1) := by decide +kernel
theorem dX6_setPacket_12 : decode cX6_setPacket 12 = .ok (.iload_n 2, 1) := by decide +kernel
theorem dX6_setPacket_13 : decode cX6_setPacket 13 = .ok (.iastore, 1) := by decide +kernel
theorem dX6_setPacket_14 : decode cX6_setPacket 14 = .ok (.aload_n 0, 1) := by decide +kernel
theorem dX6_setPacket_15 : decode cX6_setPacket 15 = .ok (.getfield 64, 3) := by decide +kernel
theorem dX6_setPacket_18 : decode cX6_setPacket 18 = .ok (.iconst 2, 1) := by decide +kernel
theorem dX6_setPacket_19 : decode cX6_setPacket 19 = .ok (.iload_n 3, 1) := by decide +kernel
theorem dX6_setPacket_20 : decode cX6_setPacket 20 = .ok (.iastore, 1) := by decide +kernel
theorem dX6_setPacket_21 : decode cX6_setPacket 21 = .ok (.aload_n 0, 1) := by decide +kernel
theorem dX6_setPacket_22 : decode cX6_setPacket 22 = .ok (.getfield 64, 3) := by decide +kernel
theorem dX6_setPacket_25 : decode cX6_setPacket 25 = .ok (.iconst 3, 1) := by decide +kernel
theorem dX6_setPacket_26 : decode cX6_setPacket 26 = .ok (.iload 4, 2) := by decide +kernel
theorem dX6_setPacket_28 : decode cX6_setPacket 28 = .ok (.iastore, 1) := by decide +kernel
theorem dX6_setPacket_29 : decode cX6_setPacket 29 = .ok (.return_, 1) := by decide +kernel
theorem dX6_clearDraft_0 : decode cX6_clearDraft 0 = .ok (.iconst 0, 1) := by decide +kernel
theorem dX6_clearDraft_1 : decode cX6_clearDraft 1 = .ok (.istore_n 1, 1) := by decide +kernel
theorem dX6_clearDraft_2 : decode cX6_clearDraft 2 = .ok (.iload_n 1, 1) := by decide +kernel
theorem dX6_clearDraft_3 : decode cX6_clearDraft 3 = .ok (.iconst 4, 1) := by decide +kernel
theorem dX6_clearDraft_4 : decode cX6_clearDraft 4 = .ok (.if_icmp .ge 27, 3) := by decide +kernel
theorem dX6_clearDraft_7 : decode cX6_clearDraft 7 = .ok (.aload_n 0, 1) := by decide +kernel
theorem dX6_clearDraft_8 : decode cX6_clearDraft 8 = .ok (.getfield 57, 3) := by decide +kernel
theorem dX6_clearDraft_11 : decode cX6_clearDraft 11 = .ok (.iload_n 1, 1) := by decide +kernel
theorem dX6_clearDraft_12 : decode cX6_clearDraft 12 = .ok (.iconst 0, 1) := by decide +kernel
theorem dX6_clearDraft_13 : decode cX6_clearDraft 13 = .ok (.iastore, 1) := by decide +kernel
theorem dX6_clearDraft_14 : decode cX6_clearDraft 14 = .ok (.aload_n 0, 1) := by decide +kernel
theorem dX6_clearDraft_15 : decode cX6_clearDraft 15 = .ok (.getfield 61, 3) := by decide +kernel
theorem dX6_clearDraft_18 : decode cX6_clearDraft 18 = .ok (.iload_n 1, 1) := by decide +kernel
theorem dX6_clearDraft_19 : decode cX6_clearDraft 19 = .ok (.getstatic 263, 3) := by decide +kernel
theorem dX6_clearDraft_22 : decode cX6_clearDraft 22 = .ok (.iload_n 1, 1) := by decide +kernel
theorem dX6_clearDraft_23 : decode cX6_clearDraft 23 = .ok (.iaload, 1) := by decide +kernel
theorem dX6_clearDraft_24 : decode cX6_clearDraft 24 = .ok (.iastore, 1) := by decide +kernel
theorem dX6_clearDraft_25 : decode cX6_clearDraft 25 = .ok (.iinc 1 1, 3) := by decide +kernel
theorem dX6_clearDraft_28 : decode cX6_clearDraft 28 = .ok (.goto (-26), 3) := by decide +kernel
theorem dX6_clearDraft_31 : decode cX6_clearDraft 31 = .ok (.return_, 1) := by decide +kernel
theorem dX6_rulesChanged_0 : decode cX6_rulesChanged 0 = .ok (.aload_n 0, 1) := by decide +kernel
theorem dX6_rulesChanged_1 : decode cX6_rulesChanged 1 = .ok (.getfield 10, 3) := by decide +kernel
theorem dX6_rulesChanged_4 : decode cX6_rulesChanged 4 = .ok (.invokevirtual 266, 3) := by decide +kernel
theorem dX6_rulesChanged_7 : decode cX6_rulesChanged 7 = .ok (.aload_n 0, 1) := by decide +kernel
theorem dX6_rulesChanged_8 : decode cX6_rulesChanged 8 = .ok (.getfield 21, 3) := by decide +kernel
theorem dX6_rulesChanged_11 : decode cX6_rulesChanged 11 = .ok (.invokevirtual 269, 3) := by decide +kernel
theorem dX6_rulesChanged_14 : decode cX6_rulesChanged 14 = .ok (.aload_n 0, 1) := by decide +kernel
theorem dX6_rulesChanged_15 : decode cX6_rulesChanged 15 = .ok (.getfield 30, 3) := by decide +kernel
theorem dX6_rulesChanged_18 : decode cX6_rulesChanged 18 = .ok (.iconst 1, 1) := by decide +kernel
theorem dX6_rulesChanged_19 : decode cX6_rulesChanged 19 = .ok (.putfield 272, 3) := by decide +kernel
theorem dX6_rulesChanged_22 : decode cX6_rulesChanged 22 = .ok (.aload_n 0, 1) := by decide +kernel
theorem dX6_rulesChanged_23 : decode cX6_rulesChanged 23 = .ok (.getfield 37, 3) := by decide +kernel
theorem dX6_rulesChanged_26 : decode cX6_rulesChanged 26 = .ok (.iconst 1, 1) := by decide +kernel
theorem dX6_rulesChanged_27 : decode cX6_rulesChanged 27 = .ok (.putfield 275, 3) := by decide +kernel
theorem dX6_rulesChanged_30 : decode cX6_rulesChanged 30 = .ok (.return_, 1) := by decide +kernel
theorem dX6_ruleAt_0 : decode cX6_ruleAt 0 = .ok (.iload_n 1, 1) := by decide +kernel
theorem dX6_ruleAt_1 : decode cX6_ruleAt 1 = .ok (.ifCond .lt 26, 3) := by decide +kernel
theorem dX6_ruleAt_4 : decode cX6_ruleAt 4 = .ok (.iload_n 1, 1) := by decide +kernel
theorem dX6_ruleAt_5 : decode cX6_ruleAt 5 = .ok (.aload_n 0, 1) := by decide +kernel
theorem dX6_ruleAt_6 : decode cX6_ruleAt 6 = .ok (.getfield 10, 3) := by decide +kernel
theorem dX6_ruleAt_9 : decode cX6_ruleAt 9 = .ok (.getfield 84, 3) := by decide +kernel
theorem dX6_ruleAt_12 : decode cX6_ruleAt 12 = .ok (.if_icmp .ge 15, 3) := by decide +kernel
theorem dX6_ruleAt_15 : decode cX6_ruleAt 15 = .ok (.aload_n 0, 1) := by decide +kernel
theorem dX6_ruleAt_16 : decode cX6_ruleAt 16 = .ok (.getfield 10, 3) := by decide +kernel
theorem dX6_ruleAt_19 : decode cX6_ruleAt 19 = .ok (.getfield 276, 3) := by decide +kernel
theorem dX6_ruleAt_22 : decode cX6_ruleAt 22 = .ok (.iload_n 1, 1) := by decide +kernel
theorem dX6_ruleAt_23 : decode cX6_ruleAt 23 = .ok (.iaload, 1) := by decide +kernel
theorem dX6_ruleAt_24 : decode cX6_ruleAt 24 = .ok (.goto 5, 3) := by decide +kernel
theorem dX6_ruleAt_27 : decode cX6_ruleAt 27 = .ok (.bipush (-6), 2) := by decide +kernel
theorem dX6_ruleAt_29 : decode cX6_ruleAt 29 = .ok (.ireturn, 1) := by decide +kernel
theorem dX6_toldBound_0 : decode cX6_toldBound 0 = .ok (.iload_n 2, 1) := by decide +kernel
theorem dX6_toldBound_1 : decode cX6_toldBound 1 = .ok (.ifCond .lt 9, 3) := by decide +kernel
theorem dX6_toldBound_4 : decode cX6_toldBound 4 = .ok (.iload_n 2, 1) := by decide +kernel
theorem dX6_toldBound_5 : decode cX6_toldBound 5 = .ok (.bipush 8, 2) := by decide +kernel
theorem dX6_toldBound_7 : decode cX6_toldBound 7 = .ok (.if_icmp .lt 6, 3) := by decide +kernel
theorem dX6_toldBound_10 : decode cX6_toldBound 10 = .ok (.bipush (-2), 2) := by decide +kernel
theorem dX6_toldBound_12 : decode cX6_toldBound 12 = .ok (.ireturn, 1) := by decide +kernel
theorem dX6_toldBound_13 : decode cX6_toldBound 13 = .ok (.iload_n 2, 1) := by decide +kernel
theorem dX6_toldBound_14 : decode cX6_toldBound 14 = .ok (.iconst 1, 1) := by decide +kernel
theorem dX6_toldBound_15 : decode cX6_toldBound 15 = .ok (.ishr, 1) := by decide +kernel
theorem dX6_toldBound_16 : decode cX6_toldBound 16 = .ok (.istore_n 3, 1) := by decide +kernel
theorem dX6_toldBound_17 : decode cX6_toldBound 17 = .ok (.iload_n 2, 1) := by decide +kernel
theorem dX6_toldBound_18 : decode cX6_toldBound 18 = .ok (.iconst 1, 1) := by decide +kernel
theorem dX6_toldBound_19 : decode cX6_toldBound 19 = .ok (.iand, 1) := by decide +kernel
theorem dX6_toldBound_20 : decode cX6_toldBound 20 = .ok (.ifCond .ne 17, 3) := by decide +kernel
theorem dX6_toldBound_23 : decode cX6_toldBound 23 = .ok (.aload_n 0, 1) := by decide +kernel
theorem dX6_toldBound_24 : decode cX6_toldBound 24 = .ok (.getfield 10, 3) := by decide +kernel
theorem dX6_toldBound_27 : decode cX6_toldBound 27 = .ok (.getfield 279, 3) := by decide +kernel
theorem dX6_toldBound_30 : decode cX6_toldBound 30 = .ok (.iload_n 3, 1) := by decide +kernel
theorem dX6_toldBound_31 : decode cX6_toldBound 31 = .ok (.aaload, 1) := by decide +kernel
theorem dX6_toldBound_32 : decode cX6_toldBound 32 = .ok (.iload_n 1, 1) := by decide +kernel
theorem dX6_toldBound_33 : decode cX6_toldBound 33 = .ok (.iaload, 1) := by decide +kernel
theorem dX6_toldBound_34 : decode cX6_toldBound 34 = .ok (.goto 14, 3) := by decide +kernel
theorem dX6_toldBound_37 : decode cX6_toldBound 37 = .ok (.aload_n 0, 1) := by decide +kernel
theorem dX6_toldBound_38 : decode cX6_toldBound 38 = .ok (.getfield 10, 3) := by decide +kernel
theorem dX6_toldBound_41 : decode cX6_toldBound 41 = .ok (.getfield 283, 3) := by decide +kernel
theorem dX6_toldBound_44 : decode cX6_toldBound 44 = .ok (.iload_n 3, 1) := by decide +kernel
theorem dX6_toldBound_45 : decode cX6_toldBound 45 = .ok (.aaload, 1) := by decide +kernel
theorem dX6_toldBound_46 : decode cX6_toldBound 46 = .ok (.iload_n 1, 1) := by decide +kernel
theorem dX6_toldBound_47 : decode cX6_toldBound 47 = .ok (.iaload, 1) := by decide +kernel
theorem dX6_toldBound_48 : decode cX6_toldBound 48 = .ok (.ireturn, 1) := by decide +kernel
theorem dX6_lookedAt_0 : decode cX6_lookedAt 0 = .ok (.iload_n 1, 1) := by decide +kernel
theorem dX6_lookedAt_1 : decode cX6_lookedAt 1 = .ok (.invokestatic 127, 3) := by decide +kernel
theorem dX6_lookedAt_4 : decode cX6_lookedAt 4 = .ok (.istore_n 2, 1) := by decide +kernel
theorem dX6_lookedAt_5 : decode cX6_lookedAt 5 = .ok (.iload_n 2, 1) := by decide +kernel
theorem dX6_lookedAt_6 : decode cX6_lookedAt 6 = .ok (.ifCond .ge 10, 3) := by decide +kernel
theorem dX6_lookedAt_9 : decode cX6_lookedAt 9 = .ok (.iload_n 0, 1) := by decide +kernel
theorem dX6_lookedAt_10 : decode cX6_lookedAt 10 = .ok (.invokestatic 229, 3) := by decide +kernel
theorem dX6_lookedAt_13 : decode cX6_lookedAt 13 = .ok (.goto 15, 3) := by decide +kernel
theorem dX6_lookedAt_16 : decode cX6_lookedAt 16 = .ok (.iload_n 0, 1) := by decide +kernel
theorem dX6_lookedAt_17 : decode cX6_lookedAt 17 = .ok (.iconst 1, 1) := by decide +kernel
theorem dX6_lookedAt_18 : decode cX6_lookedAt 18 = .ok (.iload_n 2, 1) := by decide +kernel
theorem dX6_lookedAt_19 : decode cX6_lookedAt 19 = .ok (.ishl, 1) := by decide +kernel
theorem dX6_lookedAt_20 : decode cX6_lookedAt 20 = .ok (.iconst 1, 1) := by decide +kernel
theorem dX6_lookedAt_21 : decode cX6_lookedAt 21 = .ok (.isub, 1) := by decide +kernel
theorem dX6_lookedAt_22 : decode cX6_lookedAt 22 = .ok (.iand, 1) := by decide +kernel
theorem dX6_lookedAt_23 : decode cX6_lookedAt 23 = .ok (.invokestatic 229, 3) := by decide +kernel
theorem dX6_lookedAt_26 : decode cX6_lookedAt 26 = .ok (.iconst 1, 1) := by decide +kernel
theorem dX6_lookedAt_27 : decode cX6_lookedAt 27 = .ok (.iadd, 1) := by decide +kernel
theorem dX6_lookedAt_28 : decode cX6_lookedAt 28 = .ok (.ireturn, 1) := by decide +kernel
theorem dX6_countTuples_0 : decode cX6_countTuples 0 = .ok (.aload_n 0, 1) := by decide +kernel
theorem dX6_countTuples_1 : decode cX6_countTuples 1 = .ok (.getfield 37, 3) := by decide +kernel
theorem dX6_countTuples_4 : decode cX6_countTuples 4 = .ok (.invokevirtual 169, 3) := by decide +kernel
theorem dX6_countTuples_7 : decode cX6_countTuples 7 = .ok (.aload_n 0, 1) := by decide +kernel
theorem dX6_countTuples_8 : decode cX6_countTuples 8 = .ok (.getfield 37, 3) := by decide +kernel
theorem dX6_countTuples_11 : decode cX6_countTuples 11 = .ok (.getfield 170, 3) := by decide +kernel
theorem dX6_countTuples_14 : decode cX6_countTuples 14 = .ok (.ireturn, 1) := by decide +kernel
theorem dX6_countEntries_0 : decode cX6_countEntries 0 = .ok (.aload_n 0, 1) := by decide +kernel
theorem dX6_countEntries_1 : decode cX6_countEntries 1 = .ok (.getfield 37, 3) := by decide +kernel
theorem dX6_countEntries_4 : decode cX6_countEntries 4 = .ok (.invokevirtual 169, 3) := by decide +kernel
theorem dX6_countEntries_7 : decode cX6_countEntries 7 = .ok (.iconst 0, 1) := by decide +kernel
theorem dX6_countEntries_8 : decode cX6_countEntries 8 = .ok (.istore_n 1, 1) := by decide +kernel
theorem dX6_countEntries_9 : decode cX6_countEntries 9 = .ok (.iconst 0, 1) := by decide +kernel
theorem dX6_countEntries_10 : decode cX6_countEntries 10 = .ok (.istore_n 2, 1) := by decide +kernel
theorem dX6_countEntries_11 : decode cX6_countEntries 11 = .ok (.iload_n 2, 1) := by decide +kernel
theorem dX6_countEntries_12 : decode cX6_countEntries 12 = .ok (.aload_n 0, 1) := by decide +kernel
theorem dX6_countEntries_13 : decode cX6_countEntries 13 = .ok (.getfield 37, 3) := by decide +kernel
theorem dX6_countEntries_16 : decode cX6_countEntries 16 = .ok (.getfield 170, 3) := by decide +kernel
theorem dX6_countEntries_19 : decode cX6_countEntries 19 = .ok (.if_icmp .ge 21, 3) := by decide +kernel
theorem dX6_countEntries_22 : decode cX6_countEntries 22 = .ok (.iload_n 1, 1) := by decide +kernel
theorem dX6_countEntries_23 : decode cX6_countEntries 23 = .ok (.aload_n 0, 1) := by decide +kernel
theorem dX6_countEntries_24 : decode cX6_countEntries 24 = .ok (.getfield 37, 3) := by decide +kernel
theorem dX6_countEntries_27 : decode cX6_countEntries 27 = .ok (.getfield 171, 3) := by decide +kernel
theorem dX6_countEntries_30 : decode cX6_countEntries 30 = .ok (.iload_n 2, 1) := by decide +kernel
theorem dX6_countEntries_31 : decode cX6_countEntries 31 = .ok (.iaload, 1) := by decide +kernel
theorem dX6_countEntries_32 : decode cX6_countEntries 32 = .ok (.iadd, 1) := by decide +kernel
theorem dX6_countEntries_33 : decode cX6_countEntries 33 = .ok (.istore_n 1, 1) := by decide +kernel
theorem dX6_countEntries_34 : decode cX6_countEntries 34 = .ok (.iinc 2 1, 3) := by decide +kernel
theorem dX6_countEntries_37 : decode cX6_countEntries 37 = .ok (.goto (-26), 3) := by decide +kernel
theorem dX6_countEntries_40 : decode cX6_countEntries 40 = .ok (.iload_n 1, 1) := by decide +kernel
theorem dX6_countEntries_41 : decode cX6_countEntries 41 = .ok (.ireturn, 1) := by decide +kernel
theorem dX6_countIdle_0 : decode cX6_countIdle 0 = .ok (.aload_n 0, 1) := by decide +kernel
theorem dX6_countIdle_1 : decode cX6_countIdle 1 = .ok (.getfield 30, 3) := by decide +kernel
theorem dX6_countIdle_4 : decode cX6_countIdle 4 = .ok (.invokevirtual 134, 3) := by decide +kernel
theorem dX6_countIdle_7 : decode cX6_countIdle 7 = .ok (.iconst 0, 1) := by decide +kernel
theorem dX6_countIdle_8 : decode cX6_countIdle 8 = .ok (.istore_n 1, 1) := by decide +kernel
theorem dX6_countIdle_9 : decode cX6_countIdle 9 = .ok (.iconst 0, 1) := by decide +kernel
theorem dX6_countIdle_10 : decode cX6_countIdle 10 = .ok (.istore_n 2, 1) := by decide +kernel
theorem dX6_countIdle_11 : decode cX6_countIdle 11 = .ok (.iload_n 2, 1) := by decide +kernel
theorem dX6_countIdle_12 : decode cX6_countIdle 12 = .ok (.aload_n 0, 1) := by decide +kernel
theorem dX6_countIdle_13 : decode cX6_countIdle 13 = .ok (.getfield 10, 3) := by decide +kernel
theorem dX6_countIdle_16 : decode cX6_countIdle 16 = .ok (.getfield 84, 3) := by decide +kernel
theorem dX6_countIdle_19 : decode cX6_countIdle 19 = .ok (.if_icmp .ge 24, 3) := by decide +kernel
theorem dX6_countIdle_22 : decode cX6_countIdle 22 = .ok (.aload_n 0, 1) := by decide +kernel
theorem dX6_countIdle_23 : decode cX6_countIdle 23 = .ok (.getfield 30, 3) := by decide +kernel
theorem dX6_countIdle_26 : decode cX6_countIdle 26 = .ok (.getfield 147, 3) := by decide +kernel
theorem dX6_countIdle_29 : decode cX6_countIdle 29 = .ok (.iload_n 2, 1) := by decide +kernel
theorem dX6_countIdle_30 : decode cX6_countIdle 30 = .ok (.baload, 1) := by decide +kernel
theorem dX6_countIdle_31 : decode cX6_countIdle 31 = .ok (.ifCond .ne 6, 3) := by decide +kernel
theorem dX6_countIdle_34 : decode cX6_countIdle 34 = .ok (.iinc 1 1, 3) := by decide +kernel
theorem dX6_countIdle_37 : decode cX6_countIdle 37 = .ok (.iinc 2 1, 3) := by decide +kernel
theorem dX6_countIdle_40 : decode cX6_countIdle 40 = .ok (.goto (-29), 3) := by decide +kernel
theorem dX6_countIdle_43 : decode cX6_countIdle 43 = .ok (.iload_n 1, 1) := by decide +kernel
theorem dX6_countIdle_44 : decode cX6_countIdle 44 = .ok (.ireturn, 1) := by decide +kernel
theorem dX6_countCovered_0 : decode cX6_countCovered 0 = .ok (.iconst 0, 1) := by decide +kernel
theorem dX6_countCovered_1 : decode cX6_countCovered 1 = .ok (.istore_n 1, 1) := by decide +kernel
theorem dX6_countCovered_2 : decode cX6_countCovered 2 = .ok (.iconst 0, 1) := by decide +kernel
theorem dX6_countCovered_3 : decode cX6_countCovered 3 = .ok (.istore_n 2, 1) := by decide +kernel
theorem dX6_countCovered_4 : decode cX6_countCovered 4 = .ok (.iload_n 2, 1) := by decide +kernel
theorem dX6_countCovered_5 : decode cX6_countCovered 5 = .ok (.aload_n 0, 1) := by decide +kernel
theorem dX6_countCovered_6 : decode cX6_countCovered 6 = .ok (.getfield 10, 3) := by decide +kernel
theorem dX6_countCovered_9 : decode cX6_countCovered 9 = .ok (.getfield 84, 3) := by decide +kernel
theorem dX6_countCovered_12 : decode cX6_countCovered 12 = .ok (.if_icmp .ge 25, 3) := by decide +kernel
theorem dX6_countCovered_15 : decode cX6_countCovered 15 = .ok (.aload_n 0, 1) := by decide +kernel
theorem dX6_countCovered_16 : decode cX6_countCovered 16 = .ok (.getfield 10, 3) := by decide +kernel
theorem dX6_countCovered_19 : decode cX6_countCovered 19 = .ok (.iload_n 2, 1) := by decide +kernel
theorem dX6_countCovered_20 : decode cX6_countCovered 20 = .ok (.invokevirtual 144, 3) := by decide +kernel
theorem dX6_countCovered_23 : decode cX6_countCovered 23 = .ok (.bipush (-6), 2) := by decide +kernel
theorem dX6_countCovered_25 : decode cX6_countCovered 25 = .ok (.if_icmp .eq 6, 3) := by decide +kernel
theorem dX6_countCovered_28 : decode cX6_countCovered 28 = .ok (.iinc 1 1, 3) := by decide +kernel
theorem dX6_countCovered_31 : decode cX6_countCovered 31 = .ok (.iinc 2 1, 3) := by decide +kernel
theorem dX6_countCovered_34 : decode cX6_countCovered 34 = .ok (.goto (-30), 3) := by decide +kernel
theorem dX6_countCovered_37 : decode cX6_countCovered 37 = .ok (.iload_n 1, 1) := by decide +kernel
theorem dX6_countCovered_38 : decode cX6_countCovered 38 = .ok (.ireturn, 1) := by decide +kernel
theorem dX6_keptImages_0 : decode cX6_keptImages 0 = .ok (.iconst 0, 1) := by decide +kernel
theorem dX6_keptImages_1 : decode cX6_keptImages 1 = .ok (.istore_n 1, 1) := by decide +kernel
theorem dX6_keptImages_2 : decode cX6_keptImages 2 = .ok (.iconst 0, 1) := by decide +kernel
theorem dX6_keptImages_3 : decode cX6_keptImages 3 = .ok (.istore_n 2, 1) := by decide +kernel
theorem dX6_keptImages_4 : decode cX6_keptImages 4 = .ok (.iload_n 2, 1) := by decide +kernel
theorem dX6_keptImages_5 : decode cX6_keptImages 5 = .ok (.iconst 2, 1) := by decide +kernel
theorem dX6_keptImages_6 : decode cX6_keptImages 6 = .ok (.if_icmp .ge 27, 3) := by decide +kernel
theorem dX6_keptImages_9 : decode cX6_keptImages 9 = .ok (.aload_n 0, 1) := by decide +kernel
theorem dX6_keptImages_10 : decode cX6_keptImages 10 = .ok (.getfield 52, 3) := by decide +kernel
theorem dX6_keptImages_13 : decode cX6_keptImages 13 = .ok (.iload_n 2, 1) := by decide +kernel
theorem dX6_keptImages_14 : decode cX6_keptImages 14 = .ok (.aaload, 1) := by decide +kernel
theorem dX6_keptImages_15 : decode cX6_keptImages 15 = .ok (.getfield 243, 3) := by decide +kernel
theorem dX6_keptImages_18 : decode cX6_keptImages 18 = .ok (.ifCond .eq 9, 3) := by decide +kernel
theorem dX6_keptImages_21 : decode cX6_keptImages 21 = .ok (.iload_n 1, 1) := by decide +kernel
theorem dX6_keptImages_22 : decode cX6_keptImages 22 = .ok (.iconst 1, 1) := by decide +kernel
theorem dX6_keptImages_23 : decode cX6_keptImages 23 = .ok (.iload_n 2, 1) := by decide +kernel
theorem dX6_keptImages_24 : decode cX6_keptImages 24 = .ok (.ishl, 1) := by decide +kernel
theorem dX6_keptImages_25 : decode cX6_keptImages 25 = .ok (.iadd, 1) := by decide +kernel
theorem dX6_keptImages_26 : decode cX6_keptImages 26 = .ok (.istore_n 1, 1) := by decide +kernel
theorem dX6_keptImages_27 : decode cX6_keptImages 27 = .ok (.iinc 2 1, 3) := by decide +kernel
theorem dX6_keptImages_30 : decode cX6_keptImages 30 = .ok (.goto (-26), 3) := by decide +kernel
theorem dX6_keptImages_33 : decode cX6_keptImages 33 = .ok (.iload_n 1, 1) := by decide +kernel
theorem dX6_keptImages_34 : decode cX6_keptImages 34 = .ok (.ireturn, 1) := by decide +kernel
theorem dX7_init_0 : decode cX7_init 0 = .ok (.aload_n 0, 1) := by decide +kernel
theorem dX7_init_1 : decode cX7_init 1 = .ok (.invokespecial 1, 3) := by decide +kernel
theorem dX7_init_4 : decode cX7_init 4 = .ok (.aload_n 0, 1) := by decide +kernel
theorem dX7_init_5 : decode cX7_init 5 = .ok (.bipush 68, 2) := by decide +kernel
theorem dX7_init_7 : decode cX7_init 7 = .ok (.newarray .int, 2) := by decide +kernel
theorem dX7_init_9 : decode cX7_init 9 = .ok (.putfield 7, 3) := by decide +kernel
theorem dX7_init_12 : decode cX7_init 12 = .ok (.aload_n 0, 1) := by decide +kernel
theorem dX7_init_13 : decode cX7_init 13 = .ok (.bipush 68, 2) := by decide +kernel
theorem dX7_init_15 : decode cX7_init 15 = .ok (.newarray .int, 2) := by decide +kernel
theorem dX7_init_17 : decode cX7_init 17 = .ok (.putfield 13, 3) := by decide +kernel
theorem dX7_init_20 : decode cX7_init 20 = .ok (.aload_n 0, 1) := by decide +kernel
theorem dX7_init_21 : decode cX7_init 21 = .ok (.bipush 16, 2) := by decide +kernel
theorem dX7_init_23 : decode cX7_init 23 = .ok (.newarray .int, 2) := by decide +kernel
theorem dX7_init_25 : decode cX7_init 25 = .ok (.putfield 16, 3) := by decide +kernel
theorem dX7_init_28 : decode cX7_init 28 = .ok (.aload_n 0, 1) := by decide +kernel
theorem dX7_init_29 : decode cX7_init 29 = .ok (.bipush 16, 2) := by decide +kernel
theorem dX7_init_31 : decode cX7_init 31 = .ok (.newarray .int, 2) := by decide +kernel
theorem dX7_init_33 : decode cX7_init 33 = .ok (.putfield 19, 3) := by decide +kernel
theorem dX7_init_36 : decode cX7_init 36 = .ok (.aload_n 0, 1) := by decide +kernel
theorem dX7_init_37 : decode cX7_init 37 = .ok (.iconst 2, 1) := by decide +kernel
theorem dX7_init_38 : decode cX7_init 38 = .ok (.putfield 22, 3) := by decide +kernel
theorem dX7_init_41 : decode cX7_init 41 = .ok (.aload_n 0, 1) := by decide +kernel
theorem dX7_init_42 : decode cX7_init 42 = .ok (.bipush 6, 2) := by decide +kernel
theorem dX7_init_44 : decode cX7_init 44 = .ok (.putfield 26, 3) := by decide +kernel
theorem dX7_init_47 : decode cX7_init 47 = .ok (.aload_n 0, 1) := by decide +kernel
theorem dX7_init_48 : decode cX7_init 48 = .ok (.bipush 16, 2) := by decide +kernel
theorem dX7_init_50 : decode cX7_init 50 = .ok (.newarray .int, 2) := by decide +kernel
theorem dX7_init_52 : decode cX7_init 52 = .ok (.putfield 29, 3) := by decide +kernel
theorem dX7_init_55 : decode cX7_init 55 = .ok (.aload_n 0, 1) := by decide +kernel
theorem dX7_init_56 : decode cX7_init 56 = .ok (.sipush 256, 3) := by decide +kernel
theorem dX7_init_59 : decode cX7_init 59 = .ok (.newarray .int, 2) := by decide +kernel
theorem dX7_init_61 : decode cX7_init 61 = .ok (.putfield 32, 3) := by decide +kernel
theorem dX7_init_64 : decode cX7_init 64 = .ok (.aload_n 0, 1) := by decide +kernel
theorem dX7_init_65 : decode cX7_init 65 = .ok (.sipush 256, 3) := by decide +kernel
theorem dX7_init_68 : decode cX7_init 68 = .ok (.newarray .int, 2) := by decide +kernel
theorem dX7_init_70 : decode cX7_init 70 = .ok (.putfield 35, 3) := by decide +kernel
theorem dX7_init_73 : decode cX7_init 73 = .ok (.aload_n 0, 1) := by decide +kernel
theorem dX7_init_74 : decode cX7_init 74 = .ok (.sipush 256, 3) := by decide +kernel
theorem dX7_init_77 : decode cX7_init 77 = .ok (.newarray .int, 2) := by decide +kernel
theorem dX7_init_79 : decode cX7_init 79 = .ok (.putfield 38, 3) := by decide +kernel
theorem dX7_init_82 : decode cX7_init 82 = .ok (.aload_n 0, 1) := by decide +kernel
theorem dX7_init_83 : decode cX7_init 83 = .ok (.iconst 4, 1) := by decide +kernel
theorem dX7_init_84 : decode cX7_init 84 = .ok (.newarray .int, 2) := by decide +kernel
theorem dX7_init_86 : decode cX7_init 86 = .ok (.putfield 41, 3) := by decide +kernel
theorem dX7_init_89 : decode cX7_init 89 = .ok (.aload_n 0, 1) := by decide +kernel
theorem dX7_init_90 : decode cX7_init 90 = .ok (.bipush 16, 2) := by decide +kernel
theorem dX7_init_92 : decode cX7_init 92 = .ok (.newarray .int, 2) := by decide +kernel
theorem dX7_init_94 : decode cX7_init 94 = .ok (.putfield 44, 3) := by decide +kernel
theorem dX7_init_97 : decode cX7_init 97 = .ok (.aload_n 0, 1) := by decide +kernel
theorem dX7_init_98 : decode cX7_init 98 = .ok (.bipush 16, 2) := by decide +kernel
theorem dX7_init_100 : decode cX7_init 100 = .ok (.newarray .boolean, 2) := by decide +kernel
theorem dX7_init_102 : decode cX7_init 102 = .ok (.putfield 47, 3) := by decide +kernel
theorem dX7_init_105 : decode cX7_init 105 = .ok (.aload_n 0, 1) := by decide +kernel
theorem dX7_init_106 : decode cX7_init 106 = .ok (.bipush 11, 2) := by decide +kernel
theorem dX7_init_108 : decode cX7_init 108 = .ok (.newarray .int, 2) := by decide +kernel
theorem dX7_init_110 : decode cX7_init 110 = .ok (.putfield 51, 3) := by decide +kernel
theorem dX7_init_113 : decode cX7_init 113 = .ok (.aload_n 0, 1) := by decide +kernel
theorem dX7_init_114 : decode cX7_init 114 = .ok (.sipush 448, 3) := by decide +kernel
theorem dX7_init_117 : decode cX7_init 117 = .ok (.newarray .int, 2) := by decide +kernel
theorem dX7_init_119 : decode cX7_init 119 = .ok (.putfield 54, 3) := by decide +kernel
theorem dX7_init_122 : decode cX7_init 122 = .ok (.aload_n 0, 1) := by decide +kernel
theorem dX7_init_123 : decode cX7_init 123 = .ok (.sipush 1029, 3) := by decide +kernel
theorem dX7_init_126 : decode cX7_init 126 = .ok (.newarray .int, 2) := by decide +kernel
theorem dX7_init_128 : decode cX7_init 128 = .ok (.putfield 57, 3) := by decide +kernel
theorem dX7_init_131 : decode cX7_init 131 = .ok (.aload_n 0, 1) := by decide +kernel
theorem dX7_init_132 : decode cX7_init 132 = .ok (.sipush 1029, 3) := by decide +kernel
theorem dX7_init_135 : decode cX7_init 135 = .ok (.newarray .int, 2) := by decide +kernel
theorem dX7_init_137 : decode cX7_init 137 = .ok (.putfield 60, 3) := by decide +kernel
theorem dX7_init_140 : decode cX7_init 140 = .ok (.aload_n 0, 1) := by decide +kernel
theorem dX7_init_141 : decode cX7_init 141 = .ok (.sipush 1029, 3) := by decide +kernel
theorem dX7_init_144 : decode cX7_init 144 = .ok (.newarray .int, 2) := by decide +kernel
theorem dX7_init_146 : decode cX7_init 146 = .ok (.putfield 63, 3) := by decide +kernel
theorem dX7_init_149 : decode cX7_init 149 = .ok (.aload_n 0, 1) := by decide +kernel
theorem dX7_init_150 : decode cX7_init 150 = .ok (.bipush 16, 2) := by decide +kernel
theorem dX7_init_152 : decode cX7_init 152 = .ok (.newarray .int, 2) := by decide +kernel
theorem dX7_init_154 : decode cX7_init 154 = .ok (.putfield 66, 3) := by decide +kernel
theorem dX7_init_157 : decode cX7_init 157 = .ok (.aload_n 0, 1) := by decide +kernel
theorem dX7_init_158 : decode cX7_init 158 = .ok (.sipush 2044, 3) := by decide +kernel
theorem dX7_init_161 : decode cX7_init 161 = .ok (.newarray .int, 2) := by decide +kernel
theorem dX7_init_163 : decode cX7_init 163 = .ok (.putfield 69, 3) := by decide +kernel
theorem dX7_init_166 : decode cX7_init 166 = .ok (.aload_n 0, 1) := by decide +kernel
theorem dX7_init_167 : decode cX7_init 167 = .ok (.sipush 2044, 3) := by decide +kernel
theorem dX7_init_170 : decode cX7_init 170 = .ok (.newarray .int, 2) := by decide +kernel
theorem dX7_init_172 : decode cX7_init 172 = .ok (.putfield 72, 3) := by decide +kernel
theorem dX7_init_175 : decode cX7_init 175 = .ok (.aload_n 0, 1) := by decide +kernel
theorem dX7_init_176 : decode cX7_init 176 = .ok (.sipush 511, 3) := by decide +kernel
theorem dX7_init_179 : decode cX7_init 179 = .ok (.newarray .int, 2) := by decide +kernel
theorem dX7_init_181 : decode cX7_init 181 = .ok (.putfield 75, 3) := by decide +kernel
theorem dX7_init_184 : decode cX7_init 184 = .ok (.aload_n 0, 1) := by decide +kernel
theorem dX7_init_185 : decode cX7_init 185 = .ok (.sipush 511, 3) := by decide +kernel
theorem dX7_init_188 : decode cX7_init 188 = .ok (.newarray .int, 2) := by decide +kernel
theorem dX7_init_190 : decode cX7_init 190 = .ok (.putfield 78, 3) := by decide +kernel
theorem dX7_init_193 : decode cX7_init 193 = .ok (.aload_n 0, 1) := by decide +kernel
theorem dX7_init_194 : decode cX7_init 194 = .ok (.sipush 511, 3) := by decide +kernel
theorem dX7_init_197 : decode cX7_init 197 = .ok (.newarray .int, 2) := by decide +kernel
theorem dX7_init_199 : decode cX7_init 199 = .ok (.putfield 81, 3) := by decide +kernel
theorem dX7_init_202 : decode cX7_init 202 = .ok (.aload_n 0, 1) := by decide +kernel
theorem dX7_init_203 : decode cX7_init 203 = .ok (.sipush 511, 3) := by decide +kernel
theorem dX7_init_206 : decode cX7_init 206 = .ok (.newarray .int, 2) := by decide +kernel
theorem dX7_init_208 : decode cX7_init 208 = .ok (.putfield 84, 3) := by decide +kernel
theorem dX7_init_211 : decode cX7_init 211 = .ok (.aload_n 0, 1) := by decide +kernel
theorem dX7_init_212 : decode cX7_init 212 = .ok (.sipush 326, 3) := by decide +kernel
theorem dX7_init_215 : decode cX7_init 215 = .ok (.newarray .int, 2) := by decide +kernel
theorem dX7_init_217 : decode cX7_init 217 = .ok (.putfield 87, 3) := by decide +kernel
theorem dX7_init_220 : decode cX7_init 220 = .ok (.aload_n 0, 1) := by decide +kernel
theorem dX7_init_221 : decode cX7_init 221 = .ok (.iconst 2, 1) := by decide +kernel
theorem dX7_init_222 : decode cX7_init 222 = .ok (.newarray .boolean, 2) := by decide +kernel
theorem dX7_init_224 : decode cX7_init 224 = .ok (.putfield 90, 3) := by decide +kernel
theorem dX7_init_227 : decode cX7_init 227 = .ok (.aload_n 0, 1) := by decide +kernel
theorem dX7_init_228 : decode cX7_init 228 = .ok (.invokevirtual 93, 3) := by decide +kernel
theorem dX7_init_231 : decode cX7_init 231 = .ok (.return_, 1) := by decide +kernel
theorem dX7_in_0 : decode cX7_in 0 = .ok (.iload_n 0, 1) := by decide +kernel
theorem dX7_in_1 : decode cX7_in 1 = .ok (.iload_n 1, 1) := by decide +kernel
theorem dX7_in_2 : decode cX7_in 2 = .ok (.if_icmp .lt 12, 3) := by decide +kernel
theorem dX7_in_5 : decode cX7_in 5 = .ok (.iload_n 0, 1) := by decide +kernel
theorem dX7_in_6 : decode cX7_in 6 = .ok (.iload_n 2, 1) := by decide +kernel
theorem dX7_in_7 : decode cX7_in 7 = .ok (.if_icmp .gt 7, 3) := by decide +kernel
theorem dX7_in_10 : decode cX7_in 10 = .ok (.iconst 1, 1) := by decide +kernel
theorem dX7_in_11 : decode cX7_in 11 = .ok (.goto 4, 3) := by decide +kernel
theorem dX7_in_14 : decode cX7_in 14 = .ok (.iconst 0, 1) := by decide +kernel
theorem dX7_in_15 : decode cX7_in 15 = .ok (.ireturn, 1) := by decide +kernel
theorem dX7_width_0 : decode cX7_width 0 = .ok (.iload_n 0, 1) := by decide +kernel
theorem dX7_width_1 : decode cX7_width 1 = .ok (.iconst 3, 1) := by decide +kernel
theorem dX7_width_2 : decode cX7_width 2 = .ok (.if_icmp .ne 7, 3) := by decide +kernel
theorem dX7_width_5 : decode cX7_width 5 = .ok (.iconst 2, 1) := by decide +kernel
theorem dX7_width_6 : decode cX7_width 6 = .ok (.goto 5, 3) := by decide +kernel
theorem dX7_width_9 : decode cX7_width 9 = .ok (.bipush 6, 2) := by decide +kernel
theorem dX7_width_11 : decode cX7_width 11 = .ok (.ireturn, 1) := by decide +kernel
theorem dX7_most_0 : decode cX7_most 0 = .ok (.iconst 1, 1) := by decide +kernel
theorem dX7_most_1 : decode cX7_most 1 = .ok (.iload_n 0, 1) := by decide +kernel
theorem dX7_most_2 : decode cX7_most 2 = .ok (.invokestatic 96, 3) := by decide +kernel
theorem dX7_most_5 : decode cX7_most 5 = .ok (.ishl, 1) := by decide +kernel
theorem dX7_most_6 : decode cX7_most 6 = .ok (.iconst 1, 1) := by decide +kernel
theorem dX7_most_7 : decode cX7_most 7 = .ok (.isub, 1) := by decide +kernel
theorem dX7_most_8 : decode cX7_most 8 = .ok (.ireturn, 1) := by decide +kernel
theorem dX7_isField_0 : decode cX7_isField 0 = .ok (.iload_n 0, 1) := by decide +kernel
theorem dX7_isField_1 : decode cX7_isField 1 = .ok (.iconst 0, 1) := by decide +kernel
theorem dX7_isField_2 : decode cX7_isField 2 = .ok (.iconst 3, 1) := by decide +kernel
theorem dX7_isField_3 : decode cX7_isField 3 = .ok (.invokestatic 100, 3) := by decide +kernel
theorem dX7_isField_6 : decode cX7_isField 6 = .ok (.ireturn, 1) := by decide +kernel
theorem dX7_isRule_0 : decode cX7_isRule 0 = .ok (.iload_n 1, 1) := by decide +kernel
theorem dX7_isRule_1 : decode cX7_isRule 1 = .ok (.iconst 0, 1) := by decide +kernel
theorem dX7_isRule_2 : decode cX7_isRule 2 = .ok (.aload_n 0, 1) := by decide +kernel
theorem dX7_isRule_3 : decode cX7_isRule 3 = .ok (.getfield 104, 3) := by decide +kernel
theorem dX7_isRule_6 : decode cX7_isRule 6 = .ok (.iconst 1, 1) := by decide +kernel
theorem dX7_isRule_7 : decode cX7_isRule 7 = .ok (.isub, 1) := by decide +kernel
theorem dX7_isRule_8 : decode cX7_isRule 8 = .ok (.invokestatic 100, 3) := by decide +kernel
theorem dX7_isRule_11 : decode cX7_isRule 11 = .ok (.ireturn, 1) := by decide +kernel
theorem dX7_isPacket_0 : decode cX7_isPacket 0 = .ok (.iload_n 0, 1) := by decide +kernel
theorem dX7_isPacket_1 : decode cX7_isPacket 1 = .ok (.iconst 0, 1) := by decide +kernel
theorem dX7_isPacket_2 : decode cX7_isPacket 2 = .ok (.bipush 63, 2) := by decide +kernel
theorem dX7_isPacket_4 : decode cX7_isPacket 4 = .ok (.invokestatic 100, 3) := by decide +kernel
theorem dX7_isPacket_7 : decode cX7_isPacket 7 = .ok (.ifCond .eq 36, 3) := by decide +kernel
theorem dX7_isPacket_10 : decode cX7_isPacket 10 = .ok (.iload_n 1, 1) := by decide +kernel
theorem dX7_isPacket_11 : decode cX7_isPacket 11 = .ok (.iconst 0, 1) := by decide +kernel
theorem dX7_isPacket_12 : decode cX7_isPacket 12 = .ok (.bipush 63, 2) := by decide +kernel
theorem dX7_isPacket_14 : decode cX7_isPacket 14 = .ok (.invokestatic 100, 3) := by decide +kernel
theorem dX7_isPacket_17 : decode cX7_isPacket 17 = .ok (.ifCond .eq 26, 3) := by decide +kernel
theorem dX7_isPacket_20 : decode cX7_isPacket 20 = .ok (.iload_n 2, 1) := by decide +kernel
theorem dX7_isPacket_21 : decode cX7_isPacket 21 = .ok (.iconst 0, 1) := by decide +kernel
theorem dX7_isPacket_22 : decode cX7_isPacket 22 = .ok (.bipush 63, 2) := by decide +kernel
theorem dX7_isPacket_24 : decode cX7_isPacket 24 = .ok (.invokestatic 100, 3) := by decide +kernel
theorem dX7_isPacket_27 : decode cX7_isPacket 27 = .ok (.ifCond .eq 16, 3) := by decide +kernel
theorem dX7_isPacket_30 : decode cX7_isPacket 30 = .ok (.iload_n 3, 1) := by decide +kernel
theorem dX7_isPacket_31 : decode cX7_isPacket 31 = .ok (.iconst 0, 1) := by decide +kernel
theorem dX7_isPacket_32 : decode cX7_isPacket 32 = .ok (.iconst 3, 1) := by decide +kernel
theorem dX7_isPacket_33 : decode cX7_isPacket 33 = .ok (.invokestatic 100, 3) := by decide +kernel
theorem dX7_isPacket_36 : decode cX7_isPacket 36 = .ok (.ifCond .eq 7, 3) := by decide +kernel
theorem dX7_isPacket_39 : decode cX7_isPacket 39 = .ok (.iconst 1, 1) := by decide +kernel
theorem dX7_isPacket_40 : decode cX7_isPacket 40 = .ok (.goto 4, 3) := by decide +kernel
theorem dX7_isPacket_43 : decode cX7_isPacket 43 = .ok (.iconst 0, 1) := by decide +kernel
theorem dX7_isPacket_44 : decode cX7_isPacket 44 = .ok (.ireturn, 1) := by decide +kernel
theorem dX7_has_0 : decode cX7_has 0 = .ok (.iload_n 0, 1) := by decide +kernel
theorem dX7_has_1 : decode cX7_has 1 = .ok (.iload_n 1, 1) := by decide +kernel
theorem dX7_has_2 : decode cX7_has 2 = .ok (.ishr, 1) := by decide +kernel
theorem dX7_has_3 : decode cX7_has 3 = .ok (.iconst 1, 1) := by decide +kernel
theorem dX7_has_4 : decode cX7_has 4 = .ok (.iand, 1) := by decide +kernel
theorem dX7_has_5 : decode cX7_has 5 = .ok (.iconst 1, 1) := by decide +kernel
theorem dX7_has_6 : decode cX7_has 6 = .ok (.if_icmp .ne 7, 3) := by decide +kernel
theorem dX7_has_9 : decode cX7_has 9 = .ok (.iconst 1, 1) := by decide +kernel
theorem dX7_has_10 : decode cX7_has 10 = .ok (.goto 4, 3) := by decide +kernel
theorem dX7_has_13 : decode cX7_has 13 = .ok (.iconst 0, 1) := by decide +kernel
theorem dX7_has_14 : decode cX7_has 14 = .ok (.ireturn, 1) := by decide +kernel
theorem dX7_bits_0 : decode cX7_bits 0 = .ok (.iconst 0, 1) := by decide +kernel
theorem dX7_bits_1 : decode cX7_bits 1 = .ok (.istore_n 1, 1) := by decide +kernel
theorem dX7_bits_2 : decode cX7_bits 2 = .ok (.iconst 0, 1) := by decide +kernel
theorem dX7_bits_3 : decode cX7_bits 3 = .ok (.istore_n 2, 1) := by decide +kernel
theorem dX7_bits_4 : decode cX7_bits 4 = .ok (.iload_n 2, 1) := by decide +kernel
theorem dX7_bits_5 : decode cX7_bits 5 = .ok (.bipush 16, 2) := by decide +kernel
theorem dX7_bits_7 : decode cX7_bits 7 = .ok (.if_icmp .ge 17, 3) := by decide +kernel
theorem dX7_bits_10 : decode cX7_bits 10 = .ok (.iload_n 1, 1) := by decide +kernel
theorem dX7_bits_11 : decode cX7_bits 11 = .ok (.iload_n 0, 1) := by decide +kernel
theorem dX7_bits_12 : decode cX7_bits 12 = .ok (.iload_n 2, 1) := by decide +kernel
theorem dX7_bits_13 : decode cX7_bits 13 = .ok (.ishr, 1) := by decide +kernel
theorem dX7_bits_14 : decode cX7_bits 14 = .ok (.iconst 1, 1) := by decide +kernel
theorem dX7_bits_15 : decode cX7_bits 15 = .ok (.iand, 1) := by decide +kernel
theorem dX7_bits_16 : decode cX7_bits 16 = .ok (.iadd, 1) := by decide +kernel
theorem dX7_bits_17 : decode cX7_bits 17 = .ok (.istore_n 1, 1) := by decide +kernel
theorem dX7_bits_18 : decode cX7_bits 18 = .ok (.iinc 2 1, 3) := by decide +kernel
theorem dX7_bits_21 : decode cX7_bits 21 = .ok (.goto (-17), 3) := by decide +kernel
theorem dX7_bits_24 : decode cX7_bits 24 = .ok (.iload_n 1, 1) := by decide +kernel
theorem dX7_bits_25 : decode cX7_bits 25 = .ok (.ireturn, 1) := by decide +kernel
theorem dX7_lowest_0 : decode cX7_lowest 0 = .ok (.iconst 0, 1) := by decide +kernel
theorem dX7_lowest_1 : decode cX7_lowest 1 = .ok (.istore_n 1, 1) := by decide +kernel
theorem dX7_lowest_2 : decode cX7_lowest 2 = .ok (.iload_n 1, 1) := by decide +kernel
theorem dX7_lowest_3 : decode cX7_lowest 3 = .ok (.bipush 16, 2) := by decide +kernel
theorem dX7_lowest_5 : decode cX7_lowest 5 = .ok (.if_icmp .ge 17, 3) := by decide +kernel
theorem dX7_lowest_8 : decode cX7_lowest 8 = .ok (.iload_n 0, 1) := by decide +kernel
theorem dX7_lowest_9 : decode cX7_lowest 9 = .ok (.iload_n 1, 1) := by decide +kernel
theorem dX7_lowest_10 : decode cX7_lowest 10 = .ok (.invokestatic 107, 3) := by decide +kernel
theorem dX7_lowest_13 : decode cX7_lowest 13 = .ok (.ifCond .ne 9, 3) := by decide +kernel
theorem dX7_lowest_16 : decode cX7_lowest 16 = .ok (.iinc 1 1, 3) := by decide +kernel
theorem dX7_lowest_19 : decode cX7_lowest 19 = .ok (.goto (-17), 3) := by decide +kernel
theorem dX7_lowest_22 : decode cX7_lowest 22 = .ok (.iload_n 1, 1) := by decide +kernel
theorem dX7_lowest_23 : decode cX7_lowest 23 = .ok (.ireturn, 1) := by decide +kernel
theorem dX7_change_0 : decode cX7_change 0 = .ok (.aload_n 0, 1) := by decide +kernel
theorem dX7_change_1 : decode cX7_change 1 = .ok (.iconst 0, 1) := by decide +kernel
theorem dX7_change_2 : decode cX7_change 2 = .ok (.putfield 111, 3) := by decide +kernel
theorem dX7_change_5 : decode cX7_change 5 = .ok (.aload_n 0, 1) := by decide +kernel
theorem dX7_change_6 : decode cX7_change 6 = .ok (.iconst 0, 1) := by decide +kernel
theorem dX7_change_7 : decode cX7_change 7 = .ok (.putfield 115, 3) := by decide +kernel
theorem dX7_change_10 : decode cX7_change 10 = .ok (.aload_n 0, 1) := by decide +kernel
theorem dX7_change_11 : decode cX7_change 11 = .ok (.iconst 0, 1) := by decide +kernel
theorem dX7_change_12 : decode cX7_change 12 = .ok (.putfield 118, 3) := by decide +kernel
theorem dX7_change_15 : decode cX7_change 15 = .ok (.aload_n 0, 1) := by decide +kernel
theorem dX7_change_16 : decode cX7_change 16 = .ok (.iconst 0, 1) := by decide +kernel
theorem dX7_change_17 : decode cX7_change 17 = .ok (.putfield 121, 3) := by decide +kernel
theorem dX7_change_20 : decode cX7_change 20 = .ok (.return_, 1) := by decide +kernel
theorem dX7_clearDraft_0 : decode cX7_clearDraft 0 = .ok (.iconst 0, 1) := by decide +kernel
theorem dX7_clearDraft_1 : decode cX7_clearDraft 1 = .ok (.istore_n 1, 1) := by decide +kernel
theorem dX7_clearDraft_2 : decode cX7_clearDraft 2 = .ok (.iload_n 1, 1) := by decide +kernel
theorem dX7_clearDraft_3 : decode cX7_clearDraft 3 = .ok (.iconst 4, 1) := by decide +kernel
theorem dX7_clearDraft_4 : decode cX7_clearDraft 4 = .ok (.if_icmp .ge 32, 3) := by decide +kernel
theorem dX7_clearDraft_7 : decode cX7_clearDraft 7 = .ok (.aload_n 0, 1) := by decide +kernel
theorem dX7_clearDraft_8 : decode cX7_clearDraft 8 = .ok (.getfield 7, 3) := by decide +kernel
theorem dX7_clearDraft_11 : decode cX7_clearDraft 11 = .ok (.bipush 64, 2) := by decide +kernel
theorem dX7_clearDraft_13 : decode cX7_clearDraft 13 = .ok (.iload_n 1, 1) := by decide +kernel
theorem dX7_clearDraft_14 : decode cX7_clearDraft 14 = .ok (.iadd, 1) := by decide +kernel
theorem dX7_clearDraft_15 : decode cX7_clearDraft 15 = .ok (.iconst 0, 1) := by decide +kernel
theorem dX7_clearDraft_16 : decode cX7_clearDraft 16 = .ok (.iastore, 1) := by decide +kernel
theorem dX7_clearDraft_17 : decode cX7_clearDraft 17 = .ok (.aload_n 0, 1) := by decide +kernel
theorem dX7_clearDraft_18 : decode cX7_clearDraft 18 = .ok (.getfield 13, 3) := by decide +kernel
theorem dX7_clearDraft_21 : decode cX7_clearDraft 21 = .ok (.bipush 64, 2) := by decide +kernel
theorem dX7_clearDraft_23 : decode cX7_clearDraft 23 = .ok (.iload_n 1, 1) := by decide +kernel
theorem dX7_clearDraft_24 : decode cX7_clearDraft 24 = .ok (.iadd, 1) := by decide +kernel
theorem dX7_clearDraft_25 : decode cX7_clearDraft 25 = .ok (.iload_n 1, 1) := by decide +kernel
theorem dX7_clearDraft_26 : decode cX7_clearDraft 26 = .ok (.invokestatic 124, 3) := by decide +kernel
theorem dX7_clearDraft_29 : decode cX7_clearDraft 29 = .ok (.iastore, 1) := by decide +kernel
theorem dX7_clearDraft_30 : decode cX7_clearDraft 30 = .ok (.iinc 1 1, 3) := by decide +kernel
theorem dX7_clearDraft_33 : decode cX7_clearDraft 33 = .ok (.goto (-31), 3) := by decide +kernel
theorem dX7_clearDraft_36 : decode cX7_clearDraft 36 = .ok (.return_, 1) := by decide +kernel
theorem dX7_draft_0 : decode cX7_draft 0 = .ok (.iload_n 1, 1) := by decide +kernel
theorem dX7_draft_1 : decode cX7_draft 1 = .ok (.invokestatic 127, 3) := by decide +kernel
theorem dX7_draft_4 : decode cX7_draft 4 = .ok (.ifCond .ne 5, 3) := by decide +kernel
theorem dX7_draft_7 : decode cX7_draft 7 = .ok (.iconst (-1), 1) := by decide +kernel
theorem dX7_draft_8 : decode cX7_draft 8 = .ok (.ireturn, 1) := by decide +kernel
theorem dX7_draft_9 : decode cX7_draft 9 = .ok (.iload_n 2, 1) := by decide +kernel
theorem dX7_draft_10 : decode cX7_draft 10 = .ok (.iconst 0, 1) := by decide +kernel
theorem dX7_draft_11 : decode cX7_draft 11 = .ok (.iload_n 1, 1) := by decide +kernel
theorem dX7_draft_12 : decode cX7_draft 12 = .ok (.invokestatic 124, 3) := by decide +kernel
theorem dX7_draft_15 : decode cX7_draft 15 = .ok (.invokestatic 100, 3) := by decide +kernel
theorem dX7_draft_18 : decode cX7_draft 18 = .ok (.ifCond .eq 20, 3) := by decide +kernel
theorem dX7_draft_21 : decode cX7_draft 21 = .ok (.iload_n 3, 1) := by decide +kernel
theorem dX7_draft_22 : decode cX7_draft 22 = .ok (.iconst 0, 1) := by decide +kernel
theorem dX7_draft_23 : decode cX7_draft 23 = .ok (.iload_n 1, 1) := by decide +kernel
theorem dX7_draft_24 : decode cX7_draft 24 = .ok (.invokestatic 124, 3) := by decide +kernel
theorem dX7_draft_27 : decode cX7_draft 27 = .ok (.invokestatic 100, 3) := by decide +kernel
theorem dX7_draft_30 : decode cX7_draft 30 = .ok (.ifCond .eq 8, 3) := by decide +kernel
theorem dX7_draft_33 : decode cX7_draft 33 = .ok (.iload_n 2, 1) := by decide +kernel
theorem dX7_draft_34 : decode cX7_draft 34 = .ok (.iload_n 3, 1) := by decide +kernel
theorem dX7_draft_35 : decode cX7_draft 35 = .ok (.if_icmp .le 6, 3) := by decide +kernel
theorem dX7_draft_38 : decode cX7_draft 38 = .ok (.bipush (-2), 2) := by decide +kernel
theorem dX7_draft_40 : decode cX7_draft 40 = .ok (.ireturn, 1) := by decide +kernel
theorem dX7_draft_41 : decode cX7_draft 41 = .ok (.aload_n 0, 1) := by decide +kernel
theorem dX7_draft_42 : decode cX7_draft 42 = .ok (.getfield 7, 3) := by decide +kernel
theorem dX7_draft_45 : decode cX7_draft 45 = .ok (.bipush 64, 2) := by decide +kernel
theorem dX7_draft_47 : decode cX7_draft 47 = .ok (.iload_n 1, 1) := by decide +kernel
theorem dX7_draft_48 : decode cX7_draft 48 = .ok (.iadd, 1) := by decide +kernel
theorem dX7_draft_49 : decode cX7_draft 49 = .ok (.iload_n 2, 1) := by decide +kernel
theorem dX7_draft_50 : decode cX7_draft 50 = .ok (.iastore, 1) := by decide +kernel
theorem dX7_draft_51 : decode cX7_draft 51 = .ok (.aload_n 0, 1) := by decide +kernel
theorem dX7_draft_52 : decode cX7_draft 52 = .ok (.getfield 13, 3) := by decide +kernel
theorem dX7_draft_55 : decode cX7_draft 55 = .ok (.bipush 64, 2) := by decide +kernel
theorem dX7_draft_57 : decode cX7_draft 57 = .ok (.iload_n 1, 1) := by decide +kernel
theorem dX7_draft_58 : decode cX7_draft 58 = .ok (.iadd, 1) := by decide +kernel
theorem dX7_draft_59 : decode cX7_draft 59 = .ok (.iload_n 3, 1) := by decide +kernel
theorem dX7_draft_60 : decode cX7_draft 60 = .ok (.iastore, 1) := by decide +kernel
theorem dX7_draft_61 : decode cX7_draft 61 = .ok (.iload_n 3, 1) := by decide +kernel
theorem dX7_draft_62 : decode cX7_draft 62 = .ok (.iload_n 2, 1) := by decide +kernel
theorem dX7_draft_63 : decode cX7_draft 63 = .ok (.isub, 1) := by decide +kernel
theorem dX7_draft_64 : decode cX7_draft 64 = .ok (.iconst 1, 1) := by decide +kernel
theorem dX7_draft_65 : decode cX7_draft 65 = .ok (.iadd, 1) := by decide +kernel
theorem dX7_draft_66 : decode cX7_draft 66 = .ok (.ireturn, 1) := by decide +kernel
theorem dX7_rule_0 : decode cX7_rule 0 = .ok (.iload_n 1, 1) := by decide +kernel
theorem dX7_rule_1 : decode cX7_rule 1 = .ok (.iconst 0, 1) := by decide +kernel
theorem dX7_rule_2 : decode cX7_rule 2 = .ok (.sipush 999, 3) := by decide +kernel
theorem dX7_rule_5 : decode cX7_rule 5 = .ok (.invokestatic 100, 3) := by decide +kernel
theorem dX7_rule_8 : decode cX7_rule 8 = .ok (.ifCond .eq 13, 3) := by decide +kernel
theorem dX7_rule_11 : decode cX7_rule 11 = .ok (.iload_n 2, 1) := by decide +kernel
theorem dX7_rule_12 : decode cX7_rule 12 = .ok (.iconst 0, 1) := by decide +kernel
theorem dX7_rule_13 : decode cX7_rule 13 = .ok (.bipush 9, 2) := by decide +kernel
theorem dX7_rule_15 : decode cX7_rule 15 = .ok (.invokestatic 100, 3) := by decide +kernel
theorem dX7_rule_18 : decode cX7_rule 18 = .ok (.ifCond .ne 6, 3) := by decide +kernel
theorem dX7_rule_21 : decode cX7_rule 21 = .ok (.bipush (-2), 2) := by decide +kernel
theorem dX7_rule_23 : decode cX7_rule 23 = .ok (.ireturn, 1) := by decide +kernel
theorem dX7_rule_24 : decode cX7_rule 24 = .ok (.aload_n 0, 1) := by decide +kernel
theorem dX7_rule_25 : decode cX7_rule 25 = .ok (.getfield 104, 3) := by decide +kernel
theorem dX7_rule_28 : decode cX7_rule 28 = .ok (.bipush 16, 2) := by decide +kernel
theorem dX7_rule_30 : decode cX7_rule 30 = .ok (.if_icmp .ne 6, 3) := by decide +kernel
theorem dX7_rule_33 : decode cX7_rule 33 = .ok (.bipush (-4), 2) := by decide +kernel
theorem dX7_rule_35 : decode cX7_rule 35 = .ok (.ireturn, 1) := by decide +kernel
theorem dX7_rule_36 : decode cX7_rule 36 = .ok (.iconst 0, 1) := by decide +kernel
theorem dX7_rule_37 : decode cX7_rule 37 = .ok (.istore_n 3, 1) := by decide +kernel
theorem dX7_rule_38 : decode cX7_rule 38 = .ok (.iload_n 3, 1) := by decide +kernel
theorem dX7_rule_39 : decode cX7_rule 39 = .ok (.iconst 4, 1) := by decide +kernel
theorem dX7_rule_40 : decode cX7_rule 40 = .ok (.if_icmp .ge 53, 3) := by decide +kernel
theorem dX7_rule_43 : decode cX7_rule 43 = .ok (.aload_n 0, 1) := by decide +kernel
theorem dX7_rule_44 : decode cX7_rule 44 = .ok (.getfield 7, 3) := by decide +kernel
theorem dX7_rule_47 : decode cX7_rule 47 = .ok (.iconst 4, 1) := by decide +kernel
theorem dX7_rule_48 : decode cX7_rule 48 = .ok (.aload_n 0, 1) := by decide +kernel
theorem dX7_rule_49 : decode cX7_rule 49 = .ok (.getfield 104, 3) := by decide +kernel
theorem dX7_rule_52 : decode cX7_rule 52 = .ok (.imul, 1) := by decide +kernel
theorem dX7_rule_53 : decode cX7_rule 53 = .ok (.iload_n 3, 1) := by decide +kernel
theorem dX7_rule_54 : decode cX7_rule 54 = .ok (.iadd, 1) := by decide +kernel
theorem dX7_rule_55 : decode cX7_rule 55 = .ok (.aload_n 0, 1) := by decide +kernel
theorem dX7_rule_56 : decode cX7_rule 56 = .ok (.getfield 7, 3) := by decide +kernel
theorem dX7_rule_59 : decode cX7_rule 59 = .ok (.bipush 64, 2) := by decide +kernel
theorem dX7_rule_61 : decode cX7_rule 61 = .ok (.iload_n 3, 1) := by decide +kernel
theorem dX7_rule_62 : decode cX7_rule 62 = .ok (.iadd, 1) := by decide +kernel
theorem dX7_rule_63 : decode cX7_rule 63 = .ok (.iaload, 1) := by decide +kernel
theorem dX7_rule_64 : decode cX7_rule 64 = .ok (.iastore, 1) := by decide +kernel
theorem dX7_rule_65 : decode cX7_rule 65 = .ok (.aload_n 0, 1) := by decide +kernel
theorem dX7_rule_66 : decode cX7_rule 66 = .ok (.getfield 13, 3) := by decide +kernel
theorem dX7_rule_69 : decode cX7_rule 69 = .ok (.iconst 4, 1) := by decide +kernel
theorem dX7_rule_70 : decode cX7_rule 70 = .ok (.aload_n 0, 1) := by decide +kernel
theorem dX7_rule_71 : decode cX7_rule 71 = .ok (.getfield 104, 3) := by decide +kernel
theorem dX7_rule_74 : decode cX7_rule 74 = .ok (.imul, 1) := by decide +kernel
theorem dX7_rule_75 : decode cX7_rule 75 = .ok (.iload_n 3, 1) := by decide +kernel
theorem dX7_rule_76 : decode cX7_rule 76 = .ok (.iadd, 1) := by decide +kernel
theorem dX7_rule_77 : decode cX7_rule 77 = .ok (.aload_n 0, 1) := by decide +kernel
theorem dX7_rule_78 : decode cX7_rule 78 = .ok (.getfield 13, 3) := by decide +kernel
theorem dX7_rule_81 : decode cX7_rule 81 = .ok (.bipush 64, 2) := by decide +kernel
theorem dX7_rule_83 : decode cX7_rule 83 = .ok (.iload_n 3, 1) := by decide +kernel
theorem dX7_rule_84 : decode cX7_rule 84 = .ok (.iadd, 1) := by decide +kernel
theorem dX7_rule_85 : decode cX7_rule 85 = .ok (.iaload, 1) := by decide +kernel
theorem dX7_rule_86 : decode cX7_rule 86 = .ok (.iastore, 1) := by decide +kernel
theorem dX7_rule_87 : decode cX7_rule 87 = .ok (.iinc 3 1, 3) := by decide +kernel
theorem dX7_rule_90 : decode cX7_rule 90 = .ok (.goto (-52), 3) := by decide +kernel
theorem dX7_rule_93 : decode cX7_rule 93 = .ok (.aload_n 0, 1) := by decide +kernel
theorem dX7_rule_94 : decode cX7_rule 94 = .ok (.getfield 16, 3) := by decide +kernel
theorem dX7_rule_97 : decode cX7_rule 97 = .ok (.aload_n 0, 1) := by decide +kernel
theorem dX7_rule_98 : decode cX7_rule 98 = .ok (.getfield 104, 3) := by decide +kernel
theorem dX7_rule_101 : decode cX7_rule 101 = .ok (.iload_n 1, 1) := by decide +kernel
theorem dX7_rule_102 : decode cX7_rule 102 = .ok (.iastore, 1) := by decide +kernel
theorem dX7_rule_103 : decode cX7_rule 103 = .ok (.aload_n 0, 1) := by decide +kernel
theorem dX7_rule_104 : decode cX7_rule 104 = .ok (.getfield 19, 3) := by decide +kernel
theorem dX7_rule_107 : decode cX7_rule 107 = .ok (.aload_n 0, 1) := by decide +kernel
theorem dX7_rule_108 : decode cX7_rule 108 = .ok (.getfield 104, 3) := by decide +kernel
theorem dX7_rule_111 : decode cX7_rule 111 = .ok (.iload_n 2, 1) := by decide +kernel
theorem dX7_rule_112 : decode cX7_rule 112 = .ok (.iastore, 1) := by decide +kernel
theorem dX7_rule_113 : decode cX7_rule 113 = .ok (.aload_n 0, 1) := by decide +kernel
theorem dX7_rule_114 : decode cX7_rule 114 = .ok (.dup, 1) := by decide +kernel
theorem dX7_rule_115 : decode cX7_rule 115 = .ok (.getfield 104, 3) := by decide +kernel
theorem dX7_rule_118 : decode cX7_rule 118 = .ok (.iconst 1, 1) := by decide +kernel
theorem dX7_rule_119 : decode cX7_rule 119 = .ok (.iadd, 1) := by decide +kernel
theorem dX7_rule_120 : decode cX7_rule 120 = .ok (.putfield 104, 3) := by decide +kernel
theorem dX7_rule_123 : decode cX7_rule 123 = .ok (.aload_n 0, 1) := by decide +kernel
theorem dX7_rule_124 : decode cX7_rule 124 = .ok (.invokevirtual 93, 3) := by decide +kernel
theorem dX7_rule_127 : decode cX7_rule 127 = .ok (.aload_n 0, 1) := by decide +kernel
theorem dX7_rule_128 : decode cX7_rule 128 = .ok (.invokevirtual 131, 3) := by decide +kernel
theorem dX7_rule_131 : decode cX7_rule 131 = .ok (.aload_n 0, 1) := by decide +kernel
theorem dX7_rule_132 : decode cX7_rule 132 = .ok (.getfield 104, 3) := by decide +kernel
theorem dX7_rule_135 : decode cX7_rule 135 = .ok (.iconst 1, 1) := by decide +kernel
theorem dX7_rule_136 : decode cX7_rule 136 = .ok (.isub, 1) := by decide +kernel
theorem dX7_rule_137 : decode cX7_rule 137 = .ok (.ireturn, 1) := by decide +kernel
theorem dX7_drop_0 : decode cX7_drop 0 = .ok (.aload_n 0, 1) := by decide +kernel
theorem dX7_drop_1 : decode cX7_drop 1 = .ok (.iload_n 1, 1) := by decide +kernel
theorem dX7_drop_2 : decode cX7_drop 2 = .ok (.invokevirtual 134, 3) := by decide +kernel
theorem dX7_drop_5 : decode cX7_drop 5 = .ok (.ifCond .ne 5, 3) := by decide +kernel
theorem dX7_drop_8 : decode cX7_drop 8 = .ok (.iconst (-1), 1) := by decide +kernel
theorem dX7_drop_9 : decode cX7_drop 9 = .ok (.ireturn, 1) := by decide +kernel
theorem dX7_drop_10 : decode cX7_drop 10 = .ok (.aload_n 0, 1) := by decide +kernel
theorem dX7_drop_11 : decode cX7_drop 11 = .ok (.dup, 1) := by decide +kernel
theorem dX7_drop_12 : decode cX7_drop 12 = .ok (.getfield 104, 3) := by decide +kernel
theorem dX7_drop_15 : decode cX7_drop 15 = .ok (.iconst 1, 1) := by decide +kernel
theorem dX7_drop_16 : decode cX7_drop 16 = .ok (.isub, 1) := by decide +kernel
theorem dX7_drop_17 : decode cX7_drop 17 = .ok (.putfield 104, 3) := by decide +kernel
theorem dX7_drop_20 : decode cX7_drop 20 = .ok (.iload_n 1, 1) := by decide +kernel
theorem dX7_drop_21 : decode cX7_drop 21 = .ok (.istore_n 2, 1) := by decide +kernel
theorem dX7_drop_22 : decode cX7_drop 22 = .ok (.iload_n 2, 1) := by decide +kernel
theorem dX7_drop_23 : decode cX7_drop 23 = .ok (.aload_n 0, 1) := by decide +kernel
theorem dX7_drop_24 : decode cX7_drop 24 = .ok (.getfield 104, 3) := by decide +kernel
theorem dX7_drop_27 : decode cX7_drop 27 = .ok (.if_icmp .ge 94, 3) := by decide +kernel
theorem dX7_drop_30 : decode cX7_drop 30 = .ok (.iconst 0, 1) := by decide +kernel
theorem dX7_drop_31 : decode cX7_drop 31 = .ok (.istore_n 3, 1) := by decide +kernel
theorem dX7_drop_32 : decode cX7_drop 32 = .ok (.iload_n 3, 1) := by decide +kernel
theorem dX7_drop_33 : decode cX7_drop 33 = .ok (.iconst 4, 1) := by decide +kernel
theorem dX7_drop_34 : decode cX7_drop 34 = .ok (.if_icmp .ge 53, 3) := by decide +kernel
theorem dX7_drop_37 : decode cX7_drop 37 = .ok (.aload_n 0, 1) := by decide +kernel
theorem dX7_drop_38 : decode cX7_drop 38 = .ok (.getfield 7, 3) := by decide +kernel
theorem dX7_drop_41 : decode cX7_drop 41 = .ok (.iconst 4, 1) := by decide +kernel
theorem dX7_drop_42 : decode cX7_drop 42 = .ok (.iload_n 2, 1) := by decide +kernel
theorem dX7_drop_43 : decode cX7_drop 43 = .ok (.imul, 1) := by decide +kernel
theorem dX7_drop_44 : decode cX7_drop 44 = .ok (.iload_n 3, 1) := by decide +kernel
end
section
theorem dX7_drop_45 : decode cX7_drop 45 = .ok (.iadd, 1) := by decide +kernel
theorem dX7_drop_46 : decode cX7_drop 46 = .ok (.aload_n 0, 1) := by decide +kernel
theorem dX7_drop_47 : decode cX7_drop 47 = .ok (.getfield 7, 3) := by decide +kernel
theorem dX7_drop_50 : decode cX7_drop 50 = .ok (.iconst 4, 1) := by decide +kernel
theorem dX7_drop_51 : decode cX7_drop 51 = .ok (.iload_n 2, 1) := by decide +kernel
theorem dX7_drop_52 : decode cX7_drop 52 = .ok (.imul, 1) := by decide +kernel
theorem dX7_drop_53 : decode cX7_drop 53 = .ok (.iconst 4, 1) := by decide +kernel
theorem dX7_drop_54 : decode cX7_drop 54 = .ok (.iadd, 1) := by decide +kernel
theorem dX7_drop_55 : decode cX7_drop 55 = .ok (.iload_n 3, 1) := by decide +kernel
theorem dX7_drop_56 : decode cX7_drop 56 = .ok (.iadd, 1) := by decide +kernel
theorem dX7_drop_57 : decode cX7_drop 57 = .ok (.iaload, 1) := by decide +kernel
theorem dX7_drop_58 : decode cX7_drop 58 = .ok (.iastore, 1) := by decide +kernel
theorem dX7_drop_59 : decode cX7_drop 59 = .ok (.aload_n 0, 1) := by decide +kernel
theorem dX7_drop_60 : decode cX7_drop 60 = .ok (.getfield 13, 3) := by decide +kernel
theorem dX7_drop_63 : decode cX7_drop 63 = .ok (.iconst 4, 1) := by decide +kernel
theorem dX7_drop_64 : decode cX7_drop 64 = .ok (.iload_n 2, 1) := by decide +kernel
theorem dX7_drop_65 : decode cX7_drop 65 = .ok (.imul, 1) := by decide +kernel
theorem dX7_drop_66 : decode cX7_drop 66 = .ok (.iload_n 3, 1) := by decide +kernel
theorem dX7_drop_67 : decode cX7_drop 67 = .ok (.iadd, 1) := by decide +kernel
theorem dX7_drop_68 : decode cX7_drop 68 = .ok (.aload_n 0, 1) := by decide +kernel
theorem dX7_drop_69 : decode cX7_drop 69 = .ok (.getfield 13, 3) := by decide +kernel
theorem dX7_drop_72 : decode cX7_drop 72 = .ok (.iconst 4, 1) := by decide +kernel
theorem dX7_drop_73 : decode cX7_drop 73 = .ok (.iload_n 2, 1) := by decide +kernel
theorem dX7_drop_74 : decode cX7_drop 74 = .ok (.imul, 1) := by decide +kernel
theorem dX7_drop_75 : decode cX7_drop 75 = .ok (.iconst 4, 1) := by decide +kernel
theorem dX7_drop_76 : decode cX7_drop 76 = .ok (.iadd, 1) := by decide +kernel
theorem dX7_drop_77 : decode cX7_drop 77 = .ok (.iload_n 3, 1) := by decide +kernel
theorem dX7_drop_78 : decode cX7_drop 78 = .ok (.iadd, 1) := by decide +kernel
theorem dX7_drop_79 : decode cX7_drop 79 = .ok (.iaload, 1) := by decide +kernel
theorem dX7_drop_80 : decode cX7_drop 80 = .ok (.iastore, 1) := by decide +kernel
theorem dX7_drop_81 : decode cX7_drop 81 = .ok (.iinc 3 1, 3) := by decide +kernel
theorem dX7_drop_84 : decode cX7_drop 84 = .ok (.goto (-52), 3) := by decide +kernel
theorem dX7_drop_87 : decode cX7_drop 87 = .ok (.aload_n 0, 1) := by decide +kernel
theorem dX7_drop_88 : decode cX7_drop 88 = .ok (.getfield 16, 3) := by decide +kernel
theorem dX7_drop_91 : decode cX7_drop 91 = .ok (.iload_n 2, 1) := by decide +kernel
theorem dX7_drop_92 : decode cX7_drop 92 = .ok (.aload_n 0, 1) := by decide +kernel
theorem dX7_drop_93 : decode cX7_drop 93 = .ok (.getfield 16, 3) := by decide +kernel
theorem dX7_drop_96 : decode cX7_drop 96 = .ok (.iload_n 2, 1) := by decide +kernel
theorem dX7_drop_97 : decode cX7_drop 97 = .ok (.iconst 1, 1) := by decide +kernel
theorem dX7_drop_98 : decode cX7_drop 98 = .ok (.iadd, 1) := by decide +kernel
theorem dX7_drop_99 : decode cX7_drop 99 = .ok (.iaload, 1) := by decide +kernel
theorem dX7_drop_100 : decode cX7_drop 100 = .ok (.iastore, 1) := by decide +kernel
theorem dX7_drop_101 : decode cX7_drop 101 = .ok (.aload_n 0, 1) := by decide +kernel
theorem dX7_drop_102 : decode cX7_drop 102 = .ok (.getfield 19, 3) := by decide +kernel
theorem dX7_drop_105 : decode cX7_drop 105 = .ok (.iload_n 2, 1) := by decide +kernel
theorem dX7_drop_106 : decode cX7_drop 106 = .ok (.aload_n 0, 1) := by decide +kernel
theorem dX7_drop_107 : decode cX7_drop 107 = .ok (.getfield 19, 3) := by decide +kernel
theorem dX7_drop_110 : decode cX7_drop 110 = .ok (.iload_n 2, 1) := by decide +kernel
theorem dX7_drop_111 : decode cX7_drop 111 = .ok (.iconst 1, 1) := by decide +kernel
theorem dX7_drop_112 : decode cX7_drop 112 = .ok (.iadd, 1) := by decide +kernel
theorem dX7_drop_113 : decode cX7_drop 113 = .ok (.iaload, 1) := by decide +kernel
theorem dX7_drop_114 : decode cX7_drop 114 = .ok (.iastore, 1) := by decide +kernel
theorem dX7_drop_115 : decode cX7_drop 115 = .ok (.iinc 2 1, 3) := by decide +kernel
theorem dX7_drop_118 : decode cX7_drop 118 = .ok (.goto (-96), 3) := by decide +kernel
theorem dX7_drop_121 : decode cX7_drop 121 = .ok (.aload_n 0, 1) := by decide +kernel
theorem dX7_drop_122 : decode cX7_drop 122 = .ok (.invokevirtual 131, 3) := by decide +kernel
theorem dX7_drop_125 : decode cX7_drop 125 = .ok (.aload_n 0, 1) := by decide +kernel
theorem dX7_drop_126 : decode cX7_drop 126 = .ok (.getfield 104, 3) := by decide +kernel
theorem dX7_drop_129 : decode cX7_drop 129 = .ok (.ireturn, 1) := by decide +kernel
theorem dX7_isAhead_0 : decode cX7_isAhead 0 = .ok (.aload_n 0, 1) := by decide +kernel
theorem dX7_isAhead_1 : decode cX7_isAhead 1 = .ok (.getfield 16, 3) := by decide +kernel
theorem dX7_isAhead_4 : decode cX7_isAhead 4 = .ok (.iload_n 1, 1) := by decide +kernel
theorem dX7_isAhead_5 : decode cX7_isAhead 5 = .ok (.iaload, 1) := by decide +kernel
theorem dX7_isAhead_6 : decode cX7_isAhead 6 = .ok (.aload_n 0, 1) := by decide +kernel
theorem dX7_isAhead_7 : decode cX7_isAhead 7 = .ok (.getfield 16, 3) := by decide +kernel
theorem dX7_isAhead_10 : decode cX7_isAhead 10 = .ok (.iload_n 2, 1) := by decide +kernel
theorem dX7_isAhead_11 : decode cX7_isAhead 11 = .ok (.iaload, 1) := by decide +kernel
theorem dX7_isAhead_12 : decode cX7_isAhead 12 = .ok (.if_icmp .lt 23, 3) := by decide +kernel
theorem dX7_isAhead_15 : decode cX7_isAhead 15 = .ok (.aload_n 0, 1) := by decide +kernel
theorem dX7_isAhead_16 : decode cX7_isAhead 16 = .ok (.getfield 16, 3) := by decide +kernel
theorem dX7_isAhead_19 : decode cX7_isAhead 19 = .ok (.iload_n 1, 1) := by decide +kernel
theorem dX7_isAhead_20 : decode cX7_isAhead 20 = .ok (.iaload, 1) := by decide +kernel
theorem dX7_isAhead_21 : decode cX7_isAhead 21 = .ok (.aload_n 0, 1) := by decide +kernel
theorem dX7_isAhead_22 : decode cX7_isAhead 22 = .ok (.getfield 16, 3) := by decide +kernel
theorem dX7_isAhead_25 : decode cX7_isAhead 25 = .ok (.iload_n 2, 1) := by decide +kernel
theorem dX7_isAhead_26 : decode cX7_isAhead 26 = .ok (.iaload, 1) := by decide +kernel
theorem dX7_isAhead_27 : decode cX7_isAhead 27 = .ok (.if_icmp .ne 12, 3) := by decide +kernel
theorem dX7_isAhead_30 : decode cX7_isAhead 30 = .ok (.iload_n 1, 1) := by decide +kernel
theorem dX7_isAhead_31 : decode cX7_isAhead 31 = .ok (.iload_n 2, 1) := by decide +kernel
theorem dX7_isAhead_32 : decode cX7_isAhead 32 = .ok (.if_icmp .ge 7, 3) := by decide +kernel
theorem dX7_isAhead_35 : decode cX7_isAhead 35 = .ok (.iconst 1, 1) := by decide +kernel
theorem dX7_isAhead_36 : decode cX7_isAhead 36 = .ok (.goto 4, 3) := by decide +kernel
theorem dX7_isAhead_39 : decode cX7_isAhead 39 = .ok (.iconst 0, 1) := by decide +kernel
theorem dX7_isAhead_40 : decode cX7_isAhead 40 = .ok (.ireturn, 1) := by decide +kernel
theorem dX7_aheadOf_0 : decode cX7_aheadOf 0 = .ok (.iconst 0, 1) := by decide +kernel
theorem dX7_aheadOf_1 : decode cX7_aheadOf 1 = .ok (.istore_n 2, 1) := by decide +kernel
theorem dX7_aheadOf_2 : decode cX7_aheadOf 2 = .ok (.iconst 0, 1) := by decide +kernel
theorem dX7_aheadOf_3 : decode cX7_aheadOf 3 = .ok (.istore_n 3, 1) := by decide +kernel
theorem dX7_aheadOf_4 : decode cX7_aheadOf 4 = .ok (.iload_n 3, 1) := by decide +kernel
theorem dX7_aheadOf_5 : decode cX7_aheadOf 5 = .ok (.aload_n 0, 1) := by decide +kernel
theorem dX7_aheadOf_6 : decode cX7_aheadOf 6 = .ok (.getfield 104, 3) := by decide +kernel
theorem dX7_aheadOf_9 : decode cX7_aheadOf 9 = .ok (.if_icmp .ge 26, 3) := by decide +kernel
theorem dX7_aheadOf_12 : decode cX7_aheadOf 12 = .ok (.iload_n 2, 1) := by decide +kernel
theorem dX7_aheadOf_13 : decode cX7_aheadOf 13 = .ok (.aload_n 0, 1) := by decide +kernel
theorem dX7_aheadOf_14 : decode cX7_aheadOf 14 = .ok (.iload_n 3, 1) := by decide +kernel
theorem dX7_aheadOf_15 : decode cX7_aheadOf 15 = .ok (.iload_n 1, 1) := by decide +kernel
theorem dX7_aheadOf_16 : decode cX7_aheadOf 16 = .ok (.invokevirtual 137, 3) := by decide +kernel
theorem dX7_aheadOf_19 : decode cX7_aheadOf 19 = .ok (.ifCond .eq 7, 3) := by decide +kernel
theorem dX7_aheadOf_22 : decode cX7_aheadOf 22 = .ok (.iconst 1, 1) := by decide +kernel
theorem dX7_aheadOf_23 : decode cX7_aheadOf 23 = .ok (.goto 4, 3) := by decide +kernel
theorem dX7_aheadOf_26 : decode cX7_aheadOf 26 = .ok (.iconst 0, 1) := by decide +kernel
theorem dX7_aheadOf_27 : decode cX7_aheadOf 27 = .ok (.iadd, 1) := by decide +kernel
theorem dX7_aheadOf_28 : decode cX7_aheadOf 28 = .ok (.istore_n 2, 1) := by decide +kernel
theorem dX7_aheadOf_29 : decode cX7_aheadOf 29 = .ok (.iinc 3 1, 3) := by decide +kernel
theorem dX7_aheadOf_32 : decode cX7_aheadOf 32 = .ok (.goto (-28), 3) := by decide +kernel
theorem dX7_aheadOf_35 : decode cX7_aheadOf 35 = .ok (.iload_n 2, 1) := by decide +kernel
theorem dX7_aheadOf_36 : decode cX7_aheadOf 36 = .ok (.ireturn, 1) := by decide +kernel
theorem dX7_rank_0 : decode cX7_rank 0 = .ok (.aload_n 0, 1) := by decide +kernel
theorem dX7_rank_1 : decode cX7_rank 1 = .ok (.iload_n 1, 1) := by decide +kernel
theorem dX7_rank_2 : decode cX7_rank 2 = .ok (.invokevirtual 134, 3) := by decide +kernel
theorem dX7_rank_5 : decode cX7_rank 5 = .ok (.ifCond .ne 5, 3) := by decide +kernel
theorem dX7_rank_8 : decode cX7_rank 8 = .ok (.iconst (-1), 1) := by decide +kernel
theorem dX7_rank_9 : decode cX7_rank 9 = .ok (.ireturn, 1) := by decide +kernel
theorem dX7_rank_10 : decode cX7_rank 10 = .ok (.iload_n 2, 1) := by decide +kernel
theorem dX7_rank_11 : decode cX7_rank 11 = .ok (.iconst 0, 1) := by decide +kernel
theorem dX7_rank_12 : decode cX7_rank 12 = .ok (.sipush 999, 3) := by decide +kernel
theorem dX7_rank_15 : decode cX7_rank 15 = .ok (.invokestatic 100, 3) := by decide +kernel
theorem dX7_rank_18 : decode cX7_rank 18 = .ok (.ifCond .ne 6, 3) := by decide +kernel
theorem dX7_rank_21 : decode cX7_rank 21 = .ok (.bipush (-2), 2) := by decide +kernel
theorem dX7_rank_23 : decode cX7_rank 23 = .ok (.ireturn, 1) := by decide +kernel
theorem dX7_rank_24 : decode cX7_rank 24 = .ok (.aload_n 0, 1) := by decide +kernel
theorem dX7_rank_25 : decode cX7_rank 25 = .ok (.getfield 16, 3) := by decide +kernel
theorem dX7_rank_28 : decode cX7_rank 28 = .ok (.iload_n 1, 1) := by decide +kernel
theorem dX7_rank_29 : decode cX7_rank 29 = .ok (.iload_n 2, 1) := by decide +kernel
theorem dX7_rank_30 : decode cX7_rank 30 = .ok (.iastore, 1) := by decide +kernel
theorem dX7_rank_31 : decode cX7_rank 31 = .ok (.aload_n 0, 1) := by decide +kernel
theorem dX7_rank_32 : decode cX7_rank 32 = .ok (.invokevirtual 131, 3) := by decide +kernel
theorem dX7_rank_35 : decode cX7_rank 35 = .ok (.aload_n 0, 1) := by decide +kernel
theorem dX7_rank_36 : decode cX7_rank 36 = .ok (.iload_n 1, 1) := by decide +kernel
theorem dX7_rank_37 : decode cX7_rank 37 = .ok (.invokevirtual 140, 3) := by decide +kernel
theorem dX7_rank_40 : decode cX7_rank 40 = .ok (.ireturn, 1) := by decide +kernel
theorem dX7_told_0 : decode cX7_told 0 = .ok (.aload_n 0, 1) := by decide +kernel
theorem dX7_told_1 : decode cX7_told 1 = .ok (.iload_n 1, 1) := by decide +kernel
theorem dX7_told_2 : decode cX7_told 2 = .ok (.invokevirtual 134, 3) := by decide +kernel
theorem dX7_told_5 : decode cX7_told 5 = .ok (.ifCond .ne 5, 3) := by decide +kernel
theorem dX7_told_8 : decode cX7_told 8 = .ok (.iconst (-1), 1) := by decide +kernel
theorem dX7_told_9 : decode cX7_told 9 = .ok (.ireturn, 1) := by decide +kernel
theorem dX7_told_10 : decode cX7_told 10 = .ok (.iload_n 2, 1) := by decide +kernel
theorem dX7_told_11 : decode cX7_told 11 = .ok (.bipush 10, 2) := by decide +kernel
theorem dX7_told_13 : decode cX7_told 13 = .ok (.bipush 17, 2) := by decide +kernel
theorem dX7_told_15 : decode cX7_told 15 = .ok (.invokestatic 100, 3) := by decide +kernel
theorem dX7_told_18 : decode cX7_told 18 = .ok (.ifCond .eq 36, 3) := by decide +kernel
theorem dX7_told_21 : decode cX7_told 21 = .ok (.iconst 4, 1) := by decide +kernel
theorem dX7_told_22 : decode cX7_told 22 = .ok (.iload_n 1, 1) := by decide +kernel
theorem dX7_told_23 : decode cX7_told 23 = .ok (.imul, 1) := by decide +kernel
theorem dX7_told_24 : decode cX7_told 24 = .ok (.iload_n 2, 1) := by decide +kernel
theorem dX7_told_25 : decode cX7_told 25 = .ok (.bipush 10, 2) := by decide +kernel
theorem dX7_told_27 : decode cX7_told 27 = .ok (.isub, 1) := by decide +kernel
theorem dX7_told_28 : decode cX7_told 28 = .ok (.iconst 2, 1) := by decide +kernel
theorem dX7_told_29 : decode cX7_told 29 = .ok (.idiv, 1) := by decide +kernel
theorem dX7_told_30 : decode cX7_told 30 = .ok (.iadd, 1) := by decide +kernel
theorem dX7_told_31 : decode cX7_told 31 = .ok (.istore_n 3, 1) := by decide +kernel
theorem dX7_told_32 : decode cX7_told 32 = .ok (.iload_n 2, 1) := by decide +kernel
theorem dX7_told_33 : decode cX7_told 33 = .ok (.iconst 2, 1) := by decide +kernel
theorem dX7_told_34 : decode cX7_told 34 = .ok (.irem, 1) := by decide +kernel
theorem dX7_told_35 : decode cX7_told 35 = .ok (.ifCond .ne 12, 3) := by decide +kernel
theorem dX7_told_38 : decode cX7_told 38 = .ok (.aload_n 0, 1) := by decide +kernel
theorem dX7_told_39 : decode cX7_told 39 = .ok (.getfield 7, 3) := by decide +kernel
theorem dX7_told_42 : decode cX7_told 42 = .ok (.iload_n 3, 1) := by decide +kernel
theorem dX7_told_43 : decode cX7_told 43 = .ok (.iaload, 1) := by decide +kernel
theorem dX7_told_44 : decode cX7_told 44 = .ok (.goto 9, 3) := by decide +kernel
theorem dX7_told_47 : decode cX7_told 47 = .ok (.aload_n 0, 1) := by decide +kernel
theorem dX7_told_48 : decode cX7_told 48 = .ok (.getfield 13, 3) := by decide +kernel
theorem dX7_told_51 : decode cX7_told 51 = .ok (.iload_n 3, 1) := by decide +kernel
theorem dX7_told_52 : decode cX7_told 52 = .ok (.iaload, 1) := by decide +kernel
theorem dX7_told_53 : decode cX7_told 53 = .ok (.ireturn, 1) := by decide +kernel
theorem dX7_told_54 : decode cX7_told 54 = .ok (.iload_n 2, 1) := by decide +kernel
theorem dX7_told_55 : decode cX7_told 55 = .ok (.ifCond .ne 12, 3) := by decide +kernel
theorem dX7_told_58 : decode cX7_told 58 = .ok (.aload_n 0, 1) := by decide +kernel
theorem dX7_told_59 : decode cX7_told 59 = .ok (.getfield 16, 3) := by decide +kernel
theorem dX7_told_62 : decode cX7_told 62 = .ok (.iload_n 1, 1) := by decide +kernel
theorem dX7_told_63 : decode cX7_told 63 = .ok (.iaload, 1) := by decide +kernel
theorem dX7_told_64 : decode cX7_told 64 = .ok (.goto 32, 3) := by decide +kernel
theorem dX7_told_67 : decode cX7_told 67 = .ok (.iload_n 2, 1) := by decide +kernel
theorem dX7_told_68 : decode cX7_told 68 = .ok (.iconst 1, 1) := by decide +kernel
theorem dX7_told_69 : decode cX7_told 69 = .ok (.if_icmp .ne 12, 3) := by decide +kernel
theorem dX7_told_72 : decode cX7_told 72 = .ok (.aload_n 0, 1) := by decide +kernel
theorem dX7_told_73 : decode cX7_told 73 = .ok (.getfield 19, 3) := by decide +kernel
theorem dX7_told_76 : decode cX7_told 76 = .ok (.iload_n 1, 1) := by decide +kernel
theorem dX7_told_77 : decode cX7_told 77 = .ok (.iaload, 1) := by decide +kernel
theorem dX7_told_78 : decode cX7_told 78 = .ok (.goto 18, 3) := by decide +kernel
theorem dX7_told_81 : decode cX7_told 81 = .ok (.iload_n 2, 1) := by decide +kernel
theorem dX7_told_82 : decode cX7_told 82 = .ok (.iconst 2, 1) := by decide +kernel
theorem dX7_told_83 : decode cX7_told 83 = .ok (.if_icmp .ne 11, 3) := by decide +kernel
theorem dX7_told_86 : decode cX7_told 86 = .ok (.aload_n 0, 1) := by decide +kernel
theorem dX7_told_87 : decode cX7_told 87 = .ok (.iload_n 1, 1) := by decide +kernel
theorem dX7_told_88 : decode cX7_told 88 = .ok (.invokevirtual 140, 3) := by decide +kernel
theorem dX7_told_91 : decode cX7_told 91 = .ok (.goto 5, 3) := by decide +kernel
theorem dX7_told_94 : decode cX7_told 94 = .ok (.bipush (-2), 2) := by decide +kernel
theorem dX7_told_96 : decode cX7_told 96 = .ok (.ireturn, 1) := by decide +kernel
theorem dX7_order_0 : decode cX7_order 0 = .ok (.aload_n 0, 1) := by decide +kernel
theorem dX7_order_1 : decode cX7_order 1 = .ok (.getfield 111, 3) := by decide +kernel
theorem dX7_order_4 : decode cX7_order 4 = .ok (.ifCond .eq 4, 3) := by decide +kernel
theorem dX7_order_7 : decode cX7_order 7 = .ok (.return_, 1) := by decide +kernel
theorem dX7_order_8 : decode cX7_order 8 = .ok (.aload_n 0, 1) := by decide +kernel
theorem dX7_order_9 : decode cX7_order 9 = .ok (.iconst 1, 1) := by decide +kernel
theorem dX7_order_10 : decode cX7_order 10 = .ok (.putfield 111, 3) := by decide +kernel
theorem dX7_order_13 : decode cX7_order 13 = .ok (.iconst 0, 1) := by decide +kernel
theorem dX7_order_14 : decode cX7_order 14 = .ok (.istore_n 1, 1) := by decide +kernel
theorem dX7_order_15 : decode cX7_order 15 = .ok (.iload_n 1, 1) := by decide +kernel
theorem dX7_order_16 : decode cX7_order 16 = .ok (.aload_n 0, 1) := by decide +kernel
theorem dX7_order_17 : decode cX7_order 17 = .ok (.getfield 104, 3) := by decide +kernel
theorem dX7_order_20 : decode cX7_order 20 = .ok (.if_icmp .ge 20, 3) := by decide +kernel
theorem dX7_order_23 : decode cX7_order 23 = .ok (.aload_n 0, 1) := by decide +kernel
theorem dX7_order_24 : decode cX7_order 24 = .ok (.getfield 29, 3) := by decide +kernel
theorem dX7_order_27 : decode cX7_order 27 = .ok (.aload_n 0, 1) := by decide +kernel
theorem dX7_order_28 : decode cX7_order 28 = .ok (.iload_n 1, 1) := by decide +kernel
theorem dX7_order_29 : decode cX7_order 29 = .ok (.invokevirtual 140, 3) := by decide +kernel
theorem dX7_order_32 : decode cX7_order 32 = .ok (.iload_n 1, 1) := by decide +kernel
theorem dX7_order_33 : decode cX7_order 33 = .ok (.iastore, 1) := by decide +kernel
theorem dX7_order_34 : decode cX7_order 34 = .ok (.iinc 1 1, 3) := by decide +kernel
theorem dX7_order_37 : decode cX7_order 37 = .ok (.goto (-22), 3) := by decide +kernel
theorem dX7_order_40 : decode cX7_order 40 = .ok (.iconst 0, 1) := by decide +kernel
theorem dX7_order_41 : decode cX7_order 41 = .ok (.istore_n 1, 1) := by decide +kernel
theorem dX7_order_42 : decode cX7_order 42 = .ok (.iload_n 1, 1) := by decide +kernel
theorem dX7_order_43 : decode cX7_order 43 = .ok (.iconst 4, 1) := by decide +kernel
theorem dX7_order_44 : decode cX7_order 44 = .ok (.if_icmp .ge 43, 3) := by decide +kernel
theorem dX7_order_47 : decode cX7_order 47 = .ok (.iconst 0, 1) := by decide +kernel
theorem dX7_order_48 : decode cX7_order 48 = .ok (.istore_n 2, 1) := by decide +kernel
theorem dX7_order_49 : decode cX7_order 49 = .ok (.iload_n 2, 1) := by decide +kernel
theorem dX7_order_50 : decode cX7_order 50 = .ok (.iload_n 1, 1) := by decide +kernel
theorem dX7_order_51 : decode cX7_order 51 = .ok (.invokestatic 124, 3) := by decide +kernel
theorem dX7_order_54 : decode cX7_order 54 = .ok (.if_icmp .gt 27, 3) := by decide +kernel
theorem dX7_order_57 : decode cX7_order 57 = .ok (.aload_n 0, 1) := by decide +kernel
theorem dX7_order_58 : decode cX7_order 58 = .ok (.getfield 32, 3) := by decide +kernel
theorem dX7_order_61 : decode cX7_order 61 = .ok (.bipush 64, 2) := by decide +kernel
theorem dX7_order_63 : decode cX7_order 63 = .ok (.iload_n 1, 1) := by decide +kernel
theorem dX7_order_64 : decode cX7_order 64 = .ok (.imul, 1) := by decide +kernel
theorem dX7_order_65 : decode cX7_order 65 = .ok (.iload_n 2, 1) := by decide +kernel
theorem dX7_order_66 : decode cX7_order 66 = .ok (.iadd, 1) := by decide +kernel
theorem dX7_order_67 : decode cX7_order 67 = .ok (.aload_n 0, 1) := by decide +kernel
theorem dX7_order_68 : decode cX7_order 68 = .ok (.iload_n 1, 1) := by decide +kernel
theorem dX7_order_69 : decode cX7_order 69 = .ok (.iload_n 2, 1) := by decide +kernel
theorem dX7_order_70 : decode cX7_order 70 = .ok (.iload_n 2, 1) := by decide +kernel
theorem dX7_order_71 : decode cX7_order 71 = .ok (.invokevirtual 143, 3) := by decide +kernel
theorem dX7_order_74 : decode cX7_order 74 = .ok (.iastore, 1) := by decide +kernel
theorem dX7_order_75 : decode cX7_order 75 = .ok (.iinc 2 1, 3) := by decide +kernel
theorem dX7_order_78 : decode cX7_order 78 = .ok (.goto (-29), 3) := by decide +kernel
theorem dX7_order_81 : decode cX7_order 81 = .ok (.iinc 1 1, 3) := by decide +kernel
theorem dX7_order_84 : decode cX7_order 84 = .ok (.goto (-42), 3) := by decide +kernel
theorem dX7_order_87 : decode cX7_order 87 = .ok (.return_, 1) := by decide +kernel
theorem dX7_takersOf_0 : decode cX7_takersOf 0 = .ok (.iconst 0, 1) := by decide +kernel
theorem dX7_takersOf_1 : decode cX7_takersOf 1 = .ok (.istore 4, 2) := by decide +kernel
theorem dX7_takersOf_3 : decode cX7_takersOf 3 = .ok (.iconst 0, 1) := by decide +kernel
theorem dX7_takersOf_4 : decode cX7_takersOf 4 = .ok (.istore 5, 2) := by decide +kernel
theorem dX7_takersOf_6 : decode cX7_takersOf 6 = .ok (.iload 5, 2) := by decide +kernel
theorem dX7_takersOf_8 : decode cX7_takersOf 8 = .ok (.aload_n 0, 1) := by decide +kernel
theorem dX7_takersOf_9 : decode cX7_takersOf 9 = .ok (.getfield 104, 3) := by decide +kernel
theorem dX7_takersOf_12 : decode cX7_takersOf 12 = .ok (.if_icmp .ge 57, 3) := by decide +kernel
theorem dX7_takersOf_15 : decode cX7_takersOf 15 = .ok (.iconst 4, 1) := by decide +kernel
theorem dX7_takersOf_16 : decode cX7_takersOf 16 = .ok (.aload_n 0, 1) := by decide +kernel
theorem dX7_takersOf_17 : decode cX7_takersOf 17 = .ok (.getfield 29, 3) := by decide +kernel
theorem dX7_takersOf_20 : decode cX7_takersOf 20 = .ok (.iload 5, 2) := by decide +kernel
theorem dX7_takersOf_22 : decode cX7_takersOf 22 = .ok (.iaload, 1) := by decide +kernel
theorem dX7_takersOf_23 : decode cX7_takersOf 23 = .ok (.imul, 1) := by decide +kernel
theorem dX7_takersOf_24 : decode cX7_takersOf 24 = .ok (.iload_n 1, 1) := by decide +kernel
theorem dX7_takersOf_25 : decode cX7_takersOf 25 = .ok (.iadd, 1) := by decide +kernel
theorem dX7_takersOf_26 : decode cX7_takersOf 26 = .ok (.istore 6, 2) := by decide +kernel
theorem dX7_takersOf_28 : decode cX7_takersOf 28 = .ok (.iload 4, 2) := by decide +kernel
theorem dX7_takersOf_30 : decode cX7_takersOf 30 = .ok (.aload_n 0, 1) := by decide +kernel
theorem dX7_takersOf_31 : decode cX7_takersOf 31 = .ok (.getfield 7, 3) := by decide +kernel
theorem dX7_takersOf_34 : decode cX7_takersOf 34 = .ok (.iload 6, 2) := by decide +kernel
theorem dX7_takersOf_36 : decode cX7_takersOf 36 = .ok (.iaload, 1) := by decide +kernel
theorem dX7_takersOf_37 : decode cX7_takersOf 37 = .ok (.iload_n 3, 1) := by decide +kernel
theorem dX7_takersOf_38 : decode cX7_takersOf 38 = .ok (.if_icmp .gt 21, 3) := by decide +kernel
theorem dX7_takersOf_41 : decode cX7_takersOf 41 = .ok (.aload_n 0, 1) := by decide +kernel
theorem dX7_takersOf_42 : decode cX7_takersOf 42 = .ok (.getfield 13, 3) := by decide +kernel
theorem dX7_takersOf_45 : decode cX7_takersOf 45 = .ok (.iload 6, 2) := by decide +kernel
theorem dX7_takersOf_47 : decode cX7_takersOf 47 = .ok (.iaload, 1) := by decide +kernel
theorem dX7_takersOf_48 : decode cX7_takersOf 48 = .ok (.iload_n 2, 1) := by decide +kernel
theorem dX7_takersOf_49 : decode cX7_takersOf 49 = .ok (.if_icmp .lt 10, 3) := by decide +kernel
theorem dX7_takersOf_52 : decode cX7_takersOf 52 = .ok (.iconst 1, 1) := by decide +kernel
theorem dX7_takersOf_53 : decode cX7_takersOf 53 = .ok (.iload 5, 2) := by decide +kernel
theorem dX7_takersOf_55 : decode cX7_takersOf 55 = .ok (.ishl, 1) := by decide +kernel
theorem dX7_takersOf_56 : decode cX7_takersOf 56 = .ok (.goto 4, 3) := by decide +kernel
theorem dX7_takersOf_59 : decode cX7_takersOf 59 = .ok (.iconst 0, 1) := by decide +kernel
theorem dX7_takersOf_60 : decode cX7_takersOf 60 = .ok (.ior, 1) := by decide +kernel
theorem dX7_takersOf_61 : decode cX7_takersOf 61 = .ok (.istore 4, 2) := by decide +kernel
theorem dX7_takersOf_63 : decode cX7_takersOf 63 = .ok (.iinc 5 1, 3) := by decide +kernel
theorem dX7_takersOf_66 : decode cX7_takersOf 66 = .ok (.goto (-60), 3) := by decide +kernel
theorem dX7_takersOf_69 : decode cX7_takersOf 69 = .ok (.iload 4, 2) := by decide +kernel
theorem dX7_takersOf_71 : decode cX7_takersOf 71 = .ok (.ireturn, 1) := by decide +kernel
theorem dX7_fitting_0 : decode cX7_fitting 0 = .ok (.aload_n 0, 1) := by decide +kernel
theorem dX7_fitting_1 : decode cX7_fitting 1 = .ok (.invokevirtual 147, 3) := by decide +kernel
theorem dX7_fitting_4 : decode cX7_fitting 4 = .ok (.aload_n 0, 1) := by decide +kernel
theorem dX7_fitting_5 : decode cX7_fitting 5 = .ok (.getfield 32, 3) := by decide +kernel
theorem dX7_fitting_8 : decode cX7_fitting 8 = .ok (.iload_n 1, 1) := by decide +kernel
theorem dX7_fitting_9 : decode cX7_fitting 9 = .ok (.iaload, 1) := by decide +kernel
theorem dX7_fitting_10 : decode cX7_fitting 10 = .ok (.aload_n 0, 1) := by decide +kernel
theorem dX7_fitting_11 : decode cX7_fitting 11 = .ok (.getfield 32, 3) := by decide +kernel
theorem dX7_fitting_14 : decode cX7_fitting 14 = .ok (.bipush 64, 2) := by decide +kernel
theorem dX7_fitting_16 : decode cX7_fitting 16 = .ok (.iload_n 2, 1) := by decide +kernel
theorem dX7_fitting_17 : decode cX7_fitting 17 = .ok (.iadd, 1) := by decide +kernel
theorem dX7_fitting_18 : decode cX7_fitting 18 = .ok (.iaload, 1) := by decide +kernel
theorem dX7_fitting_19 : decode cX7_fitting 19 = .ok (.iand, 1) := by decide +kernel
theorem dX7_fitting_20 : decode cX7_fitting 20 = .ok (.aload_n 0, 1) := by decide +kernel
theorem dX7_fitting_21 : decode cX7_fitting 21 = .ok (.getfield 32, 3) := by decide +kernel
theorem dX7_fitting_24 : decode cX7_fitting 24 = .ok (.sipush 128, 3) := by decide +kernel
theorem dX7_fitting_27 : decode cX7_fitting 27 = .ok (.iload_n 3, 1) := by decide +kernel
theorem dX7_fitting_28 : decode cX7_fitting 28 = .ok (.iadd, 1) := by decide +kernel
theorem dX7_fitting_29 : decode cX7_fitting 29 = .ok (.iaload, 1) := by decide +kernel
theorem dX7_fitting_30 : decode cX7_fitting 30 = .ok (.iand, 1) := by decide +kernel
theorem dX7_fitting_31 : decode cX7_fitting 31 = .ok (.aload_n 0, 1) := by decide +kernel
theorem dX7_fitting_32 : decode cX7_fitting 32 = .ok (.getfield 32, 3) := by decide +kernel
theorem dX7_fitting_35 : decode cX7_fitting 35 = .ok (.sipush 192, 3) := by decide +kernel
theorem dX7_fitting_38 : decode cX7_fitting 38 = .ok (.iload 4, 2) := by decide +kernel
theorem dX7_fitting_40 : decode cX7_fitting 40 = .ok (.iadd, 1) := by decide +kernel
theorem dX7_fitting_41 : decode cX7_fitting 41 = .ok (.iaload, 1) := by decide +kernel
theorem dX7_fitting_42 : decode cX7_fitting 42 = .ok (.iand, 1) := by decide +kernel
theorem dX7_fitting_43 : decode cX7_fitting 43 = .ok (.ireturn, 1) := by decide +kernel
theorem dX7_first_0 : decode cX7_first 0 = .ok (.iload_n 1, 1) := by decide +kernel
theorem dX7_first_1 : decode cX7_first 1 = .ok (.iload_n 2, 1) := by decide +kernel
theorem dX7_first_2 : decode cX7_first 2 = .ok (.iload_n 3, 1) := by decide +kernel
theorem dX7_first_3 : decode cX7_first 3 = .ok (.iload 4, 2) := by decide +kernel
theorem dX7_first_5 : decode cX7_first 5 = .ok (.invokestatic 150, 3) := by decide +kernel
theorem dX7_first_8 : decode cX7_first 8 = .ok (.ifCond .ne 6, 3) := by decide +kernel
theorem dX7_first_11 : decode cX7_first 11 = .ok (.bipush (-2), 2) := by decide +kernel
theorem dX7_first_13 : decode cX7_first 13 = .ok (.ireturn, 1) := by decide +kernel
theorem dX7_first_14 : decode cX7_first 14 = .ok (.aload_n 0, 1) := by decide +kernel
theorem dX7_first_15 : decode cX7_first 15 = .ok (.iload_n 1, 1) := by decide +kernel
theorem dX7_first_16 : decode cX7_first 16 = .ok (.iload_n 2, 1) := by decide +kernel
theorem dX7_first_17 : decode cX7_first 17 = .ok (.iload_n 3, 1) := by decide +kernel
theorem dX7_first_18 : decode cX7_first 18 = .ok (.iload 4, 2) := by decide +kernel
theorem dX7_first_20 : decode cX7_first 20 = .ok (.invokevirtual 154, 3) := by decide +kernel
theorem dX7_first_23 : decode cX7_first 23 = .ok (.istore 5, 2) := by decide +kernel
theorem dX7_first_25 : decode cX7_first 25 = .ok (.iload 5, 2) := by decide +kernel
theorem dX7_first_27 : decode cX7_first 27 = .ok (.ifCond .ne 8, 3) := by decide +kernel
theorem dX7_first_30 : decode cX7_first 30 = .ok (.bipush (-6), 2) := by decide +kernel
theorem dX7_first_32 : decode cX7_first 32 = .ok (.goto 13, 3) := by decide +kernel
theorem dX7_first_35 : decode cX7_first 35 = .ok (.aload_n 0, 1) := by decide +kernel
theorem dX7_first_36 : decode cX7_first 36 = .ok (.getfield 29, 3) := by decide +kernel
theorem dX7_first_39 : decode cX7_first 39 = .ok (.iload 5, 2) := by decide +kernel
theorem dX7_first_41 : decode cX7_first 41 = .ok (.invokestatic 158, 3) := by decide +kernel
theorem dX7_first_44 : decode cX7_first 44 = .ok (.iaload, 1) := by decide +kernel
theorem dX7_first_45 : decode cX7_first 45 = .ok (.ireturn, 1) := by decide +kernel
theorem dX7_layStretches_0 : decode cX7_layStretches 0 = .ok (.iconst 0, 1) := by decide +kernel
theorem dX7_layStretches_1 : decode cX7_layStretches 1 = .ok (.istore_n 1, 1) := by decide +kernel
theorem dX7_layStretches_2 : decode cX7_layStretches 2 = .ok (.iload_n 1, 1) := by decide +kernel
theorem dX7_layStretches_3 : decode cX7_layStretches 3 = .ok (.iconst 4, 1) := by decide +kernel
theorem dX7_layStretches_4 : decode cX7_layStretches 4 = .ok (.if_icmp .ge 129, 3) := by decide +kernel
theorem dX7_layStretches_7 : decode cX7_layStretches 7 = .ok (.aload_n 0, 1) := by decide +kernel
theorem dX7_layStretches_8 : decode cX7_layStretches 8 = .ok (.getfield 41, 3) := by decide +kernel
theorem dX7_layStretches_11 : decode cX7_layStretches 11 = .ok (.iload_n 1, 1) := by decide +kernel
theorem dX7_layStretches_12 : decode cX7_layStretches 12 = .ok (.iconst 0, 1) := by decide +kernel
theorem dX7_layStretches_13 : decode cX7_layStretches 13 = .ok (.iastore, 1) := by decide +kernel
theorem dX7_layStretches_14 : decode cX7_layStretches 14 = .ok (.iconst 0, 1) := by decide +kernel
theorem dX7_layStretches_15 : decode cX7_layStretches 15 = .ok (.istore_n 2, 1) := by decide +kernel
theorem dX7_layStretches_16 : decode cX7_layStretches 16 = .ok (.iload_n 2, 1) := by decide +kernel
theorem dX7_layStretches_17 : decode cX7_layStretches 17 = .ok (.iload_n 1, 1) := by decide +kernel
theorem dX7_layStretches_18 : decode cX7_layStretches 18 = .ok (.invokestatic 124, 3) := by decide +kernel
theorem dX7_layStretches_21 : decode cX7_layStretches 21 = .ok (.if_icmp .gt 106, 3) := by decide +kernel
theorem dX7_layStretches_24 : decode cX7_layStretches 24 = .ok (.iload_n 2, 1) := by decide +kernel
theorem dX7_layStretches_25 : decode cX7_layStretches 25 = .ok (.ifCond .eq 30, 3) := by decide +kernel
theorem dX7_layStretches_28 : decode cX7_layStretches 28 = .ok (.aload_n 0, 1) := by decide +kernel
theorem dX7_layStretches_29 : decode cX7_layStretches 29 = .ok (.getfield 32, 3) := by decide +kernel
theorem dX7_layStretches_32 : decode cX7_layStretches 32 = .ok (.bipush 64, 2) := by decide +kernel
theorem dX7_layStretches_34 : decode cX7_layStretches 34 = .ok (.iload_n 1, 1) := by decide +kernel
theorem dX7_layStretches_35 : decode cX7_layStretches 35 = .ok (.imul, 1) := by decide +kernel
theorem dX7_layStretches_36 : decode cX7_layStretches 36 = .ok (.iload_n 2, 1) := by decide +kernel
theorem dX7_layStretches_37 : decode cX7_layStretches 37 = .ok (.iadd, 1) := by decide +kernel
theorem dX7_layStretches_38 : decode cX7_layStretches 38 = .ok (.iaload, 1) := by decide +kernel
theorem dX7_layStretches_39 : decode cX7_layStretches 39 = .ok (.aload_n 0, 1) := by decide +kernel
theorem dX7_layStretches_40 : decode cX7_layStretches 40 = .ok (.getfield 32, 3) := by decide +kernel
theorem dX7_layStretches_43 : decode cX7_layStretches 43 = .ok (.bipush 64, 2) := by decide +kernel
theorem dX7_layStretches_45 : decode cX7_layStretches 45 = .ok (.iload_n 1, 1) := by decide +kernel
theorem dX7_layStretches_46 : decode cX7_layStretches 46 = .ok (.imul, 1) := by decide +kernel
theorem dX7_layStretches_47 : decode cX7_layStretches 47 = .ok (.iload_n 2, 1) := by decide +kernel
theorem dX7_layStretches_48 : decode cX7_layStretches 48 = .ok (.iadd, 1) := by decide +kernel
theorem dX7_layStretches_49 : decode cX7_layStretches 49 = .ok (.iconst 1, 1) := by decide +kernel
theorem dX7_layStretches_50 : decode cX7_layStretches 50 = .ok (.isub, 1) := by decide +kernel
theorem dX7_layStretches_51 : decode cX7_layStretches 51 = .ok (.iaload, 1) := by decide +kernel
theorem dX7_layStretches_52 : decode cX7_layStretches 52 = .ok (.if_icmp .eq 47, 3) := by decide +kernel
theorem dX7_layStretches_55 : decode cX7_layStretches 55 = .ok (.aload_n 0, 1) := by decide +kernel
theorem dX7_layStretches_56 : decode cX7_layStretches 56 = .ok (.getfield 35, 3) := by decide +kernel
theorem dX7_layStretches_59 : decode cX7_layStretches 59 = .ok (.bipush 64, 2) := by decide +kernel
theorem dX7_layStretches_61 : decode cX7_layStretches 61 = .ok (.iload_n 1, 1) := by decide +kernel
theorem dX7_layStretches_62 : decode cX7_layStretches 62 = .ok (.imul, 1) := by decide +kernel
theorem dX7_layStretches_63 : decode cX7_layStretches 63 = .ok (.aload_n 0, 1) := by decide +kernel
theorem dX7_layStretches_64 : decode cX7_layStretches 64 = .ok (.getfield 41, 3) := by decide +kernel
theorem dX7_layStretches_67 : decode cX7_layStretches 67 = .ok (.iload_n 1, 1) := by decide +kernel
theorem dX7_layStretches_68 : decode cX7_layStretches 68 = .ok (.iaload, 1) := by decide +kernel
theorem dX7_layStretches_69 : decode cX7_layStretches 69 = .ok (.iadd, 1) := by decide +kernel
theorem dX7_layStretches_70 : decode cX7_layStretches 70 = .ok (.iload_n 2, 1) := by decide +kernel
theorem dX7_layStretches_71 : decode cX7_layStretches 71 = .ok (.iastore, 1) := by decide +kernel
theorem dX7_layStretches_72 : decode cX7_layStretches 72 = .ok (.aload_n 0, 1) := by decide +kernel
theorem dX7_layStretches_73 : decode cX7_layStretches 73 = .ok (.getfield 38, 3) := by decide +kernel
theorem dX7_layStretches_76 : decode cX7_layStretches 76 = .ok (.bipush 64, 2) := by decide +kernel
theorem dX7_layStretches_78 : decode cX7_layStretches 78 = .ok (.iload_n 1, 1) := by decide +kernel
theorem dX7_layStretches_79 : decode cX7_layStretches 79 = .ok (.imul, 1) := by decide +kernel
theorem dX7_layStretches_80 : decode cX7_layStretches 80 = .ok (.aload_n 0, 1) := by decide +kernel
theorem dX7_layStretches_81 : decode cX7_layStretches 81 = .ok (.getfield 41, 3) := by decide +kernel
theorem dX7_layStretches_84 : decode cX7_layStretches 84 = .ok (.iload_n 1, 1) := by decide +kernel
theorem dX7_layStretches_85 : decode cX7_layStretches 85 = .ok (.iaload, 1) := by decide +kernel
theorem dX7_layStretches_86 : decode cX7_layStretches 86 = .ok (.iadd, 1) := by decide +kernel
theorem dX7_layStretches_87 : decode cX7_layStretches 87 = .ok (.iconst 0, 1) := by decide +kernel
theorem dX7_layStretches_88 : decode cX7_layStretches 88 = .ok (.iastore, 1) := by decide +kernel
theorem dX7_layStretches_89 : decode cX7_layStretches 89 = .ok (.aload_n 0, 1) := by decide +kernel
theorem dX7_layStretches_90 : decode cX7_layStretches 90 = .ok (.getfield 41, 3) := by decide +kernel
theorem dX7_layStretches_93 : decode cX7_layStretches 93 = .ok (.iload_n 1, 1) := by decide +kernel
theorem dX7_layStretches_94 : decode cX7_layStretches 94 = .ok (.dup2, 1) := by decide +kernel
theorem dX7_layStretches_95 : decode cX7_layStretches 95 = .ok (.iaload, 1) := by decide +kernel
theorem dX7_layStretches_96 : decode cX7_layStretches 96 = .ok (.iconst 1, 1) := by decide +kernel
theorem dX7_layStretches_97 : decode cX7_layStretches 97 = .ok (.iadd, 1) := by decide +kernel
theorem dX7_layStretches_98 : decode cX7_layStretches 98 = .ok (.iastore, 1) := by decide +kernel
theorem dX7_layStretches_99 : decode cX7_layStretches 99 = .ok (.aload_n 0, 1) := by decide +kernel
theorem dX7_layStretches_100 : decode cX7_layStretches 100 = .ok (.getfield 38, 3) := by decide +kernel
theorem dX7_layStretches_103 : decode cX7_layStretches 103 = .ok (.bipush 64, 2) := by decide +kernel
theorem dX7_layStretches_105 : decode cX7_layStretches 105 = .ok (.iload_n 1, 1) := by decide +kernel
theorem dX7_layStretches_106 : decode cX7_layStretches 106 = .ok (.imul, 1) := by decide +kernel
theorem dX7_layStretches_107 : decode cX7_layStretches 107 = .ok (.aload_n 0, 1) := by decide +kernel
theorem dX7_layStretches_108 : decode cX7_layStretches 108 = .ok (.getfield 41, 3) := by decide +kernel
theorem dX7_layStretches_111 : decode cX7_layStretches 111 = .ok (.iload_n 1, 1) := by decide +kernel
theorem dX7_layStretches_112 : decode cX7_layStretches 112 = .ok (.iaload, 1) := by decide +kernel
theorem dX7_layStretches_113 : decode cX7_layStretches 113 = .ok (.iadd, 1) := by decide +kernel
theorem dX7_layStretches_114 : decode cX7_layStretches 114 = .ok (.iconst 1, 1) := by decide +kernel
theorem dX7_layStretches_115 : decode cX7_layStretches 115 = .ok (.isub, 1) := by decide +kernel
theorem dX7_layStretches_116 : decode cX7_layStretches 116 = .ok (.dup2, 1) := by decide +kernel
theorem dX7_layStretches_117 : decode cX7_layStretches 117 = .ok (.iaload, 1) := by decide +kernel
theorem dX7_layStretches_118 : decode cX7_layStretches 118 = .ok (.iconst 1, 1) := by decide +kernel
theorem dX7_layStretches_119 : decode cX7_layStretches 119 = .ok (.iadd, 1) := by decide +kernel
theorem dX7_layStretches_120 : decode cX7_layStretches 120 = .ok (.iastore, 1) := by decide +kernel
theorem dX7_layStretches_121 : decode cX7_layStretches 121 = .ok (.iinc 2 1, 3) := by decide +kernel
theorem dX7_layStretches_124 : decode cX7_layStretches 124 = .ok (.goto (-108), 3) := by decide +kernel
theorem dX7_layStretches_127 : decode cX7_layStretches 127 = .ok (.iinc 1 1, 3) := by decide +kernel
theorem dX7_layStretches_130 : decode cX7_layStretches 130 = .ok (.goto (-128), 3) := by decide +kernel
theorem dX7_layStretches_133 : decode cX7_layStretches 133 = .ok (.return_, 1) := by decide +kernel
theorem dX7_meet_0 : decode cX7_meet 0 = .ok (.iload_n 1, 1) := by decide +kernel
theorem dX7_meet_1 : decode cX7_meet 1 = .ok (.ifCond .ne 15, 3) := by decide +kernel
theorem dX7_meet_4 : decode cX7_meet 4 = .ok (.aload_n 0, 1) := by decide +kernel
theorem dX7_meet_5 : decode cX7_meet 5 = .ok (.getfield 51, 3) := by decide +kernel
theorem dX7_meet_8 : decode cX7_meet 8 = .ok (.bipush 10, 2) := by decide +kernel
theorem dX7_meet_10 : decode cX7_meet 10 = .ok (.dup2, 1) := by decide +kernel
theorem dX7_meet_11 : decode cX7_meet 11 = .ok (.iaload, 1) := by decide +kernel
theorem dX7_meet_12 : decode cX7_meet 12 = .ok (.iload_n 2, 1) := by decide +kernel
theorem dX7_meet_13 : decode cX7_meet 13 = .ok (.iadd, 1) := by decide +kernel
theorem dX7_meet_14 : decode cX7_meet 14 = .ok (.iastore, 1) := by decide +kernel
theorem dX7_meet_15 : decode cX7_meet 15 = .ok (.return_, 1) := by decide +kernel
theorem dX7_meet_16 : decode cX7_meet 16 = .ok (.iload_n 1, 1) := by decide +kernel
theorem dX7_meet_17 : decode cX7_meet 17 = .ok (.invokestatic 158, 3) := by decide +kernel
theorem dX7_meet_20 : decode cX7_meet 20 = .ok (.istore_n 3, 1) := by decide +kernel
theorem dX7_meet_21 : decode cX7_meet 21 = .ok (.iload_n 1, 1) := by decide +kernel
theorem dX7_meet_22 : decode cX7_meet 22 = .ok (.iconst 1, 1) := by decide +kernel
theorem dX7_meet_23 : decode cX7_meet 23 = .ok (.iload_n 3, 1) := by decide +kernel
theorem dX7_meet_24 : decode cX7_meet 24 = .ok (.ishl, 1) := by decide +kernel
theorem dX7_meet_25 : decode cX7_meet 25 = .ok (.iconst (-1), 1) := by decide +kernel
theorem dX7_meet_26 : decode cX7_meet 26 = .ok (.ixor, 1) := by decide +kernel
theorem dX7_meet_27 : decode cX7_meet 27 = .ok (.iand, 1) := by decide +kernel
theorem dX7_meet_28 : decode cX7_meet 28 = .ok (.istore 4, 2) := by decide +kernel
theorem dX7_meet_30 : decode cX7_meet 30 = .ok (.aload_n 0, 1) := by decide +kernel
theorem dX7_meet_31 : decode cX7_meet 31 = .ok (.getfield 29, 3) := by decide +kernel
theorem dX7_meet_34 : decode cX7_meet 34 = .ok (.iload_n 3, 1) := by decide +kernel
theorem dX7_meet_35 : decode cX7_meet 35 = .ok (.iaload, 1) := by decide +kernel
theorem dX7_meet_36 : decode cX7_meet 36 = .ok (.istore 5, 2) := by decide +kernel
theorem dX7_meet_38 : decode cX7_meet 38 = .ok (.aload_n 0, 1) := by decide +kernel
theorem dX7_meet_39 : decode cX7_meet 39 = .ok (.getfield 44, 3) := by decide +kernel
theorem dX7_meet_42 : decode cX7_meet 42 = .ok (.iload 5, 2) := by decide +kernel
theorem dX7_meet_44 : decode cX7_meet 44 = .ok (.dup2, 1) := by decide +kernel
theorem dX7_meet_45 : decode cX7_meet 45 = .ok (.iaload, 1) := by decide +kernel
theorem dX7_meet_46 : decode cX7_meet 46 = .ok (.iload_n 2, 1) := by decide +kernel
theorem dX7_meet_47 : decode cX7_meet 47 = .ok (.iadd, 1) := by decide +kernel
theorem dX7_meet_48 : decode cX7_meet 48 = .ok (.iastore, 1) := by decide +kernel
theorem dX7_meet_49 : decode cX7_meet 49 = .ok (.aload_n 0, 1) := by decide +kernel
theorem dX7_meet_50 : decode cX7_meet 50 = .ok (.getfield 51, 3) := by decide +kernel
theorem dX7_meet_53 : decode cX7_meet 53 = .ok (.aload_n 0, 1) := by decide +kernel
theorem dX7_meet_54 : decode cX7_meet 54 = .ok (.getfield 19, 3) := by decide +kernel
theorem dX7_meet_57 : decode cX7_meet 57 = .ok (.iload 5, 2) := by decide +kernel
theorem dX7_meet_59 : decode cX7_meet 59 = .ok (.iaload, 1) := by decide +kernel
theorem dX7_meet_60 : decode cX7_meet 60 = .ok (.dup2, 1) := by decide +kernel
theorem dX7_meet_61 : decode cX7_meet 61 = .ok (.iaload, 1) := by decide +kernel
theorem dX7_meet_62 : decode cX7_meet 62 = .ok (.iload_n 2, 1) := by decide +kernel
theorem dX7_meet_63 : decode cX7_meet 63 = .ok (.iadd, 1) := by decide +kernel
theorem dX7_meet_64 : decode cX7_meet 64 = .ok (.iastore, 1) := by decide +kernel
theorem dX7_meet_65 : decode cX7_meet 65 = .ok (.iload 4, 2) := by decide +kernel
theorem dX7_meet_67 : decode cX7_meet 67 = .ok (.ifCond .eq 28, 3) := by decide +kernel
theorem dX7_meet_70 : decode cX7_meet 70 = .ok (.aload_n 0, 1) := by decide +kernel
theorem dX7_meet_71 : decode cX7_meet 71 = .ok (.getfield 19, 3) := by decide +kernel
theorem dX7_meet_74 : decode cX7_meet 74 = .ok (.aload_n 0, 1) := by decide +kernel
theorem dX7_meet_75 : decode cX7_meet 75 = .ok (.getfield 29, 3) := by decide +kernel
theorem dX7_meet_78 : decode cX7_meet 78 = .ok (.iload 4, 2) := by decide +kernel
theorem dX7_meet_80 : decode cX7_meet 80 = .ok (.invokestatic 158, 3) := by decide +kernel
theorem dX7_meet_83 : decode cX7_meet 83 = .ok (.iaload, 1) := by decide +kernel
theorem dX7_meet_84 : decode cX7_meet 84 = .ok (.iaload, 1) := by decide +kernel
theorem dX7_meet_85 : decode cX7_meet 85 = .ok (.aload_n 0, 1) := by decide +kernel
theorem dX7_meet_86 : decode cX7_meet 86 = .ok (.getfield 19, 3) := by decide +kernel
theorem dX7_meet_89 : decode cX7_meet 89 = .ok (.iload 5, 2) := by decide +kernel
theorem dX7_meet_91 : decode cX7_meet 91 = .ok (.iaload, 1) := by decide +kernel
theorem dX7_meet_92 : decode cX7_meet 92 = .ok (.if_icmp .eq 11, 3) := by decide +kernel
theorem dX7_meet_95 : decode cX7_meet 95 = .ok (.aload_n 0, 1) := by decide +kernel
theorem dX7_meet_96 : decode cX7_meet 96 = .ok (.getfield 47, 3) := by decide +kernel
theorem dX7_meet_99 : decode cX7_meet 99 = .ok (.iload 5, 2) := by decide +kernel
theorem dX7_meet_101 : decode cX7_meet 101 = .ok (.iconst 1, 1) := by decide +kernel
theorem dX7_meet_102 : decode cX7_meet 102 = .ok (.bastore, 1) := by decide +kernel
theorem dX7_meet_103 : decode cX7_meet 103 = .ok (.return_, 1) := by decide +kernel
theorem dX7_sweep_0 : decode cX7_sweep 0 = .ok (.aload_n 0, 1) := by decide +kernel
theorem dX7_sweep_1 : decode cX7_sweep 1 = .ok (.invokevirtual 147, 3) := by decide +kernel
theorem dX7_sweep_4 : decode cX7_sweep 4 = .ok (.aload_n 0, 1) := by decide +kernel
theorem dX7_sweep_5 : decode cX7_sweep 5 = .ok (.getfield 115, 3) := by decide +kernel
theorem dX7_sweep_8 : decode cX7_sweep 8 = .ok (.ifCond .eq 4, 3) := by decide +kernel
theorem dX7_sweep_11 : decode cX7_sweep 11 = .ok (.return_, 1) := by decide +kernel
theorem dX7_sweep_12 : decode cX7_sweep 12 = .ok (.aload_n 0, 1) := by decide +kernel
theorem dX7_sweep_13 : decode cX7_sweep 13 = .ok (.iconst 1, 1) := by decide +kernel
theorem dX7_sweep_14 : decode cX7_sweep 14 = .ok (.putfield 115, 3) := by decide +kernel
theorem dX7_sweep_17 : decode cX7_sweep 17 = .ok (.iconst 0, 1) := by decide +kernel
theorem dX7_sweep_18 : decode cX7_sweep 18 = .ok (.istore_n 1, 1) := by decide +kernel
theorem dX7_sweep_19 : decode cX7_sweep 19 = .ok (.iload_n 1, 1) := by decide +kernel
theorem dX7_sweep_20 : decode cX7_sweep 20 = .ok (.bipush 16, 2) := by decide +kernel
theorem dX7_sweep_22 : decode cX7_sweep 22 = .ok (.if_icmp .ge 23, 3) := by decide +kernel
theorem dX7_sweep_25 : decode cX7_sweep 25 = .ok (.aload_n 0, 1) := by decide +kernel
theorem dX7_sweep_26 : decode cX7_sweep 26 = .ok (.getfield 44, 3) := by decide +kernel
theorem dX7_sweep_29 : decode cX7_sweep 29 = .ok (.iload_n 1, 1) := by decide +kernel
theorem dX7_sweep_30 : decode cX7_sweep 30 = .ok (.iconst 0, 1) := by decide +kernel
theorem dX7_sweep_31 : decode cX7_sweep 31 = .ok (.iastore, 1) := by decide +kernel
theorem dX7_sweep_32 : decode cX7_sweep 32 = .ok (.aload_n 0, 1) := by decide +kernel
theorem dX7_sweep_33 : decode cX7_sweep 33 = .ok (.getfield 47, 3) := by decide +kernel
theorem dX7_sweep_36 : decode cX7_sweep 36 = .ok (.iload_n 1, 1) := by decide +kernel
theorem dX7_sweep_37 : decode cX7_sweep 37 = .ok (.iconst 0, 1) := by decide +kernel
theorem dX7_sweep_38 : decode cX7_sweep 38 = .ok (.bastore, 1) := by decide +kernel
theorem dX7_sweep_39 : decode cX7_sweep 39 = .ok (.iinc 1 1, 3) := by decide +kernel
theorem dX7_sweep_42 : decode cX7_sweep 42 = .ok (.goto (-23), 3) := by decide +kernel
theorem dX7_sweep_45 : decode cX7_sweep 45 = .ok (.iconst 0, 1) := by decide +kernel
theorem dX7_sweep_46 : decode cX7_sweep 46 = .ok (.istore_n 1, 1) := by decide +kernel
theorem dX7_sweep_47 : decode cX7_sweep 47 = .ok (.iload_n 1, 1) := by decide +kernel
theorem dX7_sweep_48 : decode cX7_sweep 48 = .ok (.bipush 11, 2) := by decide +kernel
theorem dX7_sweep_50 : decode cX7_sweep 50 = .ok (.if_icmp .ge 16, 3) := by decide +kernel
theorem dX7_sweep_53 : decode cX7_sweep 53 = .ok (.aload_n 0, 1) := by decide +kernel
theorem dX7_sweep_54 : decode cX7_sweep 54 = .ok (.getfield 51, 3) := by decide +kernel
theorem dX7_sweep_57 : decode cX7_sweep 57 = .ok (.iload_n 1, 1) := by decide +kernel
theorem dX7_sweep_58 : decode cX7_sweep 58 = .ok (.iconst 0, 1) := by decide +kernel
theorem dX7_sweep_59 : decode cX7_sweep 59 = .ok (.iastore, 1) := by decide +kernel
theorem dX7_sweep_60 : decode cX7_sweep 60 = .ok (.iinc 1 1, 3) := by decide +kernel
theorem dX7_sweep_63 : decode cX7_sweep 63 = .ok (.goto (-16), 3) := by decide +kernel
theorem dX7_sweep_66 : decode cX7_sweep 66 = .ok (.aload_n 0, 1) := by decide +kernel
theorem dX7_sweep_67 : decode cX7_sweep 67 = .ok (.invokevirtual 161, 3) := by decide +kernel
theorem dX7_sweep_70 : decode cX7_sweep 70 = .ok (.iconst 0, 1) := by decide +kernel
theorem dX7_sweep_71 : decode cX7_sweep 71 = .ok (.istore_n 1, 1) := by decide +kernel
theorem dX7_sweep_72 : decode cX7_sweep 72 = .ok (.iload_n 1, 1) := by decide +kernel
theorem dX7_sweep_73 : decode cX7_sweep 73 = .ok (.aload_n 0, 1) := by decide +kernel
theorem dX7_sweep_74 : decode cX7_sweep 74 = .ok (.getfield 41, 3) := by decide +kernel
theorem dX7_sweep_77 : decode cX7_sweep 77 = .ok (.iconst 0, 1) := by decide +kernel
theorem dX7_sweep_78 : decode cX7_sweep 78 = .ok (.iaload, 1) := by decide +kernel
theorem dX7_sweep_79 : decode cX7_sweep 79 = .ok (.aload_n 0, 1) := by decide +kernel
theorem dX7_sweep_80 : decode cX7_sweep 80 = .ok (.getfield 41, 3) := by decide +kernel
theorem dX7_sweep_83 : decode cX7_sweep 83 = .ok (.iconst 1, 1) := by decide +kernel
theorem dX7_sweep_84 : decode cX7_sweep 84 = .ok (.iaload, 1) := by decide +kernel
theorem dX7_sweep_85 : decode cX7_sweep 85 = .ok (.imul, 1) := by decide +kernel
theorem dX7_sweep_86 : decode cX7_sweep 86 = .ok (.if_icmp .ge 187, 3) := by decide +kernel
theorem dX7_sweep_89 : decode cX7_sweep 89 = .ok (.iload_n 1, 1) := by decide +kernel
theorem dX7_sweep_90 : decode cX7_sweep 90 = .ok (.aload_n 0, 1) := by decide +kernel
theorem dX7_sweep_91 : decode cX7_sweep 91 = .ok (.getfield 41, 3) := by decide +kernel
theorem dX7_sweep_94 : decode cX7_sweep 94 = .ok (.iconst 1, 1) := by decide +kernel
theorem dX7_sweep_95 : decode cX7_sweep 95 = .ok (.iaload, 1) := by decide +kernel
theorem dX7_sweep_96 : decode cX7_sweep 96 = .ok (.idiv, 1) := by decide +kernel
theorem dX7_sweep_97 : decode cX7_sweep 97 = .ok (.istore_n 2, 1) := by decide +kernel
theorem dX7_sweep_98 : decode cX7_sweep 98 = .ok (.bipush 64, 2) := by decide +kernel
theorem dX7_sweep_100 : decode cX7_sweep 100 = .ok (.iload_n 1, 1) := by decide +kernel
theorem dX7_sweep_101 : decode cX7_sweep 101 = .ok (.aload_n 0, 1) := by decide +kernel
theorem dX7_sweep_102 : decode cX7_sweep 102 = .ok (.getfield 41, 3) := by decide +kernel
theorem dX7_sweep_105 : decode cX7_sweep 105 = .ok (.iconst 1, 1) := by decide +kernel
theorem dX7_sweep_106 : decode cX7_sweep 106 = .ok (.iaload, 1) := by decide +kernel
theorem dX7_sweep_107 : decode cX7_sweep 107 = .ok (.irem, 1) := by decide +kernel
theorem dX7_sweep_108 : decode cX7_sweep 108 = .ok (.iadd, 1) := by decide +kernel
theorem dX7_sweep_109 : decode cX7_sweep 109 = .ok (.istore_n 3, 1) := by decide +kernel
theorem dX7_sweep_110 : decode cX7_sweep 110 = .ok (.aload_n 0, 1) := by decide +kernel
theorem dX7_sweep_111 : decode cX7_sweep 111 = .ok (.getfield 32, 3) := by decide +kernel
theorem dX7_sweep_114 : decode cX7_sweep 114 = .ok (.aload_n 0, 1) := by decide +kernel
theorem dX7_sweep_115 : decode cX7_sweep 115 = .ok (.getfield 35, 3) := by decide +kernel
theorem dX7_sweep_118 : decode cX7_sweep 118 = .ok (.iload_n 2, 1) := by decide +kernel
theorem dX7_sweep_119 : decode cX7_sweep 119 = .ok (.iaload, 1) := by decide +kernel
theorem dX7_sweep_120 : decode cX7_sweep 120 = .ok (.iaload, 1) := by decide +kernel
theorem dX7_sweep_121 : decode cX7_sweep 121 = .ok (.aload_n 0, 1) := by decide +kernel
theorem dX7_sweep_122 : decode cX7_sweep 122 = .ok (.getfield 32, 3) := by decide +kernel
theorem dX7_sweep_125 : decode cX7_sweep 125 = .ok (.bipush 64, 2) := by decide +kernel
theorem dX7_sweep_127 : decode cX7_sweep 127 = .ok (.aload_n 0, 1) := by decide +kernel
theorem dX7_sweep_128 : decode cX7_sweep 128 = .ok (.getfield 35, 3) := by decide +kernel
theorem dX7_sweep_131 : decode cX7_sweep 131 = .ok (.iload_n 3, 1) := by decide +kernel
theorem dX7_sweep_132 : decode cX7_sweep 132 = .ok (.iaload, 1) := by decide +kernel
theorem dX7_sweep_133 : decode cX7_sweep 133 = .ok (.iadd, 1) := by decide +kernel
theorem dX7_sweep_134 : decode cX7_sweep 134 = .ok (.iaload, 1) := by decide +kernel
theorem dX7_sweep_135 : decode cX7_sweep 135 = .ok (.iand, 1) := by decide +kernel
theorem dX7_sweep_136 : decode cX7_sweep 136 = .ok (.istore 4, 2) := by decide +kernel
theorem dX7_sweep_138 : decode cX7_sweep 138 = .ok (.iconst 0, 1) := by decide +kernel
theorem dX7_sweep_139 : decode cX7_sweep 139 = .ok (.istore 5, 2) := by decide +kernel
theorem dX7_sweep_141 : decode cX7_sweep 141 = .ok (.iload 5, 2) := by decide +kernel
theorem dX7_sweep_143 : decode cX7_sweep 143 = .ok (.aload_n 0, 1) := by decide +kernel
theorem dX7_sweep_144 : decode cX7_sweep 144 = .ok (.getfield 41, 3) := by decide +kernel
theorem dX7_sweep_147 : decode cX7_sweep 147 = .ok (.iconst 2, 1) := by decide +kernel
theorem dX7_sweep_148 : decode cX7_sweep 148 = .ok (.iaload, 1) := by decide +kernel
theorem dX7_sweep_149 : decode cX7_sweep 149 = .ok (.if_icmp .ge 118, 3) := by decide +kernel
theorem dX7_sweep_152 : decode cX7_sweep 152 = .ok (.iconst 0, 1) := by decide +kernel
theorem dX7_sweep_153 : decode cX7_sweep 153 = .ok (.istore 6, 2) := by decide +kernel
theorem dX7_sweep_155 : decode cX7_sweep 155 = .ok (.iload 6, 2) := by decide +kernel
theorem dX7_sweep_157 : decode cX7_sweep 157 = .ok (.aload_n 0, 1) := by decide +kernel
theorem dX7_sweep_158 : decode cX7_sweep 158 = .ok (.getfield 41, 3) := by decide +kernel
theorem dX7_sweep_161 : decode cX7_sweep 161 = .ok (.iconst 3, 1) := by decide +kernel
theorem dX7_sweep_162 : decode cX7_sweep 162 = .ok (.iaload, 1) := by decide +kernel
theorem dX7_sweep_163 : decode cX7_sweep 163 = .ok (.if_icmp .ge 98, 3) := by decide +kernel
theorem dX7_sweep_166 : decode cX7_sweep 166 = .ok (.iload 4, 2) := by decide +kernel
theorem dX7_sweep_168 : decode cX7_sweep 168 = .ok (.aload_n 0, 1) := by decide +kernel
theorem dX7_sweep_169 : decode cX7_sweep 169 = .ok (.getfield 32, 3) := by decide +kernel
theorem dX7_sweep_172 : decode cX7_sweep 172 = .ok (.sipush 128, 3) := by decide +kernel
theorem dX7_sweep_175 : decode cX7_sweep 175 = .ok (.aload_n 0, 1) := by decide +kernel
theorem dX7_sweep_176 : decode cX7_sweep 176 = .ok (.getfield 35, 3) := by decide +kernel
theorem dX7_sweep_179 : decode cX7_sweep 179 = .ok (.sipush 128, 3) := by decide +kernel
theorem dX7_sweep_182 : decode cX7_sweep 182 = .ok (.iload 5, 2) := by decide +kernel
theorem dX7_sweep_184 : decode cX7_sweep 184 = .ok (.iadd, 1) := by decide +kernel
theorem dX7_sweep_185 : decode cX7_sweep 185 = .ok (.iaload, 1) := by decide +kernel
theorem dX7_sweep_186 : decode cX7_sweep 186 = .ok (.iadd, 1) := by decide +kernel
theorem dX7_sweep_187 : decode cX7_sweep 187 = .ok (.iaload, 1) := by decide +kernel
theorem dX7_sweep_188 : decode cX7_sweep 188 = .ok (.iand, 1) := by decide +kernel
theorem dX7_sweep_189 : decode cX7_sweep 189 = .ok (.aload_n 0, 1) := by decide +kernel
theorem dX7_sweep_190 : decode cX7_sweep 190 = .ok (.getfield 32, 3) := by decide +kernel
theorem dX7_sweep_193 : decode cX7_sweep 193 = .ok (.sipush 192, 3) := by decide +kernel
theorem dX7_sweep_196 : decode cX7_sweep 196 = .ok (.aload_n 0, 1) := by decide +kernel
theorem dX7_sweep_197 : decode cX7_sweep 197 = .ok (.getfield 35, 3) := by decide +kernel
theorem dX7_sweep_200 : decode cX7_sweep 200 = .ok (.sipush 192, 3) := by decide +kernel
theorem dX7_sweep_203 : decode cX7_sweep 203 = .ok (.iload 6, 2) := by decide +kernel
theorem dX7_sweep_205 : decode cX7_sweep 205 = .ok (.iadd, 1) := by decide +kernel
theorem dX7_sweep_206 : decode cX7_sweep 206 = .ok (.iaload, 1) := by decide +kernel
theorem dX7_sweep_207 : decode cX7_sweep 207 = .ok (.iadd, 1) := by decide +kernel
theorem dX7_sweep_208 : decode cX7_sweep 208 = .ok (.iaload, 1) := by decide +kernel
theorem dX7_sweep_209 : decode cX7_sweep 209 = .ok (.iand, 1) := by decide +kernel
theorem dX7_sweep_210 : decode cX7_sweep 210 = .ok (.istore 7, 2) := by decide +kernel
theorem dX7_sweep_212 : decode cX7_sweep 212 = .ok (.aload_n 0, 1) := by decide +kernel
theorem dX7_sweep_213 : decode cX7_sweep 213 = .ok (.iload 7, 2) := by decide +kernel
theorem dX7_sweep_215 : decode cX7_sweep 215 = .ok (.aload_n 0, 1) := by decide +kernel
theorem dX7_sweep_216 : decode cX7_sweep 216 = .ok (.getfield 38, 3) := by decide +kernel
theorem dX7_sweep_219 : decode cX7_sweep 219 = .ok (.iload_n 2, 1) := by decide +kernel
theorem dX7_sweep_220 : decode cX7_sweep 220 = .ok (.iaload, 1) := by decide +kernel
theorem dX7_sweep_221 : decode cX7_sweep 221 = .ok (.aload_n 0, 1) := by decide +kernel
theorem dX7_sweep_222 : decode cX7_sweep 222 = .ok (.getfield 38, 3) := by decide +kernel
theorem dX7_sweep_225 : decode cX7_sweep 225 = .ok (.iload_n 3, 1) := by decide +kernel
theorem dX7_sweep_226 : decode cX7_sweep 226 = .ok (.iaload, 1) := by decide +kernel
theorem dX7_sweep_227 : decode cX7_sweep 227 = .ok (.imul, 1) := by decide +kernel
theorem dX7_sweep_228 : decode cX7_sweep 228 = .ok (.aload_n 0, 1) := by decide +kernel
theorem dX7_sweep_229 : decode cX7_sweep 229 = .ok (.getfield 38, 3) := by decide +kernel
theorem dX7_sweep_232 : decode cX7_sweep 232 = .ok (.sipush 128, 3) := by decide +kernel
theorem dX7_sweep_235 : decode cX7_sweep 235 = .ok (.iload 5, 2) := by decide +kernel
theorem dX7_sweep_237 : decode cX7_sweep 237 = .ok (.iadd, 1) := by decide +kernel
theorem dX7_sweep_238 : decode cX7_sweep 238 = .ok (.iaload, 1) := by decide +kernel
theorem dX7_sweep_239 : decode cX7_sweep 239 = .ok (.imul, 1) := by decide +kernel
theorem dX7_sweep_240 : decode cX7_sweep 240 = .ok (.aload_n 0, 1) := by decide +kernel
theorem dX7_sweep_241 : decode cX7_sweep 241 = .ok (.getfield 38, 3) := by decide +kernel
theorem dX7_sweep_244 : decode cX7_sweep 244 = .ok (.sipush 192, 3) := by decide +kernel
theorem dX7_sweep_247 : decode cX7_sweep 247 = .ok (.iload 6, 2) := by decide +kernel
theorem dX7_sweep_249 : decode cX7_sweep 249 = .ok (.iadd, 1) := by decide +kernel
theorem dX7_sweep_250 : decode cX7_sweep 250 = .ok (.iaload, 1) := by decide +kernel
theorem dX7_sweep_251 : decode cX7_sweep 251 = .ok (.imul, 1) := by decide +kernel
theorem dX7_sweep_252 : decode cX7_sweep 252 = .ok (.invokevirtual 164, 3) := by decide +kernel
theorem dX7_sweep_255 : decode cX7_sweep 255 = .ok (.iinc 6 1, 3) := by decide +kernel
theorem dX7_sweep_258 : decode cX7_sweep 258 = .ok (.goto (-103), 3) := by decide +kernel
theorem dX7_sweep_261 : decode cX7_sweep 261 = .ok (.iinc 5 1, 3) := by decide +kernel
theorem dX7_sweep_264 : decode cX7_sweep 264 = .ok (.goto (-123), 3) := by decide +kernel
theorem dX7_sweep_267 : decode cX7_sweep 267 = .ok (.iinc 1 1, 3) := by decide +kernel
theorem dX7_sweep_270 : decode cX7_sweep 270 = .ok (.goto (-198), 3) := by decide +kernel
theorem dX7_sweep_273 : decode cX7_sweep 273 = .ok (.return_, 1) := by decide +kernel
theorem dX7_wins_0 : decode cX7_wins 0 = .ok (.aload_n 0, 1) := by decide +kernel
theorem dX7_wins_1 : decode cX7_wins 1 = .ok (.iload_n 1, 1) := by decide +kernel
theorem dX7_wins_2 : decode cX7_wins 2 = .ok (.invokevirtual 134, 3) := by decide +kernel
theorem dX7_wins_5 : decode cX7_wins 5 = .ok (.ifCond .ne 5, 3) := by decide +kernel
theorem dX7_wins_8 : decode cX7_wins 8 = .ok (.iconst (-1), 1) := by decide +kernel
theorem dX7_wins_9 : decode cX7_wins 9 = .ok (.ireturn, 1) := by decide +kernel
theorem dX7_wins_10 : decode cX7_wins 10 = .ok (.aload_n 0, 1) := by decide +kernel
theorem dX7_wins_11 : decode cX7_wins 11 = .ok (.invokevirtual 168, 3) := by decide +kernel
theorem dX7_wins_14 : decode cX7_wins 14 = .ok (.aload_n 0, 1) := by decide +kernel
theorem dX7_wins_15 : decode cX7_wins 15 = .ok (.getfield 44, 3) := by decide +kernel
theorem dX7_wins_18 : decode cX7_wins 18 = .ok (.iload_n 1, 1) := by decide +kernel
theorem dX7_wins_19 : decode cX7_wins 19 = .ok (.iaload, 1) := by decide +kernel
theorem dX7_wins_20 : decode cX7_wins 20 = .ok (.ireturn, 1) := by decide +kernel
theorem dX7_overlap_0 : decode cX7_overlap 0 = .ok (.aload_n 0, 1) := by decide +kernel
theorem dX7_overlap_1 : decode cX7_overlap 1 = .ok (.iload_n 1, 1) := by decide +kernel
theorem dX7_overlap_2 : decode cX7_overlap 2 = .ok (.invokevirtual 134, 3) := by decide +kernel
theorem dX7_overlap_5 : decode cX7_overlap 5 = .ok (.ifCond .eq 11, 3) := by decide +kernel
theorem dX7_overlap_8 : decode cX7_overlap 8 = .ok (.aload_n 0, 1) := by decide +kernel
theorem dX7_overlap_9 : decode cX7_overlap 9 = .ok (.iload_n 2, 1) := by decide +kernel
theorem dX7_overlap_10 : decode cX7_overlap 10 = .ok (.invokevirtual 134, 3) := by decide +kernel
theorem dX7_overlap_13 : decode cX7_overlap 13 = .ok (.ifCond .ne 5, 3) := by decide +kernel
theorem dX7_overlap_16 : decode cX7_overlap 16 = .ok (.iconst (-1), 1) := by decide +kernel
theorem dX7_overlap_17 : decode cX7_overlap 17 = .ok (.ireturn, 1) := by decide +kernel
theorem dX7_overlap_18 : decode cX7_overlap 18 = .ok (.iconst 1, 1) := by decide +kernel
theorem dX7_overlap_19 : decode cX7_overlap 19 = .ok (.istore_n 3, 1) := by decide +kernel
theorem dX7_overlap_20 : decode cX7_overlap 20 = .ok (.iconst 0, 1) := by decide +kernel
theorem dX7_overlap_21 : decode cX7_overlap 21 = .ok (.istore 4, 2) := by decide +kernel
theorem dX7_overlap_23 : decode cX7_overlap 23 = .ok (.iload 4, 2) := by decide +kernel
theorem dX7_overlap_25 : decode cX7_overlap 25 = .ok (.iconst 4, 1) := by decide +kernel
theorem dX7_overlap_26 : decode cX7_overlap 26 = .ok (.if_icmp .ge 106, 3) := by decide +kernel
theorem dX7_overlap_29 : decode cX7_overlap 29 = .ok (.iconst 0, 1) := by decide +kernel
theorem dX7_overlap_30 : decode cX7_overlap 30 = .ok (.istore 5, 2) := by decide +kernel
theorem dX7_overlap_32 : decode cX7_overlap 32 = .ok (.iconst 0, 1) := by decide +kernel
theorem dX7_overlap_33 : decode cX7_overlap 33 = .ok (.istore 6, 2) := by decide +kernel
theorem dX7_overlap_35 : decode cX7_overlap 35 = .ok (.iload 6, 2) := by decide +kernel
theorem dX7_overlap_37 : decode cX7_overlap 37 = .ok (.iload 4, 2) := by decide +kernel
theorem dX7_overlap_39 : decode cX7_overlap 39 = .ok (.invokestatic 124, 3) := by decide +kernel
theorem dX7_overlap_42 : decode cX7_overlap 42 = .ok (.if_icmp .gt 79, 3) := by decide +kernel
theorem dX7_overlap_45 : decode cX7_overlap 45 = .ok (.iload 5, 2) := by decide +kernel
theorem dX7_overlap_47 : decode cX7_overlap 47 = .ok (.iload 6, 2) := by decide +kernel
theorem dX7_overlap_49 : decode cX7_overlap 49 = .ok (.aload_n 0, 1) := by decide +kernel
theorem dX7_overlap_50 : decode cX7_overlap 50 = .ok (.getfield 7, 3) := by decide +kernel
theorem dX7_overlap_53 : decode cX7_overlap 53 = .ok (.iconst 4, 1) := by decide +kernel
theorem dX7_overlap_54 : decode cX7_overlap 54 = .ok (.iload_n 1, 1) := by decide +kernel
theorem dX7_overlap_55 : decode cX7_overlap 55 = .ok (.imul, 1) := by decide +kernel
theorem dX7_overlap_56 : decode cX7_overlap 56 = .ok (.iload 4, 2) := by decide +kernel
theorem dX7_overlap_58 : decode cX7_overlap 58 = .ok (.iadd, 1) := by decide +kernel
theorem dX7_overlap_59 : decode cX7_overlap 59 = .ok (.iaload, 1) := by decide +kernel
theorem dX7_overlap_60 : decode cX7_overlap 60 = .ok (.aload_n 0, 1) := by decide +kernel
theorem dX7_overlap_61 : decode cX7_overlap 61 = .ok (.getfield 13, 3) := by decide +kernel
theorem dX7_overlap_64 : decode cX7_overlap 64 = .ok (.iconst 4, 1) := by decide +kernel
theorem dX7_overlap_65 : decode cX7_overlap 65 = .ok (.iload_n 1, 1) := by decide +kernel
theorem dX7_overlap_66 : decode cX7_overlap 66 = .ok (.imul, 1) := by decide +kernel
theorem dX7_overlap_67 : decode cX7_overlap 67 = .ok (.iload 4, 2) := by decide +kernel
theorem dX7_overlap_69 : decode cX7_overlap 69 = .ok (.iadd, 1) := by decide +kernel
theorem dX7_overlap_70 : decode cX7_overlap 70 = .ok (.iaload, 1) := by decide +kernel
theorem dX7_overlap_71 : decode cX7_overlap 71 = .ok (.invokestatic 100, 3) := by decide +kernel
theorem dX7_overlap_74 : decode cX7_overlap 74 = .ok (.ifCond .eq 37, 3) := by decide +kernel
theorem dX7_overlap_77 : decode cX7_overlap 77 = .ok (.iload 6, 2) := by decide +kernel
theorem dX7_overlap_79 : decode cX7_overlap 79 = .ok (.aload_n 0, 1) := by decide +kernel
theorem dX7_overlap_80 : decode cX7_overlap 80 = .ok (.getfield 7, 3) := by decide +kernel
theorem dX7_overlap_83 : decode cX7_overlap 83 = .ok (.iconst 4, 1) := by decide +kernel
theorem dX7_overlap_84 : decode cX7_overlap 84 = .ok (.iload_n 2, 1) := by decide +kernel
theorem dX7_overlap_85 : decode cX7_overlap 85 = .ok (.imul, 1) := by decide +kernel
theorem dX7_overlap_86 : decode cX7_overlap 86 = .ok (.iload 4, 2) := by decide +kernel
theorem dX7_overlap_88 : decode cX7_overlap 88 = .ok (.iadd, 1) := by decide +kernel
theorem dX7_overlap_89 : decode cX7_overlap 89 = .ok (.iaload, 1) := by decide +kernel
theorem dX7_overlap_90 : decode cX7_overlap 90 = .ok (.aload_n 0, 1) := by decide +kernel
theorem dX7_overlap_91 : decode cX7_overlap 91 = .ok (.getfield 13, 3) := by decide +kernel
theorem dX7_overlap_94 : decode cX7_overlap 94 = .ok (.iconst 4, 1) := by decide +kernel
theorem dX7_overlap_95 : decode cX7_overlap 95 = .ok (.iload_n 2, 1) := by decide +kernel
theorem dX7_overlap_96 : decode cX7_overlap 96 = .ok (.imul, 1) := by decide +kernel
theorem dX7_overlap_97 : decode cX7_overlap 97 = .ok (.iload 4, 2) := by decide +kernel
theorem dX7_overlap_99 : decode cX7_overlap 99 = .ok (.iadd, 1) := by decide +kernel
theorem dX7_overlap_100 : decode cX7_overlap 100 = .ok (.iaload, 1) := by decide +kernel
theorem dX7_overlap_101 : decode cX7_overlap 101 = .ok (.invokestatic 100, 3) := by decide +kernel
theorem dX7_overlap_104 : decode cX7_overlap 104 = .ok (.ifCond .eq 7, 3) := by decide +kernel
theorem dX7_overlap_107 : decode cX7_overlap 107 = .ok (.iconst 1, 1) := by decide +kernel
theorem dX7_overlap_108 : decode cX7_overlap 108 = .ok (.goto 4, 3) := by decide +kernel
theorem dX7_overlap_111 : decode cX7_overlap 111 = .ok (.iconst 0, 1) := by decide +kernel
theorem dX7_overlap_112 : decode cX7_overlap 112 = .ok (.iadd, 1) := by decide +kernel
theorem dX7_overlap_113 : decode cX7_overlap 113 = .ok (.istore 5, 2) := by decide +kernel
theorem dX7_overlap_115 : decode cX7_overlap 115 = .ok (.iinc 6 1, 3) := by decide +kernel
theorem dX7_overlap_118 : decode cX7_overlap 118 = .ok (.goto (-83), 3) := by decide +kernel
theorem dX7_overlap_121 : decode cX7_overlap 121 = .ok (.iload_n 3, 1) := by decide +kernel
theorem dX7_overlap_122 : decode cX7_overlap 122 = .ok (.iload 5, 2) := by decide +kernel
theorem dX7_overlap_124 : decode cX7_overlap 124 = .ok (.imul, 1) := by decide +kernel
theorem dX7_overlap_125 : decode cX7_overlap 125 = .ok (.istore_n 3, 1) := by decide +kernel
theorem dX7_overlap_126 : decode cX7_overlap 126 = .ok (.iinc 4 1, 3) := by decide +kernel
theorem dX7_overlap_129 : decode cX7_overlap 129 = .ok (.goto (-106), 3) := by decide +kernel
theorem dX7_overlap_132 : decode cX7_overlap 132 = .ok (.iload_n 3, 1) := by decide +kernel
theorem dX7_overlap_133 : decode cX7_overlap 133 = .ok (.ireturn, 1) := by decide +kernel
theorem dX7_isWithin_0 : decode cX7_isWithin 0 = .ok (.iconst 1, 1) := by decide +kernel
theorem dX7_isWithin_1 : decode cX7_isWithin 1 = .ok (.istore_n 3, 1) := by decide +kernel
theorem dX7_isWithin_2 : decode cX7_isWithin 2 = .ok (.iconst 0, 1) := by decide +kernel
theorem dX7_isWithin_3 : decode cX7_isWithin 3 = .ok (.istore 4, 2) := by decide +kernel
theorem dX7_isWithin_5 : decode cX7_isWithin 5 = .ok (.iload 4, 2) := by decide +kernel
theorem dX7_isWithin_7 : decode cX7_isWithin 7 = .ok (.iconst 4, 1) := by decide +kernel
theorem dX7_isWithin_8 : decode cX7_isWithin 8 = .ok (.if_icmp .ge 69, 3) := by decide +kernel
theorem dX7_isWithin_11 : decode cX7_isWithin 11 = .ok (.iload_n 3, 1) := by decide +kernel
theorem dX7_isWithin_12 : decode cX7_isWithin 12 = .ok (.ifCond .eq 57, 3) := by decide +kernel
theorem dX7_isWithin_15 : decode cX7_isWithin 15 = .ok (.aload_n 0, 1) := by decide +kernel
theorem dX7_isWithin_16 : decode cX7_isWithin 16 = .ok (.getfield 7, 3) := by decide +kernel
theorem dX7_isWithin_19 : decode cX7_isWithin 19 = .ok (.iconst 4, 1) := by decide +kernel
theorem dX7_isWithin_20 : decode cX7_isWithin 20 = .ok (.iload_n 2, 1) := by decide +kernel
theorem dX7_isWithin_21 : decode cX7_isWithin 21 = .ok (.imul, 1) := by decide +kernel
theorem dX7_isWithin_22 : decode cX7_isWithin 22 = .ok (.iload 4, 2) := by decide +kernel
theorem dX7_isWithin_24 : decode cX7_isWithin 24 = .ok (.iadd, 1) := by decide +kernel
theorem dX7_isWithin_25 : decode cX7_isWithin 25 = .ok (.iaload, 1) := by decide +kernel
theorem dX7_isWithin_26 : decode cX7_isWithin 26 = .ok (.aload_n 0, 1) := by decide +kernel
theorem dX7_isWithin_27 : decode cX7_isWithin 27 = .ok (.getfield 7, 3) := by decide +kernel
theorem dX7_isWithin_30 : decode cX7_isWithin 30 = .ok (.iconst 4, 1) := by decide +kernel
theorem dX7_isWithin_31 : decode cX7_isWithin 31 = .ok (.iload_n 1, 1) := by decide +kernel
theorem dX7_isWithin_32 : decode cX7_isWithin 32 = .ok (.imul, 1) := by decide +kernel
theorem dX7_isWithin_33 : decode cX7_isWithin 33 = .ok (.iload 4, 2) := by decide +kernel
theorem dX7_isWithin_35 : decode cX7_isWithin 35 = .ok (.iadd, 1) := by decide +kernel
theorem dX7_isWithin_36 : decode cX7_isWithin 36 = .ok (.iaload, 1) := by decide +kernel
theorem dX7_isWithin_37 : decode cX7_isWithin 37 = .ok (.if_icmp .gt 32, 3) := by decide +kernel
theorem dX7_isWithin_40 : decode cX7_isWithin 40 = .ok (.aload_n 0, 1) := by decide +kernel
theorem dX7_isWithin_41 : decode cX7_isWithin 41 = .ok (.getfield 13, 3) := by decide +kernel
theorem dX7_isWithin_44 : decode cX7_isWithin 44 = .ok (.iconst 4, 1) := by decide +kernel
theorem dX7_isWithin_45 : decode cX7_isWithin 45 = .ok (.iload_n 2, 1) := by decide +kernel
theorem dX7_isWithin_46 : decode cX7_isWithin 46 = .ok (.imul, 1) := by decide +kernel
theorem dX7_isWithin_47 : decode cX7_isWithin 47 = .ok (.iload 4, 2) := by decide +kernel
theorem dX7_isWithin_49 : decode cX7_isWithin 49 = .ok (.iadd, 1) := by decide +kernel
theorem dX7_isWithin_50 : decode cX7_isWithin 50 = .ok (.iaload, 1) := by decide +kernel
theorem dX7_isWithin_51 : decode cX7_isWithin 51 = .ok (.aload_n 0, 1) := by decide +kernel
theorem dX7_isWithin_52 : decode cX7_isWithin 52 = .ok (.getfield 13, 3) := by decide +kernel
theorem dX7_isWithin_55 : decode cX7_isWithin 55 = .ok (.iconst 4, 1) := by decide +kernel
theorem dX7_isWithin_56 : decode cX7_isWithin 56 = .ok (.iload_n 1, 1) := by decide +kernel
theorem dX7_isWithin_57 : decode cX7_isWithin 57 = .ok (.imul, 1) := by decide +kernel
theorem dX7_isWithin_58 : decode cX7_isWithin 58 = .ok (.iload 4, 2) := by decide +kernel
theorem dX7_isWithin_60 : decode cX7_isWithin 60 = .ok (.iadd, 1) := by decide +kernel
theorem dX7_isWithin_61 : decode cX7_isWithin 61 = .ok (.iaload, 1) := by decide +kernel
theorem dX7_isWithin_62 : decode cX7_isWithin 62 = .ok (.if_icmp .lt 7, 3) := by decide +kernel
theorem dX7_isWithin_65 : decode cX7_isWithin 65 = .ok (.iconst 1, 1) := by decide +kernel
theorem dX7_isWithin_66 : decode cX7_isWithin 66 = .ok (.goto 4, 3) := by decide +kernel
theorem dX7_isWithin_69 : decode cX7_isWithin 69 = .ok (.iconst 0, 1) := by decide +kernel
theorem dX7_isWithin_70 : decode cX7_isWithin 70 = .ok (.istore_n 3, 1) := by decide +kernel
theorem dX7_isWithin_71 : decode cX7_isWithin 71 = .ok (.iinc 4 1, 3) := by decide +kernel
theorem dX7_isWithin_74 : decode cX7_isWithin 74 = .ok (.goto (-69), 3) := by decide +kernel
theorem dX7_isWithin_77 : decode cX7_isWithin 77 = .ok (.iload_n 3, 1) := by decide +kernel
theorem dX7_isWithin_78 : decode cX7_isWithin 78 = .ok (.ireturn, 1) := by decide +kernel
theorem dX7_coverOf_0 : decode cX7_coverOf 0 = .ok (.bipush (-6), 2) := by decide +kernel
theorem dX7_coverOf_2 : decode cX7_coverOf 2 = .ok (.istore_n 2, 1) := by decide +kernel
theorem dX7_coverOf_3 : decode cX7_coverOf 3 = .ok (.iconst 0, 1) := by decide +kernel
theorem dX7_coverOf_4 : decode cX7_coverOf 4 = .ok (.istore_n 3, 1) := by decide +kernel
theorem dX7_coverOf_5 : decode cX7_coverOf 5 = .ok (.iload_n 3, 1) := by decide +kernel
theorem dX7_coverOf_6 : decode cX7_coverOf 6 = .ok (.aload_n 0, 1) := by decide +kernel
theorem dX7_coverOf_7 : decode cX7_coverOf 7 = .ok (.getfield 104, 3) := by decide +kernel
theorem dX7_coverOf_10 : decode cX7_coverOf 10 = .ok (.if_icmp .ge 42, 3) := by decide +kernel
theorem dX7_coverOf_13 : decode cX7_coverOf 13 = .ok (.aload_n 0, 1) := by decide +kernel
theorem dX7_coverOf_14 : decode cX7_coverOf 14 = .ok (.iload_n 3, 1) := by decide +kernel
theorem dX7_coverOf_15 : decode cX7_coverOf 15 = .ok (.iload_n 1, 1) := by decide +kernel
theorem dX7_coverOf_16 : decode cX7_coverOf 16 = .ok (.invokevirtual 137, 3) := by decide +kernel
theorem dX7_coverOf_19 : decode cX7_coverOf 19 = .ok (.ifCond .eq 27, 3) := by decide +kernel
theorem dX7_coverOf_22 : decode cX7_coverOf 22 = .ok (.aload_n 0, 1) := by decide +kernel
theorem dX7_coverOf_23 : decode cX7_coverOf 23 = .ok (.iload_n 1, 1) := by decide +kernel
theorem dX7_coverOf_24 : decode cX7_coverOf 24 = .ok (.iload_n 3, 1) := by decide +kernel
theorem dX7_coverOf_25 : decode cX7_coverOf 25 = .ok (.invokevirtual 171, 3) := by decide +kernel
theorem dX7_coverOf_28 : decode cX7_coverOf 28 = .ok (.ifCond .eq 18, 3) := by decide +kernel
theorem dX7_coverOf_31 : decode cX7_coverOf 31 = .ok (.iload_n 2, 1) := by decide +kernel
theorem dX7_coverOf_32 : decode cX7_coverOf 32 = .ok (.ifCond .lt 12, 3) := by decide +kernel
theorem dX7_coverOf_35 : decode cX7_coverOf 35 = .ok (.aload_n 0, 1) := by decide +kernel
theorem dX7_coverOf_36 : decode cX7_coverOf 36 = .ok (.iload_n 3, 1) := by decide +kernel
theorem dX7_coverOf_37 : decode cX7_coverOf 37 = .ok (.iload_n 2, 1) := by decide +kernel
theorem dX7_coverOf_38 : decode cX7_coverOf 38 = .ok (.invokevirtual 137, 3) := by decide +kernel
theorem dX7_coverOf_41 : decode cX7_coverOf 41 = .ok (.ifCond .eq 5, 3) := by decide +kernel
theorem dX7_coverOf_44 : decode cX7_coverOf 44 = .ok (.iload_n 3, 1) := by decide +kernel
theorem dX7_coverOf_45 : decode cX7_coverOf 45 = .ok (.istore_n 2, 1) := by decide +kernel
theorem dX7_coverOf_46 : decode cX7_coverOf 46 = .ok (.iinc 3 1, 3) := by decide +kernel
theorem dX7_coverOf_49 : decode cX7_coverOf 49 = .ok (.goto (-44), 3) := by decide +kernel
theorem dX7_coverOf_52 : decode cX7_coverOf 52 = .ok (.iload_n 2, 1) := by decide +kernel
theorem dX7_coverOf_53 : decode cX7_coverOf 53 = .ok (.ireturn, 1) := by decide +kernel
theorem dX7_covered_0 : decode cX7_covered 0 = .ok (.aload_n 0, 1) := by decide +kernel
theorem dX7_covered_1 : decode cX7_covered 1 = .ok (.iload_n 1, 1) := by decide +kernel
theorem dX7_covered_2 : decode cX7_covered 2 = .ok (.invokevirtual 134, 3) := by decide +kernel
theorem dX7_covered_5 : decode cX7_covered 5 = .ok (.ifCond .eq 11, 3) := by decide +kernel
theorem dX7_covered_8 : decode cX7_covered 8 = .ok (.aload_n 0, 1) := by decide +kernel
theorem dX7_covered_9 : decode cX7_covered 9 = .ok (.iload_n 1, 1) := by decide +kernel
theorem dX7_covered_10 : decode cX7_covered 10 = .ok (.invokevirtual 174, 3) := by decide +kernel
theorem dX7_covered_13 : decode cX7_covered 13 = .ok (.goto 4, 3) := by decide +kernel
theorem dX7_covered_16 : decode cX7_covered 16 = .ok (.iconst (-1), 1) := by decide +kernel
theorem dX7_covered_17 : decode cX7_covered 17 = .ok (.ireturn, 1) := by decide +kernel
theorem dX7_idle_0 : decode cX7_idle 0 = .ok (.aload_n 0, 1) := by decide +kernel
theorem dX7_idle_1 : decode cX7_idle 1 = .ok (.iload_n 1, 1) := by decide +kernel
theorem dX7_idle_2 : decode cX7_idle 2 = .ok (.invokevirtual 134, 3) := by decide +kernel
theorem dX7_idle_5 : decode cX7_idle 5 = .ok (.ifCond .ne 5, 3) := by decide +kernel
theorem dX7_idle_8 : decode cX7_idle 8 = .ok (.iconst (-1), 1) := by decide +kernel
theorem dX7_idle_9 : decode cX7_idle 9 = .ok (.ireturn, 1) := by decide +kernel
theorem dX7_idle_10 : decode cX7_idle 10 = .ok (.aload_n 0, 1) := by decide +kernel
theorem dX7_idle_11 : decode cX7_idle 11 = .ok (.invokevirtual 168, 3) := by decide +kernel
theorem dX7_idle_14 : decode cX7_idle 14 = .ok (.aload_n 0, 1) := by decide +kernel
theorem dX7_idle_15 : decode cX7_idle 15 = .ok (.getfield 47, 3) := by decide +kernel
theorem dX7_idle_18 : decode cX7_idle 18 = .ok (.iload_n 1, 1) := by decide +kernel
theorem dX7_idle_19 : decode cX7_idle 19 = .ok (.baload, 1) := by decide +kernel
theorem dX7_idle_20 : decode cX7_idle 20 = .ok (.ifCond .eq 7, 3) := by decide +kernel
theorem dX7_idle_23 : decode cX7_idle 23 = .ok (.iconst 0, 1) := by decide +kernel
theorem dX7_idle_24 : decode cX7_idle 24 = .ok (.goto 4, 3) := by decide +kernel
theorem dX7_idle_27 : decode cX7_idle 27 = .ok (.iconst 1, 1) := by decide +kernel
theorem dX7_idle_28 : decode cX7_idle 28 = .ok (.ireturn, 1) := by decide +kernel
theorem dX7_packets_0 : decode cX7_packets 0 = .ok (.iload_n 1, 1) := by decide +kernel
theorem dX7_packets_1 : decode cX7_packets 1 = .ok (.iconst (-1), 1) := by decide +kernel
theorem dX7_packets_2 : decode cX7_packets 2 = .ok (.bipush 9, 2) := by decide +kernel
theorem dX7_packets_4 : decode cX7_packets 4 = .ok (.invokestatic 100, 3) := by decide +kernel
theorem dX7_packets_7 : decode cX7_packets 7 = .ok (.ifCond .ne 6, 3) := by decide +kernel
theorem dX7_packets_10 : decode cX7_packets 10 = .ok (.bipush (-2), 2) := by decide +kernel
theorem dX7_packets_12 : decode cX7_packets 12 = .ok (.ireturn, 1) := by decide +kernel
theorem dX7_packets_13 : decode cX7_packets 13 = .ok (.aload_n 0, 1) := by decide +kernel
theorem dX7_packets_14 : decode cX7_packets 14 = .ok (.invokevirtual 168, 3) := by decide +kernel
theorem dX7_packets_17 : decode cX7_packets 17 = .ok (.aload_n 0, 1) := by decide +kernel
theorem dX7_packets_18 : decode cX7_packets 18 = .ok (.getfield 51, 3) := by decide +kernel
theorem dX7_packets_21 : decode cX7_packets 21 = .ok (.iload_n 1, 1) := by decide +kernel
theorem dX7_packets_22 : decode cX7_packets 22 = .ok (.ifCond .ge 8, 3) := by decide +kernel
theorem dX7_packets_25 : decode cX7_packets 25 = .ok (.bipush 10, 2) := by decide +kernel
theorem dX7_packets_27 : decode cX7_packets 27 = .ok (.goto 4, 3) := by decide +kernel
theorem dX7_packets_30 : decode cX7_packets 30 = .ok (.iload_n 1, 1) := by decide +kernel
theorem dX7_packets_31 : decode cX7_packets 31 = .ok (.iaload, 1) := by decide +kernel
theorem dX7_packets_32 : decode cX7_packets 32 = .ok (.ireturn, 1) := by decide +kernel
theorem dX7_lengthAt_0 : decode cX7_lengthAt 0 = .ok (.iconst 1, 1) := by decide +kernel
theorem dX7_lengthAt_1 : decode cX7_lengthAt 1 = .ok (.istore_n 3, 1) := by decide +kernel
theorem dX7_lengthAt_2 : decode cX7_lengthAt 2 = .ok (.iload_n 0, 1) := by decide +kernel
theorem dX7_lengthAt_3 : decode cX7_lengthAt 3 = .ok (.invokestatic 96, 3) := by decide +kernel
theorem dX7_lengthAt_6 : decode cX7_lengthAt 6 = .ok (.istore 4, 2) := by decide +kernel
theorem dX7_lengthAt_8 : decode cX7_lengthAt 8 = .ok (.iload 4, 2) := by decide +kernel
theorem dX7_lengthAt_10 : decode cX7_lengthAt 10 = .ok (.ifCond .le 32, 3) := by decide +kernel
theorem dX7_lengthAt_13 : decode cX7_lengthAt 13 = .ok (.iload_n 1, 1) := by decide +kernel
theorem dX7_lengthAt_14 : decode cX7_lengthAt 14 = .ok (.iconst 2, 1) := by decide +kernel
theorem dX7_lengthAt_15 : decode cX7_lengthAt 15 = .ok (.iload_n 3, 1) := by decide +kernel
theorem dX7_lengthAt_16 : decode cX7_lengthAt 16 = .ok (.imul, 1) := by decide +kernel
theorem dX7_lengthAt_17 : decode cX7_lengthAt 17 = .ok (.irem, 1) := by decide +kernel
theorem dX7_lengthAt_18 : decode cX7_lengthAt 18 = .ok (.ifCond .ne 24, 3) := by decide +kernel
theorem dX7_lengthAt_21 : decode cX7_lengthAt 21 = .ok (.iload_n 1, 1) := by decide +kernel
theorem dX7_lengthAt_22 : decode cX7_lengthAt 22 = .ok (.iconst 2, 1) := by decide +kernel
theorem dX7_lengthAt_23 : decode cX7_lengthAt 23 = .ok (.iload_n 3, 1) := by decide +kernel
theorem dX7_lengthAt_24 : decode cX7_lengthAt 24 = .ok (.imul, 1) := by decide +kernel
theorem dX7_lengthAt_25 : decode cX7_lengthAt 25 = .ok (.iadd, 1) := by decide +kernel
theorem dX7_lengthAt_26 : decode cX7_lengthAt 26 = .ok (.iconst 1, 1) := by decide +kernel
theorem dX7_lengthAt_27 : decode cX7_lengthAt 27 = .ok (.isub, 1) := by decide +kernel
theorem dX7_lengthAt_28 : decode cX7_lengthAt 28 = .ok (.iload_n 2, 1) := by decide +kernel
theorem dX7_lengthAt_29 : decode cX7_lengthAt 29 = .ok (.if_icmp .gt 13, 3) := by decide +kernel
theorem dX7_lengthAt_32 : decode cX7_lengthAt 32 = .ok (.iload_n 3, 1) := by decide +kernel
theorem dX7_lengthAt_33 : decode cX7_lengthAt 33 = .ok (.iconst 2, 1) := by decide +kernel
theorem dX7_lengthAt_34 : decode cX7_lengthAt 34 = .ok (.imul, 1) := by decide +kernel
theorem dX7_lengthAt_35 : decode cX7_lengthAt 35 = .ok (.istore_n 3, 1) := by decide +kernel
theorem dX7_lengthAt_36 : decode cX7_lengthAt 36 = .ok (.iinc 4 (-1), 3) := by decide +kernel
theorem dX7_lengthAt_39 : decode cX7_lengthAt 39 = .ok (.goto (-31), 3) := by decide +kernel
theorem dX7_lengthAt_42 : decode cX7_lengthAt 42 = .ok (.iload 4, 2) := by decide +kernel
theorem dX7_lengthAt_44 : decode cX7_lengthAt 44 = .ok (.ireturn, 1) := by decide +kernel
theorem dX7_valueOf_0 : decode cX7_valueOf 0 = .ok (.aload_n 0, 1) := by decide +kernel
theorem dX7_valueOf_1 : decode cX7_valueOf 1 = .ok (.getfield 7, 3) := by decide +kernel
theorem dX7_valueOf_4 : decode cX7_valueOf 4 = .ok (.iconst 4, 1) := by decide +kernel
theorem dX7_valueOf_5 : decode cX7_valueOf 5 = .ok (.iload_n 1, 1) := by decide +kernel
theorem dX7_valueOf_6 : decode cX7_valueOf 6 = .ok (.imul, 1) := by decide +kernel
theorem dX7_valueOf_7 : decode cX7_valueOf 7 = .ok (.iload_n 2, 1) := by decide +kernel
theorem dX7_valueOf_8 : decode cX7_valueOf 8 = .ok (.iadd, 1) := by decide +kernel
theorem dX7_valueOf_9 : decode cX7_valueOf 9 = .ok (.iaload, 1) := by decide +kernel
theorem dX7_valueOf_10 : decode cX7_valueOf 10 = .ok (.istore 4, 2) := by decide +kernel
theorem dX7_valueOf_12 : decode cX7_valueOf 12 = .ok (.aload_n 0, 1) := by decide +kernel
theorem dX7_valueOf_13 : decode cX7_valueOf 13 = .ok (.getfield 13, 3) := by decide +kernel
theorem dX7_valueOf_16 : decode cX7_valueOf 16 = .ok (.iconst 4, 1) := by decide +kernel
theorem dX7_valueOf_17 : decode cX7_valueOf 17 = .ok (.iload_n 1, 1) := by decide +kernel
theorem dX7_valueOf_18 : decode cX7_valueOf 18 = .ok (.imul, 1) := by decide +kernel
theorem dX7_valueOf_19 : decode cX7_valueOf 19 = .ok (.iload_n 2, 1) := by decide +kernel
theorem dX7_valueOf_20 : decode cX7_valueOf 20 = .ok (.iadd, 1) := by decide +kernel
theorem dX7_valueOf_21 : decode cX7_valueOf 21 = .ok (.iaload, 1) := by decide +kernel
theorem dX7_valueOf_22 : decode cX7_valueOf 22 = .ok (.istore 5, 2) := by decide +kernel
theorem dX7_valueOf_24 : decode cX7_valueOf 24 = .ok (.iconst 0, 1) := by decide +kernel
theorem dX7_valueOf_25 : decode cX7_valueOf 25 = .ok (.istore 6, 2) := by decide +kernel
theorem dX7_valueOf_27 : decode cX7_valueOf 27 = .ok (.iload 6, 2) := by decide +kernel
theorem dX7_valueOf_29 : decode cX7_valueOf 29 = .ok (.iload_n 3, 1) := by decide +kernel
theorem dX7_valueOf_30 : decode cX7_valueOf 30 = .ok (.if_icmp .ge 36, 3) := by decide +kernel
theorem dX7_valueOf_33 : decode cX7_valueOf 33 = .ok (.iload 4, 2) := by decide +kernel
theorem dX7_valueOf_35 : decode cX7_valueOf 35 = .ok (.iload 5, 2) := by decide +kernel
theorem dX7_valueOf_37 : decode cX7_valueOf 37 = .ok (.if_icmp .gt 29, 3) := by decide +kernel
theorem dX7_valueOf_40 : decode cX7_valueOf 40 = .ok (.iload 4, 2) := by decide +kernel
theorem dX7_valueOf_42 : decode cX7_valueOf 42 = .ok (.iconst 1, 1) := by decide +kernel
theorem dX7_valueOf_43 : decode cX7_valueOf 43 = .ok (.iload_n 2, 1) := by decide +kernel
theorem dX7_valueOf_44 : decode cX7_valueOf 44 = .ok (.invokestatic 96, 3) := by decide +kernel
theorem dX7_valueOf_47 : decode cX7_valueOf 47 = .ok (.iload_n 2, 1) := by decide +kernel
theorem dX7_valueOf_48 : decode cX7_valueOf 48 = .ok (.iload 4, 2) := by decide +kernel
theorem dX7_valueOf_50 : decode cX7_valueOf 50 = .ok (.iload 5, 2) := by decide +kernel
theorem dX7_valueOf_52 : decode cX7_valueOf 52 = .ok (.invokestatic 177, 3) := by decide +kernel
theorem dX7_valueOf_55 : decode cX7_valueOf 55 = .ok (.isub, 1) := by decide +kernel
theorem dX7_valueOf_56 : decode cX7_valueOf 56 = .ok (.ishl, 1) := by decide +kernel
theorem dX7_valueOf_57 : decode cX7_valueOf 57 = .ok (.iadd, 1) := by decide +kernel
theorem dX7_valueOf_58 : decode cX7_valueOf 58 = .ok (.istore 4, 2) := by decide +kernel
theorem dX7_valueOf_60 : decode cX7_valueOf 60 = .ok (.iinc 6 1, 3) := by decide +kernel
theorem dX7_valueOf_63 : decode cX7_valueOf 63 = .ok (.goto (-36), 3) := by decide +kernel
theorem dX7_valueOf_66 : decode cX7_valueOf 66 = .ok (.iload 4, 2) := by decide +kernel
theorem dX7_valueOf_68 : decode cX7_valueOf 68 = .ok (.iload 5, 2) := by decide +kernel
theorem dX7_valueOf_70 : decode cX7_valueOf 70 = .ok (.if_icmp .gt 8, 3) := by decide +kernel
theorem dX7_valueOf_73 : decode cX7_valueOf 73 = .ok (.iload 4, 2) := by decide +kernel
theorem dX7_valueOf_75 : decode cX7_valueOf 75 = .ok (.goto 5, 3) := by decide +kernel
theorem dX7_valueOf_78 : decode cX7_valueOf 78 = .ok (.bipush (-6), 2) := by decide +kernel
theorem dX7_valueOf_80 : decode cX7_valueOf 80 = .ok (.ireturn, 1) := by decide +kernel
theorem dX7_prefixes_0 : decode cX7_prefixes 0 = .ok (.iconst 0, 1) := by decide +kernel
theorem dX7_prefixes_1 : decode cX7_prefixes 1 = .ok (.istore_n 3, 1) := by decide +kernel
theorem dX7_prefixes_2 : decode cX7_prefixes 2 = .ok (.aload_n 0, 1) := by decide +kernel
theorem dX7_prefixes_3 : decode cX7_prefixes 3 = .ok (.iload_n 1, 1) := by decide +kernel
theorem dX7_prefixes_4 : decode cX7_prefixes 4 = .ok (.iload_n 2, 1) := by decide +kernel
theorem dX7_prefixes_5 : decode cX7_prefixes 5 = .ok (.iload_n 3, 1) := by decide +kernel
theorem dX7_prefixes_6 : decode cX7_prefixes 6 = .ok (.invokevirtual 180, 3) := by decide +kernel
theorem dX7_prefixes_9 : decode cX7_prefixes 9 = .ok (.ifCond .lt 9, 3) := by decide +kernel
theorem dX7_prefixes_12 : decode cX7_prefixes 12 = .ok (.iinc 3 1, 3) := by decide +kernel
theorem dX7_prefixes_15 : decode cX7_prefixes 15 = .ok (.goto (-13), 3) := by decide +kernel
theorem dX7_prefixes_18 : decode cX7_prefixes 18 = .ok (.iload_n 3, 1) := by decide +kernel
theorem dX7_prefixes_19 : decode cX7_prefixes 19 = .ok (.ireturn, 1) := by decide +kernel
theorem dX7_split_0 : decode cX7_split 0 = .ok (.aload_n 0, 1) := by decide +kernel
theorem dX7_split_1 : decode cX7_split 1 = .ok (.iload_n 1, 1) := by decide +kernel
theorem dX7_split_2 : decode cX7_split 2 = .ok (.invokevirtual 134, 3) := by decide +kernel
theorem dX7_split_5 : decode cX7_split 5 = .ok (.ifCond .eq 19, 3) := by decide +kernel
theorem dX7_split_8 : decode cX7_split 8 = .ok (.iload_n 2, 1) := by decide +kernel
theorem dX7_split_9 : decode cX7_split 9 = .ok (.invokestatic 127, 3) := by decide +kernel
theorem dX7_split_12 : decode cX7_split 12 = .ok (.ifCond .eq 12, 3) := by decide +kernel
theorem dX7_split_15 : decode cX7_split 15 = .ok (.aload_n 0, 1) := by decide +kernel
theorem dX7_split_16 : decode cX7_split 16 = .ok (.iload_n 1, 1) := by decide +kernel
theorem dX7_split_17 : decode cX7_split 17 = .ok (.iload_n 2, 1) := by decide +kernel
theorem dX7_split_18 : decode cX7_split 18 = .ok (.invokevirtual 183, 3) := by decide +kernel
theorem dX7_split_21 : decode cX7_split 21 = .ok (.goto 4, 3) := by decide +kernel
theorem dX7_split_24 : decode cX7_split 24 = .ok (.iconst (-1), 1) := by decide +kernel
theorem dX7_split_25 : decode cX7_split 25 = .ok (.ireturn, 1) := by decide +kernel
theorem dX7_prefix_0 : decode cX7_prefix 0 = .ok (.aload_n 0, 1) := by decide +kernel
theorem dX7_prefix_1 : decode cX7_prefix 1 = .ok (.iload_n 1, 1) := by decide +kernel
theorem dX7_prefix_2 : decode cX7_prefix 2 = .ok (.invokevirtual 134, 3) := by decide +kernel
theorem dX7_prefix_5 : decode cX7_prefix 5 = .ok (.ifCond .eq 10, 3) := by decide +kernel
theorem dX7_prefix_8 : decode cX7_prefix 8 = .ok (.iload_n 2, 1) := by decide +kernel
theorem dX7_prefix_9 : decode cX7_prefix 9 = .ok (.invokestatic 127, 3) := by decide +kernel
theorem dX7_prefix_12 : decode cX7_prefix 12 = .ok (.ifCond .ne 5, 3) := by decide +kernel
theorem dX7_prefix_15 : decode cX7_prefix 15 = .ok (.iconst (-1), 1) := by decide +kernel
theorem dX7_prefix_16 : decode cX7_prefix 16 = .ok (.ireturn, 1) := by decide +kernel
theorem dX7_prefix_17 : decode cX7_prefix 17 = .ok (.iload 4, 2) := by decide +kernel
theorem dX7_prefix_19 : decode cX7_prefix 19 = .ok (.iconst 0, 1) := by decide +kernel
theorem dX7_prefix_20 : decode cX7_prefix 20 = .ok (.iconst 1, 1) := by decide +kernel
theorem dX7_prefix_21 : decode cX7_prefix 21 = .ok (.invokestatic 100, 3) := by decide +kernel
theorem dX7_prefix_24 : decode cX7_prefix 24 = .ok (.ifCond .ne 6, 3) := by decide +kernel
theorem dX7_prefix_27 : decode cX7_prefix 27 = .ok (.bipush (-2), 2) := by decide +kernel
theorem dX7_prefix_29 : decode cX7_prefix 29 = .ok (.ireturn, 1) := by decide +kernel
theorem dX7_prefix_30 : decode cX7_prefix 30 = .ok (.iload_n 3, 1) := by decide +kernel
theorem dX7_prefix_31 : decode cX7_prefix 31 = .ok (.ifCond .ge 6, 3) := by decide +kernel
theorem dX7_prefix_34 : decode cX7_prefix 34 = .ok (.bipush (-6), 2) := by decide +kernel
theorem dX7_prefix_36 : decode cX7_prefix 36 = .ok (.ireturn, 1) := by decide +kernel
theorem dX7_prefix_37 : decode cX7_prefix 37 = .ok (.aload_n 0, 1) := by decide +kernel
theorem dX7_prefix_38 : decode cX7_prefix 38 = .ok (.iload_n 1, 1) := by decide +kernel
theorem dX7_prefix_39 : decode cX7_prefix 39 = .ok (.iload_n 2, 1) := by decide +kernel
theorem dX7_prefix_40 : decode cX7_prefix 40 = .ok (.iload_n 3, 1) := by decide +kernel
theorem dX7_prefix_41 : decode cX7_prefix 41 = .ok (.invokevirtual 180, 3) := by decide +kernel
theorem dX7_prefix_44 : decode cX7_prefix 44 = .ok (.istore 5, 2) := by decide +kernel
theorem dX7_prefix_46 : decode cX7_prefix 46 = .ok (.iload 5, 2) := by decide +kernel
theorem dX7_prefix_48 : decode cX7_prefix 48 = .ok (.ifCond .lt 8, 3) := by decide +kernel
theorem dX7_prefix_51 : decode cX7_prefix 51 = .ok (.iload 4, 2) := by decide +kernel
theorem dX7_prefix_53 : decode cX7_prefix 53 = .ok (.ifCond .ne 8, 3) := by decide +kernel
theorem dX7_prefix_56 : decode cX7_prefix 56 = .ok (.iload 5, 2) := by decide +kernel
theorem dX7_prefix_58 : decode cX7_prefix 58 = .ok (.goto 19, 3) := by decide +kernel
theorem dX7_prefix_61 : decode cX7_prefix 61 = .ok (.iload_n 2, 1) := by decide +kernel
theorem dX7_prefix_62 : decode cX7_prefix 62 = .ok (.iload 5, 2) := by decide +kernel
theorem dX7_prefix_64 : decode cX7_prefix 64 = .ok (.aload_n 0, 1) := by decide +kernel
theorem dX7_prefix_65 : decode cX7_prefix 65 = .ok (.getfield 13, 3) := by decide +kernel
theorem dX7_prefix_68 : decode cX7_prefix 68 = .ok (.iconst 4, 1) := by decide +kernel
theorem dX7_prefix_69 : decode cX7_prefix 69 = .ok (.iload_n 1, 1) := by decide +kernel
theorem dX7_prefix_70 : decode cX7_prefix 70 = .ok (.imul, 1) := by decide +kernel
theorem dX7_prefix_71 : decode cX7_prefix 71 = .ok (.iload_n 2, 1) := by decide +kernel
theorem dX7_prefix_72 : decode cX7_prefix 72 = .ok (.iadd, 1) := by decide +kernel
theorem dX7_prefix_73 : decode cX7_prefix 73 = .ok (.iaload, 1) := by decide +kernel
theorem dX7_prefix_74 : decode cX7_prefix 74 = .ok (.invokestatic 177, 3) := by decide +kernel
theorem dX7_prefix_77 : decode cX7_prefix 77 = .ok (.ireturn, 1) := by decide +kernel
theorem dX7_ofLength_0 : decode cX7_ofLength 0 = .ok (.iconst 0, 1) := by decide +kernel
theorem dX7_ofLength_1 : decode cX7_ofLength 1 = .ok (.istore 4, 2) := by decide +kernel
theorem dX7_ofLength_3 : decode cX7_ofLength 3 = .ok (.aload_n 0, 1) := by decide +kernel
theorem dX7_ofLength_4 : decode cX7_ofLength 4 = .ok (.getfield 7, 3) := by decide +kernel
theorem dX7_ofLength_7 : decode cX7_ofLength 7 = .ok (.iconst 4, 1) := by decide +kernel
theorem dX7_ofLength_8 : decode cX7_ofLength 8 = .ok (.iload_n 1, 1) := by decide +kernel
theorem dX7_ofLength_9 : decode cX7_ofLength 9 = .ok (.imul, 1) := by decide +kernel
theorem dX7_ofLength_10 : decode cX7_ofLength 10 = .ok (.iload_n 2, 1) := by decide +kernel
theorem dX7_ofLength_11 : decode cX7_ofLength 11 = .ok (.iadd, 1) := by decide +kernel
theorem dX7_ofLength_12 : decode cX7_ofLength 12 = .ok (.iaload, 1) := by decide +kernel
theorem dX7_ofLength_13 : decode cX7_ofLength 13 = .ok (.istore 5, 2) := by decide +kernel
theorem dX7_ofLength_15 : decode cX7_ofLength 15 = .ok (.aload_n 0, 1) := by decide +kernel
theorem dX7_ofLength_16 : decode cX7_ofLength 16 = .ok (.getfield 13, 3) := by decide +kernel
theorem dX7_ofLength_19 : decode cX7_ofLength 19 = .ok (.iconst 4, 1) := by decide +kernel
theorem dX7_ofLength_20 : decode cX7_ofLength 20 = .ok (.iload_n 1, 1) := by decide +kernel
theorem dX7_ofLength_21 : decode cX7_ofLength 21 = .ok (.imul, 1) := by decide +kernel
theorem dX7_ofLength_22 : decode cX7_ofLength 22 = .ok (.iload_n 2, 1) := by decide +kernel
theorem dX7_ofLength_23 : decode cX7_ofLength 23 = .ok (.iadd, 1) := by decide +kernel
theorem dX7_ofLength_24 : decode cX7_ofLength 24 = .ok (.iaload, 1) := by decide +kernel
theorem dX7_ofLength_25 : decode cX7_ofLength 25 = .ok (.istore 6, 2) := by decide +kernel
theorem dX7_ofLength_27 : decode cX7_ofLength 27 = .ok (.iload 5, 2) := by decide +kernel
theorem dX7_ofLength_29 : decode cX7_ofLength 29 = .ok (.iload 6, 2) := by decide +kernel
theorem dX7_ofLength_31 : decode cX7_ofLength 31 = .ok (.if_icmp .gt 46, 3) := by decide +kernel
theorem dX7_ofLength_34 : decode cX7_ofLength 34 = .ok (.iload_n 2, 1) := by decide +kernel
theorem dX7_ofLength_35 : decode cX7_ofLength 35 = .ok (.iload 5, 2) := by decide +kernel
theorem dX7_ofLength_37 : decode cX7_ofLength 37 = .ok (.iload 6, 2) := by decide +kernel
theorem dX7_ofLength_39 : decode cX7_ofLength 39 = .ok (.invokestatic 177, 3) := by decide +kernel
theorem dX7_ofLength_42 : decode cX7_ofLength 42 = .ok (.istore 7, 2) := by decide +kernel
theorem dX7_ofLength_44 : decode cX7_ofLength 44 = .ok (.iload 4, 2) := by decide +kernel
theorem dX7_ofLength_46 : decode cX7_ofLength 46 = .ok (.iload 7, 2) := by decide +kernel
theorem dX7_ofLength_48 : decode cX7_ofLength 48 = .ok (.iload_n 3, 1) := by decide +kernel
theorem dX7_ofLength_49 : decode cX7_ofLength 49 = .ok (.if_icmp .ne 7, 3) := by decide +kernel
theorem dX7_ofLength_52 : decode cX7_ofLength 52 = .ok (.iconst 1, 1) := by decide +kernel
theorem dX7_ofLength_53 : decode cX7_ofLength 53 = .ok (.goto 4, 3) := by decide +kernel
theorem dX7_ofLength_56 : decode cX7_ofLength 56 = .ok (.iconst 0, 1) := by decide +kernel
theorem dX7_ofLength_57 : decode cX7_ofLength 57 = .ok (.iadd, 1) := by decide +kernel
theorem dX7_ofLength_58 : decode cX7_ofLength 58 = .ok (.istore 4, 2) := by decide +kernel
theorem dX7_ofLength_60 : decode cX7_ofLength 60 = .ok (.iload 5, 2) := by decide +kernel
theorem dX7_ofLength_62 : decode cX7_ofLength 62 = .ok (.iconst 1, 1) := by decide +kernel
theorem dX7_ofLength_63 : decode cX7_ofLength 63 = .ok (.iload_n 2, 1) := by decide +kernel
theorem dX7_ofLength_64 : decode cX7_ofLength 64 = .ok (.invokestatic 96, 3) := by decide +kernel
theorem dX7_ofLength_67 : decode cX7_ofLength 67 = .ok (.iload 7, 2) := by decide +kernel
theorem dX7_ofLength_69 : decode cX7_ofLength 69 = .ok (.isub, 1) := by decide +kernel
theorem dX7_ofLength_70 : decode cX7_ofLength 70 = .ok (.ishl, 1) := by decide +kernel
theorem dX7_ofLength_71 : decode cX7_ofLength 71 = .ok (.iadd, 1) := by decide +kernel
theorem dX7_ofLength_72 : decode cX7_ofLength 72 = .ok (.istore 5, 2) := by decide +kernel
theorem dX7_ofLength_74 : decode cX7_ofLength 74 = .ok (.goto (-47), 3) := by decide +kernel
theorem dX7_ofLength_77 : decode cX7_ofLength 77 = .ok (.iload 4, 2) := by decide +kernel
theorem dX7_ofLength_79 : decode cX7_ofLength 79 = .ok (.ireturn, 1) := by decide +kernel
theorem dX7_lengthOf_0 : decode cX7_lengthOf 0 = .ok (.aload_n 0, 1) := by decide +kernel
theorem dX7_lengthOf_1 : decode cX7_lengthOf 1 = .ok (.getfield 7, 3) := by decide +kernel
theorem dX7_lengthOf_4 : decode cX7_lengthOf 4 = .ok (.iconst 4, 1) := by decide +kernel
theorem dX7_lengthOf_5 : decode cX7_lengthOf 5 = .ok (.iload_n 1, 1) := by decide +kernel
theorem dX7_lengthOf_6 : decode cX7_lengthOf 6 = .ok (.imul, 1) := by decide +kernel
theorem dX7_lengthOf_7 : decode cX7_lengthOf 7 = .ok (.iload_n 2, 1) := by decide +kernel
theorem dX7_lengthOf_8 : decode cX7_lengthOf 8 = .ok (.iadd, 1) := by decide +kernel
theorem dX7_lengthOf_9 : decode cX7_lengthOf 9 = .ok (.iaload, 1) := by decide +kernel
theorem dX7_lengthOf_10 : decode cX7_lengthOf 10 = .ok (.istore 4, 2) := by decide +kernel
theorem dX7_lengthOf_12 : decode cX7_lengthOf 12 = .ok (.aload_n 0, 1) := by decide +kernel
theorem dX7_lengthOf_13 : decode cX7_lengthOf 13 = .ok (.getfield 13, 3) := by decide +kernel
theorem dX7_lengthOf_16 : decode cX7_lengthOf 16 = .ok (.iconst 4, 1) := by decide +kernel
theorem dX7_lengthOf_17 : decode cX7_lengthOf 17 = .ok (.iload_n 1, 1) := by decide +kernel
theorem dX7_lengthOf_18 : decode cX7_lengthOf 18 = .ok (.imul, 1) := by decide +kernel
theorem dX7_lengthOf_19 : decode cX7_lengthOf 19 = .ok (.iload_n 2, 1) := by decide +kernel
theorem dX7_lengthOf_20 : decode cX7_lengthOf 20 = .ok (.iadd, 1) := by decide +kernel
theorem dX7_lengthOf_21 : decode cX7_lengthOf 21 = .ok (.iaload, 1) := by decide +kernel
theorem dX7_lengthOf_22 : decode cX7_lengthOf 22 = .ok (.istore 5, 2) := by decide +kernel
theorem dX7_lengthOf_24 : decode cX7_lengthOf 24 = .ok (.iload_n 2, 1) := by decide +kernel
theorem dX7_lengthOf_25 : decode cX7_lengthOf 25 = .ok (.iload 4, 2) := by decide +kernel
theorem dX7_lengthOf_27 : decode cX7_lengthOf 27 = .ok (.iload 5, 2) := by decide +kernel
theorem dX7_lengthOf_29 : decode cX7_lengthOf 29 = .ok (.invokestatic 177, 3) := by decide +kernel
theorem dX7_lengthOf_32 : decode cX7_lengthOf 32 = .ok (.istore 6, 2) := by decide +kernel
theorem dX7_lengthOf_34 : decode cX7_lengthOf 34 = .ok (.iload_n 3, 1) := by decide +kernel
theorem dX7_lengthOf_35 : decode cX7_lengthOf 35 = .ok (.iload 4, 2) := by decide +kernel
theorem dX7_lengthOf_37 : decode cX7_lengthOf 37 = .ok (.iconst 1, 1) := by decide +kernel
theorem dX7_lengthOf_38 : decode cX7_lengthOf 38 = .ok (.iload_n 2, 1) := by decide +kernel
theorem dX7_lengthOf_39 : decode cX7_lengthOf 39 = .ok (.invokestatic 96, 3) := by decide +kernel
theorem dX7_lengthOf_42 : decode cX7_lengthOf 42 = .ok (.iload 6, 2) := by decide +kernel
theorem dX7_lengthOf_44 : decode cX7_lengthOf 44 = .ok (.isub, 1) := by decide +kernel
theorem dX7_lengthOf_45 : decode cX7_lengthOf 45 = .ok (.ishl, 1) := by decide +kernel
theorem dX7_lengthOf_46 : decode cX7_lengthOf 46 = .ok (.iadd, 1) := by decide +kernel
theorem dX7_lengthOf_47 : decode cX7_lengthOf 47 = .ok (.if_icmp .lt 30, 3) := by decide +kernel
theorem dX7_lengthOf_50 : decode cX7_lengthOf 50 = .ok (.iload 4, 2) := by decide +kernel
theorem dX7_lengthOf_52 : decode cX7_lengthOf 52 = .ok (.iconst 1, 1) := by decide +kernel
theorem dX7_lengthOf_53 : decode cX7_lengthOf 53 = .ok (.iload_n 2, 1) := by decide +kernel
theorem dX7_lengthOf_54 : decode cX7_lengthOf 54 = .ok (.invokestatic 96, 3) := by decide +kernel
theorem dX7_lengthOf_57 : decode cX7_lengthOf 57 = .ok (.iload 6, 2) := by decide +kernel
theorem dX7_lengthOf_59 : decode cX7_lengthOf 59 = .ok (.isub, 1) := by decide +kernel
theorem dX7_lengthOf_60 : decode cX7_lengthOf 60 = .ok (.ishl, 1) := by decide +kernel
theorem dX7_lengthOf_61 : decode cX7_lengthOf 61 = .ok (.iadd, 1) := by decide +kernel
theorem dX7_lengthOf_62 : decode cX7_lengthOf 62 = .ok (.istore 4, 2) := by decide +kernel
theorem dX7_lengthOf_64 : decode cX7_lengthOf 64 = .ok (.iload_n 2, 1) := by decide +kernel
theorem dX7_lengthOf_65 : decode cX7_lengthOf 65 = .ok (.iload 4, 2) := by decide +kernel
theorem dX7_lengthOf_67 : decode cX7_lengthOf 67 = .ok (.iload 5, 2) := by decide +kernel
theorem dX7_lengthOf_69 : decode cX7_lengthOf 69 = .ok (.invokestatic 177, 3) := by decide +kernel
theorem dX7_lengthOf_72 : decode cX7_lengthOf 72 = .ok (.istore 6, 2) := by decide +kernel
theorem dX7_lengthOf_74 : decode cX7_lengthOf 74 = .ok (.goto (-40), 3) := by decide +kernel
theorem dX7_lengthOf_77 : decode cX7_lengthOf 77 = .ok (.iload 6, 2) := by decide +kernel
theorem dX7_lengthOf_79 : decode cX7_lengthOf 79 = .ok (.ireturn, 1) := by decide +kernel
theorem dX7_lengthIn_0 : decode cX7_lengthIn 0 = .ok (.iload_n 1, 1) := by decide +kernel
theorem dX7_lengthIn_1 : decode cX7_lengthIn 1 = .ok (.iconst 3, 1) := by decide +kernel
theorem dX7_lengthIn_2 : decode cX7_lengthIn 2 = .ok (.if_icmp .ne 11, 3) := by decide +kernel
theorem dX7_lengthIn_5 : decode cX7_lengthIn 5 = .ok (.iconst 2, 1) := by decide +kernel
theorem dX7_lengthIn_6 : decode cX7_lengthIn 6 = .ok (.iload_n 0, 1) := by decide +kernel
theorem dX7_lengthIn_7 : decode cX7_lengthIn 7 = .ok (.iconst 3, 1) := by decide +kernel
theorem dX7_lengthIn_8 : decode cX7_lengthIn 8 = .ok (.irem, 1) := by decide +kernel
theorem dX7_lengthIn_9 : decode cX7_lengthIn 9 = .ok (.isub, 1) := by decide +kernel
theorem dX7_lengthIn_10 : decode cX7_lengthIn 10 = .ok (.goto 40, 3) := by decide +kernel
theorem dX7_lengthIn_13 : decode cX7_lengthIn 13 = .ok (.bipush 6, 2) := by decide +kernel
theorem dX7_lengthIn_15 : decode cX7_lengthIn 15 = .ok (.iload_n 1, 1) := by decide +kernel
theorem dX7_lengthIn_16 : decode cX7_lengthIn 16 = .ok (.iconst 2, 1) := by decide +kernel
theorem dX7_lengthIn_17 : decode cX7_lengthIn 17 = .ok (.if_icmp .ne 12, 3) := by decide +kernel
theorem dX7_lengthIn_20 : decode cX7_lengthIn 20 = .ok (.iload_n 0, 1) := by decide +kernel
theorem dX7_lengthIn_21 : decode cX7_lengthIn 21 = .ok (.iconst 3, 1) := by decide +kernel
theorem dX7_lengthIn_22 : decode cX7_lengthIn 22 = .ok (.idiv, 1) := by decide +kernel
theorem dX7_lengthIn_23 : decode cX7_lengthIn 23 = .ok (.bipush 7, 2) := by decide +kernel
theorem dX7_lengthIn_25 : decode cX7_lengthIn 25 = .ok (.irem, 1) := by decide +kernel
theorem dX7_lengthIn_26 : decode cX7_lengthIn 26 = .ok (.goto 23, 3) := by decide +kernel
theorem dX7_lengthIn_29 : decode cX7_lengthIn 29 = .ok (.iload_n 1, 1) := by decide +kernel
theorem dX7_lengthIn_30 : decode cX7_lengthIn 30 = .ok (.iconst 1, 1) := by decide +kernel
theorem dX7_lengthIn_31 : decode cX7_lengthIn 31 = .ok (.if_icmp .ne 13, 3) := by decide +kernel
theorem dX7_lengthIn_34 : decode cX7_lengthIn 34 = .ok (.iload_n 0, 1) := by decide +kernel
theorem dX7_lengthIn_35 : decode cX7_lengthIn 35 = .ok (.bipush 21, 2) := by decide +kernel
theorem dX7_lengthIn_37 : decode cX7_lengthIn 37 = .ok (.idiv, 1) := by decide +kernel
theorem dX7_lengthIn_38 : decode cX7_lengthIn 38 = .ok (.bipush 7, 2) := by decide +kernel
theorem dX7_lengthIn_40 : decode cX7_lengthIn 40 = .ok (.irem, 1) := by decide +kernel
theorem dX7_lengthIn_41 : decode cX7_lengthIn 41 = .ok (.goto 8, 3) := by decide +kernel
theorem dX7_lengthIn_44 : decode cX7_lengthIn 44 = .ok (.iload_n 0, 1) := by decide +kernel
theorem dX7_lengthIn_45 : decode cX7_lengthIn 45 = .ok (.sipush 147, 3) := by decide +kernel
theorem dX7_lengthIn_48 : decode cX7_lengthIn 48 = .ok (.idiv, 1) := by decide +kernel
theorem dX7_lengthIn_49 : decode cX7_lengthIn 49 = .ok (.isub, 1) := by decide +kernel
theorem dX7_lengthIn_50 : decode cX7_lengthIn 50 = .ok (.ireturn, 1) := by decide +kernel
theorem dX7_entriesOf_0 : decode cX7_entriesOf 0 = .ok (.iconst 1, 1) := by decide +kernel
theorem dX7_entriesOf_1 : decode cX7_entriesOf 1 = .ok (.istore_n 3, 1) := by decide +kernel
theorem dX7_entriesOf_2 : decode cX7_entriesOf 2 = .ok (.iconst 0, 1) := by decide +kernel
theorem dX7_entriesOf_3 : decode cX7_entriesOf 3 = .ok (.istore 4, 2) := by decide +kernel
theorem dX7_entriesOf_5 : decode cX7_entriesOf 5 = .ok (.iload 4, 2) := by decide +kernel
theorem dX7_entriesOf_7 : decode cX7_entriesOf 7 = .ok (.iconst 4, 1) := by decide +kernel
theorem dX7_entriesOf_8 : decode cX7_entriesOf 8 = .ok (.if_icmp .ge 34, 3) := by decide +kernel
theorem dX7_entriesOf_11 : decode cX7_entriesOf 11 = .ok (.iload_n 3, 1) := by decide +kernel
theorem dX7_entriesOf_12 : decode cX7_entriesOf 12 = .ok (.aload_n 0, 1) := by decide +kernel
theorem dX7_entriesOf_13 : decode cX7_entriesOf 13 = .ok (.getfield 54, 3) := by decide +kernel
theorem dX7_entriesOf_16 : decode cX7_entriesOf 16 = .ok (.bipush 28, 2) := by decide +kernel
theorem dX7_entriesOf_18 : decode cX7_entriesOf 18 = .ok (.iload_n 1, 1) := by decide +kernel
theorem dX7_entriesOf_19 : decode cX7_entriesOf 19 = .ok (.imul, 1) := by decide +kernel
theorem dX7_entriesOf_20 : decode cX7_entriesOf 20 = .ok (.bipush 7, 2) := by decide +kernel
theorem dX7_entriesOf_22 : decode cX7_entriesOf 22 = .ok (.iload 4, 2) := by decide +kernel
theorem dX7_entriesOf_24 : decode cX7_entriesOf 24 = .ok (.imul, 1) := by decide +kernel
theorem dX7_entriesOf_25 : decode cX7_entriesOf 25 = .ok (.iadd, 1) := by decide +kernel
theorem dX7_entriesOf_26 : decode cX7_entriesOf 26 = .ok (.iload_n 2, 1) := by decide +kernel
theorem dX7_entriesOf_27 : decode cX7_entriesOf 27 = .ok (.iload 4, 2) := by decide +kernel
theorem dX7_entriesOf_29 : decode cX7_entriesOf 29 = .ok (.invokestatic 187, 3) := by decide +kernel
theorem dX7_entriesOf_32 : decode cX7_entriesOf 32 = .ok (.iadd, 1) := by decide +kernel
theorem dX7_entriesOf_33 : decode cX7_entriesOf 33 = .ok (.iaload, 1) := by decide +kernel
theorem dX7_entriesOf_34 : decode cX7_entriesOf 34 = .ok (.imul, 1) := by decide +kernel
theorem dX7_entriesOf_35 : decode cX7_entriesOf 35 = .ok (.istore_n 3, 1) := by decide +kernel
theorem dX7_entriesOf_36 : decode cX7_entriesOf 36 = .ok (.iinc 4 1, 3) := by decide +kernel
theorem dX7_entriesOf_39 : decode cX7_entriesOf 39 = .ok (.goto (-34), 3) := by decide +kernel
theorem dX7_entriesOf_42 : decode cX7_entriesOf 42 = .ok (.iload_n 3, 1) := by decide +kernel
theorem dX7_entriesOf_43 : decode cX7_entriesOf 43 = .ok (.ireturn, 1) := by decide +kernel
theorem dX7_membersOf_0 : decode cX7_membersOf 0 = .ok (.iconst 0, 1) := by decide +kernel
theorem dX7_membersOf_1 : decode cX7_membersOf 1 = .ok (.istore_n 2, 1) := by decide +kernel
theorem dX7_membersOf_2 : decode cX7_membersOf 2 = .ok (.iconst 0, 1) := by decide +kernel
theorem dX7_membersOf_3 : decode cX7_membersOf 3 = .ok (.istore_n 3, 1) := by decide +kernel
theorem dX7_membersOf_4 : decode cX7_membersOf 4 = .ok (.iload_n 3, 1) := by decide +kernel
theorem dX7_membersOf_5 : decode cX7_membersOf 5 = .ok (.aload_n 0, 1) := by decide +kernel
theorem dX7_membersOf_6 : decode cX7_membersOf 6 = .ok (.getfield 104, 3) := by decide +kernel
theorem dX7_membersOf_9 : decode cX7_membersOf 9 = .ok (.if_icmp .ge 33, 3) := by decide +kernel
theorem dX7_membersOf_12 : decode cX7_membersOf 12 = .ok (.iload_n 2, 1) := by decide +kernel
theorem dX7_membersOf_13 : decode cX7_membersOf 13 = .ok (.aload_n 0, 1) := by decide +kernel
theorem dX7_membersOf_14 : decode cX7_membersOf 14 = .ok (.aload_n 0, 1) := by decide +kernel
theorem dX7_membersOf_15 : decode cX7_membersOf 15 = .ok (.getfield 29, 3) := by decide +kernel
theorem dX7_membersOf_18 : decode cX7_membersOf 18 = .ok (.iload_n 3, 1) := by decide +kernel
theorem dX7_membersOf_19 : decode cX7_membersOf 19 = .ok (.iaload, 1) := by decide +kernel
theorem dX7_membersOf_20 : decode cX7_membersOf 20 = .ok (.iload_n 1, 1) := by decide +kernel
theorem dX7_membersOf_21 : decode cX7_membersOf 21 = .ok (.invokevirtual 190, 3) := by decide +kernel
theorem dX7_membersOf_24 : decode cX7_membersOf 24 = .ok (.ifCond .le 9, 3) := by decide +kernel
theorem dX7_membersOf_27 : decode cX7_membersOf 27 = .ok (.iconst 1, 1) := by decide +kernel
theorem dX7_membersOf_28 : decode cX7_membersOf 28 = .ok (.iload_n 3, 1) := by decide +kernel
theorem dX7_membersOf_29 : decode cX7_membersOf 29 = .ok (.ishl, 1) := by decide +kernel
theorem dX7_membersOf_30 : decode cX7_membersOf 30 = .ok (.goto 4, 3) := by decide +kernel
theorem dX7_membersOf_33 : decode cX7_membersOf 33 = .ok (.iconst 0, 1) := by decide +kernel
theorem dX7_membersOf_34 : decode cX7_membersOf 34 = .ok (.ior, 1) := by decide +kernel
theorem dX7_membersOf_35 : decode cX7_membersOf 35 = .ok (.istore_n 2, 1) := by decide +kernel
theorem dX7_membersOf_36 : decode cX7_membersOf 36 = .ok (.iinc 3 1, 3) := by decide +kernel
theorem dX7_membersOf_39 : decode cX7_membersOf 39 = .ok (.goto (-35), 3) := by decide +kernel
theorem dX7_membersOf_42 : decode cX7_membersOf 42 = .ok (.iload_n 2, 1) := by decide +kernel
theorem dX7_membersOf_43 : decode cX7_membersOf 43 = .ok (.ireturn, 1) := by decide +kernel
theorem dX7_listTuples_0 : decode cX7_listTuples 0 = .ok (.aload_n 0, 1) := by decide +kernel
theorem dX7_listTuples_1 : decode cX7_listTuples 1 = .ok (.invokevirtual 147, 3) := by decide +kernel
theorem dX7_listTuples_4 : decode cX7_listTuples 4 = .ok (.aload_n 0, 1) := by decide +kernel
theorem dX7_listTuples_5 : decode cX7_listTuples 5 = .ok (.getfield 118, 3) := by decide +kernel
theorem dX7_listTuples_8 : decode cX7_listTuples 8 = .ok (.ifCond .eq 4, 3) := by decide +kernel
theorem dX7_listTuples_11 : decode cX7_listTuples 11 = .ok (.return_, 1) := by decide +kernel
theorem dX7_listTuples_12 : decode cX7_listTuples 12 = .ok (.aload_n 0, 1) := by decide +kernel
theorem dX7_listTuples_13 : decode cX7_listTuples 13 = .ok (.iconst 1, 1) := by decide +kernel
theorem dX7_listTuples_14 : decode cX7_listTuples 14 = .ok (.putfield 118, 3) := by decide +kernel
theorem dX7_listTuples_17 : decode cX7_listTuples 17 = .ok (.iconst 0, 1) := by decide +kernel
theorem dX7_listTuples_18 : decode cX7_listTuples 18 = .ok (.istore_n 1, 1) := by decide +kernel
theorem dX7_listTuples_19 : decode cX7_listTuples 19 = .ok (.iload_n 1, 1) := by decide +kernel
theorem dX7_listTuples_20 : decode cX7_listTuples 20 = .ok (.bipush 28, 2) := by decide +kernel
theorem dX7_listTuples_22 : decode cX7_listTuples 22 = .ok (.aload_n 0, 1) := by decide +kernel
theorem dX7_listTuples_23 : decode cX7_listTuples 23 = .ok (.getfield 104, 3) := by decide +kernel
theorem dX7_listTuples_26 : decode cX7_listTuples 26 = .ok (.imul, 1) := by decide +kernel
theorem dX7_listTuples_27 : decode cX7_listTuples 27 = .ok (.if_icmp .ge 33, 3) := by decide +kernel
theorem dX7_listTuples_30 : decode cX7_listTuples 30 = .ok (.aload_n 0, 1) := by decide +kernel
theorem dX7_listTuples_31 : decode cX7_listTuples 31 = .ok (.getfield 54, 3) := by decide +kernel
theorem dX7_listTuples_34 : decode cX7_listTuples 34 = .ok (.iload_n 1, 1) := by decide +kernel
theorem dX7_listTuples_35 : decode cX7_listTuples 35 = .ok (.aload_n 0, 1) := by decide +kernel
theorem dX7_listTuples_36 : decode cX7_listTuples 36 = .ok (.iload_n 1, 1) := by decide +kernel
theorem dX7_listTuples_37 : decode cX7_listTuples 37 = .ok (.bipush 28, 2) := by decide +kernel
theorem dX7_listTuples_39 : decode cX7_listTuples 39 = .ok (.idiv, 1) := by decide +kernel
theorem dX7_listTuples_40 : decode cX7_listTuples 40 = .ok (.iload_n 1, 1) := by decide +kernel
theorem dX7_listTuples_41 : decode cX7_listTuples 41 = .ok (.bipush 7, 2) := by decide +kernel
theorem dX7_listTuples_43 : decode cX7_listTuples 43 = .ok (.idiv, 1) := by decide +kernel
theorem dX7_listTuples_44 : decode cX7_listTuples 44 = .ok (.iconst 4, 1) := by decide +kernel
theorem dX7_listTuples_45 : decode cX7_listTuples 45 = .ok (.irem, 1) := by decide +kernel
theorem dX7_listTuples_46 : decode cX7_listTuples 46 = .ok (.iload_n 1, 1) := by decide +kernel
theorem dX7_listTuples_47 : decode cX7_listTuples 47 = .ok (.bipush 7, 2) := by decide +kernel
theorem dX7_listTuples_49 : decode cX7_listTuples 49 = .ok (.irem, 1) := by decide +kernel
theorem dX7_listTuples_50 : decode cX7_listTuples 50 = .ok (.invokevirtual 193, 3) := by decide +kernel
theorem dX7_listTuples_53 : decode cX7_listTuples 53 = .ok (.iastore, 1) := by decide +kernel
theorem dX7_listTuples_54 : decode cX7_listTuples 54 = .ok (.iinc 1 1, 3) := by decide +kernel
theorem dX7_listTuples_57 : decode cX7_listTuples 57 = .ok (.goto (-38), 3) := by decide +kernel
theorem dX7_listTuples_60 : decode cX7_listTuples 60 = .ok (.iconst 0, 1) := by decide +kernel
theorem dX7_listTuples_61 : decode cX7_listTuples 61 = .ok (.istore_n 1, 1) := by decide +kernel
theorem dX7_listTuples_62 : decode cX7_listTuples 62 = .ok (.iload_n 1, 1) := by decide +kernel
theorem dX7_listTuples_63 : decode cX7_listTuples 63 = .ok (.sipush 1029, 3) := by decide +kernel
theorem dX7_listTuples_66 : decode cX7_listTuples 66 = .ok (.if_icmp .ge 20, 3) := by decide +kernel
theorem dX7_listTuples_69 : decode cX7_listTuples 69 = .ok (.aload_n 0, 1) := by decide +kernel
theorem dX7_listTuples_70 : decode cX7_listTuples 70 = .ok (.getfield 63, 3) := by decide +kernel
theorem dX7_listTuples_73 : decode cX7_listTuples 73 = .ok (.iload_n 1, 1) := by decide +kernel
theorem dX7_listTuples_74 : decode cX7_listTuples 74 = .ok (.aload_n 0, 1) := by decide +kernel
theorem dX7_listTuples_75 : decode cX7_listTuples 75 = .ok (.iload_n 1, 1) := by decide +kernel
theorem dX7_listTuples_76 : decode cX7_listTuples 76 = .ok (.invokevirtual 196, 3) := by decide +kernel
theorem dX7_listTuples_79 : decode cX7_listTuples 79 = .ok (.iastore, 1) := by decide +kernel
theorem dX7_listTuples_80 : decode cX7_listTuples 80 = .ok (.iinc 1 1, 3) := by decide +kernel
theorem dX7_listTuples_83 : decode cX7_listTuples 83 = .ok (.goto (-21), 3) := by decide +kernel
theorem dX7_listTuples_86 : decode cX7_listTuples 86 = .ok (.aload_n 0, 1) := by decide +kernel
theorem dX7_listTuples_87 : decode cX7_listTuples 87 = .ok (.iconst 0, 1) := by decide +kernel
theorem dX7_listTuples_88 : decode cX7_listTuples 88 = .ok (.putfield 199, 3) := by decide +kernel
theorem dX7_listTuples_91 : decode cX7_listTuples 91 = .ok (.iconst 0, 1) := by decide +kernel
theorem dX7_listTuples_92 : decode cX7_listTuples 92 = .ok (.istore_n 1, 1) := by decide +kernel
theorem dX7_listTuples_93 : decode cX7_listTuples 93 = .ok (.iload_n 1, 1) := by decide +kernel
theorem dX7_listTuples_94 : decode cX7_listTuples 94 = .ok (.aload_n 0, 1) := by decide +kernel
theorem dX7_listTuples_95 : decode cX7_listTuples 95 = .ok (.getfield 104, 3) := by decide +kernel
theorem dX7_listTuples_98 : decode cX7_listTuples 98 = .ok (.if_icmp .ge 76, 3) := by decide +kernel
theorem dX7_listTuples_101 : decode cX7_listTuples 101 = .ok (.iconst 0, 1) := by decide +kernel
theorem dX7_listTuples_102 : decode cX7_listTuples 102 = .ok (.istore_n 2, 1) := by decide +kernel
theorem dX7_listTuples_103 : decode cX7_listTuples 103 = .ok (.iload_n 2, 1) := by decide +kernel
theorem dX7_listTuples_104 : decode cX7_listTuples 104 = .ok (.sipush 1029, 3) := by decide +kernel
theorem dX7_listTuples_107 : decode cX7_listTuples 107 = .ok (.if_icmp .ge 61, 3) := by decide +kernel
theorem dX7_listTuples_110 : decode cX7_listTuples 110 = .ok (.aload_n 0, 1) := by decide +kernel
theorem dX7_listTuples_111 : decode cX7_listTuples 111 = .ok (.getfield 63, 3) := by decide +kernel
theorem dX7_listTuples_114 : decode cX7_listTuples 114 = .ok (.iload_n 2, 1) := by decide +kernel
theorem dX7_listTuples_115 : decode cX7_listTuples 115 = .ok (.iaload, 1) := by decide +kernel
theorem dX7_listTuples_116 : decode cX7_listTuples 116 = .ok (.ifCond .eq 46, 3) := by decide +kernel
theorem dX7_listTuples_119 : decode cX7_listTuples 119 = .ok (.aload_n 0, 1) := by decide +kernel
theorem dX7_listTuples_120 : decode cX7_listTuples 120 = .ok (.getfield 63, 3) := by decide +kernel
theorem dX7_listTuples_123 : decode cX7_listTuples 123 = .ok (.iload_n 2, 1) := by decide +kernel
theorem dX7_listTuples_124 : decode cX7_listTuples 124 = .ok (.iaload, 1) := by decide +kernel
theorem dX7_listTuples_125 : decode cX7_listTuples 125 = .ok (.invokestatic 158, 3) := by decide +kernel
theorem dX7_listTuples_128 : decode cX7_listTuples 128 = .ok (.iload_n 1, 1) := by decide +kernel
theorem dX7_listTuples_129 : decode cX7_listTuples 129 = .ok (.if_icmp .ne 33, 3) := by decide +kernel
theorem dX7_listTuples_132 : decode cX7_listTuples 132 = .ok (.aload_n 0, 1) := by decide +kernel
theorem dX7_listTuples_133 : decode cX7_listTuples 133 = .ok (.getfield 57, 3) := by decide +kernel
theorem dX7_listTuples_136 : decode cX7_listTuples 136 = .ok (.aload_n 0, 1) := by decide +kernel
theorem dX7_listTuples_137 : decode cX7_listTuples 137 = .ok (.getfield 199, 3) := by decide +kernel
theorem dX7_listTuples_140 : decode cX7_listTuples 140 = .ok (.iload_n 2, 1) := by decide +kernel
theorem dX7_listTuples_141 : decode cX7_listTuples 141 = .ok (.iastore, 1) := by decide +kernel
theorem dX7_listTuples_142 : decode cX7_listTuples 142 = .ok (.aload_n 0, 1) := by decide +kernel
theorem dX7_listTuples_143 : decode cX7_listTuples 143 = .ok (.getfield 60, 3) := by decide +kernel
theorem dX7_listTuples_146 : decode cX7_listTuples 146 = .ok (.aload_n 0, 1) := by decide +kernel
theorem dX7_listTuples_147 : decode cX7_listTuples 147 = .ok (.getfield 199, 3) := by decide +kernel
theorem dX7_listTuples_150 : decode cX7_listTuples 150 = .ok (.iload_n 1, 1) := by decide +kernel
theorem dX7_listTuples_151 : decode cX7_listTuples 151 = .ok (.iastore, 1) := by decide +kernel
theorem dX7_listTuples_152 : decode cX7_listTuples 152 = .ok (.aload_n 0, 1) := by decide +kernel
theorem dX7_listTuples_153 : decode cX7_listTuples 153 = .ok (.dup, 1) := by decide +kernel
theorem dX7_listTuples_154 : decode cX7_listTuples 154 = .ok (.getfield 199, 3) := by decide +kernel
end
section
theorem dX7_listTuples_157 : decode cX7_listTuples 157 = .ok (.iconst 1, 1) := by decide +kernel
theorem dX7_listTuples_158 : decode cX7_listTuples 158 = .ok (.iadd, 1) := by decide +kernel
theorem dX7_listTuples_159 : decode cX7_listTuples 159 = .ok (.putfield 199, 3) := by decide +kernel
theorem dX7_listTuples_162 : decode cX7_listTuples 162 = .ok (.iinc 2 1, 3) := by decide +kernel
theorem dX7_listTuples_165 : decode cX7_listTuples 165 = .ok (.goto (-62), 3) := by decide +kernel
theorem dX7_listTuples_168 : decode cX7_listTuples 168 = .ok (.iinc 1 1, 3) := by decide +kernel
theorem dX7_listTuples_171 : decode cX7_listTuples 171 = .ok (.goto (-78), 3) := by decide +kernel
theorem dX7_listTuples_174 : decode cX7_listTuples 174 = .ok (.return_, 1) := by decide +kernel
theorem dX7_entries_0 : decode cX7_entries 0 = .ok (.iconst 0, 1) := by decide +kernel
theorem dX7_entries_1 : decode cX7_entries 1 = .ok (.istore_n 2, 1) := by decide +kernel
theorem dX7_entries_2 : decode cX7_entries 2 = .ok (.iconst 0, 1) := by decide +kernel
theorem dX7_entries_3 : decode cX7_entries 3 = .ok (.istore_n 3, 1) := by decide +kernel
theorem dX7_entries_4 : decode cX7_entries 4 = .ok (.iload_n 3, 1) := by decide +kernel
theorem dX7_entries_5 : decode cX7_entries 5 = .ok (.aload_n 0, 1) := by decide +kernel
theorem dX7_entries_6 : decode cX7_entries 6 = .ok (.getfield 104, 3) := by decide +kernel
theorem dX7_entries_9 : decode cX7_entries 9 = .ok (.if_icmp .ge 18, 3) := by decide +kernel
theorem dX7_entries_12 : decode cX7_entries 12 = .ok (.iload_n 2, 1) := by decide +kernel
theorem dX7_entries_13 : decode cX7_entries 13 = .ok (.aload_n 0, 1) := by decide +kernel
theorem dX7_entries_14 : decode cX7_entries 14 = .ok (.iload_n 3, 1) := by decide +kernel
theorem dX7_entries_15 : decode cX7_entries 15 = .ok (.iload_n 1, 1) := by decide +kernel
theorem dX7_entries_16 : decode cX7_entries 16 = .ok (.invokevirtual 190, 3) := by decide +kernel
theorem dX7_entries_19 : decode cX7_entries 19 = .ok (.iadd, 1) := by decide +kernel
theorem dX7_entries_20 : decode cX7_entries 20 = .ok (.istore_n 2, 1) := by decide +kernel
theorem dX7_entries_21 : decode cX7_entries 21 = .ok (.iinc 3 1, 3) := by decide +kernel
theorem dX7_entries_24 : decode cX7_entries 24 = .ok (.goto (-20), 3) := by decide +kernel
theorem dX7_entries_27 : decode cX7_entries 27 = .ok (.iload_n 2, 1) := by decide +kernel
theorem dX7_entries_28 : decode cX7_entries 28 = .ok (.ireturn, 1) := by decide +kernel
theorem dX7_tuple_0 : decode cX7_tuple 0 = .ok (.iload_n 2, 1) := by decide +kernel
theorem dX7_tuple_1 : decode cX7_tuple 1 = .ok (.iconst 0, 1) := by decide +kernel
theorem dX7_tuple_2 : decode cX7_tuple 2 = .ok (.bipush 6, 2) := by decide +kernel
theorem dX7_tuple_4 : decode cX7_tuple 4 = .ok (.invokestatic 100, 3) := by decide +kernel
theorem dX7_tuple_7 : decode cX7_tuple 7 = .ok (.ifCond .ne 6, 3) := by decide +kernel
theorem dX7_tuple_10 : decode cX7_tuple 10 = .ok (.bipush (-2), 2) := by decide +kernel
theorem dX7_tuple_12 : decode cX7_tuple 12 = .ok (.ireturn, 1) := by decide +kernel
theorem dX7_tuple_13 : decode cX7_tuple 13 = .ok (.aload_n 0, 1) := by decide +kernel
theorem dX7_tuple_14 : decode cX7_tuple 14 = .ok (.invokevirtual 202, 3) := by decide +kernel
theorem dX7_tuple_17 : decode cX7_tuple 17 = .ok (.iload_n 1, 1) := by decide +kernel
theorem dX7_tuple_18 : decode cX7_tuple 18 = .ok (.iconst 0, 1) := by decide +kernel
theorem dX7_tuple_19 : decode cX7_tuple 19 = .ok (.aload_n 0, 1) := by decide +kernel
theorem dX7_tuple_20 : decode cX7_tuple 20 = .ok (.getfield 199, 3) := by decide +kernel
theorem dX7_tuple_23 : decode cX7_tuple 23 = .ok (.iconst 1, 1) := by decide +kernel
theorem dX7_tuple_24 : decode cX7_tuple 24 = .ok (.isub, 1) := by decide +kernel
theorem dX7_tuple_25 : decode cX7_tuple 25 = .ok (.invokestatic 100, 3) := by decide +kernel
theorem dX7_tuple_28 : decode cX7_tuple 28 = .ok (.ifCond .ne 6, 3) := by decide +kernel
theorem dX7_tuple_31 : decode cX7_tuple 31 = .ok (.bipush (-6), 2) := by decide +kernel
theorem dX7_tuple_33 : decode cX7_tuple 33 = .ok (.ireturn, 1) := by decide +kernel
theorem dX7_tuple_34 : decode cX7_tuple 34 = .ok (.iload_n 2, 1) := by decide +kernel
theorem dX7_tuple_35 : decode cX7_tuple 35 = .ok (.iconst 4, 1) := by decide +kernel
theorem dX7_tuple_36 : decode cX7_tuple 36 = .ok (.if_icmp .ge 14, 3) := by decide +kernel
theorem dX7_tuple_39 : decode cX7_tuple 39 = .ok (.aload_n 0, 1) := by decide +kernel
theorem dX7_tuple_40 : decode cX7_tuple 40 = .ok (.getfield 57, 3) := by decide +kernel
theorem dX7_tuple_43 : decode cX7_tuple 43 = .ok (.iload_n 1, 1) := by decide +kernel
theorem dX7_tuple_44 : decode cX7_tuple 44 = .ok (.iaload, 1) := by decide +kernel
theorem dX7_tuple_45 : decode cX7_tuple 45 = .ok (.iload_n 2, 1) := by decide +kernel
theorem dX7_tuple_46 : decode cX7_tuple 46 = .ok (.invokestatic 187, 3) := by decide +kernel
theorem dX7_tuple_49 : decode cX7_tuple 49 = .ok (.ireturn, 1) := by decide +kernel
theorem dX7_tuple_50 : decode cX7_tuple 50 = .ok (.iload_n 2, 1) := by decide +kernel
theorem dX7_tuple_51 : decode cX7_tuple 51 = .ok (.iconst 4, 1) := by decide +kernel
theorem dX7_tuple_52 : decode cX7_tuple 52 = .ok (.if_icmp .ne 16, 3) := by decide +kernel
theorem dX7_tuple_55 : decode cX7_tuple 55 = .ok (.aload_n 0, 1) := by decide +kernel
theorem dX7_tuple_56 : decode cX7_tuple 56 = .ok (.aload_n 0, 1) := by decide +kernel
theorem dX7_tuple_57 : decode cX7_tuple 57 = .ok (.getfield 57, 3) := by decide +kernel
theorem dX7_tuple_60 : decode cX7_tuple 60 = .ok (.iload_n 1, 1) := by decide +kernel
theorem dX7_tuple_61 : decode cX7_tuple 61 = .ok (.iaload, 1) := by decide +kernel
theorem dX7_tuple_62 : decode cX7_tuple 62 = .ok (.invokevirtual 205, 3) := by decide +kernel
theorem dX7_tuple_65 : decode cX7_tuple 65 = .ok (.goto 36, 3) := by decide +kernel
theorem dX7_tuple_68 : decode cX7_tuple 68 = .ok (.iload_n 2, 1) := by decide +kernel
theorem dX7_tuple_69 : decode cX7_tuple 69 = .ok (.iconst 5, 1) := by decide +kernel
theorem dX7_tuple_70 : decode cX7_tuple 70 = .ok (.if_icmp .ne 17, 3) := by decide +kernel
theorem dX7_tuple_73 : decode cX7_tuple 73 = .ok (.aload_n 0, 1) := by decide +kernel
theorem dX7_tuple_74 : decode cX7_tuple 74 = .ok (.getfield 29, 3) := by decide +kernel
theorem dX7_tuple_77 : decode cX7_tuple 77 = .ok (.aload_n 0, 1) := by decide +kernel
theorem dX7_tuple_78 : decode cX7_tuple 78 = .ok (.getfield 60, 3) := by decide +kernel
theorem dX7_tuple_81 : decode cX7_tuple 81 = .ok (.iload_n 1, 1) := by decide +kernel
theorem dX7_tuple_82 : decode cX7_tuple 82 = .ok (.iaload, 1) := by decide +kernel
theorem dX7_tuple_83 : decode cX7_tuple 83 = .ok (.iaload, 1) := by decide +kernel
theorem dX7_tuple_84 : decode cX7_tuple 84 = .ok (.goto 17, 3) := by decide +kernel
theorem dX7_tuple_87 : decode cX7_tuple 87 = .ok (.aload_n 0, 1) := by decide +kernel
theorem dX7_tuple_88 : decode cX7_tuple 88 = .ok (.getfield 63, 3) := by decide +kernel
theorem dX7_tuple_91 : decode cX7_tuple 91 = .ok (.aload_n 0, 1) := by decide +kernel
theorem dX7_tuple_92 : decode cX7_tuple 92 = .ok (.getfield 57, 3) := by decide +kernel
theorem dX7_tuple_95 : decode cX7_tuple 95 = .ok (.iload_n 1, 1) := by decide +kernel
theorem dX7_tuple_96 : decode cX7_tuple 96 = .ok (.iaload, 1) := by decide +kernel
theorem dX7_tuple_97 : decode cX7_tuple 97 = .ok (.iaload, 1) := by decide +kernel
theorem dX7_tuple_98 : decode cX7_tuple 98 = .ok (.invokestatic 208, 3) := by decide +kernel
theorem dX7_tuple_101 : decode cX7_tuple 101 = .ok (.ireturn, 1) := by decide +kernel
theorem dX7_codeOf_0 : decode cX7_codeOf 0 = .ok (.sipush 147, 3) := by decide +kernel
theorem dX7_codeOf_3 : decode cX7_codeOf 3 = .ok (.bipush 6, 2) := by decide +kernel
theorem dX7_codeOf_5 : decode cX7_codeOf 5 = .ok (.aload_n 0, 1) := by decide +kernel
theorem dX7_codeOf_6 : decode cX7_codeOf 6 = .ok (.iload_n 1, 1) := by decide +kernel
theorem dX7_codeOf_7 : decode cX7_codeOf 7 = .ok (.iconst 0, 1) := by decide +kernel
theorem dX7_codeOf_8 : decode cX7_codeOf 8 = .ok (.iload_n 2, 1) := by decide +kernel
theorem dX7_codeOf_9 : decode cX7_codeOf 9 = .ok (.invokevirtual 211, 3) := by decide +kernel
theorem dX7_codeOf_12 : decode cX7_codeOf 12 = .ok (.isub, 1) := by decide +kernel
theorem dX7_codeOf_13 : decode cX7_codeOf 13 = .ok (.imul, 1) := by decide +kernel
theorem dX7_codeOf_14 : decode cX7_codeOf 14 = .ok (.bipush 21, 2) := by decide +kernel
theorem dX7_codeOf_16 : decode cX7_codeOf 16 = .ok (.bipush 6, 2) := by decide +kernel
theorem dX7_codeOf_18 : decode cX7_codeOf 18 = .ok (.aload_n 0, 1) := by decide +kernel
theorem dX7_codeOf_19 : decode cX7_codeOf 19 = .ok (.iload_n 1, 1) := by decide +kernel
theorem dX7_codeOf_20 : decode cX7_codeOf 20 = .ok (.iconst 1, 1) := by decide +kernel
theorem dX7_codeOf_21 : decode cX7_codeOf 21 = .ok (.iload_n 3, 1) := by decide +kernel
theorem dX7_codeOf_22 : decode cX7_codeOf 22 = .ok (.invokevirtual 211, 3) := by decide +kernel
theorem dX7_codeOf_25 : decode cX7_codeOf 25 = .ok (.isub, 1) := by decide +kernel
theorem dX7_codeOf_26 : decode cX7_codeOf 26 = .ok (.imul, 1) := by decide +kernel
theorem dX7_codeOf_27 : decode cX7_codeOf 27 = .ok (.iadd, 1) := by decide +kernel
theorem dX7_codeOf_28 : decode cX7_codeOf 28 = .ok (.iconst 3, 1) := by decide +kernel
theorem dX7_codeOf_29 : decode cX7_codeOf 29 = .ok (.bipush 6, 2) := by decide +kernel
theorem dX7_codeOf_31 : decode cX7_codeOf 31 = .ok (.aload_n 0, 1) := by decide +kernel
theorem dX7_codeOf_32 : decode cX7_codeOf 32 = .ok (.iload_n 1, 1) := by decide +kernel
theorem dX7_codeOf_33 : decode cX7_codeOf 33 = .ok (.iconst 2, 1) := by decide +kernel
theorem dX7_codeOf_34 : decode cX7_codeOf 34 = .ok (.iload 4, 2) := by decide +kernel
theorem dX7_codeOf_36 : decode cX7_codeOf 36 = .ok (.invokevirtual 211, 3) := by decide +kernel
theorem dX7_codeOf_39 : decode cX7_codeOf 39 = .ok (.isub, 1) := by decide +kernel
theorem dX7_codeOf_40 : decode cX7_codeOf 40 = .ok (.imul, 1) := by decide +kernel
theorem dX7_codeOf_41 : decode cX7_codeOf 41 = .ok (.iadd, 1) := by decide +kernel
theorem dX7_codeOf_42 : decode cX7_codeOf 42 = .ok (.iconst 2, 1) := by decide +kernel
theorem dX7_codeOf_43 : decode cX7_codeOf 43 = .ok (.iadd, 1) := by decide +kernel
theorem dX7_codeOf_44 : decode cX7_codeOf 44 = .ok (.aload_n 0, 1) := by decide +kernel
theorem dX7_codeOf_45 : decode cX7_codeOf 45 = .ok (.iload_n 1, 1) := by decide +kernel
theorem dX7_codeOf_46 : decode cX7_codeOf 46 = .ok (.iconst 3, 1) := by decide +kernel
theorem dX7_codeOf_47 : decode cX7_codeOf 47 = .ok (.iload 5, 2) := by decide +kernel
theorem dX7_codeOf_49 : decode cX7_codeOf 49 = .ok (.invokevirtual 211, 3) := by decide +kernel
theorem dX7_codeOf_52 : decode cX7_codeOf 52 = .ok (.isub, 1) := by decide +kernel
theorem dX7_codeOf_53 : decode cX7_codeOf 53 = .ok (.ireturn, 1) := by decide +kernel
theorem dX7_probe_0 : decode cX7_probe 0 = .ok (.iload_n 1, 1) := by decide +kernel
theorem dX7_probe_1 : decode cX7_probe 1 = .ok (.iload_n 2, 1) := by decide +kernel
theorem dX7_probe_2 : decode cX7_probe 2 = .ok (.iload_n 3, 1) := by decide +kernel
theorem dX7_probe_3 : decode cX7_probe 3 = .ok (.iload 4, 2) := by decide +kernel
theorem dX7_probe_5 : decode cX7_probe 5 = .ok (.invokestatic 150, 3) := by decide +kernel
theorem dX7_probe_8 : decode cX7_probe 8 = .ok (.ifCond .eq 13, 3) := by decide +kernel
theorem dX7_probe_11 : decode cX7_probe 11 = .ok (.iload 5, 2) := by decide +kernel
theorem dX7_probe_13 : decode cX7_probe 13 = .ok (.iconst 0, 1) := by decide +kernel
theorem dX7_probe_14 : decode cX7_probe 14 = .ok (.iconst 2, 1) := by decide +kernel
theorem dX7_probe_15 : decode cX7_probe 15 = .ok (.invokestatic 100, 3) := by decide +kernel
theorem dX7_probe_18 : decode cX7_probe 18 = .ok (.ifCond .ne 6, 3) := by decide +kernel
theorem dX7_probe_21 : decode cX7_probe 21 = .ok (.bipush (-2), 2) := by decide +kernel
theorem dX7_probe_23 : decode cX7_probe 23 = .ok (.ireturn, 1) := by decide +kernel
theorem dX7_probe_24 : decode cX7_probe 24 = .ok (.aload_n 0, 1) := by decide +kernel
theorem dX7_probe_25 : decode cX7_probe 25 = .ok (.invokevirtual 202, 3) := by decide +kernel
theorem dX7_probe_28 : decode cX7_probe 28 = .ok (.aload_n 0, 1) := by decide +kernel
theorem dX7_probe_29 : decode cX7_probe 29 = .ok (.iload_n 1, 1) := by decide +kernel
theorem dX7_probe_30 : decode cX7_probe 30 = .ok (.iload_n 2, 1) := by decide +kernel
theorem dX7_probe_31 : decode cX7_probe 31 = .ok (.iload_n 3, 1) := by decide +kernel
theorem dX7_probe_32 : decode cX7_probe 32 = .ok (.iload 4, 2) := by decide +kernel
theorem dX7_probe_34 : decode cX7_probe 34 = .ok (.invokevirtual 154, 3) := by decide +kernel
theorem dX7_probe_37 : decode cX7_probe 37 = .ok (.istore 6, 2) := by decide +kernel
theorem dX7_probe_39 : decode cX7_probe 39 = .ok (.iconst 0, 1) := by decide +kernel
theorem dX7_probe_40 : decode cX7_probe 40 = .ok (.istore 7, 2) := by decide +kernel
theorem dX7_probe_42 : decode cX7_probe 42 = .ok (.iload 7, 2) := by decide +kernel
theorem dX7_probe_44 : decode cX7_probe 44 = .ok (.aload_n 0, 1) := by decide +kernel
theorem dX7_probe_45 : decode cX7_probe 45 = .ok (.getfield 104, 3) := by decide +kernel
theorem dX7_probe_48 : decode cX7_probe 48 = .ok (.if_icmp .ge 47, 3) := by decide +kernel
theorem dX7_probe_51 : decode cX7_probe 51 = .ok (.aload_n 0, 1) := by decide +kernel
theorem dX7_probe_52 : decode cX7_probe 52 = .ok (.getfield 66, 3) := by decide +kernel
theorem dX7_probe_55 : decode cX7_probe 55 = .ok (.iload 7, 2) := by decide +kernel
theorem dX7_probe_57 : decode cX7_probe 57 = .ok (.iload 6, 2) := by decide +kernel
theorem dX7_probe_59 : decode cX7_probe 59 = .ok (.iload 7, 2) := by decide +kernel
theorem dX7_probe_61 : decode cX7_probe 61 = .ok (.invokestatic 107, 3) := by decide +kernel
theorem dX7_probe_64 : decode cX7_probe 64 = .ok (.ifCond .eq 22, 3) := by decide +kernel
theorem dX7_probe_67 : decode cX7_probe 67 = .ok (.aload_n 0, 1) := by decide +kernel
theorem dX7_probe_68 : decode cX7_probe 68 = .ok (.aload_n 0, 1) := by decide +kernel
theorem dX7_probe_69 : decode cX7_probe 69 = .ok (.getfield 29, 3) := by decide +kernel
theorem dX7_probe_72 : decode cX7_probe 72 = .ok (.iload 7, 2) := by decide +kernel
theorem dX7_probe_74 : decode cX7_probe 74 = .ok (.iaload, 1) := by decide +kernel
theorem dX7_probe_75 : decode cX7_probe 75 = .ok (.iload_n 1, 1) := by decide +kernel
theorem dX7_probe_76 : decode cX7_probe 76 = .ok (.iload_n 2, 1) := by decide +kernel
theorem dX7_probe_77 : decode cX7_probe 77 = .ok (.iload_n 3, 1) := by decide +kernel
theorem dX7_probe_78 : decode cX7_probe 78 = .ok (.iload 4, 2) := by decide +kernel
theorem dX7_probe_80 : decode cX7_probe 80 = .ok (.invokevirtual 214, 3) := by decide +kernel
theorem dX7_probe_83 : decode cX7_probe 83 = .ok (.goto 5, 3) := by decide +kernel
theorem dX7_probe_86 : decode cX7_probe 86 = .ok (.bipush (-6), 2) := by decide +kernel
theorem dX7_probe_88 : decode cX7_probe 88 = .ok (.iastore, 1) := by decide +kernel
theorem dX7_probe_89 : decode cX7_probe 89 = .ok (.iinc 7 1, 3) := by decide +kernel
theorem dX7_probe_92 : decode cX7_probe 92 = .ok (.goto (-50), 3) := by decide +kernel
theorem dX7_probe_95 : decode cX7_probe 95 = .ok (.aload_n 0, 1) := by decide +kernel
theorem dX7_probe_96 : decode cX7_probe 96 = .ok (.getfield 104, 3) := by decide +kernel
theorem dX7_probe_99 : decode cX7_probe 99 = .ok (.istore 7, 2) := by decide +kernel
theorem dX7_probe_101 : decode cX7_probe 101 = .ok (.iconst 0, 1) := by decide +kernel
theorem dX7_probe_102 : decode cX7_probe 102 = .ok (.istore 8, 2) := by decide +kernel
theorem dX7_probe_104 : decode cX7_probe 104 = .ok (.iload 8, 2) := by decide +kernel
theorem dX7_probe_106 : decode cX7_probe 106 = .ok (.aload_n 0, 1) := by decide +kernel
theorem dX7_probe_107 : decode cX7_probe 107 = .ok (.getfield 199, 3) := by decide +kernel
theorem dX7_probe_110 : decode cX7_probe 110 = .ok (.if_icmp .ge 73, 3) := by decide +kernel
theorem dX7_probe_113 : decode cX7_probe 113 = .ok (.aload_n 0, 1) := by decide +kernel
theorem dX7_probe_114 : decode cX7_probe 114 = .ok (.getfield 60, 3) := by decide +kernel
theorem dX7_probe_117 : decode cX7_probe 117 = .ok (.iload 8, 2) := by decide +kernel
theorem dX7_probe_119 : decode cX7_probe 119 = .ok (.iaload, 1) := by decide +kernel
theorem dX7_probe_120 : decode cX7_probe 120 = .ok (.iload 7, 2) := by decide +kernel
theorem dX7_probe_122 : decode cX7_probe 122 = .ok (.if_icmp .ge 61, 3) := by decide +kernel
theorem dX7_probe_125 : decode cX7_probe 125 = .ok (.aload_n 0, 1) := by decide +kernel
theorem dX7_probe_126 : decode cX7_probe 126 = .ok (.getfield 104, 3) := by decide +kernel
theorem dX7_probe_129 : decode cX7_probe 129 = .ok (.iconst 1, 1) := by decide +kernel
theorem dX7_probe_130 : decode cX7_probe 130 = .ok (.isub, 1) := by decide +kernel
theorem dX7_probe_131 : decode cX7_probe 131 = .ok (.istore 9, 2) := by decide +kernel
theorem dX7_probe_133 : decode cX7_probe 133 = .ok (.iload 9, 2) := by decide +kernel
theorem dX7_probe_135 : decode cX7_probe 135 = .ok (.ifCond .lt 42, 3) := by decide +kernel
theorem dX7_probe_138 : decode cX7_probe 138 = .ok (.aload_n 0, 1) := by decide +kernel
theorem dX7_probe_139 : decode cX7_probe 139 = .ok (.getfield 66, 3) := by decide +kernel
theorem dX7_probe_142 : decode cX7_probe 142 = .ok (.iload 9, 2) := by decide +kernel
theorem dX7_probe_144 : decode cX7_probe 144 = .ok (.iaload, 1) := by decide +kernel
theorem dX7_probe_145 : decode cX7_probe 145 = .ok (.aload_n 0, 1) := by decide +kernel
theorem dX7_probe_146 : decode cX7_probe 146 = .ok (.getfield 57, 3) := by decide +kernel
theorem dX7_probe_149 : decode cX7_probe 149 = .ok (.iload 8, 2) := by decide +kernel
theorem dX7_probe_151 : decode cX7_probe 151 = .ok (.iaload, 1) := by decide +kernel
theorem dX7_probe_152 : decode cX7_probe 152 = .ok (.if_icmp .ne 15, 3) := by decide +kernel
theorem dX7_probe_155 : decode cX7_probe 155 = .ok (.iload 9, 2) := by decide +kernel
theorem dX7_probe_157 : decode cX7_probe 157 = .ok (.iload 7, 2) := by decide +kernel
theorem dX7_probe_159 : decode cX7_probe 159 = .ok (.if_icmp .ge 8, 3) := by decide +kernel
theorem dX7_probe_162 : decode cX7_probe 162 = .ok (.iload 9, 2) := by decide +kernel
theorem dX7_probe_164 : decode cX7_probe 164 = .ok (.goto 5, 3) := by decide +kernel
theorem dX7_probe_167 : decode cX7_probe 167 = .ok (.iload 7, 2) := by decide +kernel
theorem dX7_probe_169 : decode cX7_probe 169 = .ok (.istore 7, 2) := by decide +kernel
theorem dX7_probe_171 : decode cX7_probe 171 = .ok (.iinc 9 (-1), 3) := by decide +kernel
theorem dX7_probe_174 : decode cX7_probe 174 = .ok (.goto (-41), 3) := by decide +kernel
theorem dX7_probe_177 : decode cX7_probe 177 = .ok (.iinc 8 1, 3) := by decide +kernel
theorem dX7_probe_180 : decode cX7_probe 180 = .ok (.goto (-76), 3) := by decide +kernel
theorem dX7_probe_183 : decode cX7_probe 183 = .ok (.iload 5, 2) := by decide +kernel
theorem dX7_probe_185 : decode cX7_probe 185 = .ok (.iconst 1, 1) := by decide +kernel
theorem dX7_probe_186 : decode cX7_probe 186 = .ok (.if_icmp .ne 6, 3) := by decide +kernel
theorem dX7_probe_189 : decode cX7_probe 189 = .ok (.iload 8, 2) := by decide +kernel
theorem dX7_probe_191 : decode cX7_probe 191 = .ok (.ireturn, 1) := by decide +kernel
theorem dX7_probe_192 : decode cX7_probe 192 = .ok (.iload 5, 2) := by decide +kernel
theorem dX7_probe_194 : decode cX7_probe 194 = .ok (.iconst 2, 1) := by decide +kernel
theorem dX7_probe_195 : decode cX7_probe 195 = .ok (.if_icmp .ne 20, 3) := by decide +kernel
theorem dX7_probe_198 : decode cX7_probe 198 = .ok (.iload 8, 2) := by decide +kernel
theorem dX7_probe_200 : decode cX7_probe 200 = .ok (.ifCond .ne 8, 3) := by decide +kernel
theorem dX7_probe_203 : decode cX7_probe 203 = .ok (.bipush (-6), 2) := by decide +kernel
theorem dX7_probe_205 : decode cX7_probe 205 = .ok (.goto 31, 3) := by decide +kernel
theorem dX7_probe_208 : decode cX7_probe 208 = .ok (.iload 8, 2) := by decide +kernel
theorem dX7_probe_210 : decode cX7_probe 210 = .ok (.iconst 1, 1) := by decide +kernel
theorem dX7_probe_211 : decode cX7_probe 211 = .ok (.isub, 1) := by decide +kernel
theorem dX7_probe_212 : decode cX7_probe 212 = .ok (.goto 24, 3) := by decide +kernel
theorem dX7_probe_215 : decode cX7_probe 215 = .ok (.iload 7, 2) := by decide +kernel
theorem dX7_probe_217 : decode cX7_probe 217 = .ok (.aload_n 0, 1) := by decide +kernel
theorem dX7_probe_218 : decode cX7_probe 218 = .ok (.getfield 104, 3) := by decide +kernel
theorem dX7_probe_221 : decode cX7_probe 221 = .ok (.if_icmp .ne 8, 3) := by decide +kernel
theorem dX7_probe_224 : decode cX7_probe 224 = .ok (.bipush (-6), 2) := by decide +kernel
theorem dX7_probe_226 : decode cX7_probe 226 = .ok (.goto 10, 3) := by decide +kernel
theorem dX7_probe_229 : decode cX7_probe 229 = .ok (.aload_n 0, 1) := by decide +kernel
theorem dX7_probe_230 : decode cX7_probe 230 = .ok (.getfield 29, 3) := by decide +kernel
theorem dX7_probe_233 : decode cX7_probe 233 = .ok (.iload 7, 2) := by decide +kernel
theorem dX7_probe_235 : decode cX7_probe 235 = .ok (.iaload, 1) := by decide +kernel
theorem dX7_probe_236 : decode cX7_probe 236 = .ok (.ireturn, 1) := by decide +kernel
theorem dX7_halved_0 : decode cX7_halved 0 = .ok (.aload_n 0, 1) := by decide +kernel
theorem dX7_halved_1 : decode cX7_halved 1 = .ok (.getfield 69, 3) := by decide +kernel
theorem dX7_halved_4 : decode cX7_halved 4 = .ok (.iconst 4, 1) := by decide +kernel
theorem dX7_halved_5 : decode cX7_halved 5 = .ok (.iload_n 1, 1) := by decide +kernel
theorem dX7_halved_6 : decode cX7_halved 6 = .ok (.imul, 1) := by decide +kernel
theorem dX7_halved_7 : decode cX7_halved 7 = .ok (.iload_n 2, 1) := by decide +kernel
theorem dX7_halved_8 : decode cX7_halved 8 = .ok (.iadd, 1) := by decide +kernel
theorem dX7_halved_9 : decode cX7_halved 9 = .ok (.iaload, 1) := by decide +kernel
theorem dX7_halved_10 : decode cX7_halved 10 = .ok (.istore 4, 2) := by decide +kernel
theorem dX7_halved_12 : decode cX7_halved 12 = .ok (.aload_n 0, 1) := by decide +kernel
theorem dX7_halved_13 : decode cX7_halved 13 = .ok (.getfield 72, 3) := by decide +kernel
theorem dX7_halved_16 : decode cX7_halved 16 = .ok (.iconst 4, 1) := by decide +kernel
theorem dX7_halved_17 : decode cX7_halved 17 = .ok (.iload_n 1, 1) := by decide +kernel
theorem dX7_halved_18 : decode cX7_halved 18 = .ok (.imul, 1) := by decide +kernel
theorem dX7_halved_19 : decode cX7_halved 19 = .ok (.iload_n 2, 1) := by decide +kernel
theorem dX7_halved_20 : decode cX7_halved 20 = .ok (.iadd, 1) := by decide +kernel
theorem dX7_halved_21 : decode cX7_halved 21 = .ok (.iaload, 1) := by decide +kernel
theorem dX7_halved_22 : decode cX7_halved 22 = .ok (.istore 5, 2) := by decide +kernel
theorem dX7_halved_24 : decode cX7_halved 24 = .ok (.iload 4, 2) := by decide +kernel
theorem dX7_halved_26 : decode cX7_halved 26 = .ok (.iload 5, 2) := by decide +kernel
theorem dX7_halved_28 : decode cX7_halved 28 = .ok (.iadd, 1) := by decide +kernel
theorem dX7_halved_29 : decode cX7_halved 29 = .ok (.iconst 2, 1) := by decide +kernel
theorem dX7_halved_30 : decode cX7_halved 30 = .ok (.idiv, 1) := by decide +kernel
theorem dX7_halved_31 : decode cX7_halved 31 = .ok (.istore 6, 2) := by decide +kernel
theorem dX7_halved_33 : decode cX7_halved 33 = .ok (.aload_n 0, 1) := by decide +kernel
theorem dX7_halved_34 : decode cX7_halved 34 = .ok (.getfield 75, 3) := by decide +kernel
theorem dX7_halved_37 : decode cX7_halved 37 = .ok (.iload_n 1, 1) := by decide +kernel
theorem dX7_halved_38 : decode cX7_halved 38 = .ok (.iaload, 1) := by decide +kernel
theorem dX7_halved_39 : decode cX7_halved 39 = .ok (.iload_n 3, 1) := by decide +kernel
theorem dX7_halved_40 : decode cX7_halved 40 = .ok (.ifCond .ne 15, 3) := by decide +kernel
theorem dX7_halved_43 : decode cX7_halved 43 = .ok (.aload_n 0, 1) := by decide +kernel
theorem dX7_halved_44 : decode cX7_halved 44 = .ok (.iload_n 2, 1) := by decide +kernel
theorem dX7_halved_45 : decode cX7_halved 45 = .ok (.iload 4, 2) := by decide +kernel
theorem dX7_halved_47 : decode cX7_halved 47 = .ok (.iload 6, 2) := by decide +kernel
theorem dX7_halved_49 : decode cX7_halved 49 = .ok (.invokevirtual 143, 3) := by decide +kernel
theorem dX7_halved_52 : decode cX7_halved 52 = .ok (.goto 14, 3) := by decide +kernel
theorem dX7_halved_55 : decode cX7_halved 55 = .ok (.aload_n 0, 1) := by decide +kernel
theorem dX7_halved_56 : decode cX7_halved 56 = .ok (.iload_n 2, 1) := by decide +kernel
theorem dX7_halved_57 : decode cX7_halved 57 = .ok (.iload 6, 2) := by decide +kernel
theorem dX7_halved_59 : decode cX7_halved 59 = .ok (.iconst 1, 1) := by decide +kernel
theorem dX7_halved_60 : decode cX7_halved 60 = .ok (.iadd, 1) := by decide +kernel
theorem dX7_halved_61 : decode cX7_halved 61 = .ok (.iload 5, 2) := by decide +kernel
theorem dX7_halved_63 : decode cX7_halved 63 = .ok (.invokevirtual 143, 3) := by decide +kernel
theorem dX7_halved_66 : decode cX7_halved 66 = .ok (.iand, 1) := by decide +kernel
theorem dX7_halved_67 : decode cX7_halved 67 = .ok (.ireturn, 1) := by decide +kernel
theorem dX7_cutOf_0 : decode cX7_cutOf 0 = .ok (.aload_n 0, 1) := by decide +kernel
theorem dX7_cutOf_1 : decode cX7_cutOf 1 = .ok (.getfield 75, 3) := by decide +kernel
theorem dX7_cutOf_4 : decode cX7_cutOf 4 = .ok (.iload_n 1, 1) := by decide +kernel
theorem dX7_cutOf_5 : decode cX7_cutOf 5 = .ok (.iaload, 1) := by decide +kernel
theorem dX7_cutOf_6 : decode cX7_cutOf 6 = .ok (.invokestatic 208, 3) := by decide +kernel
theorem dX7_cutOf_9 : decode cX7_cutOf 9 = .ok (.istore_n 2, 1) := by decide +kernel
theorem dX7_cutOf_10 : decode cX7_cutOf 10 = .ok (.bipush (-6), 2) := by decide +kernel
theorem dX7_cutOf_12 : decode cX7_cutOf 12 = .ok (.istore_n 3, 1) := by decide +kernel
theorem dX7_cutOf_13 : decode cX7_cutOf 13 = .ok (.iload_n 2, 1) := by decide +kernel
theorem dX7_cutOf_14 : decode cX7_cutOf 14 = .ok (.istore 4, 2) := by decide +kernel
theorem dX7_cutOf_16 : decode cX7_cutOf 16 = .ok (.iconst 0, 1) := by decide +kernel
theorem dX7_cutOf_17 : decode cX7_cutOf 17 = .ok (.istore 5, 2) := by decide +kernel
theorem dX7_cutOf_19 : decode cX7_cutOf 19 = .ok (.iconst 0, 1) := by decide +kernel
theorem dX7_cutOf_20 : decode cX7_cutOf 20 = .ok (.istore 6, 2) := by decide +kernel
theorem dX7_cutOf_22 : decode cX7_cutOf 22 = .ok (.iload 6, 2) := by decide +kernel
theorem dX7_cutOf_24 : decode cX7_cutOf 24 = .ok (.iconst 4, 1) := by decide +kernel
theorem dX7_cutOf_25 : decode cX7_cutOf 25 = .ok (.if_icmp .ge 139, 3) := by decide +kernel
theorem dX7_cutOf_28 : decode cX7_cutOf 28 = .ok (.iload_n 2, 1) := by decide +kernel
theorem dX7_cutOf_29 : decode cX7_cutOf 29 = .ok (.aload_n 0, 1) := by decide +kernel
theorem dX7_cutOf_30 : decode cX7_cutOf 30 = .ok (.getfield 22, 3) := by decide +kernel
theorem dX7_cutOf_33 : decode cX7_cutOf 33 = .ok (.if_icmp .le 131, 3) := by decide +kernel
theorem dX7_cutOf_36 : decode cX7_cutOf 36 = .ok (.aload_n 0, 1) := by decide +kernel
theorem dX7_cutOf_37 : decode cX7_cutOf 37 = .ok (.getfield 78, 3) := by decide +kernel
theorem dX7_cutOf_40 : decode cX7_cutOf 40 = .ok (.iload_n 1, 1) := by decide +kernel
theorem dX7_cutOf_41 : decode cX7_cutOf 41 = .ok (.iaload, 1) := by decide +kernel
theorem dX7_cutOf_42 : decode cX7_cutOf 42 = .ok (.aload_n 0, 1) := by decide +kernel
theorem dX7_cutOf_43 : decode cX7_cutOf 43 = .ok (.getfield 26, 3) := by decide +kernel
theorem dX7_cutOf_46 : decode cX7_cutOf 46 = .ok (.if_icmp .ge 118, 3) := by decide +kernel
theorem dX7_cutOf_49 : decode cX7_cutOf 49 = .ok (.aload_n 0, 1) := by decide +kernel
theorem dX7_cutOf_50 : decode cX7_cutOf 50 = .ok (.getfield 72, 3) := by decide +kernel
theorem dX7_cutOf_53 : decode cX7_cutOf 53 = .ok (.iconst 4, 1) := by decide +kernel
theorem dX7_cutOf_54 : decode cX7_cutOf 54 = .ok (.iload_n 1, 1) := by decide +kernel
theorem dX7_cutOf_55 : decode cX7_cutOf 55 = .ok (.imul, 1) := by decide +kernel
theorem dX7_cutOf_56 : decode cX7_cutOf 56 = .ok (.iload 6, 2) := by decide +kernel
theorem dX7_cutOf_58 : decode cX7_cutOf 58 = .ok (.iadd, 1) := by decide +kernel
theorem dX7_cutOf_59 : decode cX7_cutOf 59 = .ok (.iaload, 1) := by decide +kernel
theorem dX7_cutOf_60 : decode cX7_cutOf 60 = .ok (.aload_n 0, 1) := by decide +kernel
theorem dX7_cutOf_61 : decode cX7_cutOf 61 = .ok (.getfield 69, 3) := by decide +kernel
theorem dX7_cutOf_64 : decode cX7_cutOf 64 = .ok (.iconst 4, 1) := by decide +kernel
theorem dX7_cutOf_65 : decode cX7_cutOf 65 = .ok (.iload_n 1, 1) := by decide +kernel
theorem dX7_cutOf_66 : decode cX7_cutOf 66 = .ok (.imul, 1) := by decide +kernel
theorem dX7_cutOf_67 : decode cX7_cutOf 67 = .ok (.iload 6, 2) := by decide +kernel
theorem dX7_cutOf_69 : decode cX7_cutOf 69 = .ok (.iadd, 1) := by decide +kernel
theorem dX7_cutOf_70 : decode cX7_cutOf 70 = .ok (.iaload, 1) := by decide +kernel
theorem dX7_cutOf_71 : decode cX7_cutOf 71 = .ok (.if_icmp .le 87, 3) := by decide +kernel
theorem dX7_cutOf_74 : decode cX7_cutOf 74 = .ok (.aload_n 0, 1) := by decide +kernel
theorem dX7_cutOf_75 : decode cX7_cutOf 75 = .ok (.iload_n 1, 1) := by decide +kernel
theorem dX7_cutOf_76 : decode cX7_cutOf 76 = .ok (.iload 6, 2) := by decide +kernel
theorem dX7_cutOf_78 : decode cX7_cutOf 78 = .ok (.iconst 0, 1) := by decide +kernel
theorem dX7_cutOf_79 : decode cX7_cutOf 79 = .ok (.invokevirtual 218, 3) := by decide +kernel
theorem dX7_cutOf_82 : decode cX7_cutOf 82 = .ok (.invokestatic 208, 3) := by decide +kernel
theorem dX7_cutOf_85 : decode cX7_cutOf 85 = .ok (.istore 7, 2) := by decide +kernel
theorem dX7_cutOf_87 : decode cX7_cutOf 87 = .ok (.aload_n 0, 1) := by decide +kernel
theorem dX7_cutOf_88 : decode cX7_cutOf 88 = .ok (.iload_n 1, 1) := by decide +kernel
theorem dX7_cutOf_89 : decode cX7_cutOf 89 = .ok (.iload 6, 2) := by decide +kernel
theorem dX7_cutOf_91 : decode cX7_cutOf 91 = .ok (.iconst 1, 1) := by decide +kernel
theorem dX7_cutOf_92 : decode cX7_cutOf 92 = .ok (.invokevirtual 218, 3) := by decide +kernel
theorem dX7_cutOf_95 : decode cX7_cutOf 95 = .ok (.invokestatic 208, 3) := by decide +kernel
theorem dX7_cutOf_98 : decode cX7_cutOf 98 = .ok (.istore 8, 2) := by decide +kernel
theorem dX7_cutOf_100 : decode cX7_cutOf 100 = .ok (.iload 7, 2) := by decide +kernel
theorem dX7_cutOf_102 : decode cX7_cutOf 102 = .ok (.iload 8, 2) := by decide +kernel
theorem dX7_cutOf_104 : decode cX7_cutOf 104 = .ok (.if_icmp .le 8, 3) := by decide +kernel
theorem dX7_cutOf_107 : decode cX7_cutOf 107 = .ok (.iload 7, 2) := by decide +kernel
theorem dX7_cutOf_109 : decode cX7_cutOf 109 = .ok (.goto 5, 3) := by decide +kernel
theorem dX7_cutOf_112 : decode cX7_cutOf 112 = .ok (.iload 8, 2) := by decide +kernel
theorem dX7_cutOf_114 : decode cX7_cutOf 114 = .ok (.istore 9, 2) := by decide +kernel
theorem dX7_cutOf_116 : decode cX7_cutOf 116 = .ok (.iload 9, 2) := by decide +kernel
theorem dX7_cutOf_118 : decode cX7_cutOf 118 = .ok (.iload 4, 2) := by decide +kernel
theorem dX7_cutOf_120 : decode cX7_cutOf 120 = .ok (.if_icmp .lt 24, 3) := by decide +kernel
theorem dX7_cutOf_123 : decode cX7_cutOf 123 = .ok (.iload_n 3, 1) := by decide +kernel
theorem dX7_cutOf_124 : decode cX7_cutOf 124 = .ok (.ifCond .lt 34, 3) := by decide +kernel
theorem dX7_cutOf_127 : decode cX7_cutOf 127 = .ok (.iload 9, 2) := by decide +kernel
theorem dX7_cutOf_129 : decode cX7_cutOf 129 = .ok (.iload 4, 2) := by decide +kernel
theorem dX7_cutOf_131 : decode cX7_cutOf 131 = .ok (.if_icmp .ne 27, 3) := by decide +kernel
theorem dX7_cutOf_134 : decode cX7_cutOf 134 = .ok (.iload 7, 2) := by decide +kernel
theorem dX7_cutOf_136 : decode cX7_cutOf 136 = .ok (.iload 8, 2) := by decide +kernel
theorem dX7_cutOf_138 : decode cX7_cutOf 138 = .ok (.iadd, 1) := by decide +kernel
theorem dX7_cutOf_139 : decode cX7_cutOf 139 = .ok (.iload 5, 2) := by decide +kernel
theorem dX7_cutOf_141 : decode cX7_cutOf 141 = .ok (.if_icmp .ge 17, 3) := by decide +kernel
theorem dX7_cutOf_144 : decode cX7_cutOf 144 = .ok (.iload 6, 2) := by decide +kernel
theorem dX7_cutOf_146 : decode cX7_cutOf 146 = .ok (.istore_n 3, 1) := by decide +kernel
theorem dX7_cutOf_147 : decode cX7_cutOf 147 = .ok (.iload 9, 2) := by decide +kernel
theorem dX7_cutOf_149 : decode cX7_cutOf 149 = .ok (.istore 4, 2) := by decide +kernel
theorem dX7_cutOf_151 : decode cX7_cutOf 151 = .ok (.iload 7, 2) := by decide +kernel
theorem dX7_cutOf_153 : decode cX7_cutOf 153 = .ok (.iload 8, 2) := by decide +kernel
theorem dX7_cutOf_155 : decode cX7_cutOf 155 = .ok (.iadd, 1) := by decide +kernel
theorem dX7_cutOf_156 : decode cX7_cutOf 156 = .ok (.istore 5, 2) := by decide +kernel
theorem dX7_cutOf_158 : decode cX7_cutOf 158 = .ok (.iinc 6 1, 3) := by decide +kernel
theorem dX7_cutOf_161 : decode cX7_cutOf 161 = .ok (.goto (-139), 3) := by decide +kernel
theorem dX7_cutOf_164 : decode cX7_cutOf 164 = .ok (.iload_n 3, 1) := by decide +kernel
theorem dX7_cutOf_165 : decode cX7_cutOf 165 = .ok (.ireturn, 1) := by decide +kernel
theorem dX7_addBelow_0 : decode cX7_addBelow 0 = .ok (.aload_n 0, 1) := by decide +kernel
theorem dX7_addBelow_1 : decode cX7_addBelow 1 = .ok (.getfield 75, 3) := by decide +kernel
theorem dX7_addBelow_4 : decode cX7_addBelow 4 = .ok (.aload_n 0, 1) := by decide +kernel
theorem dX7_addBelow_5 : decode cX7_addBelow 5 = .ok (.getfield 221, 3) := by decide +kernel
theorem dX7_addBelow_8 : decode cX7_addBelow 8 = .ok (.aload_n 0, 1) := by decide +kernel
theorem dX7_addBelow_9 : decode cX7_addBelow 9 = .ok (.iload_n 1, 1) := by decide +kernel
theorem dX7_addBelow_10 : decode cX7_addBelow 10 = .ok (.iload_n 2, 1) := by decide +kernel
theorem dX7_addBelow_11 : decode cX7_addBelow 11 = .ok (.iload_n 3, 1) := by decide +kernel
theorem dX7_addBelow_12 : decode cX7_addBelow 12 = .ok (.invokevirtual 218, 3) := by decide +kernel
theorem dX7_addBelow_15 : decode cX7_addBelow 15 = .ok (.iastore, 1) := by decide +kernel
theorem dX7_addBelow_16 : decode cX7_addBelow 16 = .ok (.aload_n 0, 1) := by decide +kernel
theorem dX7_addBelow_17 : decode cX7_addBelow 17 = .ok (.getfield 78, 3) := by decide +kernel
theorem dX7_addBelow_20 : decode cX7_addBelow 20 = .ok (.aload_n 0, 1) := by decide +kernel
theorem dX7_addBelow_21 : decode cX7_addBelow 21 = .ok (.getfield 221, 3) := by decide +kernel
theorem dX7_addBelow_24 : decode cX7_addBelow 24 = .ok (.aload_n 0, 1) := by decide +kernel
theorem dX7_addBelow_25 : decode cX7_addBelow 25 = .ok (.getfield 78, 3) := by decide +kernel
theorem dX7_addBelow_28 : decode cX7_addBelow 28 = .ok (.iload_n 1, 1) := by decide +kernel
theorem dX7_addBelow_29 : decode cX7_addBelow 29 = .ok (.iaload, 1) := by decide +kernel
theorem dX7_addBelow_30 : decode cX7_addBelow 30 = .ok (.iconst 1, 1) := by decide +kernel
theorem dX7_addBelow_31 : decode cX7_addBelow 31 = .ok (.iadd, 1) := by decide +kernel
theorem dX7_addBelow_32 : decode cX7_addBelow 32 = .ok (.iastore, 1) := by decide +kernel
theorem dX7_addBelow_33 : decode cX7_addBelow 33 = .ok (.iconst 0, 1) := by decide +kernel
theorem dX7_addBelow_34 : decode cX7_addBelow 34 = .ok (.istore 4, 2) := by decide +kernel
theorem dX7_addBelow_36 : decode cX7_addBelow 36 = .ok (.iload 4, 2) := by decide +kernel
theorem dX7_addBelow_38 : decode cX7_addBelow 38 = .ok (.iconst 4, 1) := by decide +kernel
theorem dX7_addBelow_39 : decode cX7_addBelow 39 = .ok (.if_icmp .ge 110, 3) := by decide +kernel
theorem dX7_addBelow_42 : decode cX7_addBelow 42 = .ok (.aload_n 0, 1) := by decide +kernel
theorem dX7_addBelow_43 : decode cX7_addBelow 43 = .ok (.getfield 69, 3) := by decide +kernel
theorem dX7_addBelow_46 : decode cX7_addBelow 46 = .ok (.iconst 4, 1) := by decide +kernel
theorem dX7_addBelow_47 : decode cX7_addBelow 47 = .ok (.iload_n 1, 1) := by decide +kernel
theorem dX7_addBelow_48 : decode cX7_addBelow 48 = .ok (.imul, 1) := by decide +kernel
theorem dX7_addBelow_49 : decode cX7_addBelow 49 = .ok (.iload 4, 2) := by decide +kernel
theorem dX7_addBelow_51 : decode cX7_addBelow 51 = .ok (.iadd, 1) := by decide +kernel
theorem dX7_addBelow_52 : decode cX7_addBelow 52 = .ok (.iaload, 1) := by decide +kernel
theorem dX7_addBelow_53 : decode cX7_addBelow 53 = .ok (.istore 5, 2) := by decide +kernel
theorem dX7_addBelow_55 : decode cX7_addBelow 55 = .ok (.aload_n 0, 1) := by decide +kernel
theorem dX7_addBelow_56 : decode cX7_addBelow 56 = .ok (.getfield 72, 3) := by decide +kernel
theorem dX7_addBelow_59 : decode cX7_addBelow 59 = .ok (.iconst 4, 1) := by decide +kernel
theorem dX7_addBelow_60 : decode cX7_addBelow 60 = .ok (.iload_n 1, 1) := by decide +kernel
theorem dX7_addBelow_61 : decode cX7_addBelow 61 = .ok (.imul, 1) := by decide +kernel
theorem dX7_addBelow_62 : decode cX7_addBelow 62 = .ok (.iload 4, 2) := by decide +kernel
theorem dX7_addBelow_64 : decode cX7_addBelow 64 = .ok (.iadd, 1) := by decide +kernel
theorem dX7_addBelow_65 : decode cX7_addBelow 65 = .ok (.iaload, 1) := by decide +kernel
theorem dX7_addBelow_66 : decode cX7_addBelow 66 = .ok (.istore 6, 2) := by decide +kernel
theorem dX7_addBelow_68 : decode cX7_addBelow 68 = .ok (.aload_n 0, 1) := by decide +kernel
theorem dX7_addBelow_69 : decode cX7_addBelow 69 = .ok (.getfield 69, 3) := by decide +kernel
theorem dX7_addBelow_72 : decode cX7_addBelow 72 = .ok (.iconst 4, 1) := by decide +kernel
theorem dX7_addBelow_73 : decode cX7_addBelow 73 = .ok (.aload_n 0, 1) := by decide +kernel
theorem dX7_addBelow_74 : decode cX7_addBelow 74 = .ok (.getfield 221, 3) := by decide +kernel
theorem dX7_addBelow_77 : decode cX7_addBelow 77 = .ok (.imul, 1) := by decide +kernel
theorem dX7_addBelow_78 : decode cX7_addBelow 78 = .ok (.iload 4, 2) := by decide +kernel
theorem dX7_addBelow_80 : decode cX7_addBelow 80 = .ok (.iadd, 1) := by decide +kernel
theorem dX7_addBelow_81 : decode cX7_addBelow 81 = .ok (.iload 4, 2) := by decide +kernel
theorem dX7_addBelow_83 : decode cX7_addBelow 83 = .ok (.iload_n 2, 1) := by decide +kernel
theorem dX7_addBelow_84 : decode cX7_addBelow 84 = .ok (.if_icmp .ne 20, 3) := by decide +kernel
theorem dX7_addBelow_87 : decode cX7_addBelow 87 = .ok (.iload_n 3, 1) := by decide +kernel
theorem dX7_addBelow_88 : decode cX7_addBelow 88 = .ok (.iconst 1, 1) := by decide +kernel
theorem dX7_addBelow_89 : decode cX7_addBelow 89 = .ok (.if_icmp .ne 15, 3) := by decide +kernel
theorem dX7_addBelow_92 : decode cX7_addBelow 92 = .ok (.iload 5, 2) := by decide +kernel
theorem dX7_addBelow_94 : decode cX7_addBelow 94 = .ok (.iload 6, 2) := by decide +kernel
theorem dX7_addBelow_96 : decode cX7_addBelow 96 = .ok (.iadd, 1) := by decide +kernel
theorem dX7_addBelow_97 : decode cX7_addBelow 97 = .ok (.iconst 2, 1) := by decide +kernel
theorem dX7_addBelow_98 : decode cX7_addBelow 98 = .ok (.idiv, 1) := by decide +kernel
theorem dX7_addBelow_99 : decode cX7_addBelow 99 = .ok (.iconst 1, 1) := by decide +kernel
theorem dX7_addBelow_100 : decode cX7_addBelow 100 = .ok (.iadd, 1) := by decide +kernel
theorem dX7_addBelow_101 : decode cX7_addBelow 101 = .ok (.goto 5, 3) := by decide +kernel
theorem dX7_addBelow_104 : decode cX7_addBelow 104 = .ok (.iload 5, 2) := by decide +kernel
theorem dX7_addBelow_106 : decode cX7_addBelow 106 = .ok (.iastore, 1) := by decide +kernel
theorem dX7_addBelow_107 : decode cX7_addBelow 107 = .ok (.aload_n 0, 1) := by decide +kernel
theorem dX7_addBelow_108 : decode cX7_addBelow 108 = .ok (.getfield 72, 3) := by decide +kernel
theorem dX7_addBelow_111 : decode cX7_addBelow 111 = .ok (.iconst 4, 1) := by decide +kernel
theorem dX7_addBelow_112 : decode cX7_addBelow 112 = .ok (.aload_n 0, 1) := by decide +kernel
theorem dX7_addBelow_113 : decode cX7_addBelow 113 = .ok (.getfield 221, 3) := by decide +kernel
theorem dX7_addBelow_116 : decode cX7_addBelow 116 = .ok (.imul, 1) := by decide +kernel
theorem dX7_addBelow_117 : decode cX7_addBelow 117 = .ok (.iload 4, 2) := by decide +kernel
theorem dX7_addBelow_119 : decode cX7_addBelow 119 = .ok (.iadd, 1) := by decide +kernel
theorem dX7_addBelow_120 : decode cX7_addBelow 120 = .ok (.iload 4, 2) := by decide +kernel
theorem dX7_addBelow_122 : decode cX7_addBelow 122 = .ok (.iload_n 2, 1) := by decide +kernel
theorem dX7_addBelow_123 : decode cX7_addBelow 123 = .ok (.if_icmp .ne 17, 3) := by decide +kernel
theorem dX7_addBelow_126 : decode cX7_addBelow 126 = .ok (.iload_n 3, 1) := by decide +kernel
theorem dX7_addBelow_127 : decode cX7_addBelow 127 = .ok (.ifCond .ne 13, 3) := by decide +kernel
theorem dX7_addBelow_130 : decode cX7_addBelow 130 = .ok (.iload 5, 2) := by decide +kernel
theorem dX7_addBelow_132 : decode cX7_addBelow 132 = .ok (.iload 6, 2) := by decide +kernel
theorem dX7_addBelow_134 : decode cX7_addBelow 134 = .ok (.iadd, 1) := by decide +kernel
theorem dX7_addBelow_135 : decode cX7_addBelow 135 = .ok (.iconst 2, 1) := by decide +kernel
theorem dX7_addBelow_136 : decode cX7_addBelow 136 = .ok (.idiv, 1) := by decide +kernel
theorem dX7_addBelow_137 : decode cX7_addBelow 137 = .ok (.goto 5, 3) := by decide +kernel
theorem dX7_addBelow_140 : decode cX7_addBelow 140 = .ok (.iload 6, 2) := by decide +kernel
theorem dX7_addBelow_142 : decode cX7_addBelow 142 = .ok (.iastore, 1) := by decide +kernel
theorem dX7_addBelow_143 : decode cX7_addBelow 143 = .ok (.iinc 4 1, 3) := by decide +kernel
theorem dX7_addBelow_146 : decode cX7_addBelow 146 = .ok (.goto (-110), 3) := by decide +kernel
theorem dX7_addBelow_149 : decode cX7_addBelow 149 = .ok (.aload_n 0, 1) := by decide +kernel
theorem dX7_addBelow_150 : decode cX7_addBelow 150 = .ok (.dup, 1) := by decide +kernel
theorem dX7_addBelow_151 : decode cX7_addBelow 151 = .ok (.getfield 221, 3) := by decide +kernel
theorem dX7_addBelow_154 : decode cX7_addBelow 154 = .ok (.iconst 1, 1) := by decide +kernel
theorem dX7_addBelow_155 : decode cX7_addBelow 155 = .ok (.iadd, 1) := by decide +kernel
theorem dX7_addBelow_156 : decode cX7_addBelow 156 = .ok (.putfield 221, 3) := by decide +kernel
theorem dX7_addBelow_159 : decode cX7_addBelow 159 = .ok (.return_, 1) := by decide +kernel
theorem dX7_growTree_0 : decode cX7_growTree 0 = .ok (.aload_n 0, 1) := by decide +kernel
theorem dX7_growTree_1 : decode cX7_growTree 1 = .ok (.invokevirtual 147, 3) := by decide +kernel
theorem dX7_growTree_4 : decode cX7_growTree 4 = .ok (.aload_n 0, 1) := by decide +kernel
theorem dX7_growTree_5 : decode cX7_growTree 5 = .ok (.getfield 121, 3) := by decide +kernel
theorem dX7_growTree_8 : decode cX7_growTree 8 = .ok (.ifCond .eq 4, 3) := by decide +kernel
theorem dX7_growTree_11 : decode cX7_growTree 11 = .ok (.return_, 1) := by decide +kernel
theorem dX7_growTree_12 : decode cX7_growTree 12 = .ok (.aload_n 0, 1) := by decide +kernel
theorem dX7_growTree_13 : decode cX7_growTree 13 = .ok (.iconst 1, 1) := by decide +kernel
theorem dX7_growTree_14 : decode cX7_growTree 14 = .ok (.putfield 121, 3) := by decide +kernel
theorem dX7_growTree_17 : decode cX7_growTree 17 = .ok (.aload_n 0, 1) := by decide +kernel
theorem dX7_growTree_18 : decode cX7_growTree 18 = .ok (.iconst 1, 1) := by decide +kernel
theorem dX7_growTree_19 : decode cX7_growTree 19 = .ok (.putfield 221, 3) := by decide +kernel
theorem dX7_growTree_22 : decode cX7_growTree 22 = .ok (.aload_n 0, 1) := by decide +kernel
theorem dX7_growTree_23 : decode cX7_growTree 23 = .ok (.getfield 75, 3) := by decide +kernel
theorem dX7_growTree_26 : decode cX7_growTree 26 = .ok (.iconst 0, 1) := by decide +kernel
theorem dX7_growTree_27 : decode cX7_growTree 27 = .ok (.iconst 1, 1) := by decide +kernel
theorem dX7_growTree_28 : decode cX7_growTree 28 = .ok (.aload_n 0, 1) := by decide +kernel
theorem dX7_growTree_29 : decode cX7_growTree 29 = .ok (.getfield 104, 3) := by decide +kernel
theorem dX7_growTree_32 : decode cX7_growTree 32 = .ok (.ishl, 1) := by decide +kernel
theorem dX7_growTree_33 : decode cX7_growTree 33 = .ok (.iconst 1, 1) := by decide +kernel
theorem dX7_growTree_34 : decode cX7_growTree 34 = .ok (.isub, 1) := by decide +kernel
theorem dX7_growTree_35 : decode cX7_growTree 35 = .ok (.iastore, 1) := by decide +kernel
theorem dX7_growTree_36 : decode cX7_growTree 36 = .ok (.aload_n 0, 1) := by decide +kernel
theorem dX7_growTree_37 : decode cX7_growTree 37 = .ok (.getfield 78, 3) := by decide +kernel
theorem dX7_growTree_40 : decode cX7_growTree 40 = .ok (.iconst 0, 1) := by decide +kernel
theorem dX7_growTree_41 : decode cX7_growTree 41 = .ok (.iconst 0, 1) := by decide +kernel
theorem dX7_growTree_42 : decode cX7_growTree 42 = .ok (.iastore, 1) := by decide +kernel
theorem dX7_growTree_43 : decode cX7_growTree 43 = .ok (.iconst 0, 1) := by decide +kernel
theorem dX7_growTree_44 : decode cX7_growTree 44 = .ok (.istore_n 1, 1) := by decide +kernel
theorem dX7_growTree_45 : decode cX7_growTree 45 = .ok (.iload_n 1, 1) := by decide +kernel
theorem dX7_growTree_46 : decode cX7_growTree 46 = .ok (.iconst 4, 1) := by decide +kernel
theorem dX7_growTree_47 : decode cX7_growTree 47 = .ok (.if_icmp .ge 26, 3) := by decide +kernel
theorem dX7_growTree_50 : decode cX7_growTree 50 = .ok (.aload_n 0, 1) := by decide +kernel
theorem dX7_growTree_51 : decode cX7_growTree 51 = .ok (.getfield 69, 3) := by decide +kernel
theorem dX7_growTree_54 : decode cX7_growTree 54 = .ok (.iload_n 1, 1) := by decide +kernel
theorem dX7_growTree_55 : decode cX7_growTree 55 = .ok (.iconst 0, 1) := by decide +kernel
theorem dX7_growTree_56 : decode cX7_growTree 56 = .ok (.iastore, 1) := by decide +kernel
theorem dX7_growTree_57 : decode cX7_growTree 57 = .ok (.aload_n 0, 1) := by decide +kernel
theorem dX7_growTree_58 : decode cX7_growTree 58 = .ok (.getfield 72, 3) := by decide +kernel
theorem dX7_growTree_61 : decode cX7_growTree 61 = .ok (.iload_n 1, 1) := by decide +kernel
theorem dX7_growTree_62 : decode cX7_growTree 62 = .ok (.iload_n 1, 1) := by decide +kernel
theorem dX7_growTree_63 : decode cX7_growTree 63 = .ok (.invokestatic 124, 3) := by decide +kernel
theorem dX7_growTree_66 : decode cX7_growTree 66 = .ok (.iastore, 1) := by decide +kernel
theorem dX7_growTree_67 : decode cX7_growTree 67 = .ok (.iinc 1 1, 3) := by decide +kernel
theorem dX7_growTree_70 : decode cX7_growTree 70 = .ok (.goto (-25), 3) := by decide +kernel
theorem dX7_growTree_73 : decode cX7_growTree 73 = .ok (.iconst 0, 1) := by decide +kernel
theorem dX7_growTree_74 : decode cX7_growTree 74 = .ok (.istore_n 1, 1) := by decide +kernel
theorem dX7_growTree_75 : decode cX7_growTree 75 = .ok (.iload_n 1, 1) := by decide +kernel
theorem dX7_growTree_76 : decode cX7_growTree 76 = .ok (.aload_n 0, 1) := by decide +kernel
theorem dX7_growTree_77 : decode cX7_growTree 77 = .ok (.getfield 221, 3) := by decide +kernel
theorem dX7_growTree_80 : decode cX7_growTree 80 = .ok (.if_icmp .ge 63, 3) := by decide +kernel
theorem dX7_growTree_83 : decode cX7_growTree 83 = .ok (.aload_n 0, 1) := by decide +kernel
theorem dX7_growTree_84 : decode cX7_growTree 84 = .ok (.getfield 81, 3) := by decide +kernel
theorem dX7_growTree_87 : decode cX7_growTree 87 = .ok (.iload_n 1, 1) := by decide +kernel
theorem dX7_growTree_88 : decode cX7_growTree 88 = .ok (.aload_n 0, 1) := by decide +kernel
theorem dX7_growTree_89 : decode cX7_growTree 89 = .ok (.iload_n 1, 1) := by decide +kernel
theorem dX7_growTree_90 : decode cX7_growTree 90 = .ok (.invokevirtual 224, 3) := by decide +kernel
theorem dX7_growTree_93 : decode cX7_growTree 93 = .ok (.iastore, 1) := by decide +kernel
theorem dX7_growTree_94 : decode cX7_growTree 94 = .ok (.aload_n 0, 1) := by decide +kernel
theorem dX7_growTree_95 : decode cX7_growTree 95 = .ok (.getfield 84, 3) := by decide +kernel
theorem dX7_growTree_98 : decode cX7_growTree 98 = .ok (.iload_n 1, 1) := by decide +kernel
theorem dX7_growTree_99 : decode cX7_growTree 99 = .ok (.aload_n 0, 1) := by decide +kernel
theorem dX7_growTree_100 : decode cX7_growTree 100 = .ok (.getfield 221, 3) := by decide +kernel
theorem dX7_growTree_103 : decode cX7_growTree 103 = .ok (.iastore, 1) := by decide +kernel
theorem dX7_growTree_104 : decode cX7_growTree 104 = .ok (.aload_n 0, 1) := by decide +kernel
theorem dX7_growTree_105 : decode cX7_growTree 105 = .ok (.getfield 81, 3) := by decide +kernel
theorem dX7_growTree_108 : decode cX7_growTree 108 = .ok (.iload_n 1, 1) := by decide +kernel
theorem dX7_growTree_109 : decode cX7_growTree 109 = .ok (.iaload, 1) := by decide +kernel
theorem dX7_growTree_110 : decode cX7_growTree 110 = .ok (.ifCond .lt 27, 3) := by decide +kernel
theorem dX7_growTree_113 : decode cX7_growTree 113 = .ok (.aload_n 0, 1) := by decide +kernel
theorem dX7_growTree_114 : decode cX7_growTree 114 = .ok (.iload_n 1, 1) := by decide +kernel
theorem dX7_growTree_115 : decode cX7_growTree 115 = .ok (.aload_n 0, 1) := by decide +kernel
theorem dX7_growTree_116 : decode cX7_growTree 116 = .ok (.getfield 81, 3) := by decide +kernel
theorem dX7_growTree_119 : decode cX7_growTree 119 = .ok (.iload_n 1, 1) := by decide +kernel
theorem dX7_growTree_120 : decode cX7_growTree 120 = .ok (.iaload, 1) := by decide +kernel
theorem dX7_growTree_121 : decode cX7_growTree 121 = .ok (.iconst 0, 1) := by decide +kernel
theorem dX7_growTree_122 : decode cX7_growTree 122 = .ok (.invokevirtual 227, 3) := by decide +kernel
theorem dX7_growTree_125 : decode cX7_growTree 125 = .ok (.aload_n 0, 1) := by decide +kernel
theorem dX7_growTree_126 : decode cX7_growTree 126 = .ok (.iload_n 1, 1) := by decide +kernel
theorem dX7_growTree_127 : decode cX7_growTree 127 = .ok (.aload_n 0, 1) := by decide +kernel
theorem dX7_growTree_128 : decode cX7_growTree 128 = .ok (.getfield 81, 3) := by decide +kernel
theorem dX7_growTree_131 : decode cX7_growTree 131 = .ok (.iload_n 1, 1) := by decide +kernel
theorem dX7_growTree_132 : decode cX7_growTree 132 = .ok (.iaload, 1) := by decide +kernel
theorem dX7_growTree_133 : decode cX7_growTree 133 = .ok (.iconst 1, 1) := by decide +kernel
theorem dX7_growTree_134 : decode cX7_growTree 134 = .ok (.invokevirtual 227, 3) := by decide +kernel
theorem dX7_growTree_137 : decode cX7_growTree 137 = .ok (.iinc 1 1, 3) := by decide +kernel
theorem dX7_growTree_140 : decode cX7_growTree 140 = .ok (.goto (-65), 3) := by decide +kernel
theorem dX7_growTree_143 : decode cX7_growTree 143 = .ok (.return_, 1) := by decide +kernel
theorem dX7_grow_0 : decode cX7_grow 0 = .ok (.iload_n 1, 1) := by decide +kernel
theorem dX7_grow_1 : decode cX7_grow 1 = .ok (.iconst 0, 1) := by decide +kernel
theorem dX7_grow_2 : decode cX7_grow 2 = .ok (.iconst 1, 1) := by decide +kernel
theorem dX7_grow_3 : decode cX7_grow 3 = .ok (.invokestatic 100, 3) := by decide +kernel
theorem dX7_grow_6 : decode cX7_grow 6 = .ok (.ifCond .eq 21, 3) := by decide +kernel
theorem dX7_grow_9 : decode cX7_grow 9 = .ok (.iload_n 2, 1) := by decide +kernel
theorem dX7_grow_10 : decode cX7_grow 10 = .ok (.iconst 1, 1) := by decide +kernel
theorem dX7_grow_11 : decode cX7_grow 11 = .ok (.iload_n 1, 1) := by decide +kernel
theorem dX7_grow_12 : decode cX7_grow 12 = .ok (.ifCond .ne 7, 3) := by decide +kernel
theorem dX7_grow_15 : decode cX7_grow 15 = .ok (.iconst 4, 1) := by decide +kernel
theorem dX7_grow_16 : decode cX7_grow 16 = .ok (.goto 5, 3) := by decide +kernel
theorem dX7_grow_19 : decode cX7_grow 19 = .ok (.bipush 8, 2) := by decide +kernel
theorem dX7_grow_21 : decode cX7_grow 21 = .ok (.invokestatic 100, 3) := by decide +kernel
theorem dX7_grow_24 : decode cX7_grow 24 = .ok (.ifCond .ne 6, 3) := by decide +kernel
theorem dX7_grow_27 : decode cX7_grow 27 = .ok (.bipush (-2), 2) := by decide +kernel
theorem dX7_grow_29 : decode cX7_grow 29 = .ok (.ireturn, 1) := by decide +kernel
theorem dX7_grow_30 : decode cX7_grow 30 = .ok (.iload_n 1, 1) := by decide +kernel
theorem dX7_grow_31 : decode cX7_grow 31 = .ok (.ifCond .ne 10, 3) := by decide +kernel
theorem dX7_grow_34 : decode cX7_grow 34 = .ok (.aload_n 0, 1) := by decide +kernel
theorem dX7_grow_35 : decode cX7_grow 35 = .ok (.getfield 22, 3) := by decide +kernel
theorem dX7_grow_38 : decode cX7_grow 38 = .ok (.goto 7, 3) := by decide +kernel
theorem dX7_grow_41 : decode cX7_grow 41 = .ok (.aload_n 0, 1) := by decide +kernel
theorem dX7_grow_42 : decode cX7_grow 42 = .ok (.getfield 26, 3) := by decide +kernel
theorem dX7_grow_45 : decode cX7_grow 45 = .ok (.istore_n 3, 1) := by decide +kernel
theorem dX7_grow_46 : decode cX7_grow 46 = .ok (.aload_n 0, 1) := by decide +kernel
theorem dX7_grow_47 : decode cX7_grow 47 = .ok (.iload_n 1, 1) := by decide +kernel
theorem dX7_grow_48 : decode cX7_grow 48 = .ok (.ifCond .ne 7, 3) := by decide +kernel
theorem dX7_grow_51 : decode cX7_grow 51 = .ok (.iload_n 2, 1) := by decide +kernel
theorem dX7_grow_52 : decode cX7_grow 52 = .ok (.goto 7, 3) := by decide +kernel
theorem dX7_grow_55 : decode cX7_grow 55 = .ok (.aload_n 0, 1) := by decide +kernel
theorem dX7_grow_56 : decode cX7_grow 56 = .ok (.getfield 22, 3) := by decide +kernel
theorem dX7_grow_59 : decode cX7_grow 59 = .ok (.putfield 22, 3) := by decide +kernel
theorem dX7_grow_62 : decode cX7_grow 62 = .ok (.aload_n 0, 1) := by decide +kernel
theorem dX7_grow_63 : decode cX7_grow 63 = .ok (.iload_n 1, 1) := by decide +kernel
theorem dX7_grow_64 : decode cX7_grow 64 = .ok (.iconst 1, 1) := by decide +kernel
theorem dX7_grow_65 : decode cX7_grow 65 = .ok (.if_icmp .ne 7, 3) := by decide +kernel
theorem dX7_grow_68 : decode cX7_grow 68 = .ok (.iload_n 2, 1) := by decide +kernel
theorem dX7_grow_69 : decode cX7_grow 69 = .ok (.goto 7, 3) := by decide +kernel
theorem dX7_grow_72 : decode cX7_grow 72 = .ok (.aload_n 0, 1) := by decide +kernel
theorem dX7_grow_73 : decode cX7_grow 73 = .ok (.getfield 26, 3) := by decide +kernel
theorem dX7_grow_76 : decode cX7_grow 76 = .ok (.putfield 26, 3) := by decide +kernel
theorem dX7_grow_79 : decode cX7_grow 79 = .ok (.aload_n 0, 1) := by decide +kernel
theorem dX7_grow_80 : decode cX7_grow 80 = .ok (.iconst 0, 1) := by decide +kernel
theorem dX7_grow_81 : decode cX7_grow 81 = .ok (.putfield 121, 3) := by decide +kernel
theorem dX7_grow_84 : decode cX7_grow 84 = .ok (.iload_n 3, 1) := by decide +kernel
theorem dX7_grow_85 : decode cX7_grow 85 = .ok (.ireturn, 1) := by decide +kernel
theorem dX7_tree_0 : decode cX7_tree 0 = .ok (.iload_n 1, 1) := by decide +kernel
theorem dX7_tree_1 : decode cX7_tree 1 = .ok (.iconst 0, 1) := by decide +kernel
theorem dX7_tree_2 : decode cX7_tree 2 = .ok (.iconst 5, 1) := by decide +kernel
theorem dX7_tree_3 : decode cX7_tree 3 = .ok (.invokestatic 100, 3) := by decide +kernel
theorem dX7_tree_6 : decode cX7_tree 6 = .ok (.ifCond .ne 6, 3) := by decide +kernel
theorem dX7_tree_9 : decode cX7_tree 9 = .ok (.bipush (-2), 2) := by decide +kernel
theorem dX7_tree_11 : decode cX7_tree 11 = .ok (.ireturn, 1) := by decide +kernel
theorem dX7_tree_12 : decode cX7_tree 12 = .ok (.aload_n 0, 1) := by decide +kernel
theorem dX7_tree_13 : decode cX7_tree 13 = .ok (.invokevirtual 231, 3) := by decide +kernel
theorem dX7_tree_16 : decode cX7_tree 16 = .ok (.iconst 0, 1) := by decide +kernel
theorem dX7_tree_17 : decode cX7_tree 17 = .ok (.istore_n 2, 1) := by decide +kernel
theorem dX7_tree_18 : decode cX7_tree 18 = .ok (.iconst 0, 1) := by decide +kernel
theorem dX7_tree_19 : decode cX7_tree 19 = .ok (.istore_n 3, 1) := by decide +kernel
theorem dX7_tree_20 : decode cX7_tree 20 = .ok (.iconst 0, 1) := by decide +kernel
theorem dX7_tree_21 : decode cX7_tree 21 = .ok (.istore 4, 2) := by decide +kernel
theorem dX7_tree_23 : decode cX7_tree 23 = .ok (.iconst 0, 1) := by decide +kernel
theorem dX7_tree_24 : decode cX7_tree 24 = .ok (.istore 5, 2) := by decide +kernel
theorem dX7_tree_26 : decode cX7_tree 26 = .ok (.iconst 0, 1) := by decide +kernel
theorem dX7_tree_27 : decode cX7_tree 27 = .ok (.istore 6, 2) := by decide +kernel
theorem dX7_tree_29 : decode cX7_tree 29 = .ok (.iconst 0, 1) := by decide +kernel
theorem dX7_tree_30 : decode cX7_tree 30 = .ok (.istore 7, 2) := by decide +kernel
theorem dX7_tree_32 : decode cX7_tree 32 = .ok (.iload 7, 2) := by decide +kernel
theorem dX7_tree_34 : decode cX7_tree 34 = .ok (.aload_n 0, 1) := by decide +kernel
theorem dX7_tree_35 : decode cX7_tree 35 = .ok (.getfield 221, 3) := by decide +kernel
theorem dX7_tree_38 : decode cX7_tree 38 = .ok (.if_icmp .ge 95, 3) := by decide +kernel
theorem dX7_tree_41 : decode cX7_tree 41 = .ok (.aload_n 0, 1) := by decide +kernel
theorem dX7_tree_42 : decode cX7_tree 42 = .ok (.getfield 78, 3) := by decide +kernel
theorem dX7_tree_45 : decode cX7_tree 45 = .ok (.iload 7, 2) := by decide +kernel
theorem dX7_tree_47 : decode cX7_tree 47 = .ok (.iaload, 1) := by decide +kernel
theorem dX7_tree_48 : decode cX7_tree 48 = .ok (.iload_n 3, 1) := by decide +kernel
theorem dX7_tree_49 : decode cX7_tree 49 = .ok (.if_icmp .le 13, 3) := by decide +kernel
theorem dX7_tree_52 : decode cX7_tree 52 = .ok (.aload_n 0, 1) := by decide +kernel
theorem dX7_tree_53 : decode cX7_tree 53 = .ok (.getfield 78, 3) := by decide +kernel
theorem dX7_tree_56 : decode cX7_tree 56 = .ok (.iload 7, 2) := by decide +kernel
theorem dX7_tree_58 : decode cX7_tree 58 = .ok (.iaload, 1) := by decide +kernel
theorem dX7_tree_59 : decode cX7_tree 59 = .ok (.goto 4, 3) := by decide +kernel
theorem dX7_tree_62 : decode cX7_tree 62 = .ok (.iload_n 3, 1) := by decide +kernel
theorem dX7_tree_63 : decode cX7_tree 63 = .ok (.istore_n 3, 1) := by decide +kernel
theorem dX7_tree_64 : decode cX7_tree 64 = .ok (.aload_n 0, 1) := by decide +kernel
theorem dX7_tree_65 : decode cX7_tree 65 = .ok (.getfield 81, 3) := by decide +kernel
theorem dX7_tree_68 : decode cX7_tree 68 = .ok (.iload 7, 2) := by decide +kernel
theorem dX7_tree_70 : decode cX7_tree 70 = .ok (.iaload, 1) := by decide +kernel
theorem dX7_tree_71 : decode cX7_tree 71 = .ok (.ifCond .ge 56, 3) := by decide +kernel
theorem dX7_tree_74 : decode cX7_tree 74 = .ok (.aload_n 0, 1) := by decide +kernel
theorem dX7_tree_75 : decode cX7_tree 75 = .ok (.getfield 75, 3) := by decide +kernel
theorem dX7_tree_78 : decode cX7_tree 78 = .ok (.iload 7, 2) := by decide +kernel
theorem dX7_tree_80 : decode cX7_tree 80 = .ok (.iaload, 1) := by decide +kernel
theorem dX7_tree_81 : decode cX7_tree 81 = .ok (.invokestatic 208, 3) := by decide +kernel
theorem dX7_tree_84 : decode cX7_tree 84 = .ok (.istore 8, 2) := by decide +kernel
theorem dX7_tree_86 : decode cX7_tree 86 = .ok (.iinc 2 1, 3) := by decide +kernel
theorem dX7_tree_89 : decode cX7_tree 89 = .ok (.iload 4, 2) := by decide +kernel
theorem dX7_tree_91 : decode cX7_tree 91 = .ok (.iload 8, 2) := by decide +kernel
theorem dX7_tree_93 : decode cX7_tree 93 = .ok (.iadd, 1) := by decide +kernel
theorem dX7_tree_94 : decode cX7_tree 94 = .ok (.istore 4, 2) := by decide +kernel
theorem dX7_tree_96 : decode cX7_tree 96 = .ok (.iload 8, 2) := by decide +kernel
theorem dX7_tree_98 : decode cX7_tree 98 = .ok (.iload 5, 2) := by decide +kernel
theorem dX7_tree_100 : decode cX7_tree 100 = .ok (.if_icmp .le 8, 3) := by decide +kernel
theorem dX7_tree_103 : decode cX7_tree 103 = .ok (.iload 8, 2) := by decide +kernel
theorem dX7_tree_105 : decode cX7_tree 105 = .ok (.goto 5, 3) := by decide +kernel
theorem dX7_tree_108 : decode cX7_tree 108 = .ok (.iload 5, 2) := by decide +kernel
theorem dX7_tree_110 : decode cX7_tree 110 = .ok (.istore 5, 2) := by decide +kernel
theorem dX7_tree_112 : decode cX7_tree 112 = .ok (.iload 6, 2) := by decide +kernel
theorem dX7_tree_114 : decode cX7_tree 114 = .ok (.iload 8, 2) := by decide +kernel
theorem dX7_tree_116 : decode cX7_tree 116 = .ok (.ifCond .ne 7, 3) := by decide +kernel
theorem dX7_tree_119 : decode cX7_tree 119 = .ok (.iconst 1, 1) := by decide +kernel
theorem dX7_tree_120 : decode cX7_tree 120 = .ok (.goto 4, 3) := by decide +kernel
theorem dX7_tree_123 : decode cX7_tree 123 = .ok (.iconst 0, 1) := by decide +kernel
theorem dX7_tree_124 : decode cX7_tree 124 = .ok (.iadd, 1) := by decide +kernel
theorem dX7_tree_125 : decode cX7_tree 125 = .ok (.istore 6, 2) := by decide +kernel
theorem dX7_tree_127 : decode cX7_tree 127 = .ok (.iinc 7 1, 3) := by decide +kernel
theorem dX7_tree_130 : decode cX7_tree 130 = .ok (.goto (-98), 3) := by decide +kernel
theorem dX7_tree_133 : decode cX7_tree 133 = .ok (.iload_n 1, 1) := by decide +kernel
theorem dX7_tree_134 : decode cX7_tree 134 = .ok (.ifCond .ne 10, 3) := by decide +kernel
theorem dX7_tree_137 : decode cX7_tree 137 = .ok (.aload_n 0, 1) := by decide +kernel
theorem dX7_tree_138 : decode cX7_tree 138 = .ok (.getfield 221, 3) := by decide +kernel
theorem dX7_tree_141 : decode cX7_tree 141 = .ok (.goto 43, 3) := by decide +kernel
theorem dX7_tree_144 : decode cX7_tree 144 = .ok (.iload_n 1, 1) := by decide +kernel
theorem dX7_tree_145 : decode cX7_tree 145 = .ok (.iconst 1, 1) := by decide +kernel
theorem dX7_tree_146 : decode cX7_tree 146 = .ok (.if_icmp .ne 7, 3) := by decide +kernel
theorem dX7_tree_149 : decode cX7_tree 149 = .ok (.iload_n 2, 1) := by decide +kernel
theorem dX7_tree_150 : decode cX7_tree 150 = .ok (.goto 34, 3) := by decide +kernel
theorem dX7_tree_153 : decode cX7_tree 153 = .ok (.iload_n 1, 1) := by decide +kernel
theorem dX7_tree_154 : decode cX7_tree 154 = .ok (.iconst 2, 1) := by decide +kernel
theorem dX7_tree_155 : decode cX7_tree 155 = .ok (.if_icmp .ne 7, 3) := by decide +kernel
theorem dX7_tree_158 : decode cX7_tree 158 = .ok (.iload_n 3, 1) := by decide +kernel
theorem dX7_tree_159 : decode cX7_tree 159 = .ok (.goto 25, 3) := by decide +kernel
theorem dX7_tree_162 : decode cX7_tree 162 = .ok (.iload_n 1, 1) := by decide +kernel
theorem dX7_tree_163 : decode cX7_tree 163 = .ok (.iconst 3, 1) := by decide +kernel
theorem dX7_tree_164 : decode cX7_tree 164 = .ok (.if_icmp .ne 8, 3) := by decide +kernel
theorem dX7_tree_167 : decode cX7_tree 167 = .ok (.iload 4, 2) := by decide +kernel
theorem dX7_tree_169 : decode cX7_tree 169 = .ok (.goto 15, 3) := by decide +kernel
theorem dX7_tree_172 : decode cX7_tree 172 = .ok (.iload_n 1, 1) := by decide +kernel
theorem dX7_tree_173 : decode cX7_tree 173 = .ok (.iconst 4, 1) := by decide +kernel
theorem dX7_tree_174 : decode cX7_tree 174 = .ok (.if_icmp .ne 8, 3) := by decide +kernel
theorem dX7_tree_177 : decode cX7_tree 177 = .ok (.iload 5, 2) := by decide +kernel
theorem dX7_tree_179 : decode cX7_tree 179 = .ok (.goto 5, 3) := by decide +kernel
theorem dX7_tree_182 : decode cX7_tree 182 = .ok (.iload 6, 2) := by decide +kernel
theorem dX7_tree_184 : decode cX7_tree 184 = .ok (.ireturn, 1) := by decide +kernel
theorem dX7_looked_0 : decode cX7_looked 0 = .ok (.iconst 0, 1) := by decide +kernel
theorem dX7_looked_1 : decode cX7_looked 1 = .ok (.istore_n 3, 1) := by decide +kernel
theorem dX7_looked_2 : decode cX7_looked 2 = .ok (.iconst 0, 1) := by decide +kernel
theorem dX7_looked_3 : decode cX7_looked 3 = .ok (.istore 4, 2) := by decide +kernel
theorem dX7_looked_5 : decode cX7_looked 5 = .ok (.iload 4, 2) := by decide +kernel
theorem dX7_looked_7 : decode cX7_looked 7 = .ok (.aload_n 0, 1) := by decide +kernel
theorem dX7_looked_8 : decode cX7_looked 8 = .ok (.getfield 104, 3) := by decide +kernel
theorem dX7_looked_11 : decode cX7_looked 11 = .ok (.if_icmp .ge 32, 3) := by decide +kernel
theorem dX7_looked_14 : decode cX7_looked 14 = .ok (.iload_n 1, 1) := by decide +kernel
theorem dX7_looked_15 : decode cX7_looked 15 = .ok (.iload 4, 2) := by decide +kernel
theorem dX7_looked_17 : decode cX7_looked 17 = .ok (.invokestatic 107, 3) := by decide +kernel
theorem dX7_looked_20 : decode cX7_looked 20 = .ok (.ifCond .eq 17, 3) := by decide +kernel
theorem dX7_looked_23 : decode cX7_looked 23 = .ok (.iinc 3 1, 3) := by decide +kernel
theorem dX7_looked_26 : decode cX7_looked 26 = .ok (.iload_n 2, 1) := by decide +kernel
theorem dX7_looked_27 : decode cX7_looked 27 = .ok (.iload 4, 2) := by decide +kernel
theorem dX7_looked_29 : decode cX7_looked 29 = .ok (.invokestatic 107, 3) := by decide +kernel
theorem dX7_looked_32 : decode cX7_looked 32 = .ok (.ifCond .eq 5, 3) := by decide +kernel
theorem dX7_looked_35 : decode cX7_looked 35 = .ok (.iload_n 3, 1) := by decide +kernel
theorem dX7_looked_36 : decode cX7_looked 36 = .ok (.ireturn, 1) := by decide +kernel
theorem dX7_looked_37 : decode cX7_looked 37 = .ok (.iinc 4 1, 3) := by decide +kernel
theorem dX7_looked_40 : decode cX7_looked 40 = .ok (.goto (-35), 3) := by decide +kernel
theorem dX7_looked_43 : decode cX7_looked 43 = .ok (.iload_n 3, 1) := by decide +kernel
theorem dX7_looked_44 : decode cX7_looked 44 = .ok (.ireturn, 1) := by decide +kernel
theorem dX7_walk_0 : decode cX7_walk 0 = .ok (.iload_n 1, 1) := by decide +kernel
theorem dX7_walk_1 : decode cX7_walk 1 = .ok (.iload_n 2, 1) := by decide +kernel
theorem dX7_walk_2 : decode cX7_walk 2 = .ok (.iload_n 3, 1) := by decide +kernel
theorem dX7_walk_3 : decode cX7_walk 3 = .ok (.iload 4, 2) := by decide +kernel
theorem dX7_walk_5 : decode cX7_walk 5 = .ok (.invokestatic 150, 3) := by decide +kernel
theorem dX7_walk_8 : decode cX7_walk 8 = .ok (.ifCond .eq 25, 3) := by decide +kernel
theorem dX7_walk_11 : decode cX7_walk 11 = .ok (.iload 5, 2) := by decide +kernel
theorem dX7_walk_13 : decode cX7_walk 13 = .ok (.iconst 0, 1) := by decide +kernel
theorem dX7_walk_14 : decode cX7_walk 14 = .ok (.iconst 2, 1) := by decide +kernel
theorem dX7_walk_15 : decode cX7_walk 15 = .ok (.invokestatic 100, 3) := by decide +kernel
theorem dX7_walk_18 : decode cX7_walk 18 = .ok (.ifCond .ne 18, 3) := by decide +kernel
theorem dX7_walk_21 : decode cX7_walk 21 = .ok (.iload 5, 2) := by decide +kernel
theorem dX7_walk_23 : decode cX7_walk 23 = .ok (.bipush 10, 2) := by decide +kernel
theorem dX7_walk_25 : decode cX7_walk 25 = .ok (.bipush 13, 2) := by decide +kernel
theorem dX7_walk_27 : decode cX7_walk 27 = .ok (.invokestatic 100, 3) := by decide +kernel
theorem dX7_walk_30 : decode cX7_walk 30 = .ok (.ifCond .ne 6, 3) := by decide +kernel
theorem dX7_walk_33 : decode cX7_walk 33 = .ok (.bipush (-2), 2) := by decide +kernel
theorem dX7_walk_35 : decode cX7_walk 35 = .ok (.ireturn, 1) := by decide +kernel
theorem dX7_walk_36 : decode cX7_walk 36 = .ok (.aload_n 0, 1) := by decide +kernel
theorem dX7_walk_37 : decode cX7_walk 37 = .ok (.invokevirtual 231, 3) := by decide +kernel
theorem dX7_walk_40 : decode cX7_walk 40 = .ok (.iconst 0, 1) := by decide +kernel
theorem dX7_walk_41 : decode cX7_walk 41 = .ok (.istore 6, 2) := by decide +kernel
theorem dX7_walk_43 : decode cX7_walk 43 = .ok (.iconst 0, 1) := by decide +kernel
theorem dX7_walk_44 : decode cX7_walk 44 = .ok (.istore 7, 2) := by decide +kernel
theorem dX7_walk_46 : decode cX7_walk 46 = .ok (.aload_n 0, 1) := by decide +kernel
theorem dX7_walk_47 : decode cX7_walk 47 = .ok (.getfield 81, 3) := by decide +kernel
theorem dX7_walk_50 : decode cX7_walk 50 = .ok (.iload 6, 2) := by decide +kernel
theorem dX7_walk_52 : decode cX7_walk 52 = .ok (.iaload, 1) := by decide +kernel
theorem dX7_walk_53 : decode cX7_walk 53 = .ok (.ifCond .lt 105, 3) := by decide +kernel
theorem dX7_walk_56 : decode cX7_walk 56 = .ok (.aload_n 0, 1) := by decide +kernel
theorem dX7_walk_57 : decode cX7_walk 57 = .ok (.getfield 81, 3) := by decide +kernel
theorem dX7_walk_60 : decode cX7_walk 60 = .ok (.iload 6, 2) := by decide +kernel
theorem dX7_walk_62 : decode cX7_walk 62 = .ok (.iaload, 1) := by decide +kernel
theorem dX7_walk_63 : decode cX7_walk 63 = .ok (.istore 8, 2) := by decide +kernel
theorem dX7_walk_65 : decode cX7_walk 65 = .ok (.iload 8, 2) := by decide +kernel
theorem dX7_walk_67 : decode cX7_walk 67 = .ok (.ifCond .ne 7, 3) := by decide +kernel
theorem dX7_walk_70 : decode cX7_walk 70 = .ok (.iload_n 1, 1) := by decide +kernel
theorem dX7_walk_71 : decode cX7_walk 71 = .ok (.goto 25, 3) := by decide +kernel
theorem dX7_walk_74 : decode cX7_walk 74 = .ok (.iload 8, 2) := by decide +kernel
theorem dX7_walk_76 : decode cX7_walk 76 = .ok (.iconst 1, 1) := by decide +kernel
theorem dX7_walk_77 : decode cX7_walk 77 = .ok (.if_icmp .ne 7, 3) := by decide +kernel
theorem dX7_walk_80 : decode cX7_walk 80 = .ok (.iload_n 2, 1) := by decide +kernel
theorem dX7_walk_81 : decode cX7_walk 81 = .ok (.goto 15, 3) := by decide +kernel
theorem dX7_walk_84 : decode cX7_walk 84 = .ok (.iload 8, 2) := by decide +kernel
theorem dX7_walk_86 : decode cX7_walk 86 = .ok (.iconst 2, 1) := by decide +kernel
theorem dX7_walk_87 : decode cX7_walk 87 = .ok (.if_icmp .ne 7, 3) := by decide +kernel
theorem dX7_walk_90 : decode cX7_walk 90 = .ok (.iload_n 3, 1) := by decide +kernel
theorem dX7_walk_91 : decode cX7_walk 91 = .ok (.goto 5, 3) := by decide +kernel
theorem dX7_walk_94 : decode cX7_walk 94 = .ok (.iload 4, 2) := by decide +kernel
theorem dX7_walk_96 : decode cX7_walk 96 = .ok (.istore 9, 2) := by decide +kernel
theorem dX7_walk_98 : decode cX7_walk 98 = .ok (.iload 7, 2) := by decide +kernel
theorem dX7_walk_100 : decode cX7_walk 100 = .ok (.iload 8, 2) := by decide +kernel
theorem dX7_walk_102 : decode cX7_walk 102 = .ok (.iload 5, 2) := by decide +kernel
theorem dX7_walk_104 : decode cX7_walk 104 = .ok (.bipush 10, 2) := by decide +kernel
theorem dX7_walk_106 : decode cX7_walk 106 = .ok (.isub, 1) := by decide +kernel
theorem dX7_walk_107 : decode cX7_walk 107 = .ok (.if_icmp .ne 7, 3) := by decide +kernel
theorem dX7_walk_110 : decode cX7_walk 110 = .ok (.iconst 1, 1) := by decide +kernel
theorem dX7_walk_111 : decode cX7_walk 111 = .ok (.goto 4, 3) := by decide +kernel
theorem dX7_walk_114 : decode cX7_walk 114 = .ok (.iconst 0, 1) := by decide +kernel
theorem dX7_walk_115 : decode cX7_walk 115 = .ok (.iadd, 1) := by decide +kernel
theorem dX7_walk_116 : decode cX7_walk 116 = .ok (.istore 7, 2) := by decide +kernel
theorem dX7_walk_118 : decode cX7_walk 118 = .ok (.aload_n 0, 1) := by decide +kernel
theorem dX7_walk_119 : decode cX7_walk 119 = .ok (.getfield 84, 3) := by decide +kernel
theorem dX7_walk_122 : decode cX7_walk 122 = .ok (.iload 6, 2) := by decide +kernel
theorem dX7_walk_124 : decode cX7_walk 124 = .ok (.iaload, 1) := by decide +kernel
theorem dX7_walk_125 : decode cX7_walk 125 = .ok (.iload 9, 2) := by decide +kernel
theorem dX7_walk_127 : decode cX7_walk 127 = .ok (.aload_n 0, 1) := by decide +kernel
theorem dX7_walk_128 : decode cX7_walk 128 = .ok (.getfield 72, 3) := by decide +kernel
theorem dX7_walk_131 : decode cX7_walk 131 = .ok (.iconst 4, 1) := by decide +kernel
theorem dX7_walk_132 : decode cX7_walk 132 = .ok (.aload_n 0, 1) := by decide +kernel
theorem dX7_walk_133 : decode cX7_walk 133 = .ok (.getfield 84, 3) := by decide +kernel
theorem dX7_walk_136 : decode cX7_walk 136 = .ok (.iload 6, 2) := by decide +kernel
theorem dX7_walk_138 : decode cX7_walk 138 = .ok (.iaload, 1) := by decide +kernel
theorem dX7_walk_139 : decode cX7_walk 139 = .ok (.imul, 1) := by decide +kernel
theorem dX7_walk_140 : decode cX7_walk 140 = .ok (.iload 8, 2) := by decide +kernel
theorem dX7_walk_142 : decode cX7_walk 142 = .ok (.iadd, 1) := by decide +kernel
theorem dX7_walk_143 : decode cX7_walk 143 = .ok (.iaload, 1) := by decide +kernel
theorem dX7_walk_144 : decode cX7_walk 144 = .ok (.if_icmp .le 7, 3) := by decide +kernel
theorem dX7_walk_147 : decode cX7_walk 147 = .ok (.iconst 1, 1) := by decide +kernel
theorem dX7_walk_148 : decode cX7_walk 148 = .ok (.goto 4, 3) := by decide +kernel
theorem dX7_walk_151 : decode cX7_walk 151 = .ok (.iconst 0, 1) := by decide +kernel
theorem dX7_walk_152 : decode cX7_walk 152 = .ok (.iadd, 1) := by decide +kernel
theorem dX7_walk_153 : decode cX7_walk 153 = .ok (.istore 6, 2) := by decide +kernel
theorem dX7_walk_155 : decode cX7_walk 155 = .ok (.goto (-109), 3) := by decide +kernel
theorem dX7_walk_158 : decode cX7_walk 158 = .ok (.iload 5, 2) := by decide +kernel
theorem dX7_walk_160 : decode cX7_walk 160 = .ok (.bipush 9, 2) := by decide +kernel
theorem dX7_walk_162 : decode cX7_walk 162 = .ok (.if_icmp .le 6, 3) := by decide +kernel
theorem dX7_walk_165 : decode cX7_walk 165 = .ok (.iload 7, 2) := by decide +kernel
theorem dX7_walk_167 : decode cX7_walk 167 = .ok (.ireturn, 1) := by decide +kernel
theorem dX7_walk_168 : decode cX7_walk 168 = .ok (.iload 5, 2) := by decide +kernel
theorem dX7_walk_170 : decode cX7_walk 170 = .ok (.ifCond .ne 13, 3) := by decide +kernel
theorem dX7_walk_173 : decode cX7_walk 173 = .ok (.aload_n 0, 1) := by decide +kernel
theorem dX7_walk_174 : decode cX7_walk 174 = .ok (.getfield 78, 3) := by decide +kernel
theorem dX7_walk_177 : decode cX7_walk 177 = .ok (.iload 6, 2) := by decide +kernel
theorem dX7_walk_179 : decode cX7_walk 179 = .ok (.iaload, 1) := by decide +kernel
theorem dX7_walk_180 : decode cX7_walk 180 = .ok (.goto 42, 3) := by decide +kernel
theorem dX7_walk_183 : decode cX7_walk 183 = .ok (.iload 5, 2) := by decide +kernel
theorem dX7_walk_185 : decode cX7_walk 185 = .ok (.iconst 1, 1) := by decide +kernel
theorem dX7_walk_186 : decode cX7_walk 186 = .ok (.if_icmp .ne 16, 3) := by decide +kernel
theorem dX7_walk_189 : decode cX7_walk 189 = .ok (.aload_n 0, 1) := by decide +kernel
theorem dX7_walk_190 : decode cX7_walk 190 = .ok (.getfield 75, 3) := by decide +kernel
theorem dX7_walk_193 : decode cX7_walk 193 = .ok (.iload 6, 2) := by decide +kernel
theorem dX7_walk_195 : decode cX7_walk 195 = .ok (.iaload, 1) := by decide +kernel
theorem dX7_walk_196 : decode cX7_walk 196 = .ok (.invokestatic 208, 3) := by decide +kernel
theorem dX7_walk_199 : decode cX7_walk 199 = .ok (.goto 23, 3) := by decide +kernel
theorem dX7_walk_202 : decode cX7_walk 202 = .ok (.aload_n 0, 1) := by decide +kernel
theorem dX7_walk_203 : decode cX7_walk 203 = .ok (.aload_n 0, 1) := by decide +kernel
theorem dX7_walk_204 : decode cX7_walk 204 = .ok (.getfield 75, 3) := by decide +kernel
theorem dX7_walk_207 : decode cX7_walk 207 = .ok (.iload 6, 2) := by decide +kernel
theorem dX7_walk_209 : decode cX7_walk 209 = .ok (.iaload, 1) := by decide +kernel
theorem dX7_walk_210 : decode cX7_walk 210 = .ok (.aload_n 0, 1) := by decide +kernel
theorem dX7_walk_211 : decode cX7_walk 211 = .ok (.iload_n 1, 1) := by decide +kernel
theorem dX7_walk_212 : decode cX7_walk 212 = .ok (.iload_n 2, 1) := by decide +kernel
theorem dX7_walk_213 : decode cX7_walk 213 = .ok (.iload_n 3, 1) := by decide +kernel
theorem dX7_walk_214 : decode cX7_walk 214 = .ok (.iload 4, 2) := by decide +kernel
theorem dX7_walk_216 : decode cX7_walk 216 = .ok (.invokevirtual 154, 3) := by decide +kernel
theorem dX7_walk_219 : decode cX7_walk 219 = .ok (.invokevirtual 234, 3) := by decide +kernel
theorem dX7_walk_222 : decode cX7_walk 222 = .ok (.ireturn, 1) := by decide +kernel
theorem dX7_image_0 : decode cX7_image 0 = .ok (.iload_n 1, 1) := by decide +kernel
theorem dX7_image_1 : decode cX7_image 1 = .ok (.iconst 0, 1) := by decide +kernel
theorem dX7_image_2 : decode cX7_image 2 = .ok (.iconst 1, 1) := by decide +kernel
theorem dX7_image_3 : decode cX7_image 3 = .ok (.invokestatic 100, 3) := by decide +kernel
theorem dX7_image_6 : decode cX7_image 6 = .ok (.ifCond .ne 6, 3) := by decide +kernel
theorem dX7_image_9 : decode cX7_image 9 = .ok (.bipush (-2), 2) := by decide +kernel
theorem dX7_image_11 : decode cX7_image 11 = .ok (.ireturn, 1) := by decide +kernel
theorem dX7_image_12 : decode cX7_image 12 = .ok (.sipush 163, 3) := by decide +kernel
theorem dX7_image_15 : decode cX7_image 15 = .ok (.iload_n 1, 1) := by decide +kernel
theorem dX7_image_16 : decode cX7_image 16 = .ok (.imul, 1) := by decide +kernel
theorem dX7_image_17 : decode cX7_image 17 = .ok (.istore_n 2, 1) := by decide +kernel
theorem dX7_image_18 : decode cX7_image 18 = .ok (.iconst 0, 1) := by decide +kernel
theorem dX7_image_19 : decode cX7_image 19 = .ok (.istore_n 3, 1) := by decide +kernel
theorem dX7_image_20 : decode cX7_image 20 = .ok (.iload_n 3, 1) := by decide +kernel
theorem dX7_image_21 : decode cX7_image 21 = .ok (.bipush 64, 2) := by decide +kernel
theorem dX7_image_23 : decode cX7_image 23 = .ok (.if_icmp .ge 40, 3) := by decide +kernel
theorem dX7_image_26 : decode cX7_image 26 = .ok (.aload_n 0, 1) := by decide +kernel
theorem dX7_image_27 : decode cX7_image 27 = .ok (.getfield 87, 3) := by decide +kernel
theorem dX7_image_30 : decode cX7_image 30 = .ok (.iload_n 2, 1) := by decide +kernel
theorem dX7_image_31 : decode cX7_image 31 = .ok (.iload_n 3, 1) := by decide +kernel
theorem dX7_image_32 : decode cX7_image 32 = .ok (.iadd, 1) := by decide +kernel
theorem dX7_image_33 : decode cX7_image 33 = .ok (.aload_n 0, 1) := by decide +kernel
theorem dX7_image_34 : decode cX7_image 34 = .ok (.getfield 7, 3) := by decide +kernel
theorem dX7_image_37 : decode cX7_image 37 = .ok (.iload_n 3, 1) := by decide +kernel
theorem dX7_image_38 : decode cX7_image 38 = .ok (.iaload, 1) := by decide +kernel
theorem dX7_image_39 : decode cX7_image 39 = .ok (.iastore, 1) := by decide +kernel
theorem dX7_image_40 : decode cX7_image 40 = .ok (.aload_n 0, 1) := by decide +kernel
theorem dX7_image_41 : decode cX7_image 41 = .ok (.getfield 87, 3) := by decide +kernel
theorem dX7_image_44 : decode cX7_image 44 = .ok (.iload_n 2, 1) := by decide +kernel
theorem dX7_image_45 : decode cX7_image 45 = .ok (.bipush 64, 2) := by decide +kernel
theorem dX7_image_47 : decode cX7_image 47 = .ok (.iadd, 1) := by decide +kernel
theorem dX7_image_48 : decode cX7_image 48 = .ok (.iload_n 3, 1) := by decide +kernel
theorem dX7_image_49 : decode cX7_image 49 = .ok (.iadd, 1) := by decide +kernel
theorem dX7_image_50 : decode cX7_image 50 = .ok (.aload_n 0, 1) := by decide +kernel
theorem dX7_image_51 : decode cX7_image 51 = .ok (.getfield 13, 3) := by decide +kernel
theorem dX7_image_54 : decode cX7_image 54 = .ok (.iload_n 3, 1) := by decide +kernel
theorem dX7_image_55 : decode cX7_image 55 = .ok (.iaload, 1) := by decide +kernel
theorem dX7_image_56 : decode cX7_image 56 = .ok (.iastore, 1) := by decide +kernel
theorem dX7_image_57 : decode cX7_image 57 = .ok (.iinc 3 1, 3) := by decide +kernel
theorem dX7_image_60 : decode cX7_image 60 = .ok (.goto (-40), 3) := by decide +kernel
theorem dX7_image_63 : decode cX7_image 63 = .ok (.iconst 0, 1) := by decide +kernel
theorem dX7_image_64 : decode cX7_image 64 = .ok (.istore_n 3, 1) := by decide +kernel
theorem dX7_image_65 : decode cX7_image 65 = .ok (.iload_n 3, 1) := by decide +kernel
theorem dX7_image_66 : decode cX7_image 66 = .ok (.bipush 16, 2) := by decide +kernel
theorem dX7_image_68 : decode cX7_image 68 = .ok (.if_icmp .ge 45, 3) := by decide +kernel
theorem dX7_image_71 : decode cX7_image 71 = .ok (.aload_n 0, 1) := by decide +kernel
theorem dX7_image_72 : decode cX7_image 72 = .ok (.getfield 87, 3) := by decide +kernel
theorem dX7_image_75 : decode cX7_image 75 = .ok (.iload_n 2, 1) := by decide +kernel
theorem dX7_image_76 : decode cX7_image 76 = .ok (.sipush 128, 3) := by decide +kernel
theorem dX7_image_79 : decode cX7_image 79 = .ok (.iadd, 1) := by decide +kernel
theorem dX7_image_80 : decode cX7_image 80 = .ok (.iload_n 3, 1) := by decide +kernel
theorem dX7_image_81 : decode cX7_image 81 = .ok (.iadd, 1) := by decide +kernel
theorem dX7_image_82 : decode cX7_image 82 = .ok (.aload_n 0, 1) := by decide +kernel
theorem dX7_image_83 : decode cX7_image 83 = .ok (.getfield 16, 3) := by decide +kernel
theorem dX7_image_86 : decode cX7_image 86 = .ok (.iload_n 3, 1) := by decide +kernel
theorem dX7_image_87 : decode cX7_image 87 = .ok (.iaload, 1) := by decide +kernel
theorem dX7_image_88 : decode cX7_image 88 = .ok (.iastore, 1) := by decide +kernel
theorem dX7_image_89 : decode cX7_image 89 = .ok (.aload_n 0, 1) := by decide +kernel
theorem dX7_image_90 : decode cX7_image 90 = .ok (.getfield 87, 3) := by decide +kernel
theorem dX7_image_93 : decode cX7_image 93 = .ok (.iload_n 2, 1) := by decide +kernel
theorem dX7_image_94 : decode cX7_image 94 = .ok (.sipush 144, 3) := by decide +kernel
theorem dX7_image_97 : decode cX7_image 97 = .ok (.iadd, 1) := by decide +kernel
theorem dX7_image_98 : decode cX7_image 98 = .ok (.iload_n 3, 1) := by decide +kernel
theorem dX7_image_99 : decode cX7_image 99 = .ok (.iadd, 1) := by decide +kernel
theorem dX7_image_100 : decode cX7_image 100 = .ok (.aload_n 0, 1) := by decide +kernel
theorem dX7_image_101 : decode cX7_image 101 = .ok (.getfield 19, 3) := by decide +kernel
theorem dX7_image_104 : decode cX7_image 104 = .ok (.iload_n 3, 1) := by decide +kernel
theorem dX7_image_105 : decode cX7_image 105 = .ok (.iaload, 1) := by decide +kernel
theorem dX7_image_106 : decode cX7_image 106 = .ok (.iastore, 1) := by decide +kernel
theorem dX7_image_107 : decode cX7_image 107 = .ok (.iinc 3 1, 3) := by decide +kernel
theorem dX7_image_110 : decode cX7_image 110 = .ok (.goto (-45), 3) := by decide +kernel
theorem dX7_image_113 : decode cX7_image 113 = .ok (.aload_n 0, 1) := by decide +kernel
theorem dX7_image_114 : decode cX7_image 114 = .ok (.getfield 87, 3) := by decide +kernel
theorem dX7_image_117 : decode cX7_image 117 = .ok (.iload_n 2, 1) := by decide +kernel
theorem dX7_image_118 : decode cX7_image 118 = .ok (.sipush 160, 3) := by decide +kernel
theorem dX7_image_121 : decode cX7_image 121 = .ok (.iadd, 1) := by decide +kernel
theorem dX7_image_122 : decode cX7_image 122 = .ok (.aload_n 0, 1) := by decide +kernel
theorem dX7_image_123 : decode cX7_image 123 = .ok (.getfield 104, 3) := by decide +kernel
theorem dX7_image_126 : decode cX7_image 126 = .ok (.iastore, 1) := by decide +kernel
theorem dX7_image_127 : decode cX7_image 127 = .ok (.aload_n 0, 1) := by decide +kernel
theorem dX7_image_128 : decode cX7_image 128 = .ok (.getfield 87, 3) := by decide +kernel
theorem dX7_image_131 : decode cX7_image 131 = .ok (.iload_n 2, 1) := by decide +kernel
theorem dX7_image_132 : decode cX7_image 132 = .ok (.sipush 161, 3) := by decide +kernel
theorem dX7_image_135 : decode cX7_image 135 = .ok (.iadd, 1) := by decide +kernel
theorem dX7_image_136 : decode cX7_image 136 = .ok (.aload_n 0, 1) := by decide +kernel
theorem dX7_image_137 : decode cX7_image 137 = .ok (.getfield 22, 3) := by decide +kernel
theorem dX7_image_140 : decode cX7_image 140 = .ok (.iastore, 1) := by decide +kernel
theorem dX7_image_141 : decode cX7_image 141 = .ok (.aload_n 0, 1) := by decide +kernel
theorem dX7_image_142 : decode cX7_image 142 = .ok (.getfield 87, 3) := by decide +kernel
theorem dX7_image_145 : decode cX7_image 145 = .ok (.iload_n 2, 1) := by decide +kernel
theorem dX7_image_146 : decode cX7_image 146 = .ok (.sipush 162, 3) := by decide +kernel
theorem dX7_image_149 : decode cX7_image 149 = .ok (.iadd, 1) := by decide +kernel
theorem dX7_image_150 : decode cX7_image 150 = .ok (.aload_n 0, 1) := by decide +kernel
theorem dX7_image_151 : decode cX7_image 151 = .ok (.getfield 26, 3) := by decide +kernel
theorem dX7_image_154 : decode cX7_image 154 = .ok (.iastore, 1) := by decide +kernel
theorem dX7_image_155 : decode cX7_image 155 = .ok (.aload_n 0, 1) := by decide +kernel
theorem dX7_image_156 : decode cX7_image 156 = .ok (.getfield 90, 3) := by decide +kernel
theorem dX7_image_159 : decode cX7_image 159 = .ok (.iload_n 1, 1) := by decide +kernel
theorem dX7_image_160 : decode cX7_image 160 = .ok (.iconst 1, 1) := by decide +kernel
theorem dX7_image_161 : decode cX7_image 161 = .ok (.bastore, 1) := by decide +kernel
theorem dX7_image_162 : decode cX7_image 162 = .ok (.iconst 1, 1) := by decide +kernel
theorem dX7_image_163 : decode cX7_image 163 = .ok (.ireturn, 1) := by decide +kernel
theorem dX7_restore_0 : decode cX7_restore 0 = .ok (.iload_n 1, 1) := by decide +kernel
theorem dX7_restore_1 : decode cX7_restore 1 = .ok (.iconst 0, 1) := by decide +kernel
theorem dX7_restore_2 : decode cX7_restore 2 = .ok (.iconst 1, 1) := by decide +kernel
theorem dX7_restore_3 : decode cX7_restore 3 = .ok (.invokestatic 100, 3) := by decide +kernel
theorem dX7_restore_6 : decode cX7_restore 6 = .ok (.ifCond .ne 6, 3) := by decide +kernel
theorem dX7_restore_9 : decode cX7_restore 9 = .ok (.bipush (-2), 2) := by decide +kernel
theorem dX7_restore_11 : decode cX7_restore 11 = .ok (.ireturn, 1) := by decide +kernel
theorem dX7_restore_12 : decode cX7_restore 12 = .ok (.aload_n 0, 1) := by decide +kernel
theorem dX7_restore_13 : decode cX7_restore 13 = .ok (.getfield 90, 3) := by decide +kernel
theorem dX7_restore_16 : decode cX7_restore 16 = .ok (.iload_n 1, 1) := by decide +kernel
theorem dX7_restore_17 : decode cX7_restore 17 = .ok (.baload, 1) := by decide +kernel
theorem dX7_restore_18 : decode cX7_restore 18 = .ok (.ifCond .ne 6, 3) := by decide +kernel
theorem dX7_restore_21 : decode cX7_restore 21 = .ok (.bipush (-3), 2) := by decide +kernel
theorem dX7_restore_23 : decode cX7_restore 23 = .ok (.ireturn, 1) := by decide +kernel
theorem dX7_restore_24 : decode cX7_restore 24 = .ok (.sipush 163, 3) := by decide +kernel
theorem dX7_restore_27 : decode cX7_restore 27 = .ok (.iload_n 1, 1) := by decide +kernel
theorem dX7_restore_28 : decode cX7_restore 28 = .ok (.imul, 1) := by decide +kernel
theorem dX7_restore_29 : decode cX7_restore 29 = .ok (.istore_n 2, 1) := by decide +kernel
theorem dX7_restore_30 : decode cX7_restore 30 = .ok (.iconst 0, 1) := by decide +kernel
theorem dX7_restore_31 : decode cX7_restore 31 = .ok (.istore_n 3, 1) := by decide +kernel
theorem dX7_restore_32 : decode cX7_restore 32 = .ok (.iload_n 3, 1) := by decide +kernel
theorem dX7_restore_33 : decode cX7_restore 33 = .ok (.bipush 64, 2) := by decide +kernel
theorem dX7_restore_35 : decode cX7_restore 35 = .ok (.if_icmp .ge 40, 3) := by decide +kernel
theorem dX7_restore_38 : decode cX7_restore 38 = .ok (.aload_n 0, 1) := by decide +kernel
theorem dX7_restore_39 : decode cX7_restore 39 = .ok (.getfield 7, 3) := by decide +kernel
theorem dX7_restore_42 : decode cX7_restore 42 = .ok (.iload_n 3, 1) := by decide +kernel
theorem dX7_restore_43 : decode cX7_restore 43 = .ok (.aload_n 0, 1) := by decide +kernel
theorem dX7_restore_44 : decode cX7_restore 44 = .ok (.getfield 87, 3) := by decide +kernel
theorem dX7_restore_47 : decode cX7_restore 47 = .ok (.iload_n 2, 1) := by decide +kernel
theorem dX7_restore_48 : decode cX7_restore 48 = .ok (.iload_n 3, 1) := by decide +kernel
theorem dX7_restore_49 : decode cX7_restore 49 = .ok (.iadd, 1) := by decide +kernel
theorem dX7_restore_50 : decode cX7_restore 50 = .ok (.iaload, 1) := by decide +kernel
theorem dX7_restore_51 : decode cX7_restore 51 = .ok (.iastore, 1) := by decide +kernel
theorem dX7_restore_52 : decode cX7_restore 52 = .ok (.aload_n 0, 1) := by decide +kernel
theorem dX7_restore_53 : decode cX7_restore 53 = .ok (.getfield 13, 3) := by decide +kernel
theorem dX7_restore_56 : decode cX7_restore 56 = .ok (.iload_n 3, 1) := by decide +kernel
theorem dX7_restore_57 : decode cX7_restore 57 = .ok (.aload_n 0, 1) := by decide +kernel
theorem dX7_restore_58 : decode cX7_restore 58 = .ok (.getfield 87, 3) := by decide +kernel
theorem dX7_restore_61 : decode cX7_restore 61 = .ok (.iload_n 2, 1) := by decide +kernel
theorem dX7_restore_62 : decode cX7_restore 62 = .ok (.bipush 64, 2) := by decide +kernel
theorem dX7_restore_64 : decode cX7_restore 64 = .ok (.iadd, 1) := by decide +kernel
theorem dX7_restore_65 : decode cX7_restore 65 = .ok (.iload_n 3, 1) := by decide +kernel
theorem dX7_restore_66 : decode cX7_restore 66 = .ok (.iadd, 1) := by decide +kernel
theorem dX7_restore_67 : decode cX7_restore 67 = .ok (.iaload, 1) := by decide +kernel
theorem dX7_restore_68 : decode cX7_restore 68 = .ok (.iastore, 1) := by decide +kernel
theorem dX7_restore_69 : decode cX7_restore 69 = .ok (.iinc 3 1, 3) := by decide +kernel
theorem dX7_restore_72 : decode cX7_restore 72 = .ok (.goto (-40), 3) := by decide +kernel
theorem dX7_restore_75 : decode cX7_restore 75 = .ok (.iconst 0, 1) := by decide +kernel
theorem dX7_restore_76 : decode cX7_restore 76 = .ok (.istore_n 3, 1) := by decide +kernel
theorem dX7_restore_77 : decode cX7_restore 77 = .ok (.iload_n 3, 1) := by decide +kernel
theorem dX7_restore_78 : decode cX7_restore 78 = .ok (.bipush 16, 2) := by decide +kernel
theorem dX7_restore_80 : decode cX7_restore 80 = .ok (.if_icmp .ge 45, 3) := by decide +kernel
theorem dX7_restore_83 : decode cX7_restore 83 = .ok (.aload_n 0, 1) := by decide +kernel
theorem dX7_restore_84 : decode cX7_restore 84 = .ok (.getfield 16, 3) := by decide +kernel
theorem dX7_restore_87 : decode cX7_restore 87 = .ok (.iload_n 3, 1) := by decide +kernel
theorem dX7_restore_88 : decode cX7_restore 88 = .ok (.aload_n 0, 1) := by decide +kernel
theorem dX7_restore_89 : decode cX7_restore 89 = .ok (.getfield 87, 3) := by decide +kernel
theorem dX7_restore_92 : decode cX7_restore 92 = .ok (.iload_n 2, 1) := by decide +kernel
theorem dX7_restore_93 : decode cX7_restore 93 = .ok (.sipush 128, 3) := by decide +kernel
theorem dX7_restore_96 : decode cX7_restore 96 = .ok (.iadd, 1) := by decide +kernel
theorem dX7_restore_97 : decode cX7_restore 97 = .ok (.iload_n 3, 1) := by decide +kernel
theorem dX7_restore_98 : decode cX7_restore 98 = .ok (.iadd, 1) := by decide +kernel
theorem dX7_restore_99 : decode cX7_restore 99 = .ok (.iaload, 1) := by decide +kernel
theorem dX7_restore_100 : decode cX7_restore 100 = .ok (.iastore, 1) := by decide +kernel
theorem dX7_restore_101 : decode cX7_restore 101 = .ok (.aload_n 0, 1) := by decide +kernel
theorem dX7_restore_102 : decode cX7_restore 102 = .ok (.getfield 19, 3) := by decide +kernel
theorem dX7_restore_105 : decode cX7_restore 105 = .ok (.iload_n 3, 1) := by decide +kernel
theorem dX7_restore_106 : decode cX7_restore 106 = .ok (.aload_n 0, 1) := by decide +kernel
theorem dX7_restore_107 : decode cX7_restore 107 = .ok (.getfield 87, 3) := by decide +kernel
theorem dX7_restore_110 : decode cX7_restore 110 = .ok (.iload_n 2, 1) := by decide +kernel
theorem dX7_restore_111 : decode cX7_restore 111 = .ok (.sipush 144, 3) := by decide +kernel
theorem dX7_restore_114 : decode cX7_restore 114 = .ok (.iadd, 1) := by decide +kernel
theorem dX7_restore_115 : decode cX7_restore 115 = .ok (.iload_n 3, 1) := by decide +kernel
theorem dX7_restore_116 : decode cX7_restore 116 = .ok (.iadd, 1) := by decide +kernel
theorem dX7_restore_117 : decode cX7_restore 117 = .ok (.iaload, 1) := by decide +kernel
theorem dX7_restore_118 : decode cX7_restore 118 = .ok (.iastore, 1) := by decide +kernel
theorem dX7_restore_119 : decode cX7_restore 119 = .ok (.iinc 3 1, 3) := by decide +kernel
theorem dX7_restore_122 : decode cX7_restore 122 = .ok (.goto (-45), 3) := by decide +kernel
theorem dX7_restore_125 : decode cX7_restore 125 = .ok (.aload_n 0, 1) := by decide +kernel
theorem dX7_restore_126 : decode cX7_restore 126 = .ok (.aload_n 0, 1) := by decide +kernel
theorem dX7_restore_127 : decode cX7_restore 127 = .ok (.getfield 87, 3) := by decide +kernel
theorem dX7_restore_130 : decode cX7_restore 130 = .ok (.iload_n 2, 1) := by decide +kernel
theorem dX7_restore_131 : decode cX7_restore 131 = .ok (.sipush 160, 3) := by decide +kernel
theorem dX7_restore_134 : decode cX7_restore 134 = .ok (.iadd, 1) := by decide +kernel
theorem dX7_restore_135 : decode cX7_restore 135 = .ok (.iaload, 1) := by decide +kernel
theorem dX7_restore_136 : decode cX7_restore 136 = .ok (.putfield 104, 3) := by decide +kernel
theorem dX7_restore_139 : decode cX7_restore 139 = .ok (.aload_n 0, 1) := by decide +kernel
theorem dX7_restore_140 : decode cX7_restore 140 = .ok (.aload_n 0, 1) := by decide +kernel
theorem dX7_restore_141 : decode cX7_restore 141 = .ok (.getfield 87, 3) := by decide +kernel
theorem dX7_restore_144 : decode cX7_restore 144 = .ok (.iload_n 2, 1) := by decide +kernel
theorem dX7_restore_145 : decode cX7_restore 145 = .ok (.sipush 161, 3) := by decide +kernel
theorem dX7_restore_148 : decode cX7_restore 148 = .ok (.iadd, 1) := by decide +kernel
theorem dX7_restore_149 : decode cX7_restore 149 = .ok (.iaload, 1) := by decide +kernel
theorem dX7_restore_150 : decode cX7_restore 150 = .ok (.putfield 22, 3) := by decide +kernel
theorem dX7_restore_153 : decode cX7_restore 153 = .ok (.aload_n 0, 1) := by decide +kernel
theorem dX7_restore_154 : decode cX7_restore 154 = .ok (.aload_n 0, 1) := by decide +kernel
theorem dX7_restore_155 : decode cX7_restore 155 = .ok (.getfield 87, 3) := by decide +kernel
theorem dX7_restore_158 : decode cX7_restore 158 = .ok (.iload_n 2, 1) := by decide +kernel
theorem dX7_restore_159 : decode cX7_restore 159 = .ok (.sipush 162, 3) := by decide +kernel
theorem dX7_restore_162 : decode cX7_restore 162 = .ok (.iadd, 1) := by decide +kernel
theorem dX7_restore_163 : decode cX7_restore 163 = .ok (.iaload, 1) := by decide +kernel
theorem dX7_restore_164 : decode cX7_restore 164 = .ok (.putfield 26, 3) := by decide +kernel
theorem dX7_restore_167 : decode cX7_restore 167 = .ok (.aload_n 0, 1) := by decide +kernel
theorem dX7_restore_168 : decode cX7_restore 168 = .ok (.invokevirtual 131, 3) := by decide +kernel
theorem dX7_restore_171 : decode cX7_restore 171 = .ok (.iconst 1, 1) := by decide +kernel
theorem dX7_restore_172 : decode cX7_restore 172 = .ok (.ireturn, 1) := by decide +kernel
theorem dX7_idleOnes_0 : decode cX7_idleOnes 0 = .ok (.aload_n 0, 1) := by decide +kernel
theorem dX7_idleOnes_1 : decode cX7_idleOnes 1 = .ok (.invokevirtual 168, 3) := by decide +kernel
theorem dX7_idleOnes_4 : decode cX7_idleOnes 4 = .ok (.iconst 0, 1) := by decide +kernel
theorem dX7_idleOnes_5 : decode cX7_idleOnes 5 = .ok (.istore_n 1, 1) := by decide +kernel
theorem dX7_idleOnes_6 : decode cX7_idleOnes 6 = .ok (.iconst 0, 1) := by decide +kernel
theorem dX7_idleOnes_7 : decode cX7_idleOnes 7 = .ok (.istore_n 2, 1) := by decide +kernel
theorem dX7_idleOnes_8 : decode cX7_idleOnes 8 = .ok (.iload_n 2, 1) := by decide +kernel
theorem dX7_idleOnes_9 : decode cX7_idleOnes 9 = .ok (.aload_n 0, 1) := by decide +kernel
theorem dX7_idleOnes_10 : decode cX7_idleOnes 10 = .ok (.getfield 104, 3) := by decide +kernel
theorem dX7_idleOnes_13 : decode cX7_idleOnes 13 = .ok (.if_icmp .ge 26, 3) := by decide +kernel
theorem dX7_idleOnes_16 : decode cX7_idleOnes 16 = .ok (.iload_n 1, 1) := by decide +kernel
theorem dX7_idleOnes_17 : decode cX7_idleOnes 17 = .ok (.aload_n 0, 1) := by decide +kernel
theorem dX7_idleOnes_18 : decode cX7_idleOnes 18 = .ok (.getfield 47, 3) := by decide +kernel
theorem dX7_idleOnes_21 : decode cX7_idleOnes 21 = .ok (.iload_n 2, 1) := by decide +kernel
theorem dX7_idleOnes_22 : decode cX7_idleOnes 22 = .ok (.baload, 1) := by decide +kernel
theorem dX7_idleOnes_23 : decode cX7_idleOnes 23 = .ok (.ifCond .eq 7, 3) := by decide +kernel
theorem dX7_idleOnes_26 : decode cX7_idleOnes 26 = .ok (.iconst 0, 1) := by decide +kernel
theorem dX7_idleOnes_27 : decode cX7_idleOnes 27 = .ok (.goto 4, 3) := by decide +kernel
theorem dX7_idleOnes_30 : decode cX7_idleOnes 30 = .ok (.iconst 1, 1) := by decide +kernel
theorem dX7_idleOnes_31 : decode cX7_idleOnes 31 = .ok (.iadd, 1) := by decide +kernel
theorem dX7_idleOnes_32 : decode cX7_idleOnes 32 = .ok (.istore_n 1, 1) := by decide +kernel
theorem dX7_idleOnes_33 : decode cX7_idleOnes 33 = .ok (.iinc 2 1, 3) := by decide +kernel
theorem dX7_idleOnes_36 : decode cX7_idleOnes 36 = .ok (.goto (-28), 3) := by decide +kernel
theorem dX7_idleOnes_39 : decode cX7_idleOnes 39 = .ok (.iload_n 1, 1) := by decide +kernel
theorem dX7_idleOnes_40 : decode cX7_idleOnes 40 = .ok (.ireturn, 1) := by decide +kernel
theorem dX7_coveredOnes_0 : decode cX7_coveredOnes 0 = .ok (.iconst 0, 1) := by decide +kernel
theorem dX7_coveredOnes_1 : decode cX7_coveredOnes 1 = .ok (.istore_n 1, 1) := by decide +kernel
theorem dX7_coveredOnes_2 : decode cX7_coveredOnes 2 = .ok (.iconst 0, 1) := by decide +kernel
theorem dX7_coveredOnes_3 : decode cX7_coveredOnes 3 = .ok (.istore_n 2, 1) := by decide +kernel
theorem dX7_coveredOnes_4 : decode cX7_coveredOnes 4 = .ok (.iload_n 2, 1) := by decide +kernel
theorem dX7_coveredOnes_5 : decode cX7_coveredOnes 5 = .ok (.aload_n 0, 1) := by decide +kernel
theorem dX7_coveredOnes_6 : decode cX7_coveredOnes 6 = .ok (.getfield 104, 3) := by decide +kernel
theorem dX7_coveredOnes_9 : decode cX7_coveredOnes 9 = .ok (.if_icmp .ge 25, 3) := by decide +kernel
theorem dX7_coveredOnes_12 : decode cX7_coveredOnes 12 = .ok (.iload_n 1, 1) := by decide +kernel
theorem dX7_coveredOnes_13 : decode cX7_coveredOnes 13 = .ok (.aload_n 0, 1) := by decide +kernel
theorem dX7_coveredOnes_14 : decode cX7_coveredOnes 14 = .ok (.iload_n 2, 1) := by decide +kernel
theorem dX7_coveredOnes_15 : decode cX7_coveredOnes 15 = .ok (.invokevirtual 174, 3) := by decide +kernel
theorem dX7_coveredOnes_18 : decode cX7_coveredOnes 18 = .ok (.ifCond .lt 7, 3) := by decide +kernel
theorem dX7_coveredOnes_21 : decode cX7_coveredOnes 21 = .ok (.iconst 1, 1) := by decide +kernel
theorem dX7_coveredOnes_22 : decode cX7_coveredOnes 22 = .ok (.goto 4, 3) := by decide +kernel
theorem dX7_coveredOnes_25 : decode cX7_coveredOnes 25 = .ok (.iconst 0, 1) := by decide +kernel
theorem dX7_coveredOnes_26 : decode cX7_coveredOnes 26 = .ok (.iadd, 1) := by decide +kernel
theorem dX7_coveredOnes_27 : decode cX7_coveredOnes 27 = .ok (.istore_n 1, 1) := by decide +kernel
theorem dX7_coveredOnes_28 : decode cX7_coveredOnes 28 = .ok (.iinc 2 1, 3) := by decide +kernel
theorem dX7_coveredOnes_31 : decode cX7_coveredOnes 31 = .ok (.goto (-27), 3) := by decide +kernel
theorem dX7_coveredOnes_34 : decode cX7_coveredOnes 34 = .ok (.iload_n 1, 1) := by decide +kernel
theorem dX7_coveredOnes_35 : decode cX7_coveredOnes 35 = .ok (.ireturn, 1) := by decide +kernel
theorem dX7_allEntries_0 : decode cX7_allEntries 0 = .ok (.aload_n 0, 1) := by decide +kernel
theorem dX7_allEntries_1 : decode cX7_allEntries 1 = .ok (.invokevirtual 202, 3) := by decide +kernel
theorem dX7_allEntries_4 : decode cX7_allEntries 4 = .ok (.iconst 0, 1) := by decide +kernel
theorem dX7_allEntries_5 : decode cX7_allEntries 5 = .ok (.istore_n 1, 1) := by decide +kernel
theorem dX7_allEntries_6 : decode cX7_allEntries 6 = .ok (.iconst 0, 1) := by decide +kernel
theorem dX7_allEntries_7 : decode cX7_allEntries 7 = .ok (.istore_n 2, 1) := by decide +kernel
theorem dX7_allEntries_8 : decode cX7_allEntries 8 = .ok (.iload_n 2, 1) := by decide +kernel
theorem dX7_allEntries_9 : decode cX7_allEntries 9 = .ok (.aload_n 0, 1) := by decide +kernel
theorem dX7_allEntries_10 : decode cX7_allEntries 10 = .ok (.getfield 199, 3) := by decide +kernel
theorem dX7_allEntries_13 : decode cX7_allEntries 13 = .ok (.if_icmp .ge 22, 3) := by decide +kernel
theorem dX7_allEntries_16 : decode cX7_allEntries 16 = .ok (.iload_n 1, 1) := by decide +kernel
theorem dX7_allEntries_17 : decode cX7_allEntries 17 = .ok (.aload_n 0, 1) := by decide +kernel
theorem dX7_allEntries_18 : decode cX7_allEntries 18 = .ok (.aload_n 0, 1) := by decide +kernel
theorem dX7_allEntries_19 : decode cX7_allEntries 19 = .ok (.getfield 57, 3) := by decide +kernel
theorem dX7_allEntries_22 : decode cX7_allEntries 22 = .ok (.iload_n 2, 1) := by decide +kernel
theorem dX7_allEntries_23 : decode cX7_allEntries 23 = .ok (.iaload, 1) := by decide +kernel
theorem dX7_allEntries_24 : decode cX7_allEntries 24 = .ok (.invokevirtual 205, 3) := by decide +kernel
theorem dX7_allEntries_27 : decode cX7_allEntries 27 = .ok (.iadd, 1) := by decide +kernel
theorem dX7_allEntries_28 : decode cX7_allEntries 28 = .ok (.istore_n 1, 1) := by decide +kernel
theorem dX7_allEntries_29 : decode cX7_allEntries 29 = .ok (.iinc 2 1, 3) := by decide +kernel
theorem dX7_allEntries_32 : decode cX7_allEntries 32 = .ok (.goto (-24), 3) := by decide +kernel
theorem dX7_allEntries_35 : decode cX7_allEntries 35 = .ok (.iload_n 1, 1) := by decide +kernel
theorem dX7_allEntries_36 : decode cX7_allEntries 36 = .ok (.ireturn, 1) := by decide +kernel
theorem dX7_count_0 : decode cX7_count 0 = .ok (.iload_n 1, 1) := by decide +kernel
theorem dX7_count_1 : decode cX7_count 1 = .ok (.tableswitch 116 0 7 #[47, 52, 61, 66, 71, 76, 81, 86], 47) := by decide +kernel
theorem dX7_count_48 : decode cX7_count 48 = .ok (.aload_n 0, 1) := by decide +kernel
theorem dX7_count_49 : decode cX7_count 49 = .ok (.getfield 104, 3) := by decide +kernel
theorem dX7_count_52 : decode cX7_count 52 = .ok (.ireturn, 1) := by decide +kernel
theorem dX7_count_53 : decode cX7_count 53 = .ok (.aload_n 0, 1) := by decide +kernel
theorem dX7_count_54 : decode cX7_count 54 = .ok (.invokevirtual 202, 3) := by decide +kernel
theorem dX7_count_57 : decode cX7_count 57 = .ok (.aload_n 0, 1) := by decide +kernel
theorem dX7_count_58 : decode cX7_count 58 = .ok (.getfield 199, 3) := by decide +kernel
theorem dX7_count_61 : decode cX7_count 61 = .ok (.ireturn, 1) := by decide +kernel
theorem dX7_count_62 : decode cX7_count 62 = .ok (.aload_n 0, 1) := by decide +kernel
theorem dX7_count_63 : decode cX7_count 63 = .ok (.invokevirtual 237, 3) := by decide +kernel
theorem dX7_count_66 : decode cX7_count 66 = .ok (.ireturn, 1) := by decide +kernel
theorem dX7_count_67 : decode cX7_count 67 = .ok (.aload_n 0, 1) := by decide +kernel
theorem dX7_count_68 : decode cX7_count 68 = .ok (.getfield 22, 3) := by decide +kernel
theorem dX7_count_71 : decode cX7_count 71 = .ok (.ireturn, 1) := by decide +kernel
theorem dX7_count_72 : decode cX7_count 72 = .ok (.aload_n 0, 1) := by decide +kernel
theorem dX7_count_73 : decode cX7_count 73 = .ok (.getfield 26, 3) := by decide +kernel
theorem dX7_count_76 : decode cX7_count 76 = .ok (.ireturn, 1) := by decide +kernel
theorem dX7_count_77 : decode cX7_count 77 = .ok (.aload_n 0, 1) := by decide +kernel
theorem dX7_count_78 : decode cX7_count 78 = .ok (.invokevirtual 241, 3) := by decide +kernel
theorem dX7_count_81 : decode cX7_count 81 = .ok (.ireturn, 1) := by decide +kernel
theorem dX7_count_82 : decode cX7_count 82 = .ok (.aload_n 0, 1) := by decide +kernel
theorem dX7_count_83 : decode cX7_count 83 = .ok (.invokevirtual 244, 3) := by decide +kernel
theorem dX7_count_86 : decode cX7_count 86 = .ok (.ireturn, 1) := by decide +kernel
theorem dX7_count_87 : decode cX7_count 87 = .ok (.aload_n 0, 1) := by decide +kernel
theorem dX7_count_88 : decode cX7_count 88 = .ok (.getfield 90, 3) := by decide +kernel
theorem dX7_count_91 : decode cX7_count 91 = .ok (.iconst 0, 1) := by decide +kernel
theorem dX7_count_92 : decode cX7_count 92 = .ok (.baload, 1) := by decide +kernel
theorem dX7_count_93 : decode cX7_count 93 = .ok (.ifCond .eq 7, 3) := by decide +kernel
theorem dX7_count_96 : decode cX7_count 96 = .ok (.iconst 1, 1) := by decide +kernel
theorem dX7_count_97 : decode cX7_count 97 = .ok (.goto 4, 3) := by decide +kernel
theorem dX7_count_100 : decode cX7_count 100 = .ok (.iconst 0, 1) := by decide +kernel
theorem dX7_count_101 : decode cX7_count 101 = .ok (.aload_n 0, 1) := by decide +kernel
theorem dX7_count_102 : decode cX7_count 102 = .ok (.getfield 90, 3) := by decide +kernel
theorem dX7_count_105 : decode cX7_count 105 = .ok (.iconst 1, 1) := by decide +kernel
theorem dX7_count_106 : decode cX7_count 106 = .ok (.baload, 1) := by decide +kernel
theorem dX7_count_107 : decode cX7_count 107 = .ok (.ifCond .eq 7, 3) := by decide +kernel
theorem dX7_count_110 : decode cX7_count 110 = .ok (.iconst 2, 1) := by decide +kernel
theorem dX7_count_111 : decode cX7_count 111 = .ok (.goto 4, 3) := by decide +kernel
theorem dX7_count_114 : decode cX7_count 114 = .ok (.iconst 0, 1) := by decide +kernel
theorem dX7_count_115 : decode cX7_count 115 = .ok (.iadd, 1) := by decide +kernel
theorem dX7_count_116 : decode cX7_count 116 = .ok (.ireturn, 1) := by decide +kernel
theorem dX7_count_117 : decode cX7_count 117 = .ok (.bipush (-2), 2) := by decide +kernel
theorem dX7_count_119 : decode cX7_count 119 = .ok (.ireturn, 1) := by decide +kernel
end
section
/-- the classes whose objects the world holds -/
abbrev fs_cl : List vw_C := [(RX0, TX0, 12), (RX1, TX1, 4), (RX2, TX2, 2), (RX3, TX3, 7), (RX4, TX4, 9), (RX5, TX5, 12), (RX6, TX6, 9), (RX7, TX7, 34)]
abbrev fs_K : Type := (Nat × List (Option Int)) ⊕ ((Nat × Bool) ⊕ (Nat × Bool × Int))
/-- the cells, by their numbers: an object (class, what each field holds: a cell, or a number), a row of numbers, a row of cells -/
def fs_L : List fs_K := [
  .inl (7, [none, some 1, some 2, some 3, some 4, none, none, none, none, none, none, some 5, some 6, some 7, some 8, some 9, some 10, some 11, some 12, some 13, some 14, some 15, some 16, none, some 17, none, some 18, some 19, some 20, some 21, some 22, some 23, some 24, some 25]),
  .inr (.inl (68, false)),
  .inr (.inl (68, false)),
  .inr (.inl (16, false)),
  .inr (.inl (16, false)),
  .inr (.inl (16, false)),
  .inr (.inl (256, false)),
  .inr (.inl (256, false)),
  .inr (.inl (256, false)),
  .inr (.inl (4, false)),
  .inr (.inl (16, false)),
  .inr (.inl (16, true)),
  .inr (.inl (11, false)),
  .inr (.inl (448, false)),
  .inr (.inl (1029, false)),
  .inr (.inl (1029, false)),
  .inr (.inl (1029, false)),
  .inr (.inl (16, false)),
  .inr (.inl (2044, false)),
  .inr (.inl (2044, false)),
  .inr (.inl (511, false)),
  .inr (.inl (511, false)),
  .inr (.inl (511, false)),
  .inr (.inl (511, false)),
  .inr (.inl (326, false)),
  .inr (.inl (2, true)),
  .inl (6, [some 27, some 42, some 48, some 62, some 74, some 77, some 80, some 81, some 82]),
  .inl (3, [none, some 28, some 29, some 30, some 31, some 32, some 33]),
  .inr (.inr (4, false, 34)),
  .inr (.inr (4, false, 38)),
  .inr (.inl (16, false)),
  .inr (.inl (16, false)),
  .inr (.inl (16, false)),
  .inr (.inl (16, false)),
  .inr (.inl (16, false)),
  .inr (.inl (16, false)),
  .inr (.inl (16, false)),
  .inr (.inl (16, false)),
  .inr (.inl (16, false)),
  .inr (.inl (16, false)),
  .inr (.inl (16, false)),
  .inr (.inl (16, false)),
  .inl (2, [some 43, some 27]),
  .inr (.inr (4, false, 44)),
  .inr (.inl (128, false)),
  .inr (.inl (128, false)),
  .inr (.inl (128, false)),
  .inr (.inl (128, false)),
  .inl (4, [none, none, some 49, some 50, some 51, some 52, some 53, some 27, some 42]),
  .inr (.inl (16, false)),
  .inr (.inl (16, true)),
  .inr (.inl (4, false)),
  .inr (.inr (4, false, 54)),
  .inr (.inr (4, false, 58)),
  .inr (.inl (64, false)),
  .inr (.inl (64, false)),
  .inr (.inl (64, false)),
  .inr (.inl (64, false)),
  .inr (.inl (64, false)),
  .inr (.inl (64, false)),
  .inr (.inl (64, false)),
  .inr (.inl (64, false)),
  .inl (5, [none, none, some 63, some 64, some 65, some 66, some 67, some 68, none, none, some 69, some 27]),
  .inr (.inl (1029, false)),
  .inr (.inl (1029, false)),
  .inr (.inl (1029, false)),
  .inr (.inl (1029, false)),
  .inr (.inl (2048, false)),
  .inr (.inr (4, false, 70)),
  .inr (.inl (16, false)),
  .inr (.inl (7, false)),
  .inr (.inl (7, false)),
  .inr (.inl (7, false)),
  .inr (.inl (7, false)),
  .inl (0, [none, none, none, none, none, none, none, none, none, some 75, some 42, some 76]),
  .inr (.inl (4, false)),
  .inr (.inl (4, false)),
  .inr (.inr (2, true, 78)),
  .inl (1, [none, none, none, some 83]),
  .inl (1, [none, none, none, some 98]),
  .inr (.inl (4, false)),
  .inr (.inl (4, false)),
  .inr (.inl (4, false)),
  .inl (3, [none, some 84, some 85, some 86, some 87, some 88, some 89]),
  .inr (.inr (4, false, 90)),
  .inr (.inr (4, false, 94)),
  .inr (.inl (16, false)),
  .inr (.inl (16, false)),
  .inr (.inl (16, false)),
  .inr (.inl (16, false)),
  .inr (.inl (16, false)),
  .inr (.inl (16, false)),
  .inr (.inl (16, false)),
  .inr (.inl (16, false)),
  .inr (.inl (16, false)),
  .inr (.inl (16, false)),
  .inr (.inl (16, false)),
  .inr (.inl (16, false)),
  .inl (3, [none, some 99, some 100, some 101, some 102, some 103, some 104]),
  .inr (.inr (4, false, 105)),
  .inr (.inr (4, false, 109)),
  .inr (.inl (16, false)),
  .inr (.inl (16, false)),
  .inr (.inl (16, false)),
  .inr (.inl (16, false)),
  .inr (.inl (16, false)),
  .inr (.inl (16, false)),
  .inr (.inl (16, false)),
  .inr (.inl (16, false)),
  .inr (.inl (16, false)),
  .inr (.inl (16, false)),
  .inr (.inl (16, false)),
  .inr (.inl (16, false))]
def fs_N : Nat := 113
theorem fs_N_eq : fs_L.length = fs_N := by decide +kernel
def fs_lay (k : Int) : Option fs_K := if k < 0 then none else fs_L[k.toNat]?
theorem fs_l0 : fs_lay 0 = some (.inl (7, [none, some 1, some 2, some 3, some 4, none, none, none, none, none, none, some 5, some 6, some 7, some 8, some 9, some 10, some 11, some 12, some 13, some 14, some 15, some 16, none, some 17, none, some 18, some 19, some 20, some 21, some 22, some 23, some 24, some 25])) := rfl
theorem fs_l1 : fs_lay 1 = some (.inr (.inl (68, false))) := rfl
theorem fs_l2 : fs_lay 2 = some (.inr (.inl (68, false))) := rfl
theorem fs_l3 : fs_lay 3 = some (.inr (.inl (16, false))) := rfl
theorem fs_l4 : fs_lay 4 = some (.inr (.inl (16, false))) := rfl
theorem fs_l5 : fs_lay 5 = some (.inr (.inl (16, false))) := rfl
theorem fs_l6 : fs_lay 6 = some (.inr (.inl (256, false))) := rfl
theorem fs_l7 : fs_lay 7 = some (.inr (.inl (256, false))) := rfl
theorem fs_l8 : fs_lay 8 = some (.inr (.inl (256, false))) := rfl
theorem fs_l9 : fs_lay 9 = some (.inr (.inl (4, false))) := rfl
theorem fs_l10 : fs_lay 10 = some (.inr (.inl (16, false))) := rfl
theorem fs_l11 : fs_lay 11 = some (.inr (.inl (16, true))) := rfl
theorem fs_l12 : fs_lay 12 = some (.inr (.inl (11, false))) := rfl
theorem fs_l13 : fs_lay 13 = some (.inr (.inl (448, false))) := rfl
theorem fs_l14 : fs_lay 14 = some (.inr (.inl (1029, false))) := rfl
theorem fs_l15 : fs_lay 15 = some (.inr (.inl (1029, false))) := rfl
theorem fs_l16 : fs_lay 16 = some (.inr (.inl (1029, false))) := rfl
theorem fs_l17 : fs_lay 17 = some (.inr (.inl (16, false))) := rfl
theorem fs_l18 : fs_lay 18 = some (.inr (.inl (2044, false))) := rfl
theorem fs_l19 : fs_lay 19 = some (.inr (.inl (2044, false))) := rfl
theorem fs_l20 : fs_lay 20 = some (.inr (.inl (511, false))) := rfl
theorem fs_l21 : fs_lay 21 = some (.inr (.inl (511, false))) := rfl
theorem fs_l22 : fs_lay 22 = some (.inr (.inl (511, false))) := rfl
theorem fs_l23 : fs_lay 23 = some (.inr (.inl (511, false))) := rfl
theorem fs_l24 : fs_lay 24 = some (.inr (.inl (326, false))) := rfl
theorem fs_l25 : fs_lay 25 = some (.inr (.inl (2, true))) := rfl
theorem fs_l26 : fs_lay 26 = some (.inl (6, [some 27, some 42, some 48, some 62, some 74, some 77, some 80, some 81, some 82])) := rfl
theorem fs_l27 : fs_lay 27 = some (.inl (3, [none, some 28, some 29, some 30, some 31, some 32, some 33])) := rfl
theorem fs_l28 : fs_lay 28 = some (.inr (.inr (4, false, 34))) := rfl
theorem fs_l29 : fs_lay 29 = some (.inr (.inr (4, false, 38))) := rfl
theorem fs_l30 : fs_lay 30 = some (.inr (.inl (16, false))) := rfl
theorem fs_l31 : fs_lay 31 = some (.inr (.inl (16, false))) := rfl
theorem fs_l32 : fs_lay 32 = some (.inr (.inl (16, false))) := rfl
theorem fs_l33 : fs_lay 33 = some (.inr (.inl (16, false))) := rfl
theorem fs_l34 : fs_lay 34 = some (.inr (.inl (16, false))) := rfl
theorem fs_l35 : fs_lay 35 = some (.inr (.inl (16, false))) := rfl
theorem fs_l36 : fs_lay 36 = some (.inr (.inl (16, false))) := rfl
theorem fs_l37 : fs_lay 37 = some (.inr (.inl (16, false))) := rfl
theorem fs_l38 : fs_lay 38 = some (.inr (.inl (16, false))) := rfl
theorem fs_l39 : fs_lay 39 = some (.inr (.inl (16, false))) := rfl
theorem fs_l40 : fs_lay 40 = some (.inr (.inl (16, false))) := rfl
theorem fs_l41 : fs_lay 41 = some (.inr (.inl (16, false))) := rfl
theorem fs_l42 : fs_lay 42 = some (.inl (2, [some 43, some 27])) := rfl
theorem fs_l43 : fs_lay 43 = some (.inr (.inr (4, false, 44))) := rfl
theorem fs_l44 : fs_lay 44 = some (.inr (.inl (128, false))) := rfl
theorem fs_l45 : fs_lay 45 = some (.inr (.inl (128, false))) := rfl
theorem fs_l46 : fs_lay 46 = some (.inr (.inl (128, false))) := rfl
theorem fs_l47 : fs_lay 47 = some (.inr (.inl (128, false))) := rfl
theorem fs_l48 : fs_lay 48 = some (.inl (4, [none, none, some 49, some 50, some 51, some 52, some 53, some 27, some 42])) := rfl
theorem fs_l49 : fs_lay 49 = some (.inr (.inl (16, false))) := rfl
theorem fs_l50 : fs_lay 50 = some (.inr (.inl (16, true))) := rfl
theorem fs_l51 : fs_lay 51 = some (.inr (.inl (4, false))) := rfl
theorem fs_l52 : fs_lay 52 = some (.inr (.inr (4, false, 54))) := rfl
theorem fs_l53 : fs_lay 53 = some (.inr (.inr (4, false, 58))) := rfl
theorem fs_l54 : fs_lay 54 = some (.inr (.inl (64, false))) := rfl
theorem fs_l55 : fs_lay 55 = some (.inr (.inl (64, false))) := rfl
theorem fs_l56 : fs_lay 56 = some (.inr (.inl (64, false))) := rfl
theorem fs_l57 : fs_lay 57 = some (.inr (.inl (64, false))) := rfl
theorem fs_l58 : fs_lay 58 = some (.inr (.inl (64, false))) := rfl
theorem fs_l59 : fs_lay 59 = some (.inr (.inl (64, false))) := rfl
theorem fs_l60 : fs_lay 60 = some (.inr (.inl (64, false))) := rfl
theorem fs_l61 : fs_lay 61 = some (.inr (.inl (64, false))) := rfl
theorem fs_l62 : fs_lay 62 = some (.inl (5, [none, none, some 63, some 64, some 65, some 66, some 67, some 68, none, none, some 69, some 27])) := rfl
theorem fs_l63 : fs_lay 63 = some (.inr (.inl (1029, false))) := rfl
theorem fs_l64 : fs_lay 64 = some (.inr (.inl (1029, false))) := rfl
theorem fs_l65 : fs_lay 65 = some (.inr (.inl (1029, false))) := rfl
theorem fs_l66 : fs_lay 66 = some (.inr (.inl (1029, false))) := rfl
theorem fs_l67 : fs_lay 67 = some (.inr (.inl (2048, false))) := rfl
theorem fs_l68 : fs_lay 68 = some (.inr (.inr (4, false, 70))) := rfl
theorem fs_l69 : fs_lay 69 = some (.inr (.inl (16, false))) := rfl
theorem fs_l70 : fs_lay 70 = some (.inr (.inl (7, false))) := rfl
theorem fs_l71 : fs_lay 71 = some (.inr (.inl (7, false))) := rfl
theorem fs_l72 : fs_lay 72 = some (.inr (.inl (7, false))) := rfl
theorem fs_l73 : fs_lay 73 = some (.inr (.inl (7, false))) := rfl
theorem fs_l74 : fs_lay 74 = some (.inl (0, [none, none, none, none, none, none, none, none, none, some 75, some 42, some 76])) := rfl
theorem fs_l75 : fs_lay 75 = some (.inr (.inl (4, false))) := rfl
theorem fs_l76 : fs_lay 76 = some (.inr (.inl (4, false))) := rfl
theorem fs_l77 : fs_lay 77 = some (.inr (.inr (2, true, 78))) := rfl
theorem fs_l78 : fs_lay 78 = some (.inl (1, [none, none, none, some 83])) := rfl
theorem fs_l79 : fs_lay 79 = some (.inl (1, [none, none, none, some 98])) := rfl
theorem fs_l80 : fs_lay 80 = some (.inr (.inl (4, false))) := rfl
theorem fs_l81 : fs_lay 81 = some (.inr (.inl (4, false))) := rfl
theorem fs_l82 : fs_lay 82 = some (.inr (.inl (4, false))) := rfl
theorem fs_l83 : fs_lay 83 = some (.inl (3, [none, some 84, some 85, some 86, some 87, some 88, some 89])) := rfl
theorem fs_l84 : fs_lay 84 = some (.inr (.inr (4, false, 90))) := rfl
theorem fs_l85 : fs_lay 85 = some (.inr (.inr (4, false, 94))) := rfl
theorem fs_l86 : fs_lay 86 = some (.inr (.inl (16, false))) := rfl
theorem fs_l87 : fs_lay 87 = some (.inr (.inl (16, false))) := rfl
theorem fs_l88 : fs_lay 88 = some (.inr (.inl (16, false))) := rfl
theorem fs_l89 : fs_lay 89 = some (.inr (.inl (16, false))) := rfl
theorem fs_l90 : fs_lay 90 = some (.inr (.inl (16, false))) := rfl
theorem fs_l91 : fs_lay 91 = some (.inr (.inl (16, false))) := rfl
theorem fs_l92 : fs_lay 92 = some (.inr (.inl (16, false))) := rfl
theorem fs_l93 : fs_lay 93 = some (.inr (.inl (16, false))) := rfl
theorem fs_l94 : fs_lay 94 = some (.inr (.inl (16, false))) := rfl
theorem fs_l95 : fs_lay 95 = some (.inr (.inl (16, false))) := rfl
theorem fs_l96 : fs_lay 96 = some (.inr (.inl (16, false))) := rfl
theorem fs_l97 : fs_lay 97 = some (.inr (.inl (16, false))) := rfl
theorem fs_l98 : fs_lay 98 = some (.inl (3, [none, some 99, some 100, some 101, some 102, some 103, some 104])) := rfl
theorem fs_l99 : fs_lay 99 = some (.inr (.inr (4, false, 105))) := rfl
theorem fs_l100 : fs_lay 100 = some (.inr (.inr (4, false, 109))) := rfl
theorem fs_l101 : fs_lay 101 = some (.inr (.inl (16, false))) := rfl
theorem fs_l102 : fs_lay 102 = some (.inr (.inl (16, false))) := rfl
theorem fs_l103 : fs_lay 103 = some (.inr (.inl (16, false))) := rfl
theorem fs_l104 : fs_lay 104 = some (.inr (.inl (16, false))) := rfl
theorem fs_l105 : fs_lay 105 = some (.inr (.inl (16, false))) := rfl
theorem fs_l106 : fs_lay 106 = some (.inr (.inl (16, false))) := rfl
theorem fs_l107 : fs_lay 107 = some (.inr (.inl (16, false))) := rfl
theorem fs_l108 : fs_lay 108 = some (.inr (.inl (16, false))) := rfl
theorem fs_l109 : fs_lay 109 = some (.inr (.inl (16, false))) := rfl
theorem fs_l110 : fs_lay 110 = some (.inr (.inl (16, false))) := rfl
theorem fs_l111 : fs_lay 111 = some (.inr (.inl (16, false))) := rfl
theorem fs_l112 : fs_lay 112 = some (.inr (.inl (16, false))) := rfl
theorem fs_f34 (f : Int) (h : 0 ≤ f ∧ f < 4) : fs_lay (34 + f) = some (.inr (.inl (16, false))) := by
  obtain ⟨h1, h2⟩ := h
  rcases (by omega : f = 0 ∨ f = 1 ∨ f = 2 ∨ f = 3) with rfl | rfl | rfl | rfl <;> rfl
theorem fs_f38 (f : Int) (h : 0 ≤ f ∧ f < 4) : fs_lay (38 + f) = some (.inr (.inl (16, false))) := by
  obtain ⟨h1, h2⟩ := h
  rcases (by omega : f = 0 ∨ f = 1 ∨ f = 2 ∨ f = 3) with rfl | rfl | rfl | rfl <;> rfl
theorem fs_f44 (f : Int) (h : 0 ≤ f ∧ f < 4) : fs_lay (44 + f) = some (.inr (.inl (128, false))) := by
  obtain ⟨h1, h2⟩ := h
  rcases (by omega : f = 0 ∨ f = 1 ∨ f = 2 ∨ f = 3) with rfl | rfl | rfl | rfl <;> rfl
theorem fs_f54 (f : Int) (h : 0 ≤ f ∧ f < 4) : fs_lay (54 + f) = some (.inr (.inl (64, false))) := by
  obtain ⟨h1, h2⟩ := h
  rcases (by omega : f = 0 ∨ f = 1 ∨ f = 2 ∨ f = 3) with rfl | rfl | rfl | rfl <;> rfl
theorem fs_f58 (f : Int) (h : 0 ≤ f ∧ f < 4) : fs_lay (58 + f) = some (.inr (.inl (64, false))) := by
  obtain ⟨h1, h2⟩ := h
  rcases (by omega : f = 0 ∨ f = 1 ∨ f = 2 ∨ f = 3) with rfl | rfl | rfl | rfl <;> rfl
theorem fs_f70 (f : Int) (h : 0 ≤ f ∧ f < 4) : fs_lay (70 + f) = some (.inr (.inl (7, false))) := by
  obtain ⟨h1, h2⟩ := h
  rcases (by omega : f = 0 ∨ f = 1 ∨ f = 2 ∨ f = 3) with rfl | rfl | rfl | rfl <;> rfl
theorem fs_f90 (f : Int) (h : 0 ≤ f ∧ f < 4) : fs_lay (90 + f) = some (.inr (.inl (16, false))) := by
  obtain ⟨h1, h2⟩ := h
  rcases (by omega : f = 0 ∨ f = 1 ∨ f = 2 ∨ f = 3) with rfl | rfl | rfl | rfl <;> rfl
theorem fs_f94 (f : Int) (h : 0 ≤ f ∧ f < 4) : fs_lay (94 + f) = some (.inr (.inl (16, false))) := by
  obtain ⟨h1, h2⟩ := h
  rcases (by omega : f = 0 ∨ f = 1 ∨ f = 2 ∨ f = 3) with rfl | rfl | rfl | rfl <;> rfl
theorem fs_f105 (f : Int) (h : 0 ≤ f ∧ f < 4) : fs_lay (105 + f) = some (.inr (.inl (16, false))) := by
  obtain ⟨h1, h2⟩ := h
  rcases (by omega : f = 0 ∨ f = 1 ∨ f = 2 ∨ f = 3) with rfl | rfl | rfl | rfl <;> rfl
theorem fs_f109 (f : Int) (h : 0 ≤ f ∧ f < 4) : fs_lay (109 + f) = some (.inr (.inl (16, false))) := by
  obtain ⟨h1, h2⟩ := h
  rcases (by omega : f = 0 ∨ f = 1 ∨ f = 2 ∨ f = 3) with rfl | rfl | rfl | rfl <;> rfl
def fs_stL : List (String × String × List Int) := [("FieldSorter", "GREATEST", [63, 63, 63, 3]), ("FieldSorter", "WIDTH", [6, 6, 6, 2]), ("FieldSorter$Survey", "REST", [1048576, 16384, 256, 4, 1]), ("FieldSorter$Tuples", "SHIFT", [8, 5, 2, 0]), ("FieldSorter$Tuples", "LENGTH_MASK", [7, 7, 7, 3])]
/-- the words that every method has: those of the tables that any later state keeps -/
def fs_tbl : List Cond := lw_tbl.filter goodWord
theorem fs_tm {w : Cond} (i : Nat) (h : lw_tbl[i]? = some w) (hg : goodWord w = true) : w ∈ fs_tbl := List.mem_filter.mpr ⟨List.mem_of_getElem? h, hg⟩
theorem fs_inX0 : ∀ w ∈ u_ws RX0 TX0 12, w ∈ fs_tbl := by
  have h : ∀ w ∈ u_ws RX0 TX0 12, w ∈ lw_tbl ∧ goodWord w = true := by decide +kernel
  exact fun w hw => List.mem_filter.mpr (h w hw)
theorem fs_inX1 : ∀ w ∈ u_ws RX1 TX1 4, w ∈ fs_tbl := by
  have h : ∀ w ∈ u_ws RX1 TX1 4, w ∈ lw_tbl ∧ goodWord w = true := by decide +kernel
  exact fun w hw => List.mem_filter.mpr (h w hw)
theorem fs_inX2 : ∀ w ∈ u_ws RX2 TX2 2, w ∈ fs_tbl := by
  have h : ∀ w ∈ u_ws RX2 TX2 2, w ∈ lw_tbl ∧ goodWord w = true := by decide +kernel
  exact fun w hw => List.mem_filter.mpr (h w hw)
theorem fs_inX3 : ∀ w ∈ u_ws RX3 TX3 7, w ∈ fs_tbl := by
  have h : ∀ w ∈ u_ws RX3 TX3 7, w ∈ lw_tbl ∧ goodWord w = true := by decide +kernel
  exact fun w hw => List.mem_filter.mpr (h w hw)
theorem fs_inX4 : ∀ w ∈ u_ws RX4 TX4 9, w ∈ fs_tbl := by
  have h : ∀ w ∈ u_ws RX4 TX4 9, w ∈ lw_tbl ∧ goodWord w = true := by decide +kernel
  exact fun w hw => List.mem_filter.mpr (h w hw)
theorem fs_inX5 : ∀ w ∈ u_ws RX5 TX5 12, w ∈ fs_tbl := by
  have h : ∀ w ∈ u_ws RX5 TX5 12, w ∈ lw_tbl ∧ goodWord w = true := by decide +kernel
  exact fun w hw => List.mem_filter.mpr (h w hw)
theorem fs_inX6 : ∀ w ∈ u_ws RX6 TX6 9, w ∈ fs_tbl := by
  have h : ∀ w ∈ u_ws RX6 TX6 9, w ∈ lw_tbl ∧ goodWord w = true := by decide +kernel
  exact fun w hw => List.mem_filter.mpr (h w hw)
theorem fs_inX7 : ∀ w ∈ u_ws RX7 TX7 34, w ∈ fs_tbl := by
  have h : ∀ w ∈ u_ws RX7 TX7 34, w ∈ lw_tbl ∧ goodWord w = true := by decide +kernel
  exact fun w hw => List.mem_filter.mpr (h w hw)
/-- links between nest mates: kept beside the words -/
def fs_nest : List Cond := [.methodLinkNest "FieldSorter" 9 ⟨"FieldSorter$Rules", "<init>", "()V"⟩ "FieldSorter", .methodLinkNest "FieldSorter" 56 ⟨"FieldSorter$Image", "<init>", "()V"⟩ "FieldSorter", .methodLinkNest "FieldSorter$Image" 22 ⟨"FieldSorter$Rules", "<init>", "()V"⟩ "FieldSorter", .fieldLinkNest "FieldSorter$Parts" 24 "FieldSorter" "GREATEST" "[I" "FieldSorter", .fieldLinkNest "FieldSorter$Survey" 60 "FieldSorter" "GREATEST" "[I" "FieldSorter", .methodLinkNest "FieldSorter$Survey" 74 ⟨"FieldSorter", "lowestBit", "(I)I"⟩ "FieldSorter", .fieldLinkNest "FieldSorter$Rules" 60 "FieldSorter" "WIDTH" "[I" "FieldSorter", .fieldLinkNest "FieldSorter$Tuples" 79 "FieldSorter" "WIDTH" "[I" "FieldSorter", .fieldLinkNest "FieldSorter$Cutter" 89 "FieldSorter" "GREATEST" "[I" "FieldSorter", .fieldLinkNest "FieldSorter$Cutter" 92 "FieldSorter" "WIDTH" "[I" "FieldSorter"]
theorem fs_nest_in : ∀ w ∈ fs_nest, w ∈ lw_tbl := by decide +kernel
/-- a field that a class links under a number: class and slot -/
def fs_F (own : String) (idx ci f : Nat) : Prop := ∃ (C : String) (T : u_T) (N : Nat), fs_cl[ci]? = some (C, T, N) ∧ f < N ∧ Cond.fieldLink own idx (T f).1 (T f).2.1 (T f).2.2.1 ∈ fs_tbl
/-- .. and that may be written, of this type -/
def fs_P (ci f : Nat) (ty : FieldType) : Prop := ∃ (C : String) (T : u_T) (N : Nat), fs_cl[ci]? = some (C, T, N) ∧ (T f).2.2.2 = false ∧ parseFieldDescriptor (T f).2.2.1 = some ty
theorem fs_pX0_0 : fs_P 0 0 .int := ⟨RX0, TX0, 12, rfl, rfl, by decide +kernel⟩
theorem fs_pX0_1 : fs_P 0 1 .int := ⟨RX0, TX0, 12, rfl, rfl, by decide +kernel⟩
theorem fs_pX0_2 : fs_P 0 2 .int := ⟨RX0, TX0, 12, rfl, rfl, by decide +kernel⟩
theorem fs_pX0_3 : fs_P 0 3 .int := ⟨RX0, TX0, 12, rfl, rfl, by decide +kernel⟩
theorem fs_pX0_4 : fs_P 0 4 .int := ⟨RX0, TX0, 12, rfl, rfl, by decide +kernel⟩
theorem fs_pX0_5 : fs_P 0 5 .int := ⟨RX0, TX0, 12, rfl, rfl, by decide +kernel⟩
theorem fs_pX0_6 : fs_P 0 6 .int := ⟨RX0, TX0, 12, rfl, rfl, by decide +kernel⟩
theorem fs_pX0_7 : fs_P 0 7 .int := ⟨RX0, TX0, 12, rfl, rfl, by decide +kernel⟩
theorem fs_pX0_8 : fs_P 0 8 .int := ⟨RX0, TX0, 12, rfl, rfl, by decide +kernel⟩
theorem fs_pX1_0 : fs_P 1 0 .boolean := ⟨RX1, TX1, 4, rfl, rfl, by decide +kernel⟩
theorem fs_pX1_1 : fs_P 1 1 .int := ⟨RX1, TX1, 4, rfl, rfl, by decide +kernel⟩
theorem fs_pX1_2 : fs_P 1 2 .int := ⟨RX1, TX1, 4, rfl, rfl, by decide +kernel⟩
theorem fs_pX3_0 : fs_P 3 0 .int := ⟨RX3, TX3, 7, rfl, rfl, by decide +kernel⟩
theorem fs_pX4_0 : fs_P 4 0 .boolean := ⟨RX4, TX4, 9, rfl, rfl, by decide +kernel⟩
theorem fs_pX4_1 : fs_P 4 1 .int := ⟨RX4, TX4, 9, rfl, rfl, by decide +kernel⟩
theorem fs_pX5_0 : fs_P 5 0 .boolean := ⟨RX5, TX5, 12, rfl, rfl, by decide +kernel⟩
theorem fs_pX5_1 : fs_P 5 1 .int := ⟨RX5, TX5, 12, rfl, rfl, by decide +kernel⟩
theorem fs_pX5_8 : fs_P 5 8 .int := ⟨RX5, TX5, 12, rfl, rfl, by decide +kernel⟩
theorem fs_pX5_9 : fs_P 5 9 .int := ⟨RX5, TX5, 12, rfl, rfl, by decide +kernel⟩
theorem fs_pX7_0 : fs_P 7 0 .int := ⟨RX7, TX7, 34, rfl, rfl, by decide +kernel⟩
theorem fs_pX7_5 : fs_P 7 5 .int := ⟨RX7, TX7, 34, rfl, rfl, by decide +kernel⟩
theorem fs_pX7_6 : fs_P 7 6 .int := ⟨RX7, TX7, 34, rfl, rfl, by decide +kernel⟩
theorem fs_pX7_7 : fs_P 7 7 .boolean := ⟨RX7, TX7, 34, rfl, rfl, by decide +kernel⟩
theorem fs_pX7_8 : fs_P 7 8 .boolean := ⟨RX7, TX7, 34, rfl, rfl, by decide +kernel⟩
theorem fs_pX7_9 : fs_P 7 9 .boolean := ⟨RX7, TX7, 34, rfl, rfl, by decide +kernel⟩
theorem fs_pX7_10 : fs_P 7 10 .boolean := ⟨RX7, TX7, 34, rfl, rfl, by decide +kernel⟩
theorem fs_pX7_23 : fs_P 7 23 .int := ⟨RX7, TX7, 34, rfl, rfl, by decide +kernel⟩
theorem fs_pX7_25 : fs_P 7 25 .int := ⟨RX7, TX7, 34, rfl, rfl, by decide +kernel⟩
theorem fs_kX3_9 : fs_F RX3 9 3 0 := ⟨RX3, TX3, 7, rfl, by decide, fs_tm 85 (by decide +kernel) rfl⟩
theorem fs_kX6_84 : fs_F RX6 84 3 0 := ⟨RX3, TX3, 7, rfl, by decide, fs_tm 86 (by decide +kernel) rfl⟩
theorem fs_kX5_65 : fs_F RX5 65 3 0 := ⟨RX3, TX3, 7, rfl, by decide, fs_tm 87 (by decide +kernel) rfl⟩
theorem fs_kX2_28 : fs_F RX2 28 3 0 := ⟨RX3, TX3, 7, rfl, by decide, fs_tm 88 (by decide +kernel) rfl⟩
theorem fs_kX4_89 : fs_F RX4 89 3 0 := ⟨RX3, TX3, 7, rfl, by decide, fs_tm 89 (by decide +kernel) rfl⟩
theorem fs_kX3_17 : fs_F RX3 17 3 1 := ⟨RX3, TX3, 7, rfl, by decide, fs_tm 90 (by decide +kernel) rfl⟩
theorem fs_kX2_37 : fs_F RX2 37 3 1 := ⟨RX3, TX3, 7, rfl, by decide, fs_tm 91 (by decide +kernel) rfl⟩
theorem fs_kX6_279 : fs_F RX6 279 3 1 := ⟨RX3, TX3, 7, rfl, by decide, fs_tm 92 (by decide +kernel) rfl⟩
theorem fs_kX3_20 : fs_F RX3 20 3 2 := ⟨RX3, TX3, 7, rfl, by decide, fs_tm 93 (by decide +kernel) rfl⟩
theorem fs_kX2_40 : fs_F RX2 40 3 2 := ⟨RX3, TX3, 7, rfl, by decide, fs_tm 94 (by decide +kernel) rfl⟩
theorem fs_kX6_283 : fs_F RX6 283 3 2 := ⟨RX3, TX3, 7, rfl, by decide, fs_tm 95 (by decide +kernel) rfl⟩
theorem fs_kX3_23 : fs_F RX3 23 3 3 := ⟨RX3, TX3, 7, rfl, by decide, fs_tm 96 (by decide +kernel) rfl⟩
theorem fs_kX6_102 : fs_F RX6 102 3 3 := ⟨RX3, TX3, 7, rfl, by decide, fs_tm 97 (by decide +kernel) rfl⟩
theorem fs_kX3_27 : fs_F RX3 27 3 4 := ⟨RX3, TX3, 7, rfl, by decide, fs_tm 98 (by decide +kernel) rfl⟩
theorem fs_kX4_81 : fs_F RX4 81 3 4 := ⟨RX3, TX3, 7, rfl, by decide, fs_tm 99 (by decide +kernel) rfl⟩
theorem fs_kX6_108 : fs_F RX6 108 3 4 := ⟨RX3, TX3, 7, rfl, by decide, fs_tm 100 (by decide +kernel) rfl⟩
theorem fs_kX3_30 : fs_F RX3 30 3 5 := ⟨RX3, TX3, 7, rfl, by decide, fs_tm 101 (by decide +kernel) rfl⟩
theorem fs_kX5_68 : fs_F RX5 68 3 5 := ⟨RX3, TX3, 7, rfl, by decide, fs_tm 102 (by decide +kernel) rfl⟩
theorem fs_kX2_34 : fs_F RX2 34 3 5 := ⟨RX3, TX3, 7, rfl, by decide, fs_tm 103 (by decide +kernel) rfl⟩
theorem fs_kX4_86 : fs_F RX4 86 3 5 := ⟨RX3, TX3, 7, rfl, by decide, fs_tm 104 (by decide +kernel) rfl⟩
theorem fs_kX6_276 : fs_F RX6 276 3 5 := ⟨RX3, TX3, 7, rfl, by decide, fs_tm 105 (by decide +kernel) rfl⟩
theorem fs_kX3_33 : fs_F RX3 33 3 6 := ⟨RX3, TX3, 7, rfl, by decide, fs_tm 106 (by decide +kernel) rfl⟩
theorem fs_kX6_105 : fs_F RX6 105 3 6 := ⟨RX3, TX3, 7, rfl, by decide, fs_tm 107 (by decide +kernel) rfl⟩
theorem fs_kX2_11 : fs_F RX2 11 2 0 := ⟨RX2, TX2, 2, rfl, by decide, fs_tm 131 (by decide +kernel) rfl⟩
theorem fs_kX0_85 : fs_F RX0 85 2 0 := ⟨RX2, TX2, 2, rfl, by decide, fs_tm 132 (by decide +kernel) rfl⟩
theorem fs_kX2_16 : fs_F RX2 16 2 1 := ⟨RX2, TX2, 2, rfl, by decide, fs_tm 133 (by decide +kernel) rfl⟩
theorem fs_kX4_9 : fs_F RX4 9 4 0 := ⟨RX4, TX4, 9, rfl, by decide, fs_tm 146 (by decide +kernel) rfl⟩
theorem fs_kX6_272 : fs_F RX6 272 4 0 := ⟨RX4, TX4, 9, rfl, by decide, fs_tm 147 (by decide +kernel) rfl⟩
theorem fs_kX4_15 : fs_F RX4 15 4 1 := ⟨RX4, TX4, 9, rfl, by decide, fs_tm 148 (by decide +kernel) rfl⟩
theorem fs_kX6_151 : fs_F RX6 151 4 1 := ⟨RX4, TX4, 9, rfl, by decide, fs_tm 149 (by decide +kernel) rfl⟩
theorem fs_kX4_19 : fs_F RX4 19 4 2 := ⟨RX4, TX4, 9, rfl, by decide, fs_tm 150 (by decide +kernel) rfl⟩
theorem fs_kX6_137 : fs_F RX6 137 4 2 := ⟨RX4, TX4, 9, rfl, by decide, fs_tm 151 (by decide +kernel) rfl⟩
theorem fs_kX4_23 : fs_F RX4 23 4 3 := ⟨RX4, TX4, 9, rfl, by decide, fs_tm 152 (by decide +kernel) rfl⟩
theorem fs_kX6_147 : fs_F RX6 147 4 3 := ⟨RX4, TX4, 9, rfl, by decide, fs_tm 153 (by decide +kernel) rfl⟩
theorem fs_kX4_27 : fs_F RX4 27 4 4 := ⟨RX4, TX4, 9, rfl, by decide, fs_tm 154 (by decide +kernel) rfl⟩
theorem fs_kX4_32 : fs_F RX4 32 4 5 := ⟨RX4, TX4, 9, rfl, by decide, fs_tm 155 (by decide +kernel) rfl⟩
theorem fs_kX4_35 : fs_F RX4 35 4 6 := ⟨RX4, TX4, 9, rfl, by decide, fs_tm 156 (by decide +kernel) rfl⟩
theorem fs_kX4_38 : fs_F RX4 38 4 7 := ⟨RX4, TX4, 9, rfl, by decide, fs_tm 157 (by decide +kernel) rfl⟩
theorem fs_kX4_42 : fs_F RX4 42 4 8 := ⟨RX4, TX4, 9, rfl, by decide, fs_tm 158 (by decide +kernel) rfl⟩
theorem fs_kX5_9 : fs_F RX5 9 5 0 := ⟨RX5, TX5, 12, rfl, by decide, fs_tm 186 (by decide +kernel) rfl⟩
theorem fs_kX6_275 : fs_F RX6 275 5 0 := ⟨RX5, TX5, 12, rfl, by decide, fs_tm 187 (by decide +kernel) rfl⟩
theorem fs_kX5_15 : fs_F RX5 15 5 1 := ⟨RX5, TX5, 12, rfl, by decide, fs_tm 188 (by decide +kernel) rfl⟩
theorem fs_kX6_170 : fs_F RX6 170 5 1 := ⟨RX5, TX5, 12, rfl, by decide, fs_tm 189 (by decide +kernel) rfl⟩
theorem fs_kX5_19 : fs_F RX5 19 5 2 := ⟨RX5, TX5, 12, rfl, by decide, fs_tm 190 (by decide +kernel) rfl⟩
theorem fs_kX6_171 : fs_F RX6 171 5 2 := ⟨RX5, TX5, 12, rfl, by decide, fs_tm 191 (by decide +kernel) rfl⟩
theorem fs_kX5_23 : fs_F RX5 23 5 3 := ⟨RX5, TX5, 12, rfl, by decide, fs_tm 192 (by decide +kernel) rfl⟩
theorem fs_kX6_174 : fs_F RX6 174 5 3 := ⟨RX5, TX5, 12, rfl, by decide, fs_tm 193 (by decide +kernel) rfl⟩
theorem fs_kX5_26 : fs_F RX5 26 5 4 := ⟨RX5, TX5, 12, rfl, by decide, fs_tm 194 (by decide +kernel) rfl⟩
theorem fs_kX6_177 : fs_F RX6 177 5 4 := ⟨RX5, TX5, 12, rfl, by decide, fs_tm 195 (by decide +kernel) rfl⟩
theorem fs_kX5_29 : fs_F RX5 29 5 5 := ⟨RX5, TX5, 12, rfl, by decide, fs_tm 196 (by decide +kernel) rfl⟩
theorem fs_kX5_32 : fs_F RX5 32 5 6 := ⟨RX5, TX5, 12, rfl, by decide, fs_tm 197 (by decide +kernel) rfl⟩
theorem fs_kX5_37 : fs_F RX5 37 5 7 := ⟨RX5, TX5, 12, rfl, by decide, fs_tm 198 (by decide +kernel) rfl⟩
theorem fs_kX5_40 : fs_F RX5 40 5 8 := ⟨RX5, TX5, 12, rfl, by decide, fs_tm 199 (by decide +kernel) rfl⟩
theorem fs_kX6_187 : fs_F RX6 187 5 8 := ⟨RX5, TX5, 12, rfl, by decide, fs_tm 200 (by decide +kernel) rfl⟩
theorem fs_kX5_43 : fs_F RX5 43 5 9 := ⟨RX5, TX5, 12, rfl, by decide, fs_tm 201 (by decide +kernel) rfl⟩
theorem fs_kX6_190 : fs_F RX6 190 5 9 := ⟨RX5, TX5, 12, rfl, by decide, fs_tm 202 (by decide +kernel) rfl⟩
theorem fs_kX5_46 : fs_F RX5 46 5 10 := ⟨RX5, TX5, 12, rfl, by decide, fs_tm 203 (by decide +kernel) rfl⟩
theorem fs_kX5_49 : fs_F RX5 49 5 11 := ⟨RX5, TX5, 12, rfl, by decide, fs_tm 204 (by decide +kernel) rfl⟩
theorem fs_kX0_9 : fs_F RX0 9 0 0 := ⟨RX0, TX0, 12, rfl, by decide, fs_tm 236 (by decide +kernel) rfl⟩
theorem fs_kX6_193 : fs_F RX6 193 0 0 := ⟨RX0, TX0, 12, rfl, by decide, fs_tm 237 (by decide +kernel) rfl⟩
theorem fs_kX0_15 : fs_F RX0 15 0 1 := ⟨RX0, TX0, 12, rfl, by decide, fs_tm 238 (by decide +kernel) rfl⟩
theorem fs_kX6_196 : fs_F RX6 196 0 1 := ⟨RX0, TX0, 12, rfl, by decide, fs_tm 239 (by decide +kernel) rfl⟩
theorem fs_kX0_18 : fs_F RX0 18 0 2 := ⟨RX0, TX0, 12, rfl, by decide, fs_tm 240 (by decide +kernel) rfl⟩
theorem fs_kX6_202 : fs_F RX6 202 0 2 := ⟨RX0, TX0, 12, rfl, by decide, fs_tm 241 (by decide +kernel) rfl⟩
theorem fs_kX0_21 : fs_F RX0 21 0 3 := ⟨RX0, TX0, 12, rfl, by decide, fs_tm 242 (by decide +kernel) rfl⟩
theorem fs_kX6_205 : fs_F RX6 205 0 3 := ⟨RX0, TX0, 12, rfl, by decide, fs_tm 243 (by decide +kernel) rfl⟩
theorem fs_kX0_24 : fs_F RX0 24 0 4 := ⟨RX0, TX0, 12, rfl, by decide, fs_tm 244 (by decide +kernel) rfl⟩
theorem fs_kX6_208 : fs_F RX6 208 0 4 := ⟨RX0, TX0, 12, rfl, by decide, fs_tm 245 (by decide +kernel) rfl⟩
theorem fs_kX0_27 : fs_F RX0 27 0 5 := ⟨RX0, TX0, 12, rfl, by decide, fs_tm 246 (by decide +kernel) rfl⟩
theorem fs_kX6_211 : fs_F RX6 211 0 5 := ⟨RX0, TX0, 12, rfl, by decide, fs_tm 247 (by decide +kernel) rfl⟩
theorem fs_kX0_30 : fs_F RX0 30 0 6 := ⟨RX0, TX0, 12, rfl, by decide, fs_tm 248 (by decide +kernel) rfl⟩
theorem fs_kX6_214 : fs_F RX6 214 0 6 := ⟨RX0, TX0, 12, rfl, by decide, fs_tm 249 (by decide +kernel) rfl⟩
theorem fs_kX0_33 : fs_F RX0 33 0 7 := ⟨RX0, TX0, 12, rfl, by decide, fs_tm 250 (by decide +kernel) rfl⟩
theorem fs_kX6_217 : fs_F RX6 217 0 7 := ⟨RX0, TX0, 12, rfl, by decide, fs_tm 251 (by decide +kernel) rfl⟩
theorem fs_kX0_36 : fs_F RX0 36 0 8 := ⟨RX0, TX0, 12, rfl, by decide, fs_tm 252 (by decide +kernel) rfl⟩
theorem fs_kX6_226 : fs_F RX6 226 0 8 := ⟨RX0, TX0, 12, rfl, by decide, fs_tm 253 (by decide +kernel) rfl⟩
theorem fs_kX0_39 : fs_F RX0 39 0 9 := ⟨RX0, TX0, 12, rfl, by decide, fs_tm 254 (by decide +kernel) rfl⟩
theorem fs_kX6_223 : fs_F RX6 223 0 9 := ⟨RX0, TX0, 12, rfl, by decide, fs_tm 255 (by decide +kernel) rfl⟩
theorem fs_kX0_46 : fs_F RX0 46 0 10 := ⟨RX0, TX0, 12, rfl, by decide, fs_tm 256 (by decide +kernel) rfl⟩
theorem fs_kX0_43 : fs_F RX0 43 0 11 := ⟨RX0, TX0, 12, rfl, by decide, fs_tm 257 (by decide +kernel) rfl⟩
theorem fs_kX1_7 : fs_F RX1 7 1 0 := ⟨RX1, TX1, 4, rfl, by decide, fs_tm 292 (by decide +kernel) rfl⟩
theorem fs_kX6_243 : fs_F RX6 243 1 0 := ⟨RX1, TX1, 4, rfl, by decide, fs_tm 293 (by decide +kernel) rfl⟩
theorem fs_kX1_13 : fs_F RX1 13 1 1 := ⟨RX1, TX1, 4, rfl, by decide, fs_tm 294 (by decide +kernel) rfl⟩
theorem fs_kX6_241 : fs_F RX6 241 1 1 := ⟨RX1, TX1, 4, rfl, by decide, fs_tm 295 (by decide +kernel) rfl⟩
theorem fs_kX1_17 : fs_F RX1 17 1 2 := ⟨RX1, TX1, 4, rfl, by decide, fs_tm 296 (by decide +kernel) rfl⟩
theorem fs_kX6_242 : fs_F RX6 242 1 2 := ⟨RX1, TX1, 4, rfl, by decide, fs_tm 297 (by decide +kernel) rfl⟩
theorem fs_kX1_23 : fs_F RX1 23 1 3 := ⟨RX1, TX1, 4, rfl, by decide, fs_tm 298 (by decide +kernel) rfl⟩
theorem fs_kX6_237 : fs_F RX6 237 1 3 := ⟨RX1, TX1, 4, rfl, by decide, fs_tm 299 (by decide +kernel) rfl⟩
theorem fs_kX6_263 : Cond.fieldLink RX6 263 "FieldSorter" "GREATEST" "[I" ∈ fs_tbl := fs_tm 313 (by decide +kernel) rfl
theorem fs_kX6_10 : fs_F RX6 10 6 0 := ⟨RX6, TX6, 9, rfl, by decide, fs_tm 315 (by decide +kernel) rfl⟩
theorem fs_kX6_21 : fs_F RX6 21 6 1 := ⟨RX6, TX6, 9, rfl, by decide, fs_tm 316 (by decide +kernel) rfl⟩
theorem fs_kX6_30 : fs_F RX6 30 6 2 := ⟨RX6, TX6, 9, rfl, by decide, fs_tm 317 (by decide +kernel) rfl⟩
theorem fs_kX6_37 : fs_F RX6 37 6 3 := ⟨RX6, TX6, 9, rfl, by decide, fs_tm 318 (by decide +kernel) rfl⟩
theorem fs_kX6_46 : fs_F RX6 46 6 4 := ⟨RX6, TX6, 9, rfl, by decide, fs_tm 319 (by decide +kernel) rfl⟩
theorem fs_kX6_52 : fs_F RX6 52 6 5 := ⟨RX6, TX6, 9, rfl, by decide, fs_tm 320 (by decide +kernel) rfl⟩
theorem fs_kX6_57 : fs_F RX6 57 6 6 := ⟨RX6, TX6, 9, rfl, by decide, fs_tm 321 (by decide +kernel) rfl⟩
theorem fs_kX6_61 : fs_F RX6 61 6 7 := ⟨RX6, TX6, 9, rfl, by decide, fs_tm 322 (by decide +kernel) rfl⟩
theorem fs_kX6_64 : fs_F RX6 64 6 8 := ⟨RX6, TX6, 9, rfl, by decide, fs_tm 323 (by decide +kernel) rfl⟩
theorem fs_kX4_67 : Cond.fieldLink RX4 67 "FieldSorter$Survey" "REST" "[I" ∈ fs_tbl := fs_tm 472 (by decide +kernel) rfl
theorem fs_kX6_157 : Cond.fieldLink RX6 157 "FieldSorter" "WIDTH" "[I" ∈ fs_tbl := fs_tm 525 (by decide +kernel) rfl
theorem fs_kX5_53 : Cond.fieldLink RX5 53 "FieldSorter$Tuples" "SHIFT" "[I" ∈ fs_tbl := fs_tm 574 (by decide +kernel) rfl
theorem fs_kX5_56 : Cond.fieldLink RX5 56 "FieldSorter$Tuples" "LENGTH_MASK" "[I" ∈ fs_tbl := fs_tm 580 (by decide +kernel) rfl
theorem fs_kX7_104 : fs_F RX7 104 7 0 := ⟨RX7, TX7, 34, rfl, by decide, fs_tm 696 (by decide +kernel) rfl⟩
theorem fs_kX7_7 : fs_F RX7 7 7 1 := ⟨RX7, TX7, 34, rfl, by decide, fs_tm 697 (by decide +kernel) rfl⟩
theorem fs_kX7_13 : fs_F RX7 13 7 2 := ⟨RX7, TX7, 34, rfl, by decide, fs_tm 698 (by decide +kernel) rfl⟩
theorem fs_kX7_16 : fs_F RX7 16 7 3 := ⟨RX7, TX7, 34, rfl, by decide, fs_tm 699 (by decide +kernel) rfl⟩
theorem fs_kX7_19 : fs_F RX7 19 7 4 := ⟨RX7, TX7, 34, rfl, by decide, fs_tm 700 (by decide +kernel) rfl⟩
theorem fs_kX7_22 : fs_F RX7 22 7 5 := ⟨RX7, TX7, 34, rfl, by decide, fs_tm 701 (by decide +kernel) rfl⟩
theorem fs_kX7_26 : fs_F RX7 26 7 6 := ⟨RX7, TX7, 34, rfl, by decide, fs_tm 702 (by decide +kernel) rfl⟩
theorem fs_kX7_111 : fs_F RX7 111 7 7 := ⟨RX7, TX7, 34, rfl, by decide, fs_tm 703 (by decide +kernel) rfl⟩
theorem fs_kX7_115 : fs_F RX7 115 7 8 := ⟨RX7, TX7, 34, rfl, by decide, fs_tm 704 (by decide +kernel) rfl⟩
theorem fs_kX7_118 : fs_F RX7 118 7 9 := ⟨RX7, TX7, 34, rfl, by decide, fs_tm 705 (by decide +kernel) rfl⟩
theorem fs_kX7_121 : fs_F RX7 121 7 10 := ⟨RX7, TX7, 34, rfl, by decide, fs_tm 706 (by decide +kernel) rfl⟩
theorem fs_kX7_29 : fs_F RX7 29 7 11 := ⟨RX7, TX7, 34, rfl, by decide, fs_tm 707 (by decide +kernel) rfl⟩
theorem fs_kX7_32 : fs_F RX7 32 7 12 := ⟨RX7, TX7, 34, rfl, by decide, fs_tm 708 (by decide +kernel) rfl⟩
theorem fs_kX7_35 : fs_F RX7 35 7 13 := ⟨RX7, TX7, 34, rfl, by decide, fs_tm 709 (by decide +kernel) rfl⟩
theorem fs_kX7_38 : fs_F RX7 38 7 14 := ⟨RX7, TX7, 34, rfl, by decide, fs_tm 710 (by decide +kernel) rfl⟩
theorem fs_kX7_41 : fs_F RX7 41 7 15 := ⟨RX7, TX7, 34, rfl, by decide, fs_tm 711 (by decide +kernel) rfl⟩
theorem fs_kX7_44 : fs_F RX7 44 7 16 := ⟨RX7, TX7, 34, rfl, by decide, fs_tm 712 (by decide +kernel) rfl⟩
theorem fs_kX7_47 : fs_F RX7 47 7 17 := ⟨RX7, TX7, 34, rfl, by decide, fs_tm 713 (by decide +kernel) rfl⟩
theorem fs_kX7_51 : fs_F RX7 51 7 18 := ⟨RX7, TX7, 34, rfl, by decide, fs_tm 714 (by decide +kernel) rfl⟩
theorem fs_kX7_54 : fs_F RX7 54 7 19 := ⟨RX7, TX7, 34, rfl, by decide, fs_tm 715 (by decide +kernel) rfl⟩
theorem fs_kX7_57 : fs_F RX7 57 7 20 := ⟨RX7, TX7, 34, rfl, by decide, fs_tm 716 (by decide +kernel) rfl⟩
theorem fs_kX7_60 : fs_F RX7 60 7 21 := ⟨RX7, TX7, 34, rfl, by decide, fs_tm 717 (by decide +kernel) rfl⟩
theorem fs_kX7_63 : fs_F RX7 63 7 22 := ⟨RX7, TX7, 34, rfl, by decide, fs_tm 718 (by decide +kernel) rfl⟩
theorem fs_kX7_199 : fs_F RX7 199 7 23 := ⟨RX7, TX7, 34, rfl, by decide, fs_tm 719 (by decide +kernel) rfl⟩
theorem fs_kX7_66 : fs_F RX7 66 7 24 := ⟨RX7, TX7, 34, rfl, by decide, fs_tm 720 (by decide +kernel) rfl⟩
theorem fs_kX7_221 : fs_F RX7 221 7 25 := ⟨RX7, TX7, 34, rfl, by decide, fs_tm 721 (by decide +kernel) rfl⟩
theorem fs_kX7_69 : fs_F RX7 69 7 26 := ⟨RX7, TX7, 34, rfl, by decide, fs_tm 722 (by decide +kernel) rfl⟩
theorem fs_kX7_72 : fs_F RX7 72 7 27 := ⟨RX7, TX7, 34, rfl, by decide, fs_tm 723 (by decide +kernel) rfl⟩
theorem fs_kX7_75 : fs_F RX7 75 7 28 := ⟨RX7, TX7, 34, rfl, by decide, fs_tm 724 (by decide +kernel) rfl⟩
theorem fs_kX7_78 : fs_F RX7 78 7 29 := ⟨RX7, TX7, 34, rfl, by decide, fs_tm 725 (by decide +kernel) rfl⟩
theorem fs_kX7_81 : fs_F RX7 81 7 30 := ⟨RX7, TX7, 34, rfl, by decide, fs_tm 726 (by decide +kernel) rfl⟩
theorem fs_kX7_84 : fs_F RX7 84 7 31 := ⟨RX7, TX7, 34, rfl, by decide, fs_tm 727 (by decide +kernel) rfl⟩
theorem fs_kX7_87 : fs_F RX7 87 7 32 := ⟨RX7, TX7, 34, rfl, by decide, fs_tm 728 (by decide +kernel) rfl⟩
theorem fs_kX7_90 : fs_F RX7 90 7 33 := ⟨RX7, TX7, 34, rfl, by decide, fs_tm 729 (by decide +kernel) rfl⟩
abbrev fs_Me : Type := MethodName × ByteArray × Nat × Option FieldType
abbrev mX6_init : fs_Me := (yX6_init, cX6_init, 2, none)
abbrev mX3_init : fs_Me := (yX3_init, cX3_init, 1, none)
abbrev mX2_init : fs_Me := (yX2_init, cX2_init, 2, none)
abbrev mX4_init : fs_Me := (yX4_init, cX4_init, 3, none)
abbrev mX5_init : fs_Me := (yX5_init, cX5_init, 2, none)
abbrev mX0_init : fs_Me := (yX0_init, cX0_init, 2, none)
abbrev mX1_init : fs_Me := (yX1_init, cX1_init, 1, none)
abbrev mX6_clearDraft : fs_Me := (yX6_clearDraft, cX6_clearDraft, 2, none)
abbrev mX6_draft : fs_Me := (yX6_draft, cX6_draft, 4, some .int)
abbrev mX6_isField : fs_Me := (yX6_isField, cX6_isField, 1, some .boolean)
abbrev mX6_isNumber : fs_Me := (yX6_isNumber, cX6_isNumber, 2, some .boolean)
abbrev mX6_rule : fs_Me := (yX6_rule, cX6_rule, 3, some .int)
abbrev mX6_isRank : fs_Me := (yX6_isRank, cX6_isRank, 1, some .boolean)
abbrev mX6_isAction : fs_Me := (yX6_isAction, cX6_isAction, 1, some .boolean)
abbrev mX3_add : fs_Me := (yX3_add, cX3_add, 6, none)
abbrev mX6_rulesChanged : fs_Me := (yX6_rulesChanged, cX6_rulesChanged, 1, none)
abbrev mX3_sort : fs_Me := (yX3_sort, cX3_sort, 4, none)
abbrev mX3_isAhead : fs_Me := (yX3_isAhead, cX3_isAhead, 3, some .boolean)
abbrev mX2_build : fs_Me := (yX2_build, cX2_build, 3, none)
abbrev mX2_fillNumbers : fs_Me := (yX2_fillNumbers, cX2_fillNumbers, 7, none)
abbrev mX6_drop : fs_Me := (yX6_drop, cX6_drop, 2, some .int)
abbrev mX3_has : fs_Me := (yX3_has, cX3_has, 2, some .boolean)
abbrev mX3_remove : fs_Me := (yX3_remove, cX3_remove, 3, none)
abbrev mX3_copyRule : fs_Me := (yX3_copyRule, cX3_copyRule, 5, none)
abbrev mX6_rank : fs_Me := (yX6_rank, cX6_rank, 3, some .int)
abbrev mX6_told : fs_Me := (yX6_told, cX6_told, 3, some .int)
abbrev mX6_toldBound : fs_Me := (yX6_toldBound, cX6_toldBound, 4, some .int)
abbrev mX6_first : fs_Me := (yX6_first, cX6_first, 5, some .int)
abbrev mX6_isPacket : fs_Me := (yX6_isPacket, cX6_isPacket, 4, some .boolean)
abbrev mX6_setPacket : fs_Me := (yX6_setPacket, cX6_setPacket, 5, none)
abbrev mX2_fitting : fs_Me := (yX2_fitting, cX2_fitting, 4, some .int)
abbrev mX2_all : fs_Me := (yX2_all, cX2_all, 1, some .int)
abbrev mX2_ofNumber : fs_Me := (yX2_ofNumber, cX2_ofNumber, 3, some .int)
abbrev mX6_lowestBit : fs_Me := (yX6_lowestBit, cX6_lowestBit, 1, some .int)
abbrev mJ6_bitCount_0f7a4 : fs_Me := (yJ6_bitCount_0f7a4, cJ6_bitCount_0f7a4, 1, some .int)
abbrev mX6_ruleAt : fs_Me := (yX6_ruleAt, cX6_ruleAt, 2, some .int)
abbrev mX6_wins : fs_Me := (yX6_wins, cX6_wins, 2, some .int)
abbrev mX4_refresh : fs_Me := (yX4_refresh, cX4_refresh, 2, none)
abbrev mX4_gatherRuns : fs_Me := (yX4_gatherRuns, cX4_gatherRuns, 5, none)
abbrev mX4_sweep : fs_Me := (yX4_sweep, cX4_sweep, 8, none)
abbrev mX4_tally : fs_Me := (yX4_tally, cX4_tally, 5, none)
abbrev mX4_actionAt : fs_Me := (yX4_actionAt, cX4_actionAt, 2, some .int)
abbrev mX6_overlap : fs_Me := (yX6_overlap, cX6_overlap, 5, some .int)
abbrev mX3_shared : fs_Me := (yX3_shared, cX3_shared, 6, some .int)
abbrev mJ9_max_7cf53 : fs_Me := (yJ9_max_7cf53, cJ9_max_7cf53, 2, some .int)
abbrev mJ9_min_7cf53 : fs_Me := (yJ9_min_7cf53, cJ9_min_7cf53, 2, some .int)
abbrev mX6_covered : fs_Me := (yX6_covered, cX6_covered, 2, some .int)
abbrev mX3_coverOf : fs_Me := (yX3_coverOf, cX3_coverOf, 3, some .int)
abbrev mX3_holds : fs_Me := (yX3_holds, cX3_holds, 4, some .boolean)
abbrev mX6_idle : fs_Me := (yX6_idle, cX6_idle, 2, some .int)
abbrev mX6_packets : fs_Me := (yX6_packets, cX6_packets, 2, some .int)
abbrev mX4_wonByAction : fs_Me := (yX4_wonByAction, cX4_wonByAction, 4, some .int)
abbrev mX6_split : fs_Me := (yX6_split, cX6_split, 5, some .int)
abbrev mX3_prefixesOf : fs_Me := (yX3_prefixesOf, cX3_prefixesOf, 5, some .int)
abbrev mX3_prefixesWithin : fs_Me := (yX3_prefixesWithin, cX3_prefixesWithin, 7, some .int)
abbrev mX6_prefix : fs_Me := (yX6_prefix, cX6_prefix, 6, some .int)
abbrev mX3_prefixValue : fs_Me := (yX3_prefixValue, cX3_prefixValue, 6, some .int)
abbrev mX3_prefixLength : fs_Me := (yX3_prefixLength, cX3_prefixLength, 7, some .int)
abbrev mX6_tuple : fs_Me := (yX6_tuple, cX6_tuple, 3, some .int)
abbrev mX5_refresh : fs_Me := (yX5_refresh, cX5_refresh, 2, none)
abbrev mJ7_fill_53178 : fs_Me := (yJ7_fill_53178, cJ7_fill_53178, 4, none)
abbrev mX5_countPieces : fs_Me := (yX5_countPieces, cX5_countPieces, 4, none)
abbrev mX5_enter : fs_Me := (yX5_enter, cX5_enter, 6, none)
abbrev mX5_put : fs_Me := (yX5_put, cX5_put, 5, none)
abbrev mX5_lengthIn : fs_Me := (yX5_lengthIn, cX5_lengthIn, 3, some .int)
abbrev mX6_probe : fs_Me := (yX6_probe, cX6_probe, 6, some .int)
abbrev mX5_search : fs_Me := (yX5_search, cX5_search, 4, none)
abbrev mX5_packetKey : fs_Me := (yX5_packetKey, cX5_packetKey, 5, some .int)
abbrev mX3_takes : fs_Me := (yX3_takes, cX3_takes, 4, some .boolean)
abbrev mX5_firstWithKey : fs_Me := (yX5_firstWithKey, cX5_firstWithKey, 3, some .int)
abbrev mX6_grow : fs_Me := (yX6_grow, cX6_grow, 4, some .int)
abbrev mX6_tree : fs_Me := (yX6_tree, cX6_tree, 2, some .int)
abbrev mX0_measure : fs_Me := (yX0_measure, cX0_measure, 1, none)
abbrev mX0_visit : fs_Me := (yX0_visit, cX0_visit, 5, none)
abbrev mX0_cutField : fs_Me := (yX0_cutField, cX0_cutField, 12, some .int)
abbrev mX0_addLeaf : fs_Me := (yX0_addLeaf, cX0_addLeaf, 2, none)
abbrev mX6_walk : fs_Me := (yX6_walk, cX6_walk, 8, some .int)
abbrev mX0_descend : fs_Me := (yX0_descend, cX0_descend, 5, some .int)
abbrev mX6_lookedAt : fs_Me := (yX6_lookedAt, cX6_lookedAt, 3, some .int)
abbrev mX6_image : fs_Me := (yX6_image, cX6_image, 3, some .int)
abbrev mX3_copyFrom : fs_Me := (yX3_copyFrom, cX3_copyFrom, 3, none)
abbrev mX6_restore : fs_Me := (yX6_restore, cX6_restore, 3, some .int)
abbrev mX6_count : fs_Me := (yX6_count, cX6_count, 2, some .int)
abbrev mX6_countTuples : fs_Me := (yX6_countTuples, cX6_countTuples, 1, some .int)
abbrev mX6_countEntries : fs_Me := (yX6_countEntries, cX6_countEntries, 3, some .int)
abbrev mX6_countIdle : fs_Me := (yX6_countIdle, cX6_countIdle, 3, some .int)
abbrev mX6_countCovered : fs_Me := (yX6_countCovered, cX6_countCovered, 3, some .int)
abbrev mX6_keptImages : fs_Me := (yX6_keptImages, cX6_keptImages, 3, some .int)
abbrev mX7_init : fs_Me := (yX7_init, cX7_init, 1, none)
abbrev mX7_clearDraft : fs_Me := (yX7_clearDraft, cX7_clearDraft, 2, none)
abbrev mX7_most : fs_Me := (yX7_most, cX7_most, 1, some .int)
abbrev mX7_width : fs_Me := (yX7_width, cX7_width, 1, some .int)
abbrev mX7_draft : fs_Me := (yX7_draft, cX7_draft, 4, some .int)
abbrev mX7_isField : fs_Me := (yX7_isField, cX7_isField, 1, some .boolean)
abbrev mX7_in : fs_Me := (yX7_in, cX7_in, 3, some .boolean)
abbrev mX7_rule : fs_Me := (yX7_rule, cX7_rule, 4, some .int)
abbrev mX7_change : fs_Me := (yX7_change, cX7_change, 1, none)
abbrev mX7_drop : fs_Me := (yX7_drop, cX7_drop, 4, some .int)
abbrev mX7_isRule : fs_Me := (yX7_isRule, cX7_isRule, 2, some .boolean)
abbrev mX7_rank : fs_Me := (yX7_rank, cX7_rank, 3, some .int)
abbrev mX7_aheadOf : fs_Me := (yX7_aheadOf, cX7_aheadOf, 4, some .int)
abbrev mX7_isAhead : fs_Me := (yX7_isAhead, cX7_isAhead, 3, some .boolean)
abbrev mX7_told : fs_Me := (yX7_told, cX7_told, 4, some .int)
abbrev mX7_first : fs_Me := (yX7_first, cX7_first, 6, some .int)
abbrev mX7_isPacket : fs_Me := (yX7_isPacket, cX7_isPacket, 4, some .boolean)
abbrev mX7_fitting : fs_Me := (yX7_fitting, cX7_fitting, 5, some .int)
abbrev mX7_order : fs_Me := (yX7_order, cX7_order, 3, none)
abbrev mX7_takersOf : fs_Me := (yX7_takersOf, cX7_takersOf, 7, some .int)
abbrev mX7_lowest : fs_Me := (yX7_lowest, cX7_lowest, 2, some .int)
abbrev mX7_has : fs_Me := (yX7_has, cX7_has, 2, some .boolean)
abbrev mX7_wins : fs_Me := (yX7_wins, cX7_wins, 2, some .int)
abbrev mX7_sweep : fs_Me := (yX7_sweep, cX7_sweep, 8, none)
abbrev mX7_layStretches : fs_Me := (yX7_layStretches, cX7_layStretches, 3, none)
abbrev mX7_meet : fs_Me := (yX7_meet, cX7_meet, 6, none)
abbrev mX7_overlap : fs_Me := (yX7_overlap, cX7_overlap, 7, some .int)
abbrev mX7_covered : fs_Me := (yX7_covered, cX7_covered, 2, some .int)
abbrev mX7_coverOf : fs_Me := (yX7_coverOf, cX7_coverOf, 4, some .int)
abbrev mX7_isWithin : fs_Me := (yX7_isWithin, cX7_isWithin, 5, some .boolean)
abbrev mX7_idle : fs_Me := (yX7_idle, cX7_idle, 2, some .int)
abbrev mX7_packets : fs_Me := (yX7_packets, cX7_packets, 2, some .int)
abbrev mX7_split : fs_Me := (yX7_split, cX7_split, 3, some .int)
abbrev mX7_prefixes : fs_Me := (yX7_prefixes, cX7_prefixes, 4, some .int)
abbrev mX7_valueOf : fs_Me := (yX7_valueOf, cX7_valueOf, 7, some .int)
abbrev mX7_lengthAt : fs_Me := (yX7_lengthAt, cX7_lengthAt, 5, some .int)
abbrev mX7_prefix : fs_Me := (yX7_prefix, cX7_prefix, 6, some .int)
abbrev mX7_tuple : fs_Me := (yX7_tuple, cX7_tuple, 3, some .int)
abbrev mX7_listTuples : fs_Me := (yX7_listTuples, cX7_listTuples, 3, none)
abbrev mX7_ofLength : fs_Me := (yX7_ofLength, cX7_ofLength, 8, some .int)
abbrev mX7_membersOf : fs_Me := (yX7_membersOf, cX7_membersOf, 4, some .int)
abbrev mX7_entriesOf : fs_Me := (yX7_entriesOf, cX7_entriesOf, 5, some .int)
abbrev mX7_lengthIn : fs_Me := (yX7_lengthIn, cX7_lengthIn, 2, some .int)
abbrev mX7_entries : fs_Me := (yX7_entries, cX7_entries, 4, some .int)
abbrev mX7_bits : fs_Me := (yX7_bits, cX7_bits, 3, some .int)
abbrev mX7_probe : fs_Me := (yX7_probe, cX7_probe, 10, some .int)
abbrev mX7_codeOf : fs_Me := (yX7_codeOf, cX7_codeOf, 6, some .int)
abbrev mX7_lengthOf : fs_Me := (yX7_lengthOf, cX7_lengthOf, 7, some .int)
abbrev mX7_grow : fs_Me := (yX7_grow, cX7_grow, 4, some .int)
abbrev mX7_tree : fs_Me := (yX7_tree, cX7_tree, 9, some .int)
abbrev mX7_growTree : fs_Me := (yX7_growTree, cX7_growTree, 2, none)
abbrev mX7_cutOf : fs_Me := (yX7_cutOf, cX7_cutOf, 10, some .int)
abbrev mX7_halved : fs_Me := (yX7_halved, cX7_halved, 7, some .int)
abbrev mX7_addBelow : fs_Me := (yX7_addBelow, cX7_addBelow, 7, none)
abbrev mX7_walk : fs_Me := (yX7_walk, cX7_walk, 10, some .int)
abbrev mX7_looked : fs_Me := (yX7_looked, cX7_looked, 5, some .int)
abbrev mX7_image : fs_Me := (yX7_image, cX7_image, 4, some .int)
abbrev mX7_restore : fs_Me := (yX7_restore, cX7_restore, 4, some .int)
abbrev mX7_count : fs_Me := (yX7_count, cX7_count, 2, some .int)
abbrev mX7_allEntries : fs_Me := (yX7_allEntries, cX7_allEntries, 3, some .int)
abbrev mX7_idleOnes : fs_Me := (yX7_idleOnes, cX7_idleOnes, 3, some .int)
abbrev mX7_coveredOnes : fs_Me := (yX7_coveredOnes, cX7_coveredOnes, 3, some .int)
/-- a method that can be called: its code is a word, its class is set up, so many arguments -/
def fs_Ok (M : fs_Me) (n : Nat) : Prop := (M.2.2.1 ≤ 45 ∧ plainName M.1.cls = true) ∧ Cond.code M.1 M.2.1 M.2.2.1 M.2.2.2 ∈ fs_tbl ∧ Cond.initialized M.1.cls ∈ fs_tbl ∧ M.1.cls ≠ "java/lang/invoke/MethodHandle" ∧ M.1.cls ≠ "java/lang/invoke/VarHandle" ∧ (parseMethodDescriptor M.1.desc).map (fun d => d.parameters.length) = some n
theorem fs_oX6_init : fs_Ok mX6_init 0 := ⟨⟨by decide, by decide +kernel⟩, fs_tm 73 (by decide +kernel) rfl, fs_tm 58 (by decide +kernel) rfl, by decide +kernel, by decide +kernel, by decide +kernel⟩
theorem fs_oX3_init : fs_Ok mX3_init 0 := ⟨⟨by decide, by decide +kernel⟩, fs_tm 81 (by decide +kernel) rfl, fs_tm 59 (by decide +kernel) rfl, by decide +kernel, by decide +kernel, by decide +kernel⟩
theorem fs_oX2_init : fs_Ok mX2_init 1 := ⟨⟨by decide, by decide +kernel⟩, fs_tm 128 (by decide +kernel) rfl, fs_tm 60 (by decide +kernel) rfl, by decide +kernel, by decide +kernel, by decide +kernel⟩
theorem fs_oX4_init : fs_Ok mX4_init 2 := ⟨⟨by decide, by decide +kernel⟩, fs_tm 143 (by decide +kernel) rfl, fs_tm 61 (by decide +kernel) rfl, by decide +kernel, by decide +kernel, by decide +kernel⟩
theorem fs_oX5_init : fs_Ok mX5_init 1 := ⟨⟨by decide, by decide +kernel⟩, fs_tm 183 (by decide +kernel) rfl, fs_tm 62 (by decide +kernel) rfl, by decide +kernel, by decide +kernel, by decide +kernel⟩
theorem fs_oX0_init : fs_Ok mX0_init 1 := ⟨⟨by decide, by decide +kernel⟩, fs_tm 234 (by decide +kernel) rfl, fs_tm 63 (by decide +kernel) rfl, by decide +kernel, by decide +kernel, by decide +kernel⟩
theorem fs_oX1_init : fs_Ok mX1_init 0 := ⟨⟨by decide, by decide +kernel⟩, fs_tm 288 (by decide +kernel) rfl, fs_tm 64 (by decide +kernel) rfl, by decide +kernel, by decide +kernel, by decide +kernel⟩
theorem fs_oX6_clearDraft : fs_Ok mX6_clearDraft 0 := ⟨⟨by decide, by decide +kernel⟩, fs_tm 312 (by decide +kernel) rfl, fs_tm 58 (by decide +kernel) rfl, by decide +kernel, by decide +kernel, by decide +kernel⟩
theorem fs_oX6_draft : fs_Ok mX6_draft 3 := ⟨⟨by decide, by decide +kernel⟩, fs_tm 346 (by decide +kernel) rfl, fs_tm 58 (by decide +kernel) rfl, by decide +kernel, by decide +kernel, by decide +kernel⟩
theorem fs_oX6_isField : fs_Ok mX6_isField 1 := ⟨⟨by decide, by decide +kernel⟩, fs_tm 349 (by decide +kernel) rfl, fs_tm 58 (by decide +kernel) rfl, by decide +kernel, by decide +kernel, by decide +kernel⟩
theorem fs_oX6_isNumber : fs_Ok mX6_isNumber 2 := ⟨⟨by decide, by decide +kernel⟩, fs_tm 352 (by decide +kernel) rfl, fs_tm 58 (by decide +kernel) rfl, by decide +kernel, by decide +kernel, by decide +kernel⟩
theorem fs_oX6_rule : fs_Ok mX6_rule 2 := ⟨⟨by decide, by decide +kernel⟩, fs_tm 356 (by decide +kernel) rfl, fs_tm 58 (by decide +kernel) rfl, by decide +kernel, by decide +kernel, by decide +kernel⟩
theorem fs_oX6_isRank : fs_Ok mX6_isRank 1 := ⟨⟨by decide, by decide +kernel⟩, fs_tm 359 (by decide +kernel) rfl, fs_tm 58 (by decide +kernel) rfl, by decide +kernel, by decide +kernel, by decide +kernel⟩
theorem fs_oX6_isAction : fs_Ok mX6_isAction 1 := ⟨⟨by decide, by decide +kernel⟩, fs_tm 362 (by decide +kernel) rfl, fs_tm 58 (by decide +kernel) rfl, by decide +kernel, by decide +kernel, by decide +kernel⟩
theorem fs_oX3_add : fs_Ok mX3_add 4 := ⟨⟨by decide, by decide +kernel⟩, fs_tm 366 (by decide +kernel) rfl, fs_tm 59 (by decide +kernel) rfl, by decide +kernel, by decide +kernel, by decide +kernel⟩
theorem fs_oX6_rulesChanged : fs_Ok mX6_rulesChanged 0 := ⟨⟨by decide, by decide +kernel⟩, fs_tm 370 (by decide +kernel) rfl, fs_tm 58 (by decide +kernel) rfl, by decide +kernel, by decide +kernel, by decide +kernel⟩
theorem fs_oX3_sort : fs_Ok mX3_sort 0 := ⟨⟨by decide, by decide +kernel⟩, fs_tm 374 (by decide +kernel) rfl, fs_tm 59 (by decide +kernel) rfl, by decide +kernel, by decide +kernel, by decide +kernel⟩
theorem fs_oX3_isAhead : fs_Ok mX3_isAhead 2 := ⟨⟨by decide, by decide +kernel⟩, fs_tm 378 (by decide +kernel) rfl, fs_tm 59 (by decide +kernel) rfl, by decide +kernel, by decide +kernel, by decide +kernel⟩
theorem fs_oX2_build : fs_Ok mX2_build 0 := ⟨⟨by decide, by decide +kernel⟩, fs_tm 382 (by decide +kernel) rfl, fs_tm 60 (by decide +kernel) rfl, by decide +kernel, by decide +kernel, by decide +kernel⟩
theorem fs_oX2_fillNumbers : fs_Ok mX2_fillNumbers 2 := ⟨⟨by decide, by decide +kernel⟩, fs_tm 386 (by decide +kernel) rfl, fs_tm 60 (by decide +kernel) rfl, by decide +kernel, by decide +kernel, by decide +kernel⟩
theorem fs_oX6_drop : fs_Ok mX6_drop 1 := ⟨⟨by decide, by decide +kernel⟩, fs_tm 391 (by decide +kernel) rfl, fs_tm 58 (by decide +kernel) rfl, by decide +kernel, by decide +kernel, by decide +kernel⟩
theorem fs_oX3_has : fs_Ok mX3_has 1 := ⟨⟨by decide, by decide +kernel⟩, fs_tm 395 (by decide +kernel) rfl, fs_tm 59 (by decide +kernel) rfl, by decide +kernel, by decide +kernel, by decide +kernel⟩
theorem fs_oX3_remove : fs_Ok mX3_remove 1 := ⟨⟨by decide, by decide +kernel⟩, fs_tm 399 (by decide +kernel) rfl, fs_tm 59 (by decide +kernel) rfl, by decide +kernel, by decide +kernel, by decide +kernel⟩
theorem fs_oX3_copyRule : fs_Ok mX3_copyRule 3 := ⟨⟨by decide, by decide +kernel⟩, fs_tm 404 (by decide +kernel) rfl, fs_tm 59 (by decide +kernel) rfl, by decide +kernel, by decide +kernel, by decide +kernel⟩
theorem fs_oX6_rank : fs_Ok mX6_rank 2 := ⟨⟨by decide, by decide +kernel⟩, fs_tm 408 (by decide +kernel) rfl, fs_tm 58 (by decide +kernel) rfl, by decide +kernel, by decide +kernel, by decide +kernel⟩
theorem fs_oX6_told : fs_Ok mX6_told 2 := ⟨⟨by decide, by decide +kernel⟩, fs_tm 412 (by decide +kernel) rfl, fs_tm 58 (by decide +kernel) rfl, by decide +kernel, by decide +kernel, by decide +kernel⟩
theorem fs_oX6_toldBound : fs_Ok mX6_toldBound 2 := ⟨⟨by decide, by decide +kernel⟩, fs_tm 416 (by decide +kernel) rfl, fs_tm 58 (by decide +kernel) rfl, by decide +kernel, by decide +kernel, by decide +kernel⟩
theorem fs_oX6_first : fs_Ok mX6_first 4 := ⟨⟨by decide, by decide +kernel⟩, fs_tm 420 (by decide +kernel) rfl, fs_tm 58 (by decide +kernel) rfl, by decide +kernel, by decide +kernel, by decide +kernel⟩
theorem fs_oX6_isPacket : fs_Ok mX6_isPacket 4 := ⟨⟨by decide, by decide +kernel⟩, fs_tm 423 (by decide +kernel) rfl, fs_tm 58 (by decide +kernel) rfl, by decide +kernel, by decide +kernel, by decide +kernel⟩
theorem fs_oX6_setPacket : fs_Ok mX6_setPacket 4 := ⟨⟨by decide, by decide +kernel⟩, fs_tm 427 (by decide +kernel) rfl, fs_tm 58 (by decide +kernel) rfl, by decide +kernel, by decide +kernel, by decide +kernel⟩
theorem fs_oX2_fitting : fs_Ok mX2_fitting 1 := ⟨⟨by decide, by decide +kernel⟩, fs_tm 431 (by decide +kernel) rfl, fs_tm 60 (by decide +kernel) rfl, by decide +kernel, by decide +kernel, by decide +kernel⟩
theorem fs_oX2_all : fs_Ok mX2_all 0 := ⟨⟨by decide, by decide +kernel⟩, fs_tm 435 (by decide +kernel) rfl, fs_tm 60 (by decide +kernel) rfl, by decide +kernel, by decide +kernel, by decide +kernel⟩
theorem fs_oX2_ofNumber : fs_Ok mX2_ofNumber 2 := ⟨⟨by decide, by decide +kernel⟩, fs_tm 439 (by decide +kernel) rfl, fs_tm 60 (by decide +kernel) rfl, by decide +kernel, by decide +kernel, by decide +kernel⟩
theorem fs_oX6_lowestBit : fs_Ok mX6_lowestBit 1 := ⟨⟨by decide, by decide +kernel⟩, fs_tm 442 (by decide +kernel) rfl, fs_tm 58 (by decide +kernel) rfl, by decide +kernel, by decide +kernel, by decide +kernel⟩
theorem fs_oJ6_bitCount_0f7a4 : fs_Ok mJ6_bitCount_0f7a4 1 := ⟨⟨by decide, by decide +kernel⟩, fs_tm 445 (by decide +kernel) rfl, fs_tm 66 (by decide +kernel) rfl, by decide +kernel, by decide +kernel, by decide +kernel⟩
theorem fs_oX6_ruleAt : fs_Ok mX6_ruleAt 1 := ⟨⟨by decide, by decide +kernel⟩, fs_tm 452 (by decide +kernel) rfl, fs_tm 58 (by decide +kernel) rfl, by decide +kernel, by decide +kernel, by decide +kernel⟩
theorem fs_oX6_wins : fs_Ok mX6_wins 1 := ⟨⟨by decide, by decide +kernel⟩, fs_tm 456 (by decide +kernel) rfl, fs_tm 58 (by decide +kernel) rfl, by decide +kernel, by decide +kernel, by decide +kernel⟩
theorem fs_oX4_refresh : fs_Ok mX4_refresh 0 := ⟨⟨by decide, by decide +kernel⟩, fs_tm 460 (by decide +kernel) rfl, fs_tm 61 (by decide +kernel) rfl, by decide +kernel, by decide +kernel, by decide +kernel⟩
theorem fs_oX4_gatherRuns : fs_Ok mX4_gatherRuns 1 := ⟨⟨by decide, by decide +kernel⟩, fs_tm 464 (by decide +kernel) rfl, fs_tm 61 (by decide +kernel) rfl, by decide +kernel, by decide +kernel, by decide +kernel⟩
theorem fs_oX4_sweep : fs_Ok mX4_sweep 3 := ⟨⟨by decide, by decide +kernel⟩, fs_tm 471 (by decide +kernel) rfl, fs_tm 61 (by decide +kernel) rfl, by decide +kernel, by decide +kernel, by decide +kernel⟩
theorem fs_oX4_tally : fs_Ok mX4_tally 2 := ⟨⟨by decide, by decide +kernel⟩, fs_tm 477 (by decide +kernel) rfl, fs_tm 61 (by decide +kernel) rfl, by decide +kernel, by decide +kernel, by decide +kernel⟩
theorem fs_oX4_actionAt : fs_Ok mX4_actionAt 1 := ⟨⟨by decide, by decide +kernel⟩, fs_tm 482 (by decide +kernel) rfl, fs_tm 61 (by decide +kernel) rfl, by decide +kernel, by decide +kernel, by decide +kernel⟩
theorem fs_oX6_overlap : fs_Ok mX6_overlap 2 := ⟨⟨by decide, by decide +kernel⟩, fs_tm 486 (by decide +kernel) rfl, fs_tm 58 (by decide +kernel) rfl, by decide +kernel, by decide +kernel, by decide +kernel⟩
theorem fs_oX3_shared : fs_Ok mX3_shared 3 := ⟨⟨by decide, by decide +kernel⟩, fs_tm 490 (by decide +kernel) rfl, fs_tm 59 (by decide +kernel) rfl, by decide +kernel, by decide +kernel, by decide +kernel⟩
theorem fs_oX6_covered : fs_Ok mX6_covered 1 := ⟨⟨by decide, by decide +kernel⟩, fs_tm 500 (by decide +kernel) rfl, fs_tm 58 (by decide +kernel) rfl, by decide +kernel, by decide +kernel, by decide +kernel⟩
theorem fs_oX3_coverOf : fs_Ok mX3_coverOf 1 := ⟨⟨by decide, by decide +kernel⟩, fs_tm 504 (by decide +kernel) rfl, fs_tm 59 (by decide +kernel) rfl, by decide +kernel, by decide +kernel, by decide +kernel⟩
theorem fs_oX3_holds : fs_Ok mX3_holds 2 := ⟨⟨by decide, by decide +kernel⟩, fs_tm 508 (by decide +kernel) rfl, fs_tm 59 (by decide +kernel) rfl, by decide +kernel, by decide +kernel, by decide +kernel⟩
theorem fs_oX6_idle : fs_Ok mX6_idle 1 := ⟨⟨by decide, by decide +kernel⟩, fs_tm 512 (by decide +kernel) rfl, fs_tm 58 (by decide +kernel) rfl, by decide +kernel, by decide +kernel, by decide +kernel⟩
theorem fs_oX6_packets : fs_Ok mX6_packets 1 := ⟨⟨by decide, by decide +kernel⟩, fs_tm 516 (by decide +kernel) rfl, fs_tm 58 (by decide +kernel) rfl, by decide +kernel, by decide +kernel, by decide +kernel⟩
theorem fs_oX4_wonByAction : fs_Ok mX4_wonByAction 1 := ⟨⟨by decide, by decide +kernel⟩, fs_tm 520 (by decide +kernel) rfl, fs_tm 61 (by decide +kernel) rfl, by decide +kernel, by decide +kernel, by decide +kernel⟩
theorem fs_oX6_split : fs_Ok mX6_split 2 := ⟨⟨by decide, by decide +kernel⟩, fs_tm 524 (by decide +kernel) rfl, fs_tm 58 (by decide +kernel) rfl, by decide +kernel, by decide +kernel, by decide +kernel⟩
theorem fs_oX3_prefixesOf : fs_Ok mX3_prefixesOf 3 := ⟨⟨by decide, by decide +kernel⟩, fs_tm 530 (by decide +kernel) rfl, fs_tm 59 (by decide +kernel) rfl, by decide +kernel, by decide +kernel, by decide +kernel⟩
theorem fs_oX3_prefixesWithin : fs_Ok mX3_prefixesWithin 3 := ⟨⟨by decide, by decide +kernel⟩, fs_tm 534 (by decide +kernel) rfl, fs_tm 59 (by decide +kernel) rfl, by decide +kernel, by decide +kernel, by decide +kernel⟩
theorem fs_oX6_prefix : fs_Ok mX6_prefix 4 := ⟨⟨by decide, by decide +kernel⟩, fs_tm 539 (by decide +kernel) rfl, fs_tm 58 (by decide +kernel) rfl, by decide +kernel, by decide +kernel, by decide +kernel⟩
theorem fs_oX3_prefixValue : fs_Ok mX3_prefixValue 3 := ⟨⟨by decide, by decide +kernel⟩, fs_tm 543 (by decide +kernel) rfl, fs_tm 59 (by decide +kernel) rfl, by decide +kernel, by decide +kernel, by decide +kernel⟩
theorem fs_oX3_prefixLength : fs_Ok mX3_prefixLength 3 := ⟨⟨by decide, by decide +kernel⟩, fs_tm 547 (by decide +kernel) rfl, fs_tm 59 (by decide +kernel) rfl, by decide +kernel, by decide +kernel, by decide +kernel⟩
theorem fs_oX6_tuple : fs_Ok mX6_tuple 2 := ⟨⟨by decide, by decide +kernel⟩, fs_tm 552 (by decide +kernel) rfl, fs_tm 58 (by decide +kernel) rfl, by decide +kernel, by decide +kernel, by decide +kernel⟩
theorem fs_oX5_refresh : fs_Ok mX5_refresh 0 := ⟨⟨by decide, by decide +kernel⟩, fs_tm 556 (by decide +kernel) rfl, fs_tm 62 (by decide +kernel) rfl, by decide +kernel, by decide +kernel, by decide +kernel⟩
theorem fs_oJ7_fill_53178 : fs_Ok mJ7_fill_53178 2 := ⟨⟨by decide, by decide +kernel⟩, fs_tm 559 (by decide +kernel) rfl, fs_tm 68 (by decide +kernel) rfl, by decide +kernel, by decide +kernel, by decide +kernel⟩
theorem fs_oX5_countPieces : fs_Ok mX5_countPieces 1 := ⟨⟨by decide, by decide +kernel⟩, fs_tm 563 (by decide +kernel) rfl, fs_tm 62 (by decide +kernel) rfl, by decide +kernel, by decide +kernel, by decide +kernel⟩
theorem fs_oX5_enter : fs_Ok mX5_enter 4 := ⟨⟨by decide, by decide +kernel⟩, fs_tm 569 (by decide +kernel) rfl, fs_tm 62 (by decide +kernel) rfl, by decide +kernel, by decide +kernel, by decide +kernel⟩
theorem fs_oX5_put : fs_Ok mX5_put 3 := ⟨⟨by decide, by decide +kernel⟩, fs_tm 573 (by decide +kernel) rfl, fs_tm 62 (by decide +kernel) rfl, by decide +kernel, by decide +kernel, by decide +kernel⟩
theorem fs_oX5_lengthIn : fs_Ok mX5_lengthIn 2 := ⟨⟨by decide, by decide +kernel⟩, fs_tm 579 (by decide +kernel) rfl, fs_tm 62 (by decide +kernel) rfl, by decide +kernel, by decide +kernel, by decide +kernel⟩
theorem fs_oX6_probe : fs_Ok mX6_probe 5 := ⟨⟨by decide, by decide +kernel⟩, fs_tm 585 (by decide +kernel) rfl, fs_tm 58 (by decide +kernel) rfl, by decide +kernel, by decide +kernel, by decide +kernel⟩
theorem fs_oX5_search : fs_Ok mX5_search 1 := ⟨⟨by decide, by decide +kernel⟩, fs_tm 589 (by decide +kernel) rfl, fs_tm 62 (by decide +kernel) rfl, by decide +kernel, by decide +kernel, by decide +kernel⟩
theorem fs_oX5_packetKey : fs_Ok mX5_packetKey 2 := ⟨⟨by decide, by decide +kernel⟩, fs_tm 593 (by decide +kernel) rfl, fs_tm 62 (by decide +kernel) rfl, by decide +kernel, by decide +kernel, by decide +kernel⟩
theorem fs_oX3_takes : fs_Ok mX3_takes 3 := ⟨⟨by decide, by decide +kernel⟩, fs_tm 597 (by decide +kernel) rfl, fs_tm 59 (by decide +kernel) rfl, by decide +kernel, by decide +kernel, by decide +kernel⟩
theorem fs_oX5_firstWithKey : fs_Ok mX5_firstWithKey 1 := ⟨⟨by decide, by decide +kernel⟩, fs_tm 602 (by decide +kernel) rfl, fs_tm 62 (by decide +kernel) rfl, by decide +kernel, by decide +kernel, by decide +kernel⟩
theorem fs_oX6_grow : fs_Ok mX6_grow 2 := ⟨⟨by decide, by decide +kernel⟩, fs_tm 606 (by decide +kernel) rfl, fs_tm 58 (by decide +kernel) rfl, by decide +kernel, by decide +kernel, by decide +kernel⟩
theorem fs_oX6_tree : fs_Ok mX6_tree 1 := ⟨⟨by decide, by decide +kernel⟩, fs_tm 610 (by decide +kernel) rfl, fs_tm 58 (by decide +kernel) rfl, by decide +kernel, by decide +kernel, by decide +kernel⟩
theorem fs_oX0_measure : fs_Ok mX0_measure 0 := ⟨⟨by decide, by decide +kernel⟩, fs_tm 614 (by decide +kernel) rfl, fs_tm 63 (by decide +kernel) rfl, by decide +kernel, by decide +kernel, by decide +kernel⟩
theorem fs_oX0_visit : fs_Ok mX0_visit 2 := ⟨⟨by decide, by decide +kernel⟩, fs_tm 620 (by decide +kernel) rfl, fs_tm 63 (by decide +kernel) rfl, by decide +kernel, by decide +kernel, by decide +kernel⟩
theorem fs_oX0_cutField : fs_Ok mX0_cutField 2 := ⟨⟨by decide, by decide +kernel⟩, fs_tm 625 (by decide +kernel) rfl, fs_tm 63 (by decide +kernel) rfl, by decide +kernel, by decide +kernel, by decide +kernel⟩
theorem fs_oX0_addLeaf : fs_Ok mX0_addLeaf 1 := ⟨⟨by decide, by decide +kernel⟩, fs_tm 631 (by decide +kernel) rfl, fs_tm 63 (by decide +kernel) rfl, by decide +kernel, by decide +kernel, by decide +kernel⟩
theorem fs_oX6_walk : fs_Ok mX6_walk 5 := ⟨⟨by decide, by decide +kernel⟩, fs_tm 635 (by decide +kernel) rfl, fs_tm 58 (by decide +kernel) rfl, by decide +kernel, by decide +kernel, by decide +kernel⟩
theorem fs_oX0_descend : fs_Ok mX0_descend 1 := ⟨⟨by decide, by decide +kernel⟩, fs_tm 639 (by decide +kernel) rfl, fs_tm 63 (by decide +kernel) rfl, by decide +kernel, by decide +kernel, by decide +kernel⟩
theorem fs_oX6_lookedAt : fs_Ok mX6_lookedAt 2 := ⟨⟨by decide, by decide +kernel⟩, fs_tm 643 (by decide +kernel) rfl, fs_tm 58 (by decide +kernel) rfl, by decide +kernel, by decide +kernel, by decide +kernel⟩
theorem fs_oX6_image : fs_Ok mX6_image 1 := ⟨⟨by decide, by decide +kernel⟩, fs_tm 647 (by decide +kernel) rfl, fs_tm 58 (by decide +kernel) rfl, by decide +kernel, by decide +kernel, by decide +kernel⟩
theorem fs_oX3_copyFrom : fs_Ok mX3_copyFrom 1 := ⟨⟨by decide, by decide +kernel⟩, fs_tm 651 (by decide +kernel) rfl, fs_tm 59 (by decide +kernel) rfl, by decide +kernel, by decide +kernel, by decide +kernel⟩
theorem fs_oX6_restore : fs_Ok mX6_restore 1 := ⟨⟨by decide, by decide +kernel⟩, fs_tm 655 (by decide +kernel) rfl, fs_tm 58 (by decide +kernel) rfl, by decide +kernel, by decide +kernel, by decide +kernel⟩
theorem fs_oX6_count : fs_Ok mX6_count 1 := ⟨⟨by decide, by decide +kernel⟩, fs_tm 659 (by decide +kernel) rfl, fs_tm 58 (by decide +kernel) rfl, by decide +kernel, by decide +kernel, by decide +kernel⟩
theorem fs_oX6_countTuples : fs_Ok mX6_countTuples 0 := ⟨⟨by decide, by decide +kernel⟩, fs_tm 663 (by decide +kernel) rfl, fs_tm 58 (by decide +kernel) rfl, by decide +kernel, by decide +kernel, by decide +kernel⟩
theorem fs_oX6_countEntries : fs_Ok mX6_countEntries 0 := ⟨⟨by decide, by decide +kernel⟩, fs_tm 667 (by decide +kernel) rfl, fs_tm 58 (by decide +kernel) rfl, by decide +kernel, by decide +kernel, by decide +kernel⟩
theorem fs_oX6_countIdle : fs_Ok mX6_countIdle 0 := ⟨⟨by decide, by decide +kernel⟩, fs_tm 671 (by decide +kernel) rfl, fs_tm 58 (by decide +kernel) rfl, by decide +kernel, by decide +kernel, by decide +kernel⟩
theorem fs_oX6_countCovered : fs_Ok mX6_countCovered 0 := ⟨⟨by decide, by decide +kernel⟩, fs_tm 675 (by decide +kernel) rfl, fs_tm 58 (by decide +kernel) rfl, by decide +kernel, by decide +kernel, by decide +kernel⟩
theorem fs_oX6_keptImages : fs_Ok mX6_keptImages 0 := ⟨⟨by decide, by decide +kernel⟩, fs_tm 679 (by decide +kernel) rfl, fs_tm 58 (by decide +kernel) rfl, by decide +kernel, by decide +kernel, by decide +kernel⟩
theorem fs_oX7_init : fs_Ok mX7_init 0 := ⟨⟨by decide, by decide +kernel⟩, fs_tm 684 (by decide +kernel) rfl, fs_tm 65 (by decide +kernel) rfl, by decide +kernel, by decide +kernel, by decide +kernel⟩
theorem fs_oX7_clearDraft : fs_Ok mX7_clearDraft 0 := ⟨⟨by decide, by decide +kernel⟩, fs_tm 689 (by decide +kernel) rfl, fs_tm 65 (by decide +kernel) rfl, by decide +kernel, by decide +kernel, by decide +kernel⟩
theorem fs_oX7_most : fs_Ok mX7_most 1 := ⟨⟨by decide, by decide +kernel⟩, fs_tm 692 (by decide +kernel) rfl, fs_tm 65 (by decide +kernel) rfl, by decide +kernel, by decide +kernel, by decide +kernel⟩
theorem fs_oX7_width : fs_Ok mX7_width 1 := ⟨⟨by decide, by decide +kernel⟩, fs_tm 695 (by decide +kernel) rfl, fs_tm 65 (by decide +kernel) rfl, by decide +kernel, by decide +kernel, by decide +kernel⟩
theorem fs_oX7_draft : fs_Ok mX7_draft 3 := ⟨⟨by decide, by decide +kernel⟩, fs_tm 802 (by decide +kernel) rfl, fs_tm 65 (by decide +kernel) rfl, by decide +kernel, by decide +kernel, by decide +kernel⟩
theorem fs_oX7_isField : fs_Ok mX7_isField 1 := ⟨⟨by decide, by decide +kernel⟩, fs_tm 805 (by decide +kernel) rfl, fs_tm 65 (by decide +kernel) rfl, by decide +kernel, by decide +kernel, by decide +kernel⟩
theorem fs_oX7_in : fs_Ok mX7_in 3 := ⟨⟨by decide, by decide +kernel⟩, fs_tm 808 (by decide +kernel) rfl, fs_tm 65 (by decide +kernel) rfl, by decide +kernel, by decide +kernel, by decide +kernel⟩
theorem fs_oX7_rule : fs_Ok mX7_rule 2 := ⟨⟨by decide, by decide +kernel⟩, fs_tm 812 (by decide +kernel) rfl, fs_tm 65 (by decide +kernel) rfl, by decide +kernel, by decide +kernel, by decide +kernel⟩
theorem fs_oX7_change : fs_Ok mX7_change 0 := ⟨⟨by decide, by decide +kernel⟩, fs_tm 816 (by decide +kernel) rfl, fs_tm 65 (by decide +kernel) rfl, by decide +kernel, by decide +kernel, by decide +kernel⟩
theorem fs_oX7_drop : fs_Ok mX7_drop 1 := ⟨⟨by decide, by decide +kernel⟩, fs_tm 820 (by decide +kernel) rfl, fs_tm 65 (by decide +kernel) rfl, by decide +kernel, by decide +kernel, by decide +kernel⟩
theorem fs_oX7_isRule : fs_Ok mX7_isRule 1 := ⟨⟨by decide, by decide +kernel⟩, fs_tm 824 (by decide +kernel) rfl, fs_tm 65 (by decide +kernel) rfl, by decide +kernel, by decide +kernel, by decide +kernel⟩
theorem fs_oX7_rank : fs_Ok mX7_rank 2 := ⟨⟨by decide, by decide +kernel⟩, fs_tm 828 (by decide +kernel) rfl, fs_tm 65 (by decide +kernel) rfl, by decide +kernel, by decide +kernel, by decide +kernel⟩
theorem fs_oX7_aheadOf : fs_Ok mX7_aheadOf 1 := ⟨⟨by decide, by decide +kernel⟩, fs_tm 832 (by decide +kernel) rfl, fs_tm 65 (by decide +kernel) rfl, by decide +kernel, by decide +kernel, by decide +kernel⟩
theorem fs_oX7_isAhead : fs_Ok mX7_isAhead 2 := ⟨⟨by decide, by decide +kernel⟩, fs_tm 836 (by decide +kernel) rfl, fs_tm 65 (by decide +kernel) rfl, by decide +kernel, by decide +kernel, by decide +kernel⟩
theorem fs_oX7_told : fs_Ok mX7_told 2 := ⟨⟨by decide, by decide +kernel⟩, fs_tm 840 (by decide +kernel) rfl, fs_tm 65 (by decide +kernel) rfl, by decide +kernel, by decide +kernel, by decide +kernel⟩
theorem fs_oX7_first : fs_Ok mX7_first 4 := ⟨⟨by decide, by decide +kernel⟩, fs_tm 844 (by decide +kernel) rfl, fs_tm 65 (by decide +kernel) rfl, by decide +kernel, by decide +kernel, by decide +kernel⟩
theorem fs_oX7_isPacket : fs_Ok mX7_isPacket 4 := ⟨⟨by decide, by decide +kernel⟩, fs_tm 847 (by decide +kernel) rfl, fs_tm 65 (by decide +kernel) rfl, by decide +kernel, by decide +kernel, by decide +kernel⟩
theorem fs_oX7_fitting : fs_Ok mX7_fitting 4 := ⟨⟨by decide, by decide +kernel⟩, fs_tm 851 (by decide +kernel) rfl, fs_tm 65 (by decide +kernel) rfl, by decide +kernel, by decide +kernel, by decide +kernel⟩
theorem fs_oX7_order : fs_Ok mX7_order 0 := ⟨⟨by decide, by decide +kernel⟩, fs_tm 855 (by decide +kernel) rfl, fs_tm 65 (by decide +kernel) rfl, by decide +kernel, by decide +kernel, by decide +kernel⟩
theorem fs_oX7_takersOf : fs_Ok mX7_takersOf 3 := ⟨⟨by decide, by decide +kernel⟩, fs_tm 859 (by decide +kernel) rfl, fs_tm 65 (by decide +kernel) rfl, by decide +kernel, by decide +kernel, by decide +kernel⟩
theorem fs_oX7_lowest : fs_Ok mX7_lowest 1 := ⟨⟨by decide, by decide +kernel⟩, fs_tm 862 (by decide +kernel) rfl, fs_tm 65 (by decide +kernel) rfl, by decide +kernel, by decide +kernel, by decide +kernel⟩
theorem fs_oX7_has : fs_Ok mX7_has 2 := ⟨⟨by decide, by decide +kernel⟩, fs_tm 865 (by decide +kernel) rfl, fs_tm 65 (by decide +kernel) rfl, by decide +kernel, by decide +kernel, by decide +kernel⟩
theorem fs_oX7_wins : fs_Ok mX7_wins 1 := ⟨⟨by decide, by decide +kernel⟩, fs_tm 869 (by decide +kernel) rfl, fs_tm 65 (by decide +kernel) rfl, by decide +kernel, by decide +kernel, by decide +kernel⟩
theorem fs_oX7_sweep : fs_Ok mX7_sweep 0 := ⟨⟨by decide, by decide +kernel⟩, fs_tm 873 (by decide +kernel) rfl, fs_tm 65 (by decide +kernel) rfl, by decide +kernel, by decide +kernel, by decide +kernel⟩
theorem fs_oX7_layStretches : fs_Ok mX7_layStretches 0 := ⟨⟨by decide, by decide +kernel⟩, fs_tm 877 (by decide +kernel) rfl, fs_tm 65 (by decide +kernel) rfl, by decide +kernel, by decide +kernel, by decide +kernel⟩
theorem fs_oX7_meet : fs_Ok mX7_meet 2 := ⟨⟨by decide, by decide +kernel⟩, fs_tm 881 (by decide +kernel) rfl, fs_tm 65 (by decide +kernel) rfl, by decide +kernel, by decide +kernel, by decide +kernel⟩
theorem fs_oX7_overlap : fs_Ok mX7_overlap 2 := ⟨⟨by decide, by decide +kernel⟩, fs_tm 885 (by decide +kernel) rfl, fs_tm 65 (by decide +kernel) rfl, by decide +kernel, by decide +kernel, by decide +kernel⟩
theorem fs_oX7_covered : fs_Ok mX7_covered 1 := ⟨⟨by decide, by decide +kernel⟩, fs_tm 889 (by decide +kernel) rfl, fs_tm 65 (by decide +kernel) rfl, by decide +kernel, by decide +kernel, by decide +kernel⟩
theorem fs_oX7_coverOf : fs_Ok mX7_coverOf 1 := ⟨⟨by decide, by decide +kernel⟩, fs_tm 893 (by decide +kernel) rfl, fs_tm 65 (by decide +kernel) rfl, by decide +kernel, by decide +kernel, by decide +kernel⟩
theorem fs_oX7_isWithin : fs_Ok mX7_isWithin 2 := ⟨⟨by decide, by decide +kernel⟩, fs_tm 897 (by decide +kernel) rfl, fs_tm 65 (by decide +kernel) rfl, by decide +kernel, by decide +kernel, by decide +kernel⟩
theorem fs_oX7_idle : fs_Ok mX7_idle 1 := ⟨⟨by decide, by decide +kernel⟩, fs_tm 901 (by decide +kernel) rfl, fs_tm 65 (by decide +kernel) rfl, by decide +kernel, by decide +kernel, by decide +kernel⟩
theorem fs_oX7_packets : fs_Ok mX7_packets 1 := ⟨⟨by decide, by decide +kernel⟩, fs_tm 905 (by decide +kernel) rfl, fs_tm 65 (by decide +kernel) rfl, by decide +kernel, by decide +kernel, by decide +kernel⟩
theorem fs_oX7_split : fs_Ok mX7_split 2 := ⟨⟨by decide, by decide +kernel⟩, fs_tm 909 (by decide +kernel) rfl, fs_tm 65 (by decide +kernel) rfl, by decide +kernel, by decide +kernel, by decide +kernel⟩
theorem fs_oX7_prefixes : fs_Ok mX7_prefixes 2 := ⟨⟨by decide, by decide +kernel⟩, fs_tm 913 (by decide +kernel) rfl, fs_tm 65 (by decide +kernel) rfl, by decide +kernel, by decide +kernel, by decide +kernel⟩
theorem fs_oX7_valueOf : fs_Ok mX7_valueOf 3 := ⟨⟨by decide, by decide +kernel⟩, fs_tm 917 (by decide +kernel) rfl, fs_tm 65 (by decide +kernel) rfl, by decide +kernel, by decide +kernel, by decide +kernel⟩
theorem fs_oX7_lengthAt : fs_Ok mX7_lengthAt 3 := ⟨⟨by decide, by decide +kernel⟩, fs_tm 920 (by decide +kernel) rfl, fs_tm 65 (by decide +kernel) rfl, by decide +kernel, by decide +kernel, by decide +kernel⟩
theorem fs_oX7_prefix : fs_Ok mX7_prefix 4 := ⟨⟨by decide, by decide +kernel⟩, fs_tm 924 (by decide +kernel) rfl, fs_tm 65 (by decide +kernel) rfl, by decide +kernel, by decide +kernel, by decide +kernel⟩
theorem fs_oX7_tuple : fs_Ok mX7_tuple 2 := ⟨⟨by decide, by decide +kernel⟩, fs_tm 928 (by decide +kernel) rfl, fs_tm 65 (by decide +kernel) rfl, by decide +kernel, by decide +kernel, by decide +kernel⟩
theorem fs_oX7_listTuples : fs_Ok mX7_listTuples 0 := ⟨⟨by decide, by decide +kernel⟩, fs_tm 932 (by decide +kernel) rfl, fs_tm 65 (by decide +kernel) rfl, by decide +kernel, by decide +kernel, by decide +kernel⟩
theorem fs_oX7_ofLength : fs_Ok mX7_ofLength 3 := ⟨⟨by decide, by decide +kernel⟩, fs_tm 936 (by decide +kernel) rfl, fs_tm 65 (by decide +kernel) rfl, by decide +kernel, by decide +kernel, by decide +kernel⟩
theorem fs_oX7_membersOf : fs_Ok mX7_membersOf 1 := ⟨⟨by decide, by decide +kernel⟩, fs_tm 940 (by decide +kernel) rfl, fs_tm 65 (by decide +kernel) rfl, by decide +kernel, by decide +kernel, by decide +kernel⟩
theorem fs_oX7_entriesOf : fs_Ok mX7_entriesOf 2 := ⟨⟨by decide, by decide +kernel⟩, fs_tm 944 (by decide +kernel) rfl, fs_tm 65 (by decide +kernel) rfl, by decide +kernel, by decide +kernel, by decide +kernel⟩
theorem fs_oX7_lengthIn : fs_Ok mX7_lengthIn 2 := ⟨⟨by decide, by decide +kernel⟩, fs_tm 947 (by decide +kernel) rfl, fs_tm 65 (by decide +kernel) rfl, by decide +kernel, by decide +kernel, by decide +kernel⟩
theorem fs_oX7_entries : fs_Ok mX7_entries 1 := ⟨⟨by decide, by decide +kernel⟩, fs_tm 951 (by decide +kernel) rfl, fs_tm 65 (by decide +kernel) rfl, by decide +kernel, by decide +kernel, by decide +kernel⟩
theorem fs_oX7_bits : fs_Ok mX7_bits 1 := ⟨⟨by decide, by decide +kernel⟩, fs_tm 954 (by decide +kernel) rfl, fs_tm 65 (by decide +kernel) rfl, by decide +kernel, by decide +kernel, by decide +kernel⟩
theorem fs_oX7_probe : fs_Ok mX7_probe 5 := ⟨⟨by decide, by decide +kernel⟩, fs_tm 958 (by decide +kernel) rfl, fs_tm 65 (by decide +kernel) rfl, by decide +kernel, by decide +kernel, by decide +kernel⟩
theorem fs_oX7_codeOf : fs_Ok mX7_codeOf 5 := ⟨⟨by decide, by decide +kernel⟩, fs_tm 962 (by decide +kernel) rfl, fs_tm 65 (by decide +kernel) rfl, by decide +kernel, by decide +kernel, by decide +kernel⟩
theorem fs_oX7_lengthOf : fs_Ok mX7_lengthOf 3 := ⟨⟨by decide, by decide +kernel⟩, fs_tm 966 (by decide +kernel) rfl, fs_tm 65 (by decide +kernel) rfl, by decide +kernel, by decide +kernel, by decide +kernel⟩
theorem fs_oX7_grow : fs_Ok mX7_grow 2 := ⟨⟨by decide, by decide +kernel⟩, fs_tm 970 (by decide +kernel) rfl, fs_tm 65 (by decide +kernel) rfl, by decide +kernel, by decide +kernel, by decide +kernel⟩
theorem fs_oX7_tree : fs_Ok mX7_tree 1 := ⟨⟨by decide, by decide +kernel⟩, fs_tm 974 (by decide +kernel) rfl, fs_tm 65 (by decide +kernel) rfl, by decide +kernel, by decide +kernel, by decide +kernel⟩
theorem fs_oX7_growTree : fs_Ok mX7_growTree 0 := ⟨⟨by decide, by decide +kernel⟩, fs_tm 978 (by decide +kernel) rfl, fs_tm 65 (by decide +kernel) rfl, by decide +kernel, by decide +kernel, by decide +kernel⟩
theorem fs_oX7_cutOf : fs_Ok mX7_cutOf 1 := ⟨⟨by decide, by decide +kernel⟩, fs_tm 982 (by decide +kernel) rfl, fs_tm 65 (by decide +kernel) rfl, by decide +kernel, by decide +kernel, by decide +kernel⟩
theorem fs_oX7_halved : fs_Ok mX7_halved 3 := ⟨⟨by decide, by decide +kernel⟩, fs_tm 986 (by decide +kernel) rfl, fs_tm 65 (by decide +kernel) rfl, by decide +kernel, by decide +kernel, by decide +kernel⟩
theorem fs_oX7_addBelow : fs_Ok mX7_addBelow 3 := ⟨⟨by decide, by decide +kernel⟩, fs_tm 990 (by decide +kernel) rfl, fs_tm 65 (by decide +kernel) rfl, by decide +kernel, by decide +kernel, by decide +kernel⟩
theorem fs_oX7_walk : fs_Ok mX7_walk 5 := ⟨⟨by decide, by decide +kernel⟩, fs_tm 994 (by decide +kernel) rfl, fs_tm 65 (by decide +kernel) rfl, by decide +kernel, by decide +kernel, by decide +kernel⟩
theorem fs_oX7_looked : fs_Ok mX7_looked 2 := ⟨⟨by decide, by decide +kernel⟩, fs_tm 998 (by decide +kernel) rfl, fs_tm 65 (by decide +kernel) rfl, by decide +kernel, by decide +kernel, by decide +kernel⟩
theorem fs_oX7_image : fs_Ok mX7_image 1 := ⟨⟨by decide, by decide +kernel⟩, fs_tm 1002 (by decide +kernel) rfl, fs_tm 65 (by decide +kernel) rfl, by decide +kernel, by decide +kernel, by decide +kernel⟩
theorem fs_oX7_restore : fs_Ok mX7_restore 1 := ⟨⟨by decide, by decide +kernel⟩, fs_tm 1006 (by decide +kernel) rfl, fs_tm 65 (by decide +kernel) rfl, by decide +kernel, by decide +kernel, by decide +kernel⟩
theorem fs_oX7_count : fs_Ok mX7_count 1 := ⟨⟨by decide, by decide +kernel⟩, fs_tm 1010 (by decide +kernel) rfl, fs_tm 65 (by decide +kernel) rfl, by decide +kernel, by decide +kernel, by decide +kernel⟩
theorem fs_oX7_allEntries : fs_Ok mX7_allEntries 0 := ⟨⟨by decide, by decide +kernel⟩, fs_tm 1014 (by decide +kernel) rfl, fs_tm 65 (by decide +kernel) rfl, by decide +kernel, by decide +kernel, by decide +kernel⟩
theorem fs_oX7_idleOnes : fs_Ok mX7_idleOnes 0 := ⟨⟨by decide, by decide +kernel⟩, fs_tm 1018 (by decide +kernel) rfl, fs_tm 65 (by decide +kernel) rfl, by decide +kernel, by decide +kernel, by decide +kernel⟩
theorem fs_oX7_coveredOnes : fs_Ok mX7_coveredOnes 0 := ⟨⟨by decide, by decide +kernel⟩, fs_tm 1022 (by decide +kernel) rfl, fs_tm 65 (by decide +kernel) rfl, by decide +kernel, by decide +kernel, by decide +kernel⟩
def fs_Iv (y : MethodName) : Prop := Cond.instanceMethod y ∈ fs_tbl ∧ Cond.selects y.cls y y ∈ fs_tbl
def fs_Is (y : MethodName) : Prop := Cond.static y ∈ fs_tbl
theorem fs_iX6_clearDraft : fs_Iv yX6_clearDraft := ⟨fs_tm 311 (by decide +kernel) rfl, fs_tm 0 (by decide +kernel) rfl⟩
theorem fs_iX6_draft : fs_Iv yX6_draft := ⟨fs_tm 344 (by decide +kernel) rfl, fs_tm 345 (by decide +kernel) rfl⟩
theorem fs_sX6_isField : fs_Is yX6_isField := fs_tm 348 (by decide +kernel) rfl
theorem fs_sX6_isNumber : fs_Is yX6_isNumber := fs_tm 351 (by decide +kernel) rfl
theorem fs_iX6_rule : fs_Iv yX6_rule := ⟨fs_tm 354 (by decide +kernel) rfl, fs_tm 355 (by decide +kernel) rfl⟩
theorem fs_sX6_isRank : fs_Is yX6_isRank := fs_tm 358 (by decide +kernel) rfl
theorem fs_sX6_isAction : fs_Is yX6_isAction := fs_tm 361 (by decide +kernel) rfl
theorem fs_iX3_add : fs_Iv yX3_add := ⟨fs_tm 364 (by decide +kernel) rfl, fs_tm 365 (by decide +kernel) rfl⟩
theorem fs_iX6_rulesChanged : fs_Iv yX6_rulesChanged := ⟨fs_tm 369 (by decide +kernel) rfl, fs_tm 1 (by decide +kernel) rfl⟩
theorem fs_iX3_sort : fs_Iv yX3_sort := ⟨fs_tm 372 (by decide +kernel) rfl, fs_tm 373 (by decide +kernel) rfl⟩
theorem fs_iX3_isAhead : fs_Iv yX3_isAhead := ⟨fs_tm 377 (by decide +kernel) rfl, fs_tm 2 (by decide +kernel) rfl⟩
theorem fs_iX2_build : fs_Iv yX2_build := ⟨fs_tm 380 (by decide +kernel) rfl, fs_tm 381 (by decide +kernel) rfl⟩
theorem fs_iX2_fillNumbers : fs_Iv yX2_fillNumbers := ⟨fs_tm 385 (by decide +kernel) rfl, fs_tm 3 (by decide +kernel) rfl⟩
theorem fs_iX6_drop : fs_Iv yX6_drop := ⟨fs_tm 389 (by decide +kernel) rfl, fs_tm 390 (by decide +kernel) rfl⟩
theorem fs_iX3_has : fs_Iv yX3_has := ⟨fs_tm 393 (by decide +kernel) rfl, fs_tm 394 (by decide +kernel) rfl⟩
theorem fs_iX3_remove : fs_Iv yX3_remove := ⟨fs_tm 397 (by decide +kernel) rfl, fs_tm 398 (by decide +kernel) rfl⟩
theorem fs_iX3_copyRule : fs_Iv yX3_copyRule := ⟨fs_tm 403 (by decide +kernel) rfl, fs_tm 4 (by decide +kernel) rfl⟩
theorem fs_iX6_rank : fs_Iv yX6_rank := ⟨fs_tm 406 (by decide +kernel) rfl, fs_tm 407 (by decide +kernel) rfl⟩
theorem fs_iX6_told : fs_Iv yX6_told := ⟨fs_tm 410 (by decide +kernel) rfl, fs_tm 411 (by decide +kernel) rfl⟩
theorem fs_iX6_toldBound : fs_Iv yX6_toldBound := ⟨fs_tm 415 (by decide +kernel) rfl, fs_tm 5 (by decide +kernel) rfl⟩
theorem fs_iX6_first : fs_Iv yX6_first := ⟨fs_tm 418 (by decide +kernel) rfl, fs_tm 419 (by decide +kernel) rfl⟩
theorem fs_sX6_isPacket : fs_Is yX6_isPacket := fs_tm 422 (by decide +kernel) rfl
theorem fs_iX6_setPacket : fs_Iv yX6_setPacket := ⟨fs_tm 426 (by decide +kernel) rfl, fs_tm 6 (by decide +kernel) rfl⟩
theorem fs_iX2_fitting : fs_Iv yX2_fitting := ⟨fs_tm 429 (by decide +kernel) rfl, fs_tm 430 (by decide +kernel) rfl⟩
theorem fs_iX2_all : fs_Iv yX2_all := ⟨fs_tm 433 (by decide +kernel) rfl, fs_tm 434 (by decide +kernel) rfl⟩
theorem fs_iX2_ofNumber : fs_Iv yX2_ofNumber := ⟨fs_tm 437 (by decide +kernel) rfl, fs_tm 438 (by decide +kernel) rfl⟩
theorem fs_sX6_lowestBit : fs_Is yX6_lowestBit := fs_tm 441 (by decide +kernel) rfl
theorem fs_sJ6_bitCount_0f7a4 : fs_Is yJ6_bitCount_0f7a4 := fs_tm 444 (by decide +kernel) rfl
theorem fs_iX6_ruleAt : fs_Iv yX6_ruleAt := ⟨fs_tm 451 (by decide +kernel) rfl, fs_tm 7 (by decide +kernel) rfl⟩
theorem fs_iX6_wins : fs_Iv yX6_wins := ⟨fs_tm 454 (by decide +kernel) rfl, fs_tm 455 (by decide +kernel) rfl⟩
theorem fs_iX4_refresh : fs_Iv yX4_refresh := ⟨fs_tm 458 (by decide +kernel) rfl, fs_tm 459 (by decide +kernel) rfl⟩
theorem fs_iX4_gatherRuns : fs_Iv yX4_gatherRuns := ⟨fs_tm 463 (by decide +kernel) rfl, fs_tm 8 (by decide +kernel) rfl⟩
theorem fs_iX4_sweep : fs_Iv yX4_sweep := ⟨fs_tm 470 (by decide +kernel) rfl, fs_tm 9 (by decide +kernel) rfl⟩
theorem fs_iX4_tally : fs_Iv yX4_tally := ⟨fs_tm 476 (by decide +kernel) rfl, fs_tm 10 (by decide +kernel) rfl⟩
theorem fs_iX4_actionAt : fs_Iv yX4_actionAt := ⟨fs_tm 481 (by decide +kernel) rfl, fs_tm 11 (by decide +kernel) rfl⟩
theorem fs_iX6_overlap : fs_Iv yX6_overlap := ⟨fs_tm 484 (by decide +kernel) rfl, fs_tm 485 (by decide +kernel) rfl⟩
theorem fs_iX3_shared : fs_Iv yX3_shared := ⟨fs_tm 488 (by decide +kernel) rfl, fs_tm 489 (by decide +kernel) rfl⟩
theorem fs_sJ9_max_7cf53 : fs_Is yJ9_max_7cf53 := fs_tm 492 (by decide +kernel) rfl
theorem fs_sJ9_min_7cf53 : fs_Is yJ9_min_7cf53 := fs_tm 495 (by decide +kernel) rfl
theorem fs_iX6_covered : fs_Iv yX6_covered := ⟨fs_tm 498 (by decide +kernel) rfl, fs_tm 499 (by decide +kernel) rfl⟩
theorem fs_iX3_coverOf : fs_Iv yX3_coverOf := ⟨fs_tm 502 (by decide +kernel) rfl, fs_tm 503 (by decide +kernel) rfl⟩
theorem fs_iX3_holds : fs_Iv yX3_holds := ⟨fs_tm 507 (by decide +kernel) rfl, fs_tm 12 (by decide +kernel) rfl⟩
theorem fs_iX6_idle : fs_Iv yX6_idle := ⟨fs_tm 510 (by decide +kernel) rfl, fs_tm 511 (by decide +kernel) rfl⟩
theorem fs_iX6_packets : fs_Iv yX6_packets := ⟨fs_tm 514 (by decide +kernel) rfl, fs_tm 515 (by decide +kernel) rfl⟩
theorem fs_iX4_wonByAction : fs_Iv yX4_wonByAction := ⟨fs_tm 518 (by decide +kernel) rfl, fs_tm 519 (by decide +kernel) rfl⟩
theorem fs_iX6_split : fs_Iv yX6_split := ⟨fs_tm 522 (by decide +kernel) rfl, fs_tm 523 (by decide +kernel) rfl⟩
theorem fs_iX3_prefixesOf : fs_Iv yX3_prefixesOf := ⟨fs_tm 528 (by decide +kernel) rfl, fs_tm 529 (by decide +kernel) rfl⟩
theorem fs_iX3_prefixesWithin : fs_Iv yX3_prefixesWithin := ⟨fs_tm 533 (by decide +kernel) rfl, fs_tm 13 (by decide +kernel) rfl⟩
theorem fs_iX6_prefix : fs_Iv yX6_prefix := ⟨fs_tm 537 (by decide +kernel) rfl, fs_tm 538 (by decide +kernel) rfl⟩
theorem fs_iX3_prefixValue : fs_Iv yX3_prefixValue := ⟨fs_tm 541 (by decide +kernel) rfl, fs_tm 542 (by decide +kernel) rfl⟩
theorem fs_iX3_prefixLength : fs_Iv yX3_prefixLength := ⟨fs_tm 545 (by decide +kernel) rfl, fs_tm 546 (by decide +kernel) rfl⟩
theorem fs_iX6_tuple : fs_Iv yX6_tuple := ⟨fs_tm 550 (by decide +kernel) rfl, fs_tm 551 (by decide +kernel) rfl⟩
theorem fs_iX5_refresh : fs_Iv yX5_refresh := ⟨fs_tm 554 (by decide +kernel) rfl, fs_tm 555 (by decide +kernel) rfl⟩
theorem fs_sJ7_fill_53178 : fs_Is yJ7_fill_53178 := fs_tm 558 (by decide +kernel) rfl
theorem fs_iX5_countPieces : fs_Iv yX5_countPieces := ⟨fs_tm 562 (by decide +kernel) rfl, fs_tm 14 (by decide +kernel) rfl⟩
theorem fs_iX5_enter : fs_Iv yX5_enter := ⟨fs_tm 568 (by decide +kernel) rfl, fs_tm 15 (by decide +kernel) rfl⟩
theorem fs_iX5_put : fs_Iv yX5_put := ⟨fs_tm 572 (by decide +kernel) rfl, fs_tm 16 (by decide +kernel) rfl⟩
theorem fs_iX5_lengthIn : fs_Iv yX5_lengthIn := ⟨fs_tm 577 (by decide +kernel) rfl, fs_tm 578 (by decide +kernel) rfl⟩
theorem fs_iX6_probe : fs_Iv yX6_probe := ⟨fs_tm 583 (by decide +kernel) rfl, fs_tm 584 (by decide +kernel) rfl⟩
theorem fs_iX5_search : fs_Iv yX5_search := ⟨fs_tm 587 (by decide +kernel) rfl, fs_tm 588 (by decide +kernel) rfl⟩
theorem fs_iX5_packetKey : fs_Iv yX5_packetKey := ⟨fs_tm 592 (by decide +kernel) rfl, fs_tm 17 (by decide +kernel) rfl⟩
theorem fs_iX3_takes : fs_Iv yX3_takes := ⟨fs_tm 595 (by decide +kernel) rfl, fs_tm 596 (by decide +kernel) rfl⟩
theorem fs_iX5_firstWithKey : fs_Iv yX5_firstWithKey := ⟨fs_tm 601 (by decide +kernel) rfl, fs_tm 18 (by decide +kernel) rfl⟩
theorem fs_iX6_grow : fs_Iv yX6_grow := ⟨fs_tm 604 (by decide +kernel) rfl, fs_tm 605 (by decide +kernel) rfl⟩
theorem fs_iX6_tree : fs_Iv yX6_tree := ⟨fs_tm 608 (by decide +kernel) rfl, fs_tm 609 (by decide +kernel) rfl⟩
theorem fs_iX0_measure : fs_Iv yX0_measure := ⟨fs_tm 612 (by decide +kernel) rfl, fs_tm 613 (by decide +kernel) rfl⟩
theorem fs_iX0_visit : fs_Iv yX0_visit := ⟨fs_tm 619 (by decide +kernel) rfl, fs_tm 19 (by decide +kernel) rfl⟩
theorem fs_iX0_cutField : fs_Iv yX0_cutField := ⟨fs_tm 624 (by decide +kernel) rfl, fs_tm 20 (by decide +kernel) rfl⟩
theorem fs_iX0_addLeaf : fs_Iv yX0_addLeaf := ⟨fs_tm 630 (by decide +kernel) rfl, fs_tm 21 (by decide +kernel) rfl⟩
theorem fs_iX6_walk : fs_Iv yX6_walk := ⟨fs_tm 633 (by decide +kernel) rfl, fs_tm 634 (by decide +kernel) rfl⟩
theorem fs_iX0_descend : fs_Iv yX0_descend := ⟨fs_tm 637 (by decide +kernel) rfl, fs_tm 638 (by decide +kernel) rfl⟩
theorem fs_sX6_lookedAt : fs_Is yX6_lookedAt := fs_tm 642 (by decide +kernel) rfl
theorem fs_iX6_image : fs_Iv yX6_image := ⟨fs_tm 645 (by decide +kernel) rfl, fs_tm 646 (by decide +kernel) rfl⟩
theorem fs_iX3_copyFrom : fs_Iv yX3_copyFrom := ⟨fs_tm 649 (by decide +kernel) rfl, fs_tm 650 (by decide +kernel) rfl⟩
theorem fs_iX6_restore : fs_Iv yX6_restore := ⟨fs_tm 653 (by decide +kernel) rfl, fs_tm 654 (by decide +kernel) rfl⟩
theorem fs_iX6_count : fs_Iv yX6_count := ⟨fs_tm 657 (by decide +kernel) rfl, fs_tm 658 (by decide +kernel) rfl⟩
theorem fs_iX6_countTuples : fs_Iv yX6_countTuples := ⟨fs_tm 662 (by decide +kernel) rfl, fs_tm 22 (by decide +kernel) rfl⟩
theorem fs_iX6_countEntries : fs_Iv yX6_countEntries := ⟨fs_tm 666 (by decide +kernel) rfl, fs_tm 23 (by decide +kernel) rfl⟩
theorem fs_iX6_countIdle : fs_Iv yX6_countIdle := ⟨fs_tm 670 (by decide +kernel) rfl, fs_tm 24 (by decide +kernel) rfl⟩
theorem fs_iX6_countCovered : fs_Iv yX6_countCovered := ⟨fs_tm 674 (by decide +kernel) rfl, fs_tm 25 (by decide +kernel) rfl⟩
theorem fs_iX6_keptImages : fs_Iv yX6_keptImages := ⟨fs_tm 678 (by decide +kernel) rfl, fs_tm 26 (by decide +kernel) rfl⟩
theorem fs_iX7_clearDraft : fs_Iv yX7_clearDraft := ⟨fs_tm 688 (by decide +kernel) rfl, fs_tm 27 (by decide +kernel) rfl⟩
theorem fs_sX7_most : fs_Is yX7_most := fs_tm 691 (by decide +kernel) rfl
theorem fs_sX7_width : fs_Is yX7_width := fs_tm 694 (by decide +kernel) rfl
theorem fs_iX7_draft : fs_Iv yX7_draft := ⟨fs_tm 800 (by decide +kernel) rfl, fs_tm 801 (by decide +kernel) rfl⟩
theorem fs_sX7_isField : fs_Is yX7_isField := fs_tm 804 (by decide +kernel) rfl
theorem fs_sX7_in : fs_Is yX7_in := fs_tm 807 (by decide +kernel) rfl
theorem fs_iX7_rule : fs_Iv yX7_rule := ⟨fs_tm 810 (by decide +kernel) rfl, fs_tm 811 (by decide +kernel) rfl⟩
theorem fs_iX7_change : fs_Iv yX7_change := ⟨fs_tm 815 (by decide +kernel) rfl, fs_tm 28 (by decide +kernel) rfl⟩
theorem fs_iX7_drop : fs_Iv yX7_drop := ⟨fs_tm 818 (by decide +kernel) rfl, fs_tm 819 (by decide +kernel) rfl⟩
theorem fs_iX7_isRule : fs_Iv yX7_isRule := ⟨fs_tm 823 (by decide +kernel) rfl, fs_tm 29 (by decide +kernel) rfl⟩
theorem fs_iX7_rank : fs_Iv yX7_rank := ⟨fs_tm 826 (by decide +kernel) rfl, fs_tm 827 (by decide +kernel) rfl⟩
theorem fs_iX7_aheadOf : fs_Iv yX7_aheadOf := ⟨fs_tm 831 (by decide +kernel) rfl, fs_tm 30 (by decide +kernel) rfl⟩
theorem fs_iX7_isAhead : fs_Iv yX7_isAhead := ⟨fs_tm 835 (by decide +kernel) rfl, fs_tm 31 (by decide +kernel) rfl⟩
theorem fs_iX7_told : fs_Iv yX7_told := ⟨fs_tm 838 (by decide +kernel) rfl, fs_tm 839 (by decide +kernel) rfl⟩
theorem fs_iX7_first : fs_Iv yX7_first := ⟨fs_tm 842 (by decide +kernel) rfl, fs_tm 843 (by decide +kernel) rfl⟩
theorem fs_sX7_isPacket : fs_Is yX7_isPacket := fs_tm 846 (by decide +kernel) rfl
theorem fs_iX7_fitting : fs_Iv yX7_fitting := ⟨fs_tm 850 (by decide +kernel) rfl, fs_tm 32 (by decide +kernel) rfl⟩
theorem fs_iX7_order : fs_Iv yX7_order := ⟨fs_tm 854 (by decide +kernel) rfl, fs_tm 33 (by decide +kernel) rfl⟩
theorem fs_iX7_takersOf : fs_Iv yX7_takersOf := ⟨fs_tm 858 (by decide +kernel) rfl, fs_tm 34 (by decide +kernel) rfl⟩
theorem fs_sX7_lowest : fs_Is yX7_lowest := fs_tm 861 (by decide +kernel) rfl
theorem fs_sX7_has : fs_Is yX7_has := fs_tm 864 (by decide +kernel) rfl
theorem fs_iX7_wins : fs_Iv yX7_wins := ⟨fs_tm 867 (by decide +kernel) rfl, fs_tm 868 (by decide +kernel) rfl⟩
theorem fs_iX7_sweep : fs_Iv yX7_sweep := ⟨fs_tm 872 (by decide +kernel) rfl, fs_tm 35 (by decide +kernel) rfl⟩
theorem fs_iX7_layStretches : fs_Iv yX7_layStretches := ⟨fs_tm 876 (by decide +kernel) rfl, fs_tm 36 (by decide +kernel) rfl⟩
theorem fs_iX7_meet : fs_Iv yX7_meet := ⟨fs_tm 880 (by decide +kernel) rfl, fs_tm 37 (by decide +kernel) rfl⟩
theorem fs_iX7_overlap : fs_Iv yX7_overlap := ⟨fs_tm 883 (by decide +kernel) rfl, fs_tm 884 (by decide +kernel) rfl⟩
theorem fs_iX7_covered : fs_Iv yX7_covered := ⟨fs_tm 887 (by decide +kernel) rfl, fs_tm 888 (by decide +kernel) rfl⟩
theorem fs_iX7_coverOf : fs_Iv yX7_coverOf := ⟨fs_tm 892 (by decide +kernel) rfl, fs_tm 38 (by decide +kernel) rfl⟩
theorem fs_iX7_isWithin : fs_Iv yX7_isWithin := ⟨fs_tm 896 (by decide +kernel) rfl, fs_tm 39 (by decide +kernel) rfl⟩
theorem fs_iX7_idle : fs_Iv yX7_idle := ⟨fs_tm 899 (by decide +kernel) rfl, fs_tm 900 (by decide +kernel) rfl⟩
theorem fs_iX7_packets : fs_Iv yX7_packets := ⟨fs_tm 903 (by decide +kernel) rfl, fs_tm 904 (by decide +kernel) rfl⟩
theorem fs_iX7_split : fs_Iv yX7_split := ⟨fs_tm 907 (by decide +kernel) rfl, fs_tm 908 (by decide +kernel) rfl⟩
theorem fs_iX7_prefixes : fs_Iv yX7_prefixes := ⟨fs_tm 912 (by decide +kernel) rfl, fs_tm 40 (by decide +kernel) rfl⟩
theorem fs_iX7_valueOf : fs_Iv yX7_valueOf := ⟨fs_tm 916 (by decide +kernel) rfl, fs_tm 41 (by decide +kernel) rfl⟩
theorem fs_sX7_lengthAt : fs_Is yX7_lengthAt := fs_tm 919 (by decide +kernel) rfl
theorem fs_iX7_prefix : fs_Iv yX7_prefix := ⟨fs_tm 922 (by decide +kernel) rfl, fs_tm 923 (by decide +kernel) rfl⟩
theorem fs_iX7_tuple : fs_Iv yX7_tuple := ⟨fs_tm 926 (by decide +kernel) rfl, fs_tm 927 (by decide +kernel) rfl⟩
theorem fs_iX7_listTuples : fs_Iv yX7_listTuples := ⟨fs_tm 931 (by decide +kernel) rfl, fs_tm 42 (by decide +kernel) rfl⟩
theorem fs_iX7_ofLength : fs_Iv yX7_ofLength := ⟨fs_tm 935 (by decide +kernel) rfl, fs_tm 43 (by decide +kernel) rfl⟩
theorem fs_iX7_membersOf : fs_Iv yX7_membersOf := ⟨fs_tm 939 (by decide +kernel) rfl, fs_tm 44 (by decide +kernel) rfl⟩
theorem fs_iX7_entriesOf : fs_Iv yX7_entriesOf := ⟨fs_tm 943 (by decide +kernel) rfl, fs_tm 45 (by decide +kernel) rfl⟩
theorem fs_sX7_lengthIn : fs_Is yX7_lengthIn := fs_tm 946 (by decide +kernel) rfl
theorem fs_iX7_entries : fs_Iv yX7_entries := ⟨fs_tm 950 (by decide +kernel) rfl, fs_tm 46 (by decide +kernel) rfl⟩
theorem fs_sX7_bits : fs_Is yX7_bits := fs_tm 953 (by decide +kernel) rfl
theorem fs_iX7_probe : fs_Iv yX7_probe := ⟨fs_tm 956 (by decide +kernel) rfl, fs_tm 957 (by decide +kernel) rfl⟩
theorem fs_iX7_codeOf : fs_Iv yX7_codeOf := ⟨fs_tm 961 (by decide +kernel) rfl, fs_tm 47 (by decide +kernel) rfl⟩
theorem fs_iX7_lengthOf : fs_Iv yX7_lengthOf := ⟨fs_tm 965 (by decide +kernel) rfl, fs_tm 48 (by decide +kernel) rfl⟩
theorem fs_iX7_grow : fs_Iv yX7_grow := ⟨fs_tm 968 (by decide +kernel) rfl, fs_tm 969 (by decide +kernel) rfl⟩
theorem fs_iX7_tree : fs_Iv yX7_tree := ⟨fs_tm 972 (by decide +kernel) rfl, fs_tm 973 (by decide +kernel) rfl⟩
theorem fs_iX7_growTree : fs_Iv yX7_growTree := ⟨fs_tm 977 (by decide +kernel) rfl, fs_tm 49 (by decide +kernel) rfl⟩
theorem fs_iX7_cutOf : fs_Iv yX7_cutOf := ⟨fs_tm 981 (by decide +kernel) rfl, fs_tm 50 (by decide +kernel) rfl⟩
theorem fs_iX7_halved : fs_Iv yX7_halved := ⟨fs_tm 985 (by decide +kernel) rfl, fs_tm 51 (by decide +kernel) rfl⟩
theorem fs_iX7_addBelow : fs_Iv yX7_addBelow := ⟨fs_tm 989 (by decide +kernel) rfl, fs_tm 52 (by decide +kernel) rfl⟩
theorem fs_iX7_walk : fs_Iv yX7_walk := ⟨fs_tm 992 (by decide +kernel) rfl, fs_tm 993 (by decide +kernel) rfl⟩
theorem fs_iX7_looked : fs_Iv yX7_looked := ⟨fs_tm 997 (by decide +kernel) rfl, fs_tm 53 (by decide +kernel) rfl⟩
theorem fs_iX7_image : fs_Iv yX7_image := ⟨fs_tm 1000 (by decide +kernel) rfl, fs_tm 1001 (by decide +kernel) rfl⟩
theorem fs_iX7_restore : fs_Iv yX7_restore := ⟨fs_tm 1004 (by decide +kernel) rfl, fs_tm 1005 (by decide +kernel) rfl⟩
theorem fs_iX7_count : fs_Iv yX7_count := ⟨fs_tm 1008 (by decide +kernel) rfl, fs_tm 1009 (by decide +kernel) rfl⟩
theorem fs_iX7_allEntries : fs_Iv yX7_allEntries := ⟨fs_tm 1013 (by decide +kernel) rfl, fs_tm 54 (by decide +kernel) rfl⟩
theorem fs_iX7_idleOnes : fs_Iv yX7_idleOnes := ⟨fs_tm 1017 (by decide +kernel) rfl, fs_tm 55 (by decide +kernel) rfl⟩
theorem fs_iX7_coveredOnes : fs_Iv yX7_coveredOnes := ⟨fs_tm 1021 (by decide +kernel) rfl, fs_tm 56 (by decide +kernel) rfl⟩
theorem fs_mL_9 : Cond.methodLink RL 9 yX6_init ∈ fs_tbl := fs_tm 71 (by decide +kernel) rfl
theorem fs_mX6_18 : Cond.methodLink RX6 18 yX2_init ∈ fs_tbl := fs_tm 126 (by decide +kernel) rfl
theorem fs_mX6_27 : Cond.methodLink RX6 27 yX4_init ∈ fs_tbl := fs_tm 141 (by decide +kernel) rfl
theorem fs_mX6_36 : Cond.methodLink RX6 36 yX5_init ∈ fs_tbl := fs_tm 181 (by decide +kernel) rfl
theorem fs_mX6_43 : Cond.methodLink RX6 43 yX0_init ∈ fs_tbl := fs_tm 232 (by decide +kernel) rfl
theorem fs_mX6_67 : Cond.methodLink RX6 67 yX6_clearDraft ∈ fs_tbl := fs_tm 309 (by decide +kernel) rfl
theorem fs_mL_13 : Cond.methodLink RL 13 yX6_draft ∈ fs_tbl := fs_tm 343 (by decide +kernel) rfl
theorem fs_mX6_70 : Cond.methodLink RX6 70 yX6_isField ∈ fs_tbl := fs_tm 347 (by decide +kernel) rfl
theorem fs_mX6_74 : Cond.methodLink RX6 74 yX6_isNumber ∈ fs_tbl := fs_tm 350 (by decide +kernel) rfl
theorem fs_mL_18 : Cond.methodLink RL 18 yX6_rule ∈ fs_tbl := fs_tm 353 (by decide +kernel) rfl
theorem fs_mX6_78 : Cond.methodLink RX6 78 yX6_isRank ∈ fs_tbl := fs_tm 357 (by decide +kernel) rfl
theorem fs_mX6_81 : Cond.methodLink RX6 81 yX6_isAction ∈ fs_tbl := fs_tm 360 (by decide +kernel) rfl
theorem fs_mX6_88 : Cond.methodLink RX6 88 yX3_add ∈ fs_tbl := fs_tm 363 (by decide +kernel) rfl
theorem fs_mX6_92 : Cond.methodLink RX6 92 yX6_rulesChanged ∈ fs_tbl := fs_tm 367 (by decide +kernel) rfl
theorem fs_mX6_266 : Cond.methodLink RX6 266 yX3_sort ∈ fs_tbl := fs_tm 371 (by decide +kernel) rfl
theorem fs_mX3_44 : Cond.methodLink RX3 44 yX3_isAhead ∈ fs_tbl := fs_tm 375 (by decide +kernel) rfl
theorem fs_mX6_269 : Cond.methodLink RX6 269 yX2_build ∈ fs_tbl := fs_tm 379 (by decide +kernel) rfl
theorem fs_mX2_20 : Cond.methodLink RX2 20 yX2_fillNumbers ∈ fs_tbl := fs_tm 383 (by decide +kernel) rfl
theorem fs_mL_23 : Cond.methodLink RL 23 yX6_drop ∈ fs_tbl := fs_tm 388 (by decide +kernel) rfl
theorem fs_mX6_95 : Cond.methodLink RX6 95 yX3_has ∈ fs_tbl := fs_tm 392 (by decide +kernel) rfl
theorem fs_mX6_98 : Cond.methodLink RX6 98 yX3_remove ∈ fs_tbl := fs_tm 396 (by decide +kernel) rfl
theorem fs_mX3_36 : Cond.methodLink RX3 36 yX3_has ∈ fs_tbl := fs_tm 400 (by decide +kernel) rfl
theorem fs_mX3_40 : Cond.methodLink RX3 40 yX3_copyRule ∈ fs_tbl := fs_tm 401 (by decide +kernel) rfl
theorem fs_mL_28 : Cond.methodLink RL 28 yX6_rank ∈ fs_tbl := fs_tm 405 (by decide +kernel) rfl
theorem fs_mL_32 : Cond.methodLink RL 32 yX6_told ∈ fs_tbl := fs_tm 409 (by decide +kernel) rfl
theorem fs_mX6_111 : Cond.methodLink RX6 111 yX6_toldBound ∈ fs_tbl := fs_tm 413 (by decide +kernel) rfl
theorem fs_mL_36 : Cond.methodLink RL 36 yX6_first ∈ fs_tbl := fs_tm 417 (by decide +kernel) rfl
theorem fs_mX6_115 : Cond.methodLink RX6 115 yX6_isPacket ∈ fs_tbl := fs_tm 421 (by decide +kernel) rfl
theorem fs_mX6_119 : Cond.methodLink RX6 119 yX6_setPacket ∈ fs_tbl := fs_tm 424 (by decide +kernel) rfl
theorem fs_mX6_123 : Cond.methodLink RX6 123 yX2_fitting ∈ fs_tbl := fs_tm 428 (by decide +kernel) rfl
theorem fs_mX2_43 : Cond.methodLink RX2 43 yX2_all ∈ fs_tbl := fs_tm 432 (by decide +kernel) rfl
theorem fs_mX2_47 : Cond.methodLink RX2 47 yX2_ofNumber ∈ fs_tbl := fs_tm 436 (by decide +kernel) rfl
theorem fs_mX6_127 : Cond.methodLink RX6 127 yX6_lowestBit ∈ fs_tbl := fs_tm 440 (by decide +kernel) rfl
theorem fs_mX6_229 : Cond.methodLink RX6 229 yJ6_bitCount_0f7a4 ∈ fs_tbl := fs_tm 443 (by decide +kernel) rfl
theorem fs_mX6_131 : Cond.methodLink RX6 131 yX6_ruleAt ∈ fs_tbl := fs_tm 449 (by decide +kernel) rfl
theorem fs_mL_41 : Cond.methodLink RL 41 yX6_wins ∈ fs_tbl := fs_tm 453 (by decide +kernel) rfl
theorem fs_mX6_134 : Cond.methodLink RX6 134 yX4_refresh ∈ fs_tbl := fs_tm 457 (by decide +kernel) rfl
theorem fs_mX4_46 : Cond.methodLink RX4 46 yX4_gatherRuns ∈ fs_tbl := fs_tm 461 (by decide +kernel) rfl
theorem fs_mX4_63 : Cond.methodLink RX4 63 yX2_ofNumber ∈ fs_tbl := fs_tm 466 (by decide +kernel) rfl
theorem fs_mX4_50 : Cond.methodLink RX4 50 yX2_all ∈ fs_tbl := fs_tm 467 (by decide +kernel) rfl
theorem fs_mX4_56 : Cond.methodLink RX4 56 yX4_sweep ∈ fs_tbl := fs_tm 468 (by decide +kernel) rfl
theorem fs_mX4_70 : Cond.methodLink RX4 70 yX4_tally ∈ fs_tbl := fs_tm 474 (by decide +kernel) rfl
theorem fs_mX4_78 : Cond.methodLink RX4 78 yX4_actionAt ∈ fs_tbl := fs_tm 479 (by decide +kernel) rfl
theorem fs_mL_45 : Cond.methodLink RL 45 yX6_overlap ∈ fs_tbl := fs_tm 483 (by decide +kernel) rfl
theorem fs_mX6_140 : Cond.methodLink RX6 140 yX3_shared ∈ fs_tbl := fs_tm 487 (by decide +kernel) rfl
theorem fs_mX3_48 : Cond.methodLink RX3 48 yJ9_max_7cf53 ∈ fs_tbl := fs_tm 491 (by decide +kernel) rfl
theorem fs_mX3_54 : Cond.methodLink RX3 54 yJ9_min_7cf53 ∈ fs_tbl := fs_tm 494 (by decide +kernel) rfl
theorem fs_mL_49 : Cond.methodLink RL 49 yX6_covered ∈ fs_tbl := fs_tm 497 (by decide +kernel) rfl
theorem fs_mX6_144 : Cond.methodLink RX6 144 yX3_coverOf ∈ fs_tbl := fs_tm 501 (by decide +kernel) rfl
theorem fs_mX3_57 : Cond.methodLink RX3 57 yX3_holds ∈ fs_tbl := fs_tm 505 (by decide +kernel) rfl
theorem fs_mL_53 : Cond.methodLink RL 53 yX6_idle ∈ fs_tbl := fs_tm 509 (by decide +kernel) rfl
theorem fs_mL_57 : Cond.methodLink RL 57 yX6_packets ∈ fs_tbl := fs_tm 513 (by decide +kernel) rfl
theorem fs_mX6_154 : Cond.methodLink RX6 154 yX4_wonByAction ∈ fs_tbl := fs_tm 517 (by decide +kernel) rfl
theorem fs_mL_61 : Cond.methodLink RL 61 yX6_split ∈ fs_tbl := fs_tm 521 (by decide +kernel) rfl
theorem fs_mX6_160 : Cond.methodLink RX6 160 yX3_prefixesOf ∈ fs_tbl := fs_tm 527 (by decide +kernel) rfl
theorem fs_mX3_67 : Cond.methodLink RX3 67 yX3_prefixesWithin ∈ fs_tbl := fs_tm 531 (by decide +kernel) rfl
theorem fs_mL_65 : Cond.methodLink RL 65 yX6_prefix ∈ fs_tbl := fs_tm 536 (by decide +kernel) rfl
theorem fs_mX6_163 : Cond.methodLink RX6 163 yX3_prefixValue ∈ fs_tbl := fs_tm 540 (by decide +kernel) rfl
theorem fs_mX3_63 : Cond.methodLink RX3 63 yX3_prefixLength ∈ fs_tbl := fs_tm 544 (by decide +kernel) rfl
theorem fs_mX6_166 : Cond.methodLink RX6 166 yX3_prefixLength ∈ fs_tbl := fs_tm 548 (by decide +kernel) rfl
theorem fs_mL_69 : Cond.methodLink RL 69 yX6_tuple ∈ fs_tbl := fs_tm 549 (by decide +kernel) rfl
theorem fs_mX6_169 : Cond.methodLink RX6 169 yX5_refresh ∈ fs_tbl := fs_tm 553 (by decide +kernel) rfl
theorem fs_mX5_59 : Cond.methodLink RX5 59 yJ7_fill_53178 ∈ fs_tbl := fs_tm 557 (by decide +kernel) rfl
theorem fs_mX5_71 : Cond.methodLink RX5 71 yX5_countPieces ∈ fs_tbl := fs_tm 560 (by decide +kernel) rfl
theorem fs_mX5_82 : Cond.methodLink RX5 82 yX3_prefixesOf ∈ fs_tbl := fs_tm 565 (by decide +kernel) rfl
theorem fs_mX5_75 : Cond.methodLink RX5 75 yX5_enter ∈ fs_tbl := fs_tm 566 (by decide +kernel) rfl
theorem fs_mX5_86 : Cond.methodLink RX5 86 yX5_put ∈ fs_tbl := fs_tm 570 (by decide +kernel) rfl
theorem fs_mX6_180 : Cond.methodLink RX6 180 yX5_lengthIn ∈ fs_tbl := fs_tm 576 (by decide +kernel) rfl
theorem fs_mL_73 : Cond.methodLink RL 73 yX6_probe ∈ fs_tbl := fs_tm 582 (by decide +kernel) rfl
theorem fs_mX6_183 : Cond.methodLink RX6 183 yX5_search ∈ fs_tbl := fs_tm 586 (by decide +kernel) rfl
theorem fs_mX5_90 : Cond.methodLink RX5 90 yX5_packetKey ∈ fs_tbl := fs_tm 590 (by decide +kernel) rfl
theorem fs_mX5_98 : Cond.methodLink RX5 98 yX3_takes ∈ fs_tbl := fs_tm 594 (by decide +kernel) rfl
theorem fs_mX5_102 : Cond.methodLink RX5 102 yX3_prefixLength ∈ fs_tbl := fs_tm 598 (by decide +kernel) rfl
theorem fs_mX5_94 : Cond.methodLink RX5 94 yX5_firstWithKey ∈ fs_tbl := fs_tm 599 (by decide +kernel) rfl
theorem fs_mL_78 : Cond.methodLink RL 78 yX6_grow ∈ fs_tbl := fs_tm 603 (by decide +kernel) rfl
theorem fs_mL_82 : Cond.methodLink RL 82 yX6_tree ∈ fs_tbl := fs_tm 607 (by decide +kernel) rfl
theorem fs_mX6_199 : Cond.methodLink RX6 199 yX0_measure ∈ fs_tbl := fs_tm 611 (by decide +kernel) rfl
theorem fs_mX0_50 : Cond.methodLink RX0 50 yJ7_fill_53178 ∈ fs_tbl := fs_tm 615 (by decide +kernel) rfl
theorem fs_mX0_56 : Cond.methodLink RX0 56 yX2_all ∈ fs_tbl := fs_tm 616 (by decide +kernel) rfl
theorem fs_mX0_62 : Cond.methodLink RX0 62 yX0_visit ∈ fs_tbl := fs_tm 617 (by decide +kernel) rfl
theorem fs_mX0_66 : Cond.methodLink RX0 66 yJ9_max_7cf53 ∈ fs_tbl := fs_tm 621 (by decide +kernel) rfl
theorem fs_mX0_72 : Cond.methodLink RX0 72 yX0_cutField ∈ fs_tbl := fs_tm 622 (by decide +kernel) rfl
theorem fs_mX0_75 : Cond.methodLink RX0 75 yJ6_bitCount_0f7a4 ∈ fs_tbl := fs_tm 626 (by decide +kernel) rfl
theorem fs_mX0_81 : Cond.methodLink RX0 81 yX0_addLeaf ∈ fs_tbl := fs_tm 628 (by decide +kernel) rfl
theorem fs_mL_86 : Cond.methodLink RL 86 yX6_walk ∈ fs_tbl := fs_tm 632 (by decide +kernel) rfl
theorem fs_mX6_220 : Cond.methodLink RX6 220 yX0_descend ∈ fs_tbl := fs_tm 636 (by decide +kernel) rfl
theorem fs_mX6_234 : Cond.methodLink RX6 234 yX6_lookedAt ∈ fs_tbl := fs_tm 641 (by decide +kernel) rfl
theorem fs_mL_90 : Cond.methodLink RL 90 yX6_image ∈ fs_tbl := fs_tm 644 (by decide +kernel) rfl
theorem fs_mX6_238 : Cond.methodLink RX6 238 yX3_copyFrom ∈ fs_tbl := fs_tm 648 (by decide +kernel) rfl
theorem fs_mL_94 : Cond.methodLink RL 94 yX6_restore ∈ fs_tbl := fs_tm 652 (by decide +kernel) rfl
theorem fs_mL_98 : Cond.methodLink RL 98 yX6_count ∈ fs_tbl := fs_tm 656 (by decide +kernel) rfl
theorem fs_mX6_247 : Cond.methodLink RX6 247 yX6_countTuples ∈ fs_tbl := fs_tm 660 (by decide +kernel) rfl
theorem fs_mX6_251 : Cond.methodLink RX6 251 yX6_countEntries ∈ fs_tbl := fs_tm 664 (by decide +kernel) rfl
theorem fs_mX6_254 : Cond.methodLink RX6 254 yX6_countIdle ∈ fs_tbl := fs_tm 668 (by decide +kernel) rfl
theorem fs_mX6_257 : Cond.methodLink RX6 257 yX6_countCovered ∈ fs_tbl := fs_tm 672 (by decide +kernel) rfl
theorem fs_mX6_260 : Cond.methodLink RX6 260 yX6_keptImages ∈ fs_tbl := fs_tm 676 (by decide +kernel) rfl
theorem fs_mL_12 : Cond.methodLink RL 12 yX7_init ∈ fs_tbl := fs_tm 682 (by decide +kernel) rfl
theorem fs_mX7_93 : Cond.methodLink RX7 93 yX7_clearDraft ∈ fs_tbl := fs_tm 686 (by decide +kernel) rfl
theorem fs_mX7_124 : Cond.methodLink RX7 124 yX7_most ∈ fs_tbl := fs_tm 690 (by decide +kernel) rfl
theorem fs_mX7_96 : Cond.methodLink RX7 96 yX7_width ∈ fs_tbl := fs_tm 693 (by decide +kernel) rfl
theorem fs_mL_17 : Cond.methodLink RL 17 yX7_draft ∈ fs_tbl := fs_tm 799 (by decide +kernel) rfl
theorem fs_mX7_127 : Cond.methodLink RX7 127 yX7_isField ∈ fs_tbl := fs_tm 803 (by decide +kernel) rfl
theorem fs_mX7_100 : Cond.methodLink RX7 100 yX7_in ∈ fs_tbl := fs_tm 806 (by decide +kernel) rfl
theorem fs_mL_22 : Cond.methodLink RL 22 yX7_rule ∈ fs_tbl := fs_tm 809 (by decide +kernel) rfl
theorem fs_mX7_131 : Cond.methodLink RX7 131 yX7_change ∈ fs_tbl := fs_tm 813 (by decide +kernel) rfl
theorem fs_mL_27 : Cond.methodLink RL 27 yX7_drop ∈ fs_tbl := fs_tm 817 (by decide +kernel) rfl
theorem fs_mX7_134 : Cond.methodLink RX7 134 yX7_isRule ∈ fs_tbl := fs_tm 821 (by decide +kernel) rfl
theorem fs_mL_31 : Cond.methodLink RL 31 yX7_rank ∈ fs_tbl := fs_tm 825 (by decide +kernel) rfl
theorem fs_mX7_140 : Cond.methodLink RX7 140 yX7_aheadOf ∈ fs_tbl := fs_tm 829 (by decide +kernel) rfl
theorem fs_mX7_137 : Cond.methodLink RX7 137 yX7_isAhead ∈ fs_tbl := fs_tm 833 (by decide +kernel) rfl
theorem fs_mL_35 : Cond.methodLink RL 35 yX7_told ∈ fs_tbl := fs_tm 837 (by decide +kernel) rfl
theorem fs_mL_40 : Cond.methodLink RL 40 yX7_first ∈ fs_tbl := fs_tm 841 (by decide +kernel) rfl
theorem fs_mX7_150 : Cond.methodLink RX7 150 yX7_isPacket ∈ fs_tbl := fs_tm 845 (by decide +kernel) rfl
theorem fs_mX7_154 : Cond.methodLink RX7 154 yX7_fitting ∈ fs_tbl := fs_tm 848 (by decide +kernel) rfl
theorem fs_mX7_147 : Cond.methodLink RX7 147 yX7_order ∈ fs_tbl := fs_tm 852 (by decide +kernel) rfl
theorem fs_mX7_143 : Cond.methodLink RX7 143 yX7_takersOf ∈ fs_tbl := fs_tm 856 (by decide +kernel) rfl
theorem fs_mX7_158 : Cond.methodLink RX7 158 yX7_lowest ∈ fs_tbl := fs_tm 860 (by decide +kernel) rfl
theorem fs_mX7_107 : Cond.methodLink RX7 107 yX7_has ∈ fs_tbl := fs_tm 863 (by decide +kernel) rfl
theorem fs_mL_44 : Cond.methodLink RL 44 yX7_wins ∈ fs_tbl := fs_tm 866 (by decide +kernel) rfl
theorem fs_mX7_168 : Cond.methodLink RX7 168 yX7_sweep ∈ fs_tbl := fs_tm 870 (by decide +kernel) rfl
theorem fs_mX7_161 : Cond.methodLink RX7 161 yX7_layStretches ∈ fs_tbl := fs_tm 874 (by decide +kernel) rfl
theorem fs_mX7_164 : Cond.methodLink RX7 164 yX7_meet ∈ fs_tbl := fs_tm 878 (by decide +kernel) rfl
theorem fs_mL_48 : Cond.methodLink RL 48 yX7_overlap ∈ fs_tbl := fs_tm 882 (by decide +kernel) rfl
theorem fs_mL_52 : Cond.methodLink RL 52 yX7_covered ∈ fs_tbl := fs_tm 886 (by decide +kernel) rfl
theorem fs_mX7_174 : Cond.methodLink RX7 174 yX7_coverOf ∈ fs_tbl := fs_tm 890 (by decide +kernel) rfl
theorem fs_mX7_171 : Cond.methodLink RX7 171 yX7_isWithin ∈ fs_tbl := fs_tm 894 (by decide +kernel) rfl
theorem fs_mL_56 : Cond.methodLink RL 56 yX7_idle ∈ fs_tbl := fs_tm 898 (by decide +kernel) rfl
theorem fs_mL_60 : Cond.methodLink RL 60 yX7_packets ∈ fs_tbl := fs_tm 902 (by decide +kernel) rfl
theorem fs_mL_64 : Cond.methodLink RL 64 yX7_split ∈ fs_tbl := fs_tm 906 (by decide +kernel) rfl
theorem fs_mX7_183 : Cond.methodLink RX7 183 yX7_prefixes ∈ fs_tbl := fs_tm 910 (by decide +kernel) rfl
theorem fs_mX7_180 : Cond.methodLink RX7 180 yX7_valueOf ∈ fs_tbl := fs_tm 914 (by decide +kernel) rfl
theorem fs_mX7_177 : Cond.methodLink RX7 177 yX7_lengthAt ∈ fs_tbl := fs_tm 918 (by decide +kernel) rfl
theorem fs_mL_68 : Cond.methodLink RL 68 yX7_prefix ∈ fs_tbl := fs_tm 921 (by decide +kernel) rfl
theorem fs_mL_72 : Cond.methodLink RL 72 yX7_tuple ∈ fs_tbl := fs_tm 925 (by decide +kernel) rfl
theorem fs_mX7_202 : Cond.methodLink RX7 202 yX7_listTuples ∈ fs_tbl := fs_tm 929 (by decide +kernel) rfl
theorem fs_mX7_193 : Cond.methodLink RX7 193 yX7_ofLength ∈ fs_tbl := fs_tm 933 (by decide +kernel) rfl
theorem fs_mX7_196 : Cond.methodLink RX7 196 yX7_membersOf ∈ fs_tbl := fs_tm 937 (by decide +kernel) rfl
theorem fs_mX7_190 : Cond.methodLink RX7 190 yX7_entriesOf ∈ fs_tbl := fs_tm 941 (by decide +kernel) rfl
theorem fs_mX7_187 : Cond.methodLink RX7 187 yX7_lengthIn ∈ fs_tbl := fs_tm 945 (by decide +kernel) rfl
theorem fs_mX7_205 : Cond.methodLink RX7 205 yX7_entries ∈ fs_tbl := fs_tm 948 (by decide +kernel) rfl
theorem fs_mX7_208 : Cond.methodLink RX7 208 yX7_bits ∈ fs_tbl := fs_tm 952 (by decide +kernel) rfl
theorem fs_mL_77 : Cond.methodLink RL 77 yX7_probe ∈ fs_tbl := fs_tm 955 (by decide +kernel) rfl
theorem fs_mX7_214 : Cond.methodLink RX7 214 yX7_codeOf ∈ fs_tbl := fs_tm 959 (by decide +kernel) rfl
theorem fs_mX7_211 : Cond.methodLink RX7 211 yX7_lengthOf ∈ fs_tbl := fs_tm 963 (by decide +kernel) rfl
theorem fs_mL_81 : Cond.methodLink RL 81 yX7_grow ∈ fs_tbl := fs_tm 967 (by decide +kernel) rfl
theorem fs_mL_85 : Cond.methodLink RL 85 yX7_tree ∈ fs_tbl := fs_tm 971 (by decide +kernel) rfl
theorem fs_mX7_231 : Cond.methodLink RX7 231 yX7_growTree ∈ fs_tbl := fs_tm 975 (by decide +kernel) rfl
theorem fs_mX7_224 : Cond.methodLink RX7 224 yX7_cutOf ∈ fs_tbl := fs_tm 979 (by decide +kernel) rfl
theorem fs_mX7_218 : Cond.methodLink RX7 218 yX7_halved ∈ fs_tbl := fs_tm 983 (by decide +kernel) rfl
theorem fs_mX7_227 : Cond.methodLink RX7 227 yX7_addBelow ∈ fs_tbl := fs_tm 987 (by decide +kernel) rfl
theorem fs_mL_89 : Cond.methodLink RL 89 yX7_walk ∈ fs_tbl := fs_tm 991 (by decide +kernel) rfl
theorem fs_mX7_234 : Cond.methodLink RX7 234 yX7_looked ∈ fs_tbl := fs_tm 995 (by decide +kernel) rfl
theorem fs_mL_93 : Cond.methodLink RL 93 yX7_image ∈ fs_tbl := fs_tm 999 (by decide +kernel) rfl
theorem fs_mL_97 : Cond.methodLink RL 97 yX7_restore ∈ fs_tbl := fs_tm 1003 (by decide +kernel) rfl
theorem fs_mL_101 : Cond.methodLink RL 101 yX7_count ∈ fs_tbl := fs_tm 1007 (by decide +kernel) rfl
theorem fs_mX7_237 : Cond.methodLink RX7 237 yX7_allEntries ∈ fs_tbl := fs_tm 1011 (by decide +kernel) rfl
theorem fs_mX7_241 : Cond.methodLink RX7 241 yX7_idleOnes ∈ fs_tbl := fs_tm 1015 (by decide +kernel) rfl
theorem fs_mX7_244 : Cond.methodLink RX7 244 yX7_coveredOnes ∈ fs_tbl := fs_tm 1019 (by decide +kernel) rfl
end
section
/-! ===== a machine of whole numbers over the kit's rows: values, world, contracts, a row an instruction ===== -/
abbrev fs_V : Type := Int ⊕ Int
abbrev fs_S : Type := Int → Int → Int
abbrev fs_Q : Type := Option Int → fs_S → Prop
def fs_cv (ad : Int → Nat) (v : fs_V) : Value := match v with
  | .inl x => .int (Int32.ofInt x)
  | .inr k => .ref (ad k)
theorem fs_cv_cat (ad : Int → Nat) (v : fs_V) : (fs_cv ad v).category = 1 := by cases v <;> rfl
def fs_fld (ad : Int → Nat) (g : Int → Int) (i : Nat) (o : Option Int) : Value := match o with
  | some k => .ref (ad k)
  | none => .int (Int32.ofInt (g (i : Int)))
def fs_cell (ad : Int → Nat) (cs : Nat → ClassId) (x : fs_K) (g : Int → Int) : va_E := match x with
  | .inl (ci, fs) => .inr (ci, fs.mapIdx (fs_fld ad g))
  | .inr (.inl (n, z)) => .inl (cs (if z then 1 else 0), n, .inl fun i => Int32.ofInt (g (i : Int)))
  | .inr (.inr (n, o, b)) => .inl (cs (if o then 3 else 2), n, .inr (.inr (.inr (.inr fun i => some (ad (b + (i : Int)))))))
def fs_ws (ad : Int → Nat) (cs : Nat → ClassId) (σ : fs_S) : va_W := (List.range fs_N).map fun (i : Nat) => (ad (i : Int), fs_cell ad cs ((fs_L[i]?).getD (.inl (0, []))) (σ (i : Int)))
def fs_A (ad : Int → Nat) : Nat → Prop := fun q => ∃ i : Nat, i < fs_N ∧ q = ad (i : Int)
def fs_tys (cs : Nat → ClassId) : List (ClassId × FieldType) := [(cs 0, .int), (cs 1, .boolean), (cs 2, .array .int), (cs 3, .object "FieldSorter$Image")]
/-- what stands outside the world: rows of constants, links of nest mates -/
def fs_St (U : State) (ad : Int → Nat) : Prop :=
  (∀ (j : Nat) (q : String × String × List Int), fs_stL[j]? = some q → va_Z q.1 q.2.1 "[I" (.ref (ad (1000 + (j : Int)))) (fs_A ad) U U.heap ∧ va_T .int (ad (1000 + (j : Int))) q.2.2.length (fun i => .int (Int32.ofInt (q.2.2.getD i 0))) (fs_A ad) U U.heap) ∧
  ∀ w ∈ fs_nest, va_Nw w U
def fs_u (σ : fs_S) (k i v : Int) : fs_S := fun k' i' => if k' = k ∧ i' = i then v else σ k' i'
theorem fs_lay_spec {k : Int} {x : fs_K} (h : fs_lay k = some x) : 0 ≤ k ∧ k.toNat < fs_N ∧ fs_L[k.toNat]? = some x ∧ ((k.toNat : Nat) : Int) = k := by
  unfold fs_lay at h
  by_cases hk : k < 0
  · rw [if_pos hk] at h; cases h
  · rw [if_neg hk] at h
    have hl : k.toNat < fs_L.length := (List.getElem?_eq_some_iff.mp h).1
    rw [fs_N_eq] at hl
    exact ⟨by omega, hl, h, by omega⟩
theorem fs_get {ad : Int → Nat} {cs : Nat → ClassId} {σ : fs_S} {k : Int} {x : fs_K} (h : fs_lay k = some x) : (fs_ws ad cs σ)[k.toNat]? = some (ad k, fs_cell ad cs x (σ k)) := by
  obtain ⟨h0, h1, h2, h3⟩ := fs_lay_spec h
  unfold fs_ws
  rw [List.getElem?_map, List.getElem?_range h1, Option.map_some, h2, Option.getD_some, h3]
theorem fs_ws_len (ad : Int → Nat) (cs : Nat → ClassId) (σ : fs_S) : (fs_ws ad cs σ).length = fs_N := by simp [fs_ws]
theorem fs_set {ad : Int → Nat} {cs : Nat → ClassId} {σ τ : fs_S} {k : Int} {x : fs_K} (h : fs_lay k = some x) {e : va_E} (he : e = fs_cell ad cs x (τ k)) (ho : ∀ k', k' ≠ k → τ k' = σ k') : (fs_ws ad cs σ).set k.toNat (ad k, e) = fs_ws ad cs τ := by
  obtain ⟨h0, h1, h2, h3⟩ := fs_lay_spec h
  apply List.ext_getElem?
  intro i
  by_cases hi : i < fs_N
  · by_cases hk : k.toNat = i
    · subst hk
      rw [List.getElem?_set_self (by rw [fs_ws_len]; exact h1), he, fs_get h]
    · rw [List.getElem?_set_ne hk]
      unfold fs_ws
      rw [List.getElem?_map, List.getElem?_map, List.getElem?_range hi, Option.map_some, Option.map_some, ho (i : Int) (by omega)]
  · rw [List.getElem?_eq_none (by rw [List.length_set, fs_ws_len]; omega), List.getElem?_eq_none (by rw [fs_ws_len]; omega)]
theorem fs_u_off {σ : fs_S} {k i v : Int} : ∀ k', k' ≠ k → fs_u σ k i v k' = σ k' := by
  intro k' h
  funext i'
  simp [fs_u, h]
theorem fs_D_eq {ad : Int → Nat} {cs : Nat → ClassId} {σ τ : fs_S} {A : Nat → Prop} (h : va_D A (fs_ws ad cs σ)) : va_D A (fs_ws ad cs τ) := by
  have key : ∀ (i : Nat) (q : Nat × va_E), (fs_ws ad cs τ)[i]? = some q → ∃ q0, (fs_ws ad cs σ)[i]? = some q0 ∧ q0.1 = q.1 := by
    intro i q hq
    have hi : i < fs_N := by rw [← fs_ws_len ad cs τ]; exact (List.getElem?_eq_some_iff.mp hq).1
    unfold fs_ws at hq ⊢
    rw [List.getElem?_map, List.getElem?_range hi, Option.map_some] at hq
    rw [List.getElem?_map, List.getElem?_range hi, Option.map_some]
    cases hq
    exact ⟨_, rfl, rfl⟩
  refine ⟨fun i j x y hi hj hxy => ?_, fun i q hq => ?_⟩
  · obtain ⟨x0, a1, a2⟩ := key i x hi
    obtain ⟨y0, b1, b2⟩ := key j y hj
    exact h.1 i j x0 y0 a1 b1 (a2.trans (hxy.trans b2.symm))
  · obtain ⟨q0, a1, a2⟩ := key i q hq
    rw [← a2]
    exact h.2 i q0 a1
/-! the locals -/
def fs_Lr (ad : Int → Nat) (ls : Array Slot) (L : List (Option fs_V)) : Prop := ls.size = L.length ∧ lv_wf ls ∧ ∀ (i : Nat) (v : fs_V), L[i]? = some (some v) → ls[i]? = some (.val (fs_cv ad v))
def fs_lv (ad : Int → Nat) (L : List (Option fs_V)) : List (Nat × Value) := (List.range L.length).filterMap fun i => match L[i]? with
  | some (some v) => some (i, fs_cv ad v)
  | _ => none
theorem fs_lv_mem {ad : Int → Nat} {L : List (Option fs_V)} {q : Nat × Value} : q ∈ fs_lv ad L ↔ ∃ v, L[q.1]? = some (some v) ∧ q.2 = fs_cv ad v := by
  unfold fs_lv
  rw [List.mem_filterMap]
  constructor
  · rintro ⟨i, -, h⟩
    split at h
    next v hv => cases h; exact ⟨v, hv, rfl⟩
    next => cases h
  · rintro ⟨v, h1, h2⟩
    obtain ⟨i, w⟩ := q
    refine ⟨i, List.mem_range.mpr (List.getElem?_eq_some_iff.mp h1).1, ?_⟩
    simp only at h1 h2
    rw [h1, h2]
theorem fs_Lr.has {ad : Int → Nat} {ls : Array Slot} {L : List (Option fs_V)} (h : fs_Lr ad ls L) : lv_has ls L.length (fs_lv ad L) := by
  refine ⟨h.1, h.2.1, fun q hq => ?_⟩
  obtain ⟨v, h1, h2⟩ := fs_lv_mem.mp hq
  rw [h2]
  exact h.2.2 q.1 v h1
theorem fs_Lr.store {ad : Int → Nat} {ls' : Array Slot} {L : List (Option fs_V)} {i : Nat} {v : fs_V} (hi : i < L.length) (h : lv_has ls' L.length ((i, fs_cv ad v) :: (fs_lv ad L).filter (fun q => !(q.1 == i) && !(q.1 + 1 == i && q.2.category == 2)))) : fs_Lr ad ls' (L.set i (some v)) := by
  refine ⟨by rw [List.length_set]; exact h.1, h.2.1, fun j w hw => ?_⟩
  by_cases hj : j = i
  · subst hj
    rw [List.getElem?_set_self hi] at hw
    cases hw
    exact h.2.2 (j, fs_cv ad v) List.mem_cons_self
  · rw [List.getElem?_set_ne (Ne.symm hj)] at hw
    refine h.2.2 (j, fs_cv ad w) (List.mem_cons_of_mem _ (List.mem_filter.mpr ⟨fs_lv_mem.mpr ⟨w, hw, rfl⟩, ?_⟩))
    simp [hj, fs_cv_cat]
/-! contexts, the walk, contracts -/
def fs_Cx (M : fs_Me) (p : Program) (s : State) (m : MethodId) (args : Array Value) (meth : Method) (c : Code) (D : va_G) (ad : Int → Nat) (cs : Nat → ClassId) : Prop :=
  p.tables.exec = Jvm.exec ∧ c.code = M.2.1 ∧ meth.sig.returnType = M.2.2.2 ∧ c.maxLocals = M.2.2.1 ∧ meth.locks = false ∧ s.vm.findClass M.1.cls = some m.cls ∧ (∀ w ∈ fs_tbl, w.before args s = true) ∧ va_K D fs_cl (fs_tys cs) s ∧ fs_St s ad
def fs_H (s : State) (D : va_G) (ad : Int → Nat) (cs : Nat → ClassId) (σ : fs_S) (H : Heap) (locs : List Loc) : Prop :=
  va_P D fs_cl (fs_ws ad cs σ) H ∧ va_D (fs_A ad) (fs_ws ad cs σ) ∧ va_S (fs_A ad) s.heap H locs
abbrev fs_G : Type := Launch → Room → State → Array Value → List Frame → va_G → (Int → Nat) → (Nat → ClassId) → Nat → Nat → (State → Prop) → Prop
def fs_W (Γ : fs_G) (M : fs_Me) (pc : Nat) (L : List (Option fs_V)) (st : List fs_V) (σ : fs_S) : Prop :=
  ∀ (p : Program) (l : Launch) (e : Env) (R : Room) (s : State) (m : MethodId) (args : Array Value) (below : List Frame) (meth : Method) (c : Code) (D : va_G) (ad : Int → Nat) (cs : Nat → ClassId) (cells slots : Nat) (Z : State → Prop),
    fs_Cx M p s m args meth c D ad cs → Γ l R s args below D ad cs cells slots Z → L.length = M.2.2.1 →
    ∀ (H : Heap) (locs : List Loc) (ls : Array Slot), fs_H s D ad cs σ H locs → fs_Lr ad ls L → W p l e R s m args below meth c H locs cells slots Z (F0 m pc ls (st.map (fs_cv ad)))
def fs_rm (d : Nat) : Room := { frames := d, cells := 0, slots := 0, locals := 64 * d }
def fs_U (D : va_G) (ad : Int → Nat) (cs : Nat → ClassId) (σ : fs_S) (U : State) : Prop := va_P D fs_cl (fs_ws ad cs σ) U.heap ∧ va_D (fs_A ad) (fs_ws ad cs σ) ∧ va_K D fs_cl (fs_tys cs) U ∧ fs_St U ad
def fs_Qc (D : va_G) (ad : Int → Nat) (cs : Nat → ClassId) (Q : fs_Q) : Array Value → State → Outcome → State → Prop := fun _ st oc t => ∃ (r : Option Int) (τ : fs_S), oc = .returned (r.map fun x => .int (Int32.ofInt x)) ∧ Q r τ ∧ va_P D fs_cl (fs_ws ad cs τ) t.heap ∧ va_F (fs_A ad) st t
/-- a method's contract: called with these values in this state it returns, and Q holds of the answer and the state behind it -/
def fs_C (M : fs_Me) (d : Nat) (av : List fs_V) (σ : fs_S) (Q : fs_Q) : Prop :=
  ∀ (l : Launch) (D : va_G) (ad : Int → Nat) (cs : Nat → ClassId), Met l M.1 (.code M.1 M.2.1 M.2.2.1 M.2.2.2 :: fs_tbl) (fs_rm d) (va_Pc (av.map (fs_cv ad)) (fun U => fs_U D ad cs σ U)) (fs_Qc D ad cs Q) 0 0 (fs_A ad)
def fs_Γ (d : Nat) (Q : fs_Q) : fs_G := fun _ R s args below D ad cs cells slots Z => R = fs_rm d ∧ cells = 0 ∧ slots = 0 ∧ Z = MQ below (fs_Qc D ad cs Q) args s 0 0 (fs_A ad)
/-- there is room for a call of depth d -/
def fs_Rm (Γ : fs_G) (d : Nat) : Prop := ∀ l R s args below D ad cs cells slots Z, Γ l R s args below D ad cs cells slots Z → d + 1 ≤ R.frames ∧ 64 * d + 64 ≤ R.locals ∧ cells ≤ R.cells ∧ slots ≤ R.slots
theorem fs_Γ_rm {d n : Nat} {Q : fs_Q} (h : d < n) : fs_Rm (fs_Γ n Q) d := by
  intro l R s args below D ad cs cells slots Z hG
  obtain ⟨h1, h2, h3, -⟩ := hG
  subst h1; subst h2; subst h3
  exact ⟨h, by show 64 * d + 64 ≤ 64 * n; omega, Nat.le_refl _, Nat.le_refl _⟩
theorem fs_C.mono {M : fs_Me} {d : Nat} {av : List fs_V} {σ : fs_S} {Q Q' : fs_Q} (h : fs_C M d av σ Q) (hQ : ∀ r τ, Q r τ → Q' r τ) : fs_C M d av σ Q' := by
  intro l D ad cs p e h1 h2 h3 s m args below h4 h5 h6 h7
  obtain ⟨n, o, k1, k2, k3, ⟨r, τ, q1, q2, q3⟩, k5⟩ := h l D ad cs p e h1 h2 h3 s m args below h4 h5 h6 h7
  exact ⟨n, o, k1, k2, k3, ⟨r, τ, q1, hQ r τ q2, q3⟩, k5⟩
theorem fs_St.moved {u U : State} {ad : Int → Nat} (hW : u.WarmedH U.vm) (hh : ∀ a : Nat, a < u.heap.size → ¬ fs_A ad a → U.heap[a]? = u.heap[a]?) (h : fs_St u ad) : fs_St U ad := by
  refine ⟨fun j q hq => ?_, fun w hw => ?_⟩
  · obtain ⟨h1, h2⟩ := h.1 j q hq
    exact ⟨(h1.kept hh).moved hW.alike, (h2.kept hh).moved hW.alike⟩
  · have h1 := h.2 w hw
    have hk : (∃ a i b n d h, w = .fieldLinkNest a i b n d h) ∨ ∃ a i x h, w = .methodLinkNest a i x h := by
      have hall : ∀ w ∈ fs_nest, (match w with | .fieldLinkNest .. => true | .methodLinkNest .. => true | _ => false) = true := by decide +kernel
      have h2 := hall w hw
      cases w <;> first | exact Or.inl ⟨_, _, _, _, _, _, rfl⟩ | exact Or.inr ⟨_, _, _, _, rfl⟩ | cases h2
    rcases hk with ⟨a, i, b, n, d, h, rfl⟩ | ⟨a, i, x, h, rfl⟩
    · exact h1.warmF hW
    · exact h1.warmM hW
end
section
theorem fs_cin (ci : Nat) (q : vw_C) (h : fs_cl[ci]? = some q) : (∀ w ∈ u_ws q.1 q.2.1 q.2.2, w ∈ fs_tbl) ∧ ∃ ty0 : Nat → FieldType, (∀ k, k < q.2.2 → parseFieldDescriptor (q.2.1 k).2.2.1 = some (ty0 k)) ∧ (∀ a, a < q.2.2 → ∀ b, b < q.2.2 → a ≠ b → (q.2.1 a).2.1 ≠ (q.2.1 b).2.1) := by
  match ci, h with
  | 0, h => cases h; exact ⟨fs_inX0, tyX0, tyX0_ok, nmX0⟩
  | 1, h => cases h; exact ⟨fs_inX1, tyX1, tyX1_ok, nmX1⟩
  | 2, h => cases h; exact ⟨fs_inX2, tyX2, tyX2_ok, nmX2⟩
  | 3, h => cases h; exact ⟨fs_inX3, tyX3, tyX3_ok, nmX3⟩
  | 4, h => cases h; exact ⟨fs_inX4, tyX4, tyX4_ok, nmX4⟩
  | 5, h => cases h; exact ⟨fs_inX5, tyX5, tyX5_ok, nmX5⟩
  | 6, h => cases h; exact ⟨fs_inX6, tyX6, tyX6_ok, nmX6⟩
  | 7, h => cases h; exact ⟨fs_inX7, tyX7, tyX7_ok, nmX7⟩
  | n + 8, h => simp [fs_cl] at h
def fi_and (a b : Int) : Int := (Int32.ofInt a &&& Int32.ofInt b).toInt
def fi_or (a b : Int) : Int := (Int32.ofInt a ||| Int32.ofInt b).toInt
def fi_xor (a b : Int) : Int := (Int32.ofInt a ^^^ Int32.ofInt b).toInt
def fi_shl (a b : Int) : Int := (Int32.ofInt a <<< (Int32.ofInt b &&& 31)).toInt
def fi_shr (a b : Int) : Int := (Int32.ofInt a >>> (Int32.ofInt b &&& 31)).toInt
def fi_ushr (a b : Int) : Int := ((Int32.ofInt a).toUInt32 >>> ((Int32.ofInt b).toUInt32 &&& Int32.toUInt32 31)).toInt32.toInt
def fi_w (a : Int) : Int := (Int32.ofInt a).toInt
theorem fi_and_w (a b : Int) : Int32.ofInt (fi_and a b) = Int32.ofInt a &&& Int32.ofInt b := Int32.ofInt_toInt _
theorem fi_or_w (a b : Int) : Int32.ofInt (fi_or a b) = Int32.ofInt a ||| Int32.ofInt b := Int32.ofInt_toInt _
theorem fi_xor_w (a b : Int) : Int32.ofInt (fi_xor a b) = Int32.ofInt a ^^^ Int32.ofInt b := Int32.ofInt_toInt _
theorem fi_shl_w (a b : Int) : Int32.ofInt (fi_shl a b) = Int32.ofInt a <<< (Int32.ofInt b &&& 31) := Int32.ofInt_toInt _
theorem fi_shr_w (a b : Int) : Int32.ofInt (fi_shr a b) = Int32.ofInt a >>> (Int32.ofInt b &&& 31) := Int32.ofInt_toInt _
theorem fi_ushr_w (a b : Int) : Int32.ofInt (fi_ushr a b) = ((Int32.ofInt a).toUInt32 >>> ((Int32.ofInt b).toUInt32 &&& Int32.toUInt32 31)).toInt32 := Int32.ofInt_toInt _
theorem fi_w_w (a : Int) : Int32.ofInt (fi_w a) = Int32.ofInt a := Int32.ofInt_toInt _
theorem fs_mp {ad : Int → Nat} {st : List fs_V} {x : Int} {v : Int32} (h : Int32.ofInt x = v) : List.map (fs_cv ad) (Sum.inl x :: st) = Value.int v :: List.map (fs_cv ad) st := by subst h; rfl
theorem fs_toInt {a : Int} (h : -2147483648 ≤ a ∧ a < 2147483648) : (Int32.ofInt a).toInt = a := Int32.toInt_ofInt_of_le (by omega) (by omega)
theorem fs_lt {a b : Int} (ha : -2147483648 ≤ a ∧ a < 2147483648) (hb : -2147483648 ≤ b ∧ b < 2147483648) : Int32.ofInt a < Int32.ofInt b ↔ a < b := by rw [Int32.lt_iff_toInt_lt, fs_toInt ha, fs_toInt hb]
theorem fs_le {a b : Int} (ha : -2147483648 ≤ a ∧ a < 2147483648) (hb : -2147483648 ≤ b ∧ b < 2147483648) : Int32.ofInt a ≤ Int32.ofInt b ↔ a ≤ b := by rw [Int32.le_iff_toInt_le, fs_toInt ha, fs_toInt hb]
theorem fs_eq {a b : Int} (ha : -2147483648 ≤ a ∧ a < 2147483648) (hb : -2147483648 ≤ b ∧ b < 2147483648) : Int32.ofInt a = Int32.ofInt b ↔ a = b := by rw [← Int32.toInt_inj, fs_toInt ha, fs_toInt hb]
theorem fs_zero : (0 : Int32) = Int32.ofInt 0 := by decide
theorem fs_z : -2147483648 ≤ (0 : Int) ∧ (0 : Int) < 2147483648 := by decide
theorem fs_i8 {n : Int} (h : -128 ≤ n ∧ n < 128) : (Int8.ofInt n).toInt32 = Int32.ofInt n := by
  rw [← Int32.toInt_inj, fs_toInt (by omega), Int8.toInt_toInt32, Int8.toInt_ofInt_of_le (by omega) (by omega)]
theorem fs_i16 {n : Int} (h : -32768 ≤ n ∧ n < 32768) : (Int16.ofInt n).toInt32 = Int32.ofInt n := by
  rw [← Int32.toInt_inj, fs_toInt (by omega), Int16.toInt_toInt32, Int16.toInt_ofInt_of_le (by omega) (by omega)]
theorem fs_clamp {x : Int} {n : Nat} (h : 0 ≤ x ∧ x < (n : Int)) (hn : n ≤ 65536) : (Int32.ofInt x).toNatClampNeg = x.toNat := Int32.toNatClampNeg_ofInt_of_le (by omega) (by omega)
theorem fs_vin {x : Int} {n : Nat} (h : 0 ≤ x ∧ x < (n : Int)) (hn : n ≤ 65536) : vp_in (Int32.ofInt x) n := by
  unfold vp_in
  rw [fs_clamp h hn, fs_zero, fs_lt (by omega) fs_z]
  omega
theorem fs_div {a b : Int} (ha : 0 ≤ a ∧ a < 2147483648) (hb : 0 < b ∧ b < 2147483648) : Int32.ofInt (a / b) = Int32.ofInt a / Int32.ofInt b := by
  have h1 : 0 ≤ a / b := Int.ediv_nonneg ha.1 (by omega)
  have h2 : a / b ≤ a := Int.ediv_le_self b ha.1
  rw [← Int32.toInt_inj, fs_toInt (by omega), Int32.toInt_div_of_ne_right, fs_toInt (by omega), fs_toInt (by omega), Int.tdiv_eq_ediv_of_nonneg ha.1]
  intro h
  have h3 : (Int32.ofInt b).toInt = (-1 : Int32).toInt := by rw [h]
  rw [fs_toInt (by omega)] at h3
  have h4 : (-1 : Int32).toInt = -1 := by decide
  omega
theorem fs_rem {a b : Int} (ha : 0 ≤ a ∧ a < 2147483648) (hb : 0 < b ∧ b < 2147483648) : Int32.ofInt (a % b) = Int32.ofInt a - Int32.ofInt a / Int32.ofInt b * Int32.ofInt b := by
  rw [← fs_div ha hb, ← Int32.ofInt_mul, ← Int32.ofInt_sub]
  congr 1
  have := Int.emod_def a b
  rw [this, Int.mul_comm]
theorem fs_goodAll {ws : List Cond} (h : ∀ w ∈ ws, w ∈ fs_tbl) : GoodIn fs_tbl ws := fun w hw => ⟨h w hw, good_of_word (List.mem_filter.mp (h w hw)).2⟩
section RULES
variable {Γ : fs_G} {M : fs_Me} {pc : Nat} {L : List (Option fs_V)} {st : List fs_V} {σ : fs_S}
theorem fr_top {x y : Int} (h : x = y) (kk : fs_W Γ M pc L (.inl y :: st) σ) : fs_W Γ M pc L (.inl x :: st) σ := h ▸ kk
theorem fr_wrap {x : Int} (kk : fs_W Γ M pc L (.inl (fi_w x) :: st) σ) : fs_W Γ M pc L (.inl x :: st) σ := by
  intro p l e R s m args below meth c D ad cs cells slots Z hC hG hn H locs ls hH hL
  have K := kk p l e R s m args below meth c D ad cs cells slots Z hC hG hn H locs ls hH hL
  rw [fs_mp (fi_w_w x)] at K
  exact K

theorem fr_iconst (q : Nat) {n : Int} (hd : decode M.2.1 pc = .ok (.iconst n, 1)) (hp : pc + 1 = q) (kk : fs_W Γ M q L (.inl n :: st) σ) : fs_W Γ M pc L (st) σ := by
  intro p l e R s m args below meth c D ad cs cells slots Z hC hG hn H locs ls hH hL
  have K := kk p l e R s m args below meth c D ad cs cells slots Z hC hG hn H locs ls hH hL
  subst hp
  exact lv_iconst hC.1 hC.2.1 hd rfl K

theorem fr_bipush (q : Nat) {n : Int} (hd : decode M.2.1 pc = .ok (.bipush n, 2)) (hp : pc + 2 = q) (hv : -128 ≤ n ∧ n < 128) (kk : fs_W Γ M q L (.inl n :: st) σ) : fs_W Γ M pc L (st) σ := by
  intro p l e R s m args below meth c D ad cs cells slots Z hC hG hn H locs ls hH hL
  have K := kk p l e R s m args below meth c D ad cs cells slots Z hC hG hn H locs ls hH hL
  subst hp
  exact lv_bipush hC.1 hC.2.1 hd (fs_i8 hv) K

theorem fr_sipush (q : Nat) {n : Int} (hd : decode M.2.1 pc = .ok (.sipush n, 3)) (hp : pc + 3 = q) (hv : -32768 ≤ n ∧ n < 32768) (kk : fs_W Γ M q L (.inl n :: st) σ) : fs_W Γ M pc L (st) σ := by
  intro p l e R s m args below meth c D ad cs cells slots Z hC hG hn H locs ls hH hL
  have K := kk p l e R s m args below meth c D ad cs cells slots Z hC hG hn H locs ls hH hL
  subst hp
  exact lv_sipush hC.1 hC.2.1 hd (fs_i16 hv) K

theorem fr_ldcw (q : Nat) {index : Nat} {n : Int} (hd : decode M.2.1 pc = .ok (.ldc_w index, 3)) (hp : pc + 3 = q) (hw : Cond.constant M.1.cls index (Int32.ofInt n) ∈ fs_tbl) (kk : fs_W Γ M q L (.inl n :: st) σ) : fs_W Γ M pc L (st) σ := by
  intro p l e R s m args below meth c D ad cs cells slots Z hC hG hn H locs ls hH hL
  have K := kk p l e R s m args below meth c D ad cs cells slots Z hC hG hn H locs ls hH hL
  subst hp
  exact lv_ldcw hC.1 hC.2.1 hC.2.2.2.2.2.1 (hC.2.2.2.2.2.2.1 _ hw) hd K

theorem fr_iload_n (q : Nat) {k : Fin 4} {x : Int} (hd : decode M.2.1 pc = .ok (.iload_n k, 1)) (hp : pc + 1 = q) (hl : L[(k : Nat)]? = some (some (.inl x))) (kk : fs_W Γ M q L (.inl x :: st) σ) : fs_W Γ M pc L (st) σ := by
  intro p l e R s m args below meth c D ad cs cells slots Z hC hG hn H locs ls hH hL
  have K := kk p l e R s m args below meth c D ad cs cells slots Z hC hG hn H locs ls hH hL
  subst hp
  exact lv_iload_n hC.1 hC.2.1 hd rfl (hL.2.2 _ _ hl) K

theorem fr_iload (q : Nat) {i : Nat} {x : Int} (hd : decode M.2.1 pc = .ok (.iload i, 2)) (hp : pc + 2 = q) (hl : L[i]? = some (some (.inl x))) (kk : fs_W Γ M q L (.inl x :: st) σ) : fs_W Γ M pc L (st) σ := by
  intro p l e R s m args below meth c D ad cs cells slots Z hC hG hn H locs ls hH hL
  have K := kk p l e R s m args below meth c D ad cs cells slots Z hC hG hn H locs ls hH hL
  subst hp
  exact lv_iload hC.1 hC.2.1 hd (hL.2.2 _ _ hl) K

theorem fr_aload_n (q : Nat) {k : Fin 4} {x : Int} (hd : decode M.2.1 pc = .ok (.aload_n k, 1)) (hp : pc + 1 = q) (hl : L[(k : Nat)]? = some (some (.inr x))) (kk : fs_W Γ M q L (.inr x :: st) σ) : fs_W Γ M pc L (st) σ := by
  intro p l e R s m args below meth c D ad cs cells slots Z hC hG hn H locs ls hH hL
  have K := kk p l e R s m args below meth c D ad cs cells slots Z hC hG hn H locs ls hH hL
  subst hp
  exact lv_aload_n hC.1 hC.2.1 hd rfl (hL.2.2 _ _ hl) K

theorem fr_aload (q : Nat) {i : Nat} {x : Int} (hd : decode M.2.1 pc = .ok (.aload i, 2)) (hp : pc + 2 = q) (hl : L[i]? = some (some (.inr x))) (kk : fs_W Γ M q L (.inr x :: st) σ) : fs_W Γ M pc L (st) σ := by
  intro p l e R s m args below meth c D ad cs cells slots Z hC hG hn H locs ls hH hL
  have K := kk p l e R s m args below meth c D ad cs cells slots Z hC hG hn H locs ls hH hL
  subst hp
  exact lv_aload hC.1 hC.2.1 hd (hL.2.2 _ _ hl) K

theorem fr_iadd (q : Nat) {a b : Int} (hd : decode M.2.1 pc = .ok (.iadd, 1)) (hp : pc + 1 = q) (kk : fs_W Γ M q L (.inl (a + b) :: st) σ) : fs_W Γ M pc L (.inl b :: .inl a :: st) σ := by
  intro p l e R s m args below meth c D ad cs cells slots Z hC hG hn H locs ls hH hL
  have K := kk p l e R s m args below meth c D ad cs cells slots Z hC hG hn H locs ls hH hL
  subst hp
  rw [fs_mp (Int32.ofInt_add a b)] at K
  exact lv_iadd hC.1 hC.2.1 hd K

theorem fr_isub (q : Nat) {a b : Int} (hd : decode M.2.1 pc = .ok (.isub, 1)) (hp : pc + 1 = q) (kk : fs_W Γ M q L (.inl (a - b) :: st) σ) : fs_W Γ M pc L (.inl b :: .inl a :: st) σ := by
  intro p l e R s m args below meth c D ad cs cells slots Z hC hG hn H locs ls hH hL
  have K := kk p l e R s m args below meth c D ad cs cells slots Z hC hG hn H locs ls hH hL
  subst hp
  rw [fs_mp (Int32.ofInt_sub a b)] at K
  exact lv_isub hC.1 hC.2.1 hd K

theorem fr_imul (q : Nat) {a b : Int} (hd : decode M.2.1 pc = .ok (.imul, 1)) (hp : pc + 1 = q) (kk : fs_W Γ M q L (.inl (a * b) :: st) σ) : fs_W Γ M pc L (.inl b :: .inl a :: st) σ := by
  intro p l e R s m args below meth c D ad cs cells slots Z hC hG hn H locs ls hH hL
  have K := kk p l e R s m args below meth c D ad cs cells slots Z hC hG hn H locs ls hH hL
  subst hp
  rw [fs_mp (Int32.ofInt_mul a b)] at K
  exact lv_imul hC.1 hC.2.1 hd K

theorem fr_iand (q : Nat) {a b : Int} (hd : decode M.2.1 pc = .ok (.iand, 1)) (hp : pc + 1 = q) (kk : fs_W Γ M q L (.inl (fi_and a b) :: st) σ) : fs_W Γ M pc L (.inl b :: .inl a :: st) σ := by
  intro p l e R s m args below meth c D ad cs cells slots Z hC hG hn H locs ls hH hL
  have K := kk p l e R s m args below meth c D ad cs cells slots Z hC hG hn H locs ls hH hL
  subst hp
  rw [fs_mp (fi_and_w a b)] at K
  exact lv_iand hC.1 hC.2.1 hd K

theorem fr_ior (q : Nat) {a b : Int} (hd : decode M.2.1 pc = .ok (.ior, 1)) (hp : pc + 1 = q) (kk : fs_W Γ M q L (.inl (fi_or a b) :: st) σ) : fs_W Γ M pc L (.inl b :: .inl a :: st) σ := by
  intro p l e R s m args below meth c D ad cs cells slots Z hC hG hn H locs ls hH hL
  have K := kk p l e R s m args below meth c D ad cs cells slots Z hC hG hn H locs ls hH hL
  subst hp
  rw [fs_mp (fi_or_w a b)] at K
  exact lv_ior hC.1 hC.2.1 hd K

theorem fr_ixor (q : Nat) {a b : Int} (hd : decode M.2.1 pc = .ok (.ixor, 1)) (hp : pc + 1 = q) (kk : fs_W Γ M q L (.inl (fi_xor a b) :: st) σ) : fs_W Γ M pc L (.inl b :: .inl a :: st) σ := by
  intro p l e R s m args below meth c D ad cs cells slots Z hC hG hn H locs ls hH hL
  have K := kk p l e R s m args below meth c D ad cs cells slots Z hC hG hn H locs ls hH hL
  subst hp
  rw [fs_mp (fi_xor_w a b)] at K
  exact lv_ixor hC.1 hC.2.1 hd K

theorem fr_ishl (q : Nat) {a b : Int} (hd : decode M.2.1 pc = .ok (.ishl, 1)) (hp : pc + 1 = q) (kk : fs_W Γ M q L (.inl (fi_shl a b) :: st) σ) : fs_W Γ M pc L (.inl b :: .inl a :: st) σ := by
  intro p l e R s m args below meth c D ad cs cells slots Z hC hG hn H locs ls hH hL
  have K := kk p l e R s m args below meth c D ad cs cells slots Z hC hG hn H locs ls hH hL
  subst hp
  rw [fs_mp (fi_shl_w a b)] at K
  exact lv_ishl hC.1 hC.2.1 hd K

theorem fr_ishr (q : Nat) {a b : Int} (hd : decode M.2.1 pc = .ok (.ishr, 1)) (hp : pc + 1 = q) (kk : fs_W Γ M q L (.inl (fi_shr a b) :: st) σ) : fs_W Γ M pc L (.inl b :: .inl a :: st) σ := by
  intro p l e R s m args below meth c D ad cs cells slots Z hC hG hn H locs ls hH hL
  have K := kk p l e R s m args below meth c D ad cs cells slots Z hC hG hn H locs ls hH hL
  subst hp
  rw [fs_mp (fi_shr_w a b)] at K
  exact lv_ishr hC.1 hC.2.1 hd K

theorem fr_iushr (q : Nat) {a b : Int} (hd : decode M.2.1 pc = .ok (.iushr, 1)) (hp : pc + 1 = q) (kk : fs_W Γ M q L (.inl (fi_ushr a b) :: st) σ) : fs_W Γ M pc L (.inl b :: .inl a :: st) σ := by
  intro p l e R s m args below meth c D ad cs cells slots Z hC hG hn H locs ls hH hL
  have K := kk p l e R s m args below meth c D ad cs cells slots Z hC hG hn H locs ls hH hL
  subst hp
  rw [fs_mp (fi_ushr_w a b)] at K
  exact lv_iushr hC.1 hC.2.1 hd rfl K

theorem fr_ineg (q : Nat) {a : Int} (hd : decode M.2.1 pc = .ok (.ineg, 1)) (hp : pc + 1 = q) (kk : fs_W Γ M q L (.inl (-a) :: st) σ) : fs_W Γ M pc L (.inl a :: st) σ := by
  intro p l e R s m args below meth c D ad cs cells slots Z hC hG hn H locs ls hH hL
  have K := kk p l e R s m args below meth c D ad cs cells slots Z hC hG hn H locs ls hH hL
  subst hp
  rw [fs_mp (Int32.ofInt_neg a)] at K
  exact lv_ineg hC.1 hC.2.1 hd K

theorem fr_idiv (q : Nat) {a b : Int} (hd : decode M.2.1 pc = .ok (.idiv, 1)) (hp : pc + 1 = q) (ha : 0 ≤ a ∧ a < 2147483648) (hb : 0 < b ∧ b < 2147483648) (kk : fs_W Γ M q L (.inl (a / b) :: st) σ) : fs_W Γ M pc L (.inl b :: .inl a :: st) σ := by
  intro p l e R s m args below meth c D ad cs cells slots Z hC hG hn H locs ls hH hL
  have K := kk p l e R s m args below meth c D ad cs cells slots Z hC hG hn H locs ls hH hL
  subst hp
  rw [fs_mp (fs_div ha hb)] at K
  exact lv_idiv hC.1 hC.2.1 hd (fun z => by rw [fs_zero, fs_eq (by omega) fs_z] at z; omega) K

theorem fr_irem (q : Nat) {a b : Int} (hd : decode M.2.1 pc = .ok (.irem, 1)) (hp : pc + 1 = q) (ha : 0 ≤ a ∧ a < 2147483648) (hb : 0 < b ∧ b < 2147483648) (kk : fs_W Γ M q L (.inl (a % b) :: st) σ) : fs_W Γ M pc L (.inl b :: .inl a :: st) σ := by
  intro p l e R s m args below meth c D ad cs cells slots Z hC hG hn H locs ls hH hL
  have K := kk p l e R s m args below meth c D ad cs cells slots Z hC hG hn H locs ls hH hL
  subst hp
  rw [fs_mp (fs_rem ha hb)] at K
  exact lv_irem hC.1 hC.2.1 hd (fun z => by rw [fs_zero, fs_eq (by omega) fs_z] at z; omega) K

theorem fr_dup (q : Nat) {v : fs_V} (hd : decode M.2.1 pc = .ok (.dup, 1)) (hp : pc + 1 = q) (kk : fs_W Γ M q L (v :: v :: st) σ) : fs_W Γ M pc L (v :: st) σ := by
  intro p l e R s m args below meth c D ad cs cells slots Z hC hG hn H locs ls hH hL
  have K := kk p l e R s m args below meth c D ad cs cells slots Z hC hG hn H locs ls hH hL
  subst hp
  exact lv_dup hC.1 hC.2.1 hd (fs_cv_cat ad v) K

theorem fr_pop (q : Nat) {v : fs_V} (hd : decode M.2.1 pc = .ok (.pop, 1)) (hp : pc + 1 = q) (kk : fs_W Γ M q L (st) σ) : fs_W Γ M pc L (v :: st) σ := by
  intro p l e R s m args below meth c D ad cs cells slots Z hC hG hn H locs ls hH hL
  have K := kk p l e R s m args below meth c D ad cs cells slots Z hC hG hn H locs ls hH hL
  subst hp
  exact lv_pop hC.1 hC.2.1 hd (fs_cv_cat ad v) K

theorem fr_dup2 (q : Nat) {v w : fs_V} (hd : decode M.2.1 pc = .ok (.dup2, 1)) (hp : pc + 1 = q) (kk : fs_W Γ M q L (v :: w :: v :: w :: st) σ) : fs_W Γ M pc L (v :: w :: st) σ := by
  intro p l e R s m args below meth c D ad cs cells slots Z hC hG hn H locs ls hH hL
  have K := kk p l e R s m args below meth c D ad cs cells slots Z hC hG hn H locs ls hH hL
  subst hp
  exact lv_dup2_11 hC.1 hC.2.1 hd (fs_cv_cat ad v) (fs_cv_cat ad w) K

theorem fr_istore_n (q : Nat) (L2 : List (Option fs_V)) {k : Fin 4} {x : Int} (hd : decode M.2.1 pc = .ok (.istore_n k, 1)) (hp : pc + 1 = q) (hi : (k : Nat) < L.length) (hs : L.set (k : Nat) (some (.inl x)) = L2) (kk : fs_W Γ M q L2 st σ) : fs_W Γ M pc L (.inl x :: st) σ := by
  intro p l e R s m args below meth c D ad cs cells slots Z hC hG hn H locs ls hH hL
  subst hp; subst hs
  refine lv_istore_n hC.1 hC.2.1 hd rfl hL.has hi rfl (fun ls' h' => ?_)
  exact kk p l e R s m args below meth c D ad cs cells slots Z hC hG (by rw [List.length_set]; exact hn) H locs ls' hH (fs_Lr.store (v := .inl x) hi h')

theorem fr_istore (q : Nat) (L2 : List (Option fs_V)) {i : Nat} {x : Int} (hd : decode M.2.1 pc = .ok (.istore i, 2)) (hp : pc + 2 = q) (hi : i < L.length) (hs : L.set i (some (.inl x)) = L2) (kk : fs_W Γ M q L2 st σ) : fs_W Γ M pc L (.inl x :: st) σ := by
  intro p l e R s m args below meth c D ad cs cells slots Z hC hG hn H locs ls hH hL
  subst hp; subst hs
  refine lv_istore hC.1 hC.2.1 hd hL.has hi rfl (fun ls' h' => ?_)
  exact kk p l e R s m args below meth c D ad cs cells slots Z hC hG (by rw [List.length_set]; exact hn) H locs ls' hH (fs_Lr.store (v := .inl x) hi h')

theorem fr_astore_n (q : Nat) (L2 : List (Option fs_V)) {k : Fin 4} {x : Int} (hd : decode M.2.1 pc = .ok (.astore_n k, 1)) (hp : pc + 1 = q) (hi : (k : Nat) < L.length) (hs : L.set (k : Nat) (some (.inr x)) = L2) (kk : fs_W Γ M q L2 st σ) : fs_W Γ M pc L (.inr x :: st) σ := by
  intro p l e R s m args below meth c D ad cs cells slots Z hC hG hn H locs ls hH hL
  subst hp; subst hs
  refine lv_astore_n hC.1 hC.2.1 hd rfl hL.has hi rfl (fun ls' h' => ?_)
  exact kk p l e R s m args below meth c D ad cs cells slots Z hC hG (by rw [List.length_set]; exact hn) H locs ls' hH (fs_Lr.store (v := .inr x) hi h')

theorem fr_astore (q : Nat) (L2 : List (Option fs_V)) {i : Nat} {x : Int} (hd : decode M.2.1 pc = .ok (.astore i, 2)) (hp : pc + 2 = q) (hi : i < L.length) (hs : L.set i (some (.inr x)) = L2) (kk : fs_W Γ M q L2 st σ) : fs_W Γ M pc L (.inr x :: st) σ := by
  intro p l e R s m args below meth c D ad cs cells slots Z hC hG hn H locs ls hH hL
  subst hp; subst hs
  refine lv_astore hC.1 hC.2.1 hd hL.has hi rfl (fun ls' h' => ?_)
  exact kk p l e R s m args below meth c D ad cs cells slots Z hC hG (by rw [List.length_set]; exact hn) H locs ls' hH (fs_Lr.store (v := .inr x) hi h')

theorem fs_lv_at {ad : Int → Nat} {L : List (Option fs_V)} {i : Nat} {v : fs_V} (h : L[i]? = some (some v)) : ∃ k : Nat, (fs_lv ad L)[k]? = some (i, fs_cv ad v) := List.getElem?_of_mem (fs_lv_mem.mpr ⟨v, h, rfl⟩)
theorem fr_iinc (q : Nat) (L2 : List (Option fs_V)) {i : Nat} {n x : Int} (hd : decode M.2.1 pc = .ok (.iinc i n, 3)) (hp : pc + 3 = q) (hl : L[i]? = some (some (.inl x))) (hs : L.set i (some (.inl (x + n))) = L2) (kk : fs_W Γ M q L2 st σ) : fs_W Γ M pc L st σ := by
  intro p l e R s m args below meth c D ad cs cells slots Z hC hG hn H locs ls hH hL
  subst hp; subst hs
  obtain ⟨k, hk⟩ := fs_lv_at (ad := ad) hl
  have hi : i < L.length := (List.getElem?_eq_some_iff.mp hl).1
  refine lv_iinc (v := Int32.ofInt (x + n)) hC.1 hC.2.1 hd hL.has hk (Int32.ofInt_add x n).symm hi rfl (fun ls' h' => ?_)
  exact kk p l e R s m args below meth c D ad cs cells slots Z hC hG (by rw [List.length_set]; exact hn) H locs ls' hH (fs_Lr.store (v := .inl (x + n)) hi h')
theorem fr_goto (t : Nat) {off : Int} (hd : decode M.2.1 pc = .ok (.goto off, 3)) (ht : (pc : Int) + off = (t : Int)) (kk : fs_W Γ M t L st σ) : fs_W Γ M pc L st σ := by
  intro p l e R s m args below meth c D ad cs cells slots Z hC hG hn H locs ls hH hL
  exact lv_goto hC.1 hC.2.1 hd ht (kk p l e R s m args below meth c D ad cs cells slots Z hC hG hn H locs ls hH hL)

theorem fr_icmp_eq (t q : Nat) {a b off : Int} (hd : decode M.2.1 pc = .ok (.if_icmp .eq off, 3)) (ht : (pc : Int) + off = (t : Int)) (hp : pc + 3 = q) (ha : -2147483648 ≤ a ∧ a < 2147483648) (hb : -2147483648 ≤ b ∧ b < 2147483648) (kt : a = b → fs_W Γ M t L st σ) (kf : ¬ a = b → fs_W Γ M q L st σ) : fs_W Γ M pc L (.inl b :: .inl a :: st) σ := by
  intro p l e R s m args below meth c D ad cs cells slots Z hC hG hn H locs ls hH hL
  subst hp
  have E := fs_eq ha hb
  refine lv_icmp_eq hC.1 hC.2.1 hd ht (fun h => kt ?_ p l e R s m args below meth c D ad cs cells slots Z hC hG hn H locs ls hH hL) (fun h => kf ?_ p l e R s m args below meth c D ad cs cells slots Z hC hG hn H locs ls hH hL)
  · first | exact E.mp h | exact fun z => h (E.mpr z)
  · first | exact E.mp h | exact fun z => h (E.mpr z) | exact Int.not_lt.mp (fun z => h (E.mpr z)) | exact Int.not_le.mp (fun z => h (E.mpr z))

theorem fr_icmp_ne (t q : Nat) {a b off : Int} (hd : decode M.2.1 pc = .ok (.if_icmp .ne off, 3)) (ht : (pc : Int) + off = (t : Int)) (hp : pc + 3 = q) (ha : -2147483648 ≤ a ∧ a < 2147483648) (hb : -2147483648 ≤ b ∧ b < 2147483648) (kt : ¬ a = b → fs_W Γ M t L st σ) (kf : a = b → fs_W Γ M q L st σ) : fs_W Γ M pc L (.inl b :: .inl a :: st) σ := by
  intro p l e R s m args below meth c D ad cs cells slots Z hC hG hn H locs ls hH hL
  subst hp
  have E := fs_eq ha hb
  refine lv_icmp_ne hC.1 hC.2.1 hd ht (fun h => kt ?_ p l e R s m args below meth c D ad cs cells slots Z hC hG hn H locs ls hH hL) (fun h => kf ?_ p l e R s m args below meth c D ad cs cells slots Z hC hG hn H locs ls hH hL)
  · first | exact E.mp h | exact fun z => h (E.mpr z)
  · first | exact E.mp h | exact fun z => h (E.mpr z) | exact Int.not_lt.mp (fun z => h (E.mpr z)) | exact Int.not_le.mp (fun z => h (E.mpr z))

theorem fr_icmp_lt (t q : Nat) {a b off : Int} (hd : decode M.2.1 pc = .ok (.if_icmp .lt off, 3)) (ht : (pc : Int) + off = (t : Int)) (hp : pc + 3 = q) (ha : -2147483648 ≤ a ∧ a < 2147483648) (hb : -2147483648 ≤ b ∧ b < 2147483648) (kt : a < b → fs_W Γ M t L st σ) (kf : b ≤ a → fs_W Γ M q L st σ) : fs_W Γ M pc L (.inl b :: .inl a :: st) σ := by
  intro p l e R s m args below meth c D ad cs cells slots Z hC hG hn H locs ls hH hL
  subst hp
  have E := fs_lt ha hb
  refine lv_icmp_lt hC.1 hC.2.1 hd ht (fun h => kt ?_ p l e R s m args below meth c D ad cs cells slots Z hC hG hn H locs ls hH hL) (fun h => kf ?_ p l e R s m args below meth c D ad cs cells slots Z hC hG hn H locs ls hH hL)
  · first | exact E.mp h | exact fun z => h (E.mpr z)
  · first | exact E.mp h | exact fun z => h (E.mpr z) | exact Int.not_lt.mp (fun z => h (E.mpr z)) | exact Int.not_le.mp (fun z => h (E.mpr z))

theorem fr_icmp_ge (t q : Nat) {a b off : Int} (hd : decode M.2.1 pc = .ok (.if_icmp .ge off, 3)) (ht : (pc : Int) + off = (t : Int)) (hp : pc + 3 = q) (ha : -2147483648 ≤ a ∧ a < 2147483648) (hb : -2147483648 ≤ b ∧ b < 2147483648) (kt : b ≤ a → fs_W Γ M t L st σ) (kf : a < b → fs_W Γ M q L st σ) : fs_W Γ M pc L (.inl b :: .inl a :: st) σ := by
  intro p l e R s m args below meth c D ad cs cells slots Z hC hG hn H locs ls hH hL
  subst hp
  have E := fs_le hb ha
  refine lv_icmp_ge hC.1 hC.2.1 hd ht (fun h => kt ?_ p l e R s m args below meth c D ad cs cells slots Z hC hG hn H locs ls hH hL) (fun h => kf ?_ p l e R s m args below meth c D ad cs cells slots Z hC hG hn H locs ls hH hL)
  · first | exact E.mp h | exact fun z => h (E.mpr z)
  · first | exact E.mp h | exact fun z => h (E.mpr z) | exact Int.not_lt.mp (fun z => h (E.mpr z)) | exact Int.not_le.mp (fun z => h (E.mpr z))

theorem fr_icmp_gt (t q : Nat) {a b off : Int} (hd : decode M.2.1 pc = .ok (.if_icmp .gt off, 3)) (ht : (pc : Int) + off = (t : Int)) (hp : pc + 3 = q) (ha : -2147483648 ≤ a ∧ a < 2147483648) (hb : -2147483648 ≤ b ∧ b < 2147483648) (kt : b < a → fs_W Γ M t L st σ) (kf : a ≤ b → fs_W Γ M q L st σ) : fs_W Γ M pc L (.inl b :: .inl a :: st) σ := by
  intro p l e R s m args below meth c D ad cs cells slots Z hC hG hn H locs ls hH hL
  subst hp
  have E := fs_lt hb ha
  refine lv_icmp_gt hC.1 hC.2.1 hd ht (fun h => kt ?_ p l e R s m args below meth c D ad cs cells slots Z hC hG hn H locs ls hH hL) (fun h => kf ?_ p l e R s m args below meth c D ad cs cells slots Z hC hG hn H locs ls hH hL)
  · first | exact E.mp h | exact fun z => h (E.mpr z)
  · first | exact E.mp h | exact fun z => h (E.mpr z) | exact Int.not_lt.mp (fun z => h (E.mpr z)) | exact Int.not_le.mp (fun z => h (E.mpr z))

theorem fr_icmp_le (t q : Nat) {a b off : Int} (hd : decode M.2.1 pc = .ok (.if_icmp .le off, 3)) (ht : (pc : Int) + off = (t : Int)) (hp : pc + 3 = q) (ha : -2147483648 ≤ a ∧ a < 2147483648) (hb : -2147483648 ≤ b ∧ b < 2147483648) (kt : a ≤ b → fs_W Γ M t L st σ) (kf : b < a → fs_W Γ M q L st σ) : fs_W Γ M pc L (.inl b :: .inl a :: st) σ := by
  intro p l e R s m args below meth c D ad cs cells slots Z hC hG hn H locs ls hH hL
  subst hp
  have E := fs_le ha hb
  refine lv_icmp_le hC.1 hC.2.1 hd ht (fun h => kt ?_ p l e R s m args below meth c D ad cs cells slots Z hC hG hn H locs ls hH hL) (fun h => kf ?_ p l e R s m args below meth c D ad cs cells slots Z hC hG hn H locs ls hH hL)
  · first | exact E.mp h | exact fun z => h (E.mpr z)
  · first | exact E.mp h | exact fun z => h (E.mpr z) | exact Int.not_lt.mp (fun z => h (E.mpr z)) | exact Int.not_le.mp (fun z => h (E.mpr z))

theorem fr_if_eq (t q : Nat) {a off : Int} (hd : decode M.2.1 pc = .ok (.ifCond .eq off, 3)) (ht : (pc : Int) + off = (t : Int)) (hp : pc + 3 = q) (ha : -2147483648 ≤ a ∧ a < 2147483648) (kt : a = 0 → fs_W Γ M t L st σ) (kf : ¬ a = 0 → fs_W Γ M q L st σ) : fs_W Γ M pc L (.inl a :: st) σ := by
  intro p l e R s m args below meth c D ad cs cells slots Z hC hG hn H locs ls hH hL
  subst hp
  have E := fs_eq ha fs_z
  rw [← fs_zero] at E
  refine lv_if_eq hC.1 hC.2.1 hd ht (fun h => kt ?_ p l e R s m args below meth c D ad cs cells slots Z hC hG hn H locs ls hH hL) (fun h => kf ?_ p l e R s m args below meth c D ad cs cells slots Z hC hG hn H locs ls hH hL)
  · first | exact E.mp h | exact fun z => h (E.mpr z)
  · first | exact E.mp h | exact fun z => h (E.mpr z) | exact Int.not_lt.mp (fun z => h (E.mpr z)) | exact Int.not_le.mp (fun z => h (E.mpr z))

theorem fr_if_ne (t q : Nat) {a off : Int} (hd : decode M.2.1 pc = .ok (.ifCond .ne off, 3)) (ht : (pc : Int) + off = (t : Int)) (hp : pc + 3 = q) (ha : -2147483648 ≤ a ∧ a < 2147483648) (kt : ¬ a = 0 → fs_W Γ M t L st σ) (kf : a = 0 → fs_W Γ M q L st σ) : fs_W Γ M pc L (.inl a :: st) σ := by
  intro p l e R s m args below meth c D ad cs cells slots Z hC hG hn H locs ls hH hL
  subst hp
  have E := fs_eq ha fs_z
  rw [← fs_zero] at E
  refine lv_if_ne hC.1 hC.2.1 hd ht (fun h => kt ?_ p l e R s m args below meth c D ad cs cells slots Z hC hG hn H locs ls hH hL) (fun h => kf ?_ p l e R s m args below meth c D ad cs cells slots Z hC hG hn H locs ls hH hL)
  · first | exact E.mp h | exact fun z => h (E.mpr z)
  · first | exact E.mp h | exact fun z => h (E.mpr z) | exact Int.not_lt.mp (fun z => h (E.mpr z)) | exact Int.not_le.mp (fun z => h (E.mpr z))

theorem fr_if_lt (t q : Nat) {a off : Int} (hd : decode M.2.1 pc = .ok (.ifCond .lt off, 3)) (ht : (pc : Int) + off = (t : Int)) (hp : pc + 3 = q) (ha : -2147483648 ≤ a ∧ a < 2147483648) (kt : a < 0 → fs_W Γ M t L st σ) (kf : 0 ≤ a → fs_W Γ M q L st σ) : fs_W Γ M pc L (.inl a :: st) σ := by
  intro p l e R s m args below meth c D ad cs cells slots Z hC hG hn H locs ls hH hL
  subst hp
  have E := fs_lt ha fs_z
  rw [← fs_zero] at E
  refine lv_if_lt hC.1 hC.2.1 hd ht (fun h => kt ?_ p l e R s m args below meth c D ad cs cells slots Z hC hG hn H locs ls hH hL) (fun h => kf ?_ p l e R s m args below meth c D ad cs cells slots Z hC hG hn H locs ls hH hL)
  · first | exact E.mp h | exact fun z => h (E.mpr z)
  · first | exact E.mp h | exact fun z => h (E.mpr z) | exact Int.not_lt.mp (fun z => h (E.mpr z)) | exact Int.not_le.mp (fun z => h (E.mpr z))

theorem fr_if_ge (t q : Nat) {a off : Int} (hd : decode M.2.1 pc = .ok (.ifCond .ge off, 3)) (ht : (pc : Int) + off = (t : Int)) (hp : pc + 3 = q) (ha : -2147483648 ≤ a ∧ a < 2147483648) (kt : 0 ≤ a → fs_W Γ M t L st σ) (kf : a < 0 → fs_W Γ M q L st σ) : fs_W Γ M pc L (.inl a :: st) σ := by
  intro p l e R s m args below meth c D ad cs cells slots Z hC hG hn H locs ls hH hL
  subst hp
  have E := fs_le fs_z ha
  rw [← fs_zero] at E
  refine lv_if_ge hC.1 hC.2.1 hd ht (fun h => kt ?_ p l e R s m args below meth c D ad cs cells slots Z hC hG hn H locs ls hH hL) (fun h => kf ?_ p l e R s m args below meth c D ad cs cells slots Z hC hG hn H locs ls hH hL)
  · first | exact E.mp h | exact fun z => h (E.mpr z)
  · first | exact E.mp h | exact fun z => h (E.mpr z) | exact Int.not_lt.mp (fun z => h (E.mpr z)) | exact Int.not_le.mp (fun z => h (E.mpr z))

theorem fr_if_gt (t q : Nat) {a off : Int} (hd : decode M.2.1 pc = .ok (.ifCond .gt off, 3)) (ht : (pc : Int) + off = (t : Int)) (hp : pc + 3 = q) (ha : -2147483648 ≤ a ∧ a < 2147483648) (kt : 0 < a → fs_W Γ M t L st σ) (kf : a ≤ 0 → fs_W Γ M q L st σ) : fs_W Γ M pc L (.inl a :: st) σ := by
  intro p l e R s m args below meth c D ad cs cells slots Z hC hG hn H locs ls hH hL
  subst hp
  have E := fs_lt fs_z ha
  rw [← fs_zero] at E
  refine lv_if_gt hC.1 hC.2.1 hd ht (fun h => kt ?_ p l e R s m args below meth c D ad cs cells slots Z hC hG hn H locs ls hH hL) (fun h => kf ?_ p l e R s m args below meth c D ad cs cells slots Z hC hG hn H locs ls hH hL)
  · first | exact E.mp h | exact fun z => h (E.mpr z)
  · first | exact E.mp h | exact fun z => h (E.mpr z) | exact Int.not_lt.mp (fun z => h (E.mpr z)) | exact Int.not_le.mp (fun z => h (E.mpr z))

theorem fr_if_le (t q : Nat) {a off : Int} (hd : decode M.2.1 pc = .ok (.ifCond .le off, 3)) (ht : (pc : Int) + off = (t : Int)) (hp : pc + 3 = q) (ha : -2147483648 ≤ a ∧ a < 2147483648) (kt : a ≤ 0 → fs_W Γ M t L st σ) (kf : 0 < a → fs_W Γ M q L st σ) : fs_W Γ M pc L (.inl a :: st) σ := by
  intro p l e R s m args below meth c D ad cs cells slots Z hC hG hn H locs ls hH hL
  subst hp
  have E := fs_le ha fs_z
  rw [← fs_zero] at E
  refine lv_if_le hC.1 hC.2.1 hd ht (fun h => kt ?_ p l e R s m args below meth c D ad cs cells slots Z hC hG hn H locs ls hH hL) (fun h => kf ?_ p l e R s m args below meth c D ad cs cells slots Z hC hG hn H locs ls hH hL)
  · first | exact E.mp h | exact fun z => h (E.mpr z)
  · first | exact E.mp h | exact fun z => h (E.mpr z) | exact Int.not_lt.mp (fun z => h (E.mpr z)) | exact Int.not_le.mp (fun z => h (E.mpr z))

theorem fs_cap : ∀ x ∈ fs_L, (match x with | .inr (.inl (n, _)) => decide (n ≤ 65536) | .inr (.inr (n, _, _)) => decide (n ≤ 65536) | _ => true) = true := by decide +kernel
theorem fs_capA {k : Int} {n : Nat} {z : Bool} (h : fs_lay k = some (.inr (.inl (n, z)))) : n ≤ 65536 := by
  have := fs_cap _ (List.mem_of_getElem? (fs_lay_spec h).2.2.1)
  simpa using this
theorem fs_capR {k : Int} {n : Nat} {z : Bool} {b : Int} (h : fs_lay k = some (.inr (.inr (n, z, b)))) : n ≤ 65536 := by
  have := fs_cap _ (List.mem_of_getElem? (fs_lay_spec h).2.2.1)
  simpa using this

theorem fr_iald (q : Nat) {k x : Int} {n : Nat} (hd : decode M.2.1 pc = .ok (.iaload, 1)) (hp : pc + 1 = q) (hl : fs_lay k = some (.inr (.inl (n, false)))) (hx : 0 ≤ x ∧ x < (n : Int)) (kk : fs_W Γ M q L (.inl (σ k x) :: st) σ) : fs_W Γ M pc L (.inl x :: .inr k :: st) σ := by
  intro p l e R s m args below meth c D ad cs cells slots Z hC hG hn H locs ls hH hL
  subst hp
  have hN := fs_capA hl
  have K := kk p l e R s m args below meth c D ad cs cells slots Z hC hG hn H locs ls hH hL
  refine va_iald (f := fun i => Int32.ofInt (σ k (i : Int))) hC.1 hC.2.1 hC.2.2.2.2.2.2.2.1 hH.1 k.toNat 0 (fs_get hl) rfl (fs_vin hx hN) hd ?_
  rw [fs_clamp hx hN, Int.toNat_of_nonneg hx.1]
  exact K

theorem fr_zald (q : Nat) {k x : Int} {n : Nat} (hd : decode M.2.1 pc = .ok (.baload, 1)) (hp : pc + 1 = q) (hl : fs_lay k = some (.inr (.inl (n, true)))) (hx : 0 ≤ x ∧ x < (n : Int)) (kk : fs_W Γ M q L (.inl (σ k x) :: st) σ) : fs_W Γ M pc L (.inl x :: .inr k :: st) σ := by
  intro p l e R s m args below meth c D ad cs cells slots Z hC hG hn H locs ls hH hL
  subst hp
  have hN := fs_capA hl
  have K := kk p l e R s m args below meth c D ad cs cells slots Z hC hG hn H locs ls hH hL
  refine va_zald (f := fun i => Int32.ofInt (σ k (i : Int))) hC.1 hC.2.1 hC.2.2.2.2.2.2.2.1 hH.1 k.toNat 1 (fs_get hl) rfl (fs_vin hx hN) hd ?_
  rw [fs_clamp hx hN, Int.toNat_of_nonneg hx.1]
  exact K

theorem fs_updE {ad : Int → Nat} {cs : Nat → ClassId} {σ : fs_S} {k x v : Int} {n : Nat} {z : Bool} (hx : 0 ≤ x ∧ x < (n : Int)) (hN : n ≤ 65536) {y : Int32} (hy : y = Int32.ofInt v) : (Sum.inl (cs (if z then 1 else 0), n, Sum.inl (upd (fun i : Nat => Int32.ofInt (σ k (i : Int))) (Int32.ofInt x).toNatClampNeg y)) : va_E) = fs_cell ad cs (.inr (.inl (n, z))) (fs_u σ k x v k) := by
  subst hy
  rw [fs_clamp hx hN]
  simp only [fs_cell]
  congr 3
  congr 1
  funext i
  simp only [upd, fs_u]
  by_cases h : i = x.toNat
  · rw [if_pos h, if_pos ⟨trivial, by omega⟩]
  · rw [if_neg h, if_neg (fun q => h (by have := q.2; omega))]

theorem fr_iast (q : Nat) {k x v : Int} {n : Nat} (hd : decode M.2.1 pc = .ok (.iastore, 1)) (hp : pc + 1 = q) (hl : fs_lay k = some (.inr (.inl (n, false)))) (hx : 0 ≤ x ∧ x < (n : Int)) (kk : fs_W Γ M q L st (fs_u σ k x v)) : fs_W Γ M pc L (.inl v :: .inl x :: .inr k :: st) σ := by
  intro p l e R s m args below meth c D ad cs cells slots Z hC hG hn H locs ls hH hL
  subst hp
  have hN := fs_capA hl
  refine va_iast (f := fun i => Int32.ofInt (σ k (i : Int))) hC.1 hC.2.1 hC.2.2.2.2.2.2.2.1 hH.1 hH.2.1 hH.2.2 k.toNat 0 (fs_get hl) rfl (fs_vin hx hN) hd (fun H1 locs1 hP hD hS => ?_)
  rw [fs_set hl (fs_updE (v := v) hx hN rfl) fs_u_off] at hP hD
  exact kk p l e R s m args below meth c D ad cs cells slots Z hC hG hn H1 locs1 ls ⟨hP, hD, hS⟩ hL

theorem fr_zast (q : Nat) {k x v : Int} {n : Nat} (hd : decode M.2.1 pc = .ok (.bastore, 1)) (hp : pc + 1 = q) (hl : fs_lay k = some (.inr (.inl (n, true)))) (hx : 0 ≤ x ∧ x < (n : Int)) (hv : v = 0 ∨ v = 1) (kk : fs_W Γ M q L st (fs_u σ k x v)) : fs_W Γ M pc L (.inl v :: .inl x :: .inr k :: st) σ := by
  intro p l e R s m args below meth c D ad cs cells slots Z hC hG hn H locs ls hH hL
  subst hp
  have hN := fs_capA hl
  refine va_zast (f := fun i => Int32.ofInt (σ k (i : Int))) hC.1 hC.2.1 hC.2.2.2.2.2.2.2.1 hH.1 hH.2.1 hH.2.2 k.toNat 1 (fs_get hl) rfl (fs_vin hx hN) hd (fun H1 locs1 hP hD hS => ?_)
  rw [fs_set hl (fs_updE (v := v) hx hN (by rcases hv with rfl | rfl <;> rfl)) fs_u_off] at hP hD
  exact kk p l e R s m args below meth c D ad cs cells slots Z hC hG hn H1 locs1 ls ⟨hP, hD, hS⟩ hL

theorem fr_aald (q : Nat) {k x b : Int} {n : Nat} {o : Bool} (hd : decode M.2.1 pc = .ok (.aaload, 1)) (hp : pc + 1 = q) (hl : fs_lay k = some (.inr (.inr (n, o, b)))) (hx : 0 ≤ x ∧ x < (n : Int)) (kk : fs_W Γ M q L (.inr (b + x) :: st) σ) : fs_W Γ M pc L (.inl x :: .inr k :: st) σ := by
  intro p l e R s m args below meth c D ad cs cells slots Z hC hG hn H locs ls hH hL
  subst hp
  have hN := fs_capR hl
  have K := kk p l e R s m args below meth c D ad cs cells slots Z hC hG hn H locs ls hH hL
  have hlt : (Int32.ofInt x).toNatClampNeg < n := by rw [fs_clamp hx hN]; omega
  have hP := hH.1 k.toNat _ (fs_get hl)
  have hv : va_rf (some (ad (b + (((Int32.ofInt x).toNatClampNeg : Nat) : Int)))) = .ref (ad (b + x)) := by rw [fs_clamp hx hN, Int.toNat_of_nonneg hx.1]; rfl
  obtain ⟨t0, ty, ht, hty⟩ : ∃ (t0 : Nat) (ty : FieldType), (fs_tys cs)[t0]? = some (cs (if o then 3 else 2), ty) ∧ ty.isReference = true := by
    cases o
    · exact ⟨2, _, rfl, rfl⟩
    · exact ⟨3, _, rfl, rfl⟩
  refine W.aald (v := .ref (ad (b + x))) (ty := ty) hC.1 hC.2.1 hP ((hC.2.2.2.2.2.2.2.1.2 t0 _ ht).1 n (fun j => va_rf (some (ad (b + (j : Int)))))) hty (fun q => by cases q) (by show ¬ (_ ∨ (arrV _ _ _).slots.size ≤ _); rw [arrV_size]; exact fs_vin hx hN) (by show (arrV _ _ _).slots[_]? = _; rw [arrV_read _ _ hlt, hv]) rfl rfl hd K

theorem fr_ialdS (q : Nat) {j x v : Int} (i : Nat) {c0 f0 : String} {vs : List Int} (hd : decode M.2.1 pc = .ok (.iaload, 1)) (hp : pc + 1 = q) (hj : j = 1000 + (i : Int)) (hs : fs_stL[i]? = some (c0, f0, vs)) (hN : vs.length ≤ 65536) (hx : 0 ≤ x ∧ x < (vs.length : Int)) (hv : vs.getD x.toNat 0 = v) (kk : fs_W Γ M q L (.inl v :: st) σ) : fs_W Γ M pc L (.inl x :: .inr j :: st) σ := by
  intro p l e R s m args below meth c D ad cs cells slots Z hC hG hn H locs ls hH hL
  subst hp; subst hj; subst hv
  have K := kk p l e R s m args below meth c D ad cs cells slots Z hC hG hn H locs ls hH hL
  exact va_ti hC.1 hC.2.1 (hC.2.2.2.2.2.2.2.2.1 i _ hs).2 hH.2.2 (fs_vin hx hN) (by rw [fs_clamp hx hN]; rfl) hd K
theorem fr_gets (q : Nat) (i : Nat) {idx : Nat} {c0 f0 : String} {vs : List Int} {j : Int} (hd : decode M.2.1 pc = .ok (.getstatic idx, 3)) (hp : pc + 3 = q) (hj : 1000 + (i : Int) = j) (hs : fs_stL[i]? = some (c0, f0, vs)) (hl : Cond.fieldLink M.1.cls idx c0 f0 "[I" ∈ fs_tbl) (kk : fs_W Γ M q L (.inr j :: st) σ) : fs_W Γ M pc L st σ := by
  intro p l e R s m args below meth c D ad cs cells slots Z hC hG hn H locs ls hH hL
  subst hp; subst hj
  have K := kk p l e R s m args below meth c D ad cs cells slots Z hC hG hn H locs ls hH hL
  exact va_gets hC.1 hC.2.1 (hC.2.2.2.2.2.2.2.2.1 i _ hs).1 hH.2.2 hC.2.2.2.2.2.1 (hC.2.2.2.2.2.2.1 _ hl) (fun _ h => h) hd K
theorem fr_getsN (q : Nat) (i : Nat) {idx : Nat} {c0 f0 host : String} {vs : List Int} {j : Int} (hd : decode M.2.1 pc = .ok (.getstatic idx, 3)) (hp : pc + 3 = q) (hj : 1000 + (i : Int) = j) (hs : fs_stL[i]? = some (c0, f0, vs)) (hl : Cond.fieldLinkNest M.1.cls idx c0 f0 "[I" host ∈ fs_nest) (kk : fs_W Γ M q L (.inr j :: st) σ) : fs_W Γ M pc L st σ := by
  intro p l e R s m args below meth c D ad cs cells slots Z hC hG hn H locs ls hH hL
  subst hp; subst hj
  have K := kk p l e R s m args below meth c D ad cs cells slots Z hC hG hn H locs ls hH hL
  exact va_getsN hC.1 hC.2.1 (hC.2.2.2.2.2.2.2.2.1 i _ hs).1 hH.2.2 hC.2.2.2.2.2.1 ((hC.2.2.2.2.2.2.2.2.2 _ hl).use rfl) (fun _ h => h) hd K
theorem fr_geti (q : Nat) (g : Int) {idx ci f : Nat} {k : Int} {fs : List (Option Int)} (hd : decode M.2.1 pc = .ok (.getfield idx, 3)) (hp : pc + 3 = q) (hF : fs_F M.1.cls idx ci f) (hg : (f : Int) = g) (hl : fs_lay k = some (.inl (ci, fs))) (hf : fs[f]? = some none) (kk : fs_W Γ M q L (.inl (σ k g) :: st) σ) : fs_W Γ M pc L (.inr k :: st) σ := by
  intro p l e R s m args below meth c D ad cs cells slots Z hC hG hn H locs ls hH hL
  subst hp; subst hg
  have K := kk p l e R s m args below meth c D ad cs cells slots Z hC hG hn H locs ls hH hL
  obtain ⟨C, T, N, h1, h2, h3⟩ := hF
  exact va_get (v := .int (Int32.ofInt (σ k (f : Int)))) hC.1 hC.2.1 hC.2.2.2.2.2.2.1 (fs_cin ci _ h1).1 hC.2.2.2.2.2.1 hC.2.2.2.2.2.2.2.1 hH.1 k.toNat (fs_get hl) h1 f h2 (hC.2.2.2.2.2.2.1 _ h3) (fun _ h => h) (by rw [List.getElem?_mapIdx, hf]; rfl) hd K
theorem fr_getr (q : Nat) (k2 : Int) {idx ci f : Nat} {k : Int} {fs : List (Option Int)} (hd : decode M.2.1 pc = .ok (.getfield idx, 3)) (hp : pc + 3 = q) (hF : fs_F M.1.cls idx ci f) (hl : fs_lay k = some (.inl (ci, fs))) (hf : fs[f]? = some (some k2)) (kk : fs_W Γ M q L (.inr k2 :: st) σ) : fs_W Γ M pc L (.inr k :: st) σ := by
  intro p l e R s m args below meth c D ad cs cells slots Z hC hG hn H locs ls hH hL
  subst hp
  have K := kk p l e R s m args below meth c D ad cs cells slots Z hC hG hn H locs ls hH hL
  obtain ⟨C, T, N, h1, h2, h3⟩ := hF
  exact va_get (v := .ref (ad k2)) hC.1 hC.2.1 hC.2.2.2.2.2.2.1 (fs_cin ci _ h1).1 hC.2.2.2.2.2.1 hC.2.2.2.2.2.2.2.1 hH.1 k.toNat (fs_get hl) h1 f h2 (hC.2.2.2.2.2.2.1 _ h3) (fun _ h => h) (by rw [List.getElem?_mapIdx, hf]; rfl) hd K
theorem fs_putE {ad : Int → Nat} {cs : Nat → ClassId} {σ : fs_S} {k v : Int} {ci f : Nat} {fs : List (Option Int)} (hf : fs[f]? = some none) : (Sum.inr (ci, (fs.mapIdx (fs_fld ad (σ k))).set f (.int (Int32.ofInt v))) : va_E) = fs_cell ad cs (.inl (ci, fs)) (fs_u σ k (f : Int) v k) := by
  simp only [fs_cell]
  congr 2
  apply List.ext_getElem?
  intro i
  have hfl : f < fs.length := (List.getElem?_eq_some_iff.mp hf).1
  by_cases h : f = i
  · subst h
    rw [List.getElem?_set_self (by rw [List.length_mapIdx]; exact hfl), List.getElem?_mapIdx, hf]
    simp [fs_fld, fs_u]
  · rw [List.getElem?_set_ne h, List.getElem?_mapIdx, List.getElem?_mapIdx]
    cases fs[i]? with
    | none => rfl
    | some o =>
      cases o with
      | none => simp only [Option.map_some, fs_fld, fs_u]; rw [if_neg (fun q => h (by have := q.2; omega))]
      | some k2 => rfl

theorem fr_puti (q : Nat) (g : Int) {idx ci f : Nat} {k v : Int} {fs : List (Option Int)} (hd : decode M.2.1 pc = .ok (.putfield idx, 3)) (hp : pc + 3 = q) (hF : fs_F M.1.cls idx ci f) (hW : fs_P ci f .int) (hg : (f : Int) = g) (hl : fs_lay k = some (.inl (ci, fs))) (hf : fs[f]? = some none) (kk : fs_W Γ M q L st (fs_u σ k g v)) : fs_W Γ M pc L (.inl v :: .inr k :: st) σ := by
  intro p l e R s m args below meth c D ad cs cells slots Z hC hG hn H locs ls hH hL
  subst hp; subst hg
  obtain ⟨C, T, N, h1, h2, h3⟩ := hF
  obtain ⟨C2, T2, N2, g1, g2, g3⟩ := hW
  cases h1.symm.trans g1
  obtain ⟨a1, ty0, a2, a3⟩ := fs_cin ci _ h1
  have hfl : f < fs.length := (List.getElem?_eq_some_iff.mp hf).1
  refine va_put (v := .int (Int32.ofInt v)) (ty := .int) hC.1 hC.2.1 hC.2.2.2.2.2.2.1 a1 ty0 a2 a3 hC.2.2.2.2.2.1 hC.2.2.2.2.2.2.2.1 hH.1 hH.2.1 hH.2.2 k.toNat (fs_get hl) h1 f h2 (hC.2.2.2.2.2.2.1 _ h3) (fun _ h => h) g2 g3 rfl rfl (by rw [List.length_mapIdx]; exact hfl) hd (fun H1 locs1 hP hD hS => ?_)
  rw [fs_set hl (fs_putE hf) fs_u_off] at hP hD
  exact kk p l e R s m args below meth c D ad cs cells slots Z hC hG hn H1 locs1 ls ⟨hP, hD, hS⟩ hL

theorem fr_putz (q : Nat) (g : Int) {idx ci f : Nat} {k v : Int} {fs : List (Option Int)} (hd : decode M.2.1 pc = .ok (.putfield idx, 3)) (hp : pc + 3 = q) (hF : fs_F M.1.cls idx ci f) (hW : fs_P ci f .boolean) (hg : (f : Int) = g) (hl : fs_lay k = some (.inl (ci, fs))) (hf : fs[f]? = some none) (hv : v = 0 ∨ v = 1) (kk : fs_W Γ M q L st (fs_u σ k g v)) : fs_W Γ M pc L (.inl v :: .inr k :: st) σ := by
  intro p l e R s m args below meth c D ad cs cells slots Z hC hG hn H locs ls hH hL
  subst hp; subst hg
  obtain ⟨C, T, N, h1, h2, h3⟩ := hF
  obtain ⟨C2, T2, N2, g1, g2, g3⟩ := hW
  cases h1.symm.trans g1
  obtain ⟨a1, ty0, a2, a3⟩ := fs_cin ci _ h1
  have hfl : f < fs.length := (List.getElem?_eq_some_iff.mp hf).1
  refine va_put (v := .int (Int32.ofInt v)) (ty := .boolean) hC.1 hC.2.1 hC.2.2.2.2.2.2.1 a1 ty0 a2 a3 hC.2.2.2.2.2.1 hC.2.2.2.2.2.2.2.1 hH.1 hH.2.1 hH.2.2 k.toNat (fs_get hl) h1 f h2 (hC.2.2.2.2.2.2.1 _ h3) (fun _ h => h) g2 g3 (by rcases hv with rfl | rfl <;> rfl) (by rcases hv with rfl | rfl <;> rfl) (by rw [List.length_mapIdx]; exact hfl) hd (fun H1 locs1 hP hD hS => ?_)
  rw [fs_set hl (fs_putE hf) fs_u_off] at hP hD
  exact kk p l e R s m args below meth c D ad cs cells slots Z hC hG hn H1 locs1 ls ⟨hP, hD, hS⟩ hL

end RULES
end
section
/-! ===== entry, returns, calls ===== -/
theorem fs_sl (vs : List Value) (h : ∀ v ∈ vs, v.category = 1) : (lg_sl vs).length = vs.length := by
  induction vs with
  | nil => rfl
  | cons v vs ih =>
    have h1 : ¬ v.category = 2 := by rw [h v List.mem_cons_self]; decide
    have e : lg_sl (v :: vs) = [.val v] ++ lg_sl vs := by simp [lg_sl, h1]
    rw [e, List.length_append, ih (fun w hw => h w (List.mem_cons_of_mem _ hw))]
    simp; omega
theorem fs_args (vs : List Value) (h : ∀ v ∈ vs, v.category = 1) : ∀ (j i : Nat) (v : Value), vs[i]? = some v → (j + i, v) ∈ lv_args j vs := by
  induction vs with
  | nil => intro j i v h; simp at h
  | cons w vs ih =>
    intro j i v hv
    have h1 : ¬ w.category = 2 := by rw [h w List.mem_cons_self]; decide
    simp only [lv_args, h1, if_false]
    cases i with
    | zero =>
      simp at hv
      subst hv
      exact List.mem_cons_self
    | succ i =>
      rw [List.getElem?_cons_succ] at hv
      have := ih (fun w hw => h w (List.mem_cons_of_mem _ hw)) (j + 1) i v hv
      rw [show j + 1 + i = j + (i + 1) by omega] at this
      exact List.mem_cons_of_mem _ this
theorem fs_cat_all (ad : Int → Nat) (av : List fs_V) : ∀ v ∈ av.map (fs_cv ad), v.category = 1 := by
  intro v hv
  obtain ⟨w, -, rfl⟩ := List.mem_map.mp hv
  exact fs_cv_cat ad w
set_option maxHeartbeats 4000000 in
theorem fs_C.intro {M : fs_Me} {n d : Nat} {av : List fs_V} {σ : fs_S} {Q : fs_Q} (L : List (Option fs_V)) (ho : fs_Ok M n) (hlen : av.length ≤ M.2.2.1) (hL : av.map some ++ List.replicate (M.2.2.1 - av.length) none = L) (h : fs_W (fs_Γ d Q) M 0 L [] σ) : fs_C M d av σ Q := by
  subst hL
  intro l D ad cs
  refine Met.ofW (cc := M.2.1) (maxL := M.2.2.1) (ret := M.2.2.2) ho.1.2 rfl ?_
  intro p e s m args below meth c s₁ B hml hv
  obtain ⟨rfl, hP, hD, hK, hSt⟩ := hv
  have hts := atoms_spec (ws := Cond.code M.1 M.2.1 M.2.2.1 M.2.2.2 :: fs_tbl) B.pre
  have hcat := fs_cat_all ad av
  have hsl := fs_sl (av.map (fs_cv ad)) hcat
  rw [List.length_map] at hsl
  have hl := lv_entry (av.map (fs_cv ad)) (n := M.2.2.1) (by rw [hsl]; exact hlen)
  rw [lg_entry_eq]
  generalize (lg_sl (av.map (fs_cv ad)) ++ List.replicate (M.2.2.1 - (lg_sl (av.map (fs_cv ad))).length) Slot.unset).toArray = ls at hl ⊢
  refine h p l e (fs_rm d) s m _ below meth c D ad cs 0 0 _ ⟨B.exec, B.bytes, B.returns, hml, B.notSynchronized, findClass_of_methodNamed B.named, fun w hw => hts w (List.mem_cons_of_mem _ hw), hK, hSt⟩ ⟨rfl, rfl, rfl, rfl⟩ (by simp; omega) s.heap [] ls ⟨hP, hD, va_S.rf⟩ ⟨by rw [hl.1]; simp; omega, hl.2.1, fun i v hv => ?_⟩
  by_cases hi : i < av.length
  · rw [List.getElem?_append_left (by simpa using hi), List.getElem?_map] at hv
    have hv2 : av[i]? = some v := by
      cases h9 : av[i]? with
      | none => rw [h9] at hv; cases hv
      | some w => rw [h9] at hv; cases hv; rfl
    have := fs_args (av.map (fs_cv ad)) hcat 0 i (fs_cv ad v) (by rw [List.getElem?_map, hv2]; rfl)
    rw [Nat.zero_add] at this
    exact hl.2.2 (i, fs_cv ad v) this
  · rw [List.getElem?_append_right (by simpa using Nat.not_lt.mp hi)] at hv
    have := List.eq_of_mem_replicate (List.mem_of_getElem? hv)
    cases this
section RETS
variable {M : fs_Me} {pc d : Nat} {L : List (Option fs_V)} {σ : fs_S} {Q : fs_Q}
theorem fr_iret {x : Int} (hd : decode M.2.1 pc = .ok (.ireturn, 1)) (hr : M.2.2.2 = some .int) (hq : Q (some x) σ) : fs_W (fs_Γ d Q) M pc L [.inl x] σ := by
  intro p l e R s m args below meth c D ad cs cells slots Z hC hG hn H locs ls hH hL
  obtain ⟨h1, h2, h3, h4⟩ := hG
  subst h1; subst h2; subst h3; subst h4
  exact W.iret (v := Int32.ofInt x) hC.1 hC.2.1 (hC.2.2.1.trans hr) (fun t ht hW => ⟨some x, σ, rfl, hq, by rw [ht]; exact hH.1, hH.2.2.F ht⟩) hH.2.2.2.2 hd (hlocks := hC.2.2.2.2.1)
theorem fr_zret {x : Int} (hd : decode M.2.1 pc = .ok (.ireturn, 1)) (hr : M.2.2.2 = some .boolean) (hx : x = 0 ∨ x = 1) (hq : Q (some x) σ) : fs_W (fs_Γ d Q) M pc L [.inl x] σ := by
  intro p l e R s m args below meth c D ad cs cells slots Z hC hG hn H locs ls hH hL
  obtain ⟨h1, h2, h3, h4⟩ := hG
  subst h1; subst h2; subst h3; subst h4
  exact W.zret (v := Int32.ofInt x) hC.1 hC.2.1 (hC.2.2.1.trans hr) (by rcases hx with rfl | rfl <;> rfl) (fun t ht hW => ⟨some x, σ, rfl, hq, by rw [ht]; exact hH.1, hH.2.2.F ht⟩) hH.2.2.2.2 hd (hlocks := hC.2.2.2.2.1)
theorem fr_vret (hd : decode M.2.1 pc = .ok (.return_, 1)) (hr : M.2.2.2 = none) (hq : Q none σ) : fs_W (fs_Γ d Q) M pc L [] σ := by
  intro p l e R s m args below meth c D ad cs cells slots Z hC hG hn H locs ls hH hL
  obtain ⟨h1, h2, h3, h4⟩ := hG
  subst h1; subst h2; subst h3; subst h4
  exact W.vret hC.1 hC.2.1 (hC.2.2.1.trans hr) (fun t ht hW => ⟨none, σ, rfl, hq, by rw [ht]; exact hH.1, hH.2.2.F ht⟩) hH.2.2.2.2 hd (hlocks := hC.2.2.2.2.1)
end RETS
theorem fs_blind {D : va_G} {ad : Int → Nat} {cs : Nat → ClassId} {σ : fs_S} {av : List Value} : FrameBlind (va_Pc av (fun U => fs_U D ad cs σ U)) := by
  intro a U g mk q
  obtain ⟨q0, qP, qD, qK, qS⟩ := q
  refine ⟨q0, qP, qD, va_K.moved (u := U) (U := U.calling g mk a) (Vm.Alike.refl U.vm) qK, fun j x hx => ?_, fun w hw => ?_⟩
  · obtain ⟨h1, h2⟩ := qS.1 j x hx
    exact ⟨h1.moved (U := U.calling g mk a) (Vm.Alike.refl U.vm), h2.moved (U := U.calling g mk a) (Vm.Alike.refl U.vm)⟩
  · have hk : w.onTables = true := by
      have hall : ∀ w ∈ fs_nest, w.onTables = true := by decide +kernel
      exact hall w hw
    exact va_Nw.same hk (rfl : U.vm = (U.calling g mk a).vm) (qS.2 w hw)
section CALLS
variable {Γ : fs_G} {M M2 : fs_Me} {pc : Nat} {L : List (Option fs_V)} {st ST : List fs_V} {σ : fs_S}
/-- behind a call -/
theorem fs_back {p : Program} {l : Launch} {e : Env} {R : Room} {s : State} {m : MethodId} {args : Array Value} {below : List Frame} {meth : Method} {c : Code} {D : va_G} {ad : Int → Nat} {cs : Nat → ClassId} {cells slots : Nat} {Z : State → Prop} {Q : fs_Q} {H : Heap} {locs : List Loc} {ls : Array Slot} {stk : List Value} {a : Array Value} (hC : fs_Cx M p s m args meth c D ad cs) (hG : Γ l R s args below D ad cs cells slots Z) (hn : L.length = M.2.2.1) (hH : fs_H s D ad cs σ H locs) (hL : fs_Lr ad ls L)
    (hr : va_Run p l e R s m args below meth c H locs cells slots 0 0 (F0 m pc ls stk) (st.map (fs_cv ad)) (fs_Qc D ad cs Q a) (fs_A ad)) (hq : ∀ r τ, Q r τ → fs_W Γ M (pc + 3) L (r.toList.map Sum.inl ++ st) τ) : W p l e R s m args below meth c H locs cells slots Z (F0 m pc ls stk) := by
  intro T hT X
  obtain ⟨v, st₀, t, T', L', h0, X', hL', e1, e2, ⟨r, τ, hv, hQ, hP, hz, hk⟩, stp⟩ := hr T hT X
  rw [h0] at hz hk
  have hv2 : v = r.map fun x => .int (Int32.ofInt x) := by injection hv
  subst hv2
  obtain ⟨t2, a1, b1⟩ := hq r τ hQ p l e R s m args below meth c D ad cs cells slots Z hC hG hn T'.heap (locs ++ L') ls ⟨by rw [e1]; exact hP, fs_D_eq hH.2.1, Nat.le_trans hH.2.2.1 (by rw [e1]; exact hz), fun q h1 h2 => by rw [e1, hk q (Nat.lt_of_lt_of_le h1 hH.2.2.1) h2]; exact hH.2.2.2.1 q h1 h2, fun q hq => by
      rcases List.mem_append.mp hq with h | h
      · exact hH.2.2.2.2 q h
      · exact hL' q h⟩ hL T' rfl X'
  refine ⟨t2, stp t2 ?_, b1⟩
  have e3 : (r.map fun x => Value.int (Int32.ofInt x)).toList ++ st.map (fs_cv ad) = (r.toList.map Sum.inl ++ st).map (fs_cv ad) := by cases r <;> rfl
  rw [e3]
  exact a1
theorem fs_pre {s U : State} {D : va_G} {ad : Int → Nat} {cs : Nat → ClassId} {H : Heap} {locs : List Loc} (hK : va_K D fs_cl (fs_tys cs) s) (hS : fs_St s ad) (hH : fs_H s D ad cs σ H locs) (hU : U.heap = H) (hW : s.WarmedH U.vm) : fs_U D ad cs σ U :=
  ⟨by rw [hU]; exact hH.1, hH.2.1, va_K.moved hW.alike hK, hS.moved hW (fun a h1 h2 => by rw [hU]; exact hH.2.2.2.1 a h1 h2)⟩
theorem fs_room {st : List fs_V} {ad : Int → Nat} {m : MethodId} {ls : Array Slot} {stk : List Value} (hw : st.length ≤ 8) : 2 * (F0 m pc ls stk).monitorRoom + ((st.map (fs_cv ad)).map fun v => v.category).sum ≤ 8 := by
  refine lv_room ?_
  have h : ∀ l : List fs_V, ((l.map (fs_cv ad)).map fun v => v.category).sum = l.length := by
    intro l
    induction l with
    | nil => rfl
    | cons a l ih =>
      simp only [List.map_cons, List.sum_cons, List.length_cons, fs_cv_cat] at ih ⊢
      omega
  rw [h]
  exact hw
theorem fs_callV {n d idx : Nat} {k : Int} {ci : Nat} {fs : List (Option Int)} {T : u_T} {N : Nat} {Q : fs_Q} (As : List fs_V) (hd : decode M.2.1 pc = .ok (.invokevirtual idx, 3)) (hm : Cond.methodLink M.1.cls idx M2.1 ∈ fs_tbl) (ho : fs_Ok M2 n) (hi : fs_Iv M2.1) (hl : fs_lay k = some (.inl (ci, fs))) (hc : fs_cl[ci]? = some (M2.1.cls, T, N)) (hn2 : As.length = n) (hr : fs_Rm Γ d) (hw : st.length ≤ 8) (hst : ST = As.reverse ++ .inr k :: st) (hk : fs_C M2 d (.inr k :: As) σ Q) (hq : ∀ r τ, Q r τ → fs_W Γ M (pc + 3) L (r.toList.map Sum.inl ++ st) τ) : fs_W Γ M pc L ST σ := by
  subst hst
  intro p l e R s m args below meth c D ad cs cells slots Z hC hG hn H locs ls hH hL
  obtain ⟨r1, r2, r3, r4⟩ := hr _ _ _ _ _ _ _ _ _ _ _ hG
  obtain ⟨hx, hb, hrt, hml, hlk, hown, hts, hK, hS⟩ := id hC
  obtain ⟨⟨o1, o2⟩, o3, o4, o5, o6, o7⟩ := ho
  have hgood : GoodIn fs_tbl (wsV M.1.cls idx M2.1.cls M2.1 (.code M2.1 M2.2.1 M2.2.2.1 M2.2.2.2 :: fs_tbl)) := fs_goodAll (fun w hw => by
    simp only [wsV, List.mem_append, List.mem_cons, List.not_mem_nil, or_false] at hw
    rcases hw with (rfl | rfl | rfl | rfl) | rfl | hw
    · exact hm
    · exact hi.1
    · exact hi.2
    · exact o4
    · exact o3
    · exact hw)
  refine fs_back hC hG hn hH hL (va_runV (As := As.map (fs_cv ad)) (rest := st.map (fs_cv ad)) (b := ad k) ⟨hx, hb, hml, hown, hts⟩ (hk l D ad cs) (cwV n hts hgood rfl rfl rfl ⟨rfl, o5, o6, o7⟩ ⟨r1, by show 8 + (M2.2.2.1 + 11) + 64 * d ≤ R.locals; omega⟩) ⟨fs_blind, va_recv hK hH.1 hc (fs_get hl), fun U hU hW => ⟨rfl, fs_pre hK hS hH hU hW⟩⟩ rfl (by rw [List.length_map]; exact hn2) (hL.1.trans hn) (by simp [fs_cv]) (fs_room hw) hd ⟨r3, r4⟩) hq
theorem fs_callS {n d idx : Nat} {Q : fs_Q} (As : List fs_V) (hd : decode M.2.1 pc = .ok (.invokestatic idx, 3)) (hm : Cond.methodLink M.1.cls idx M2.1 ∈ fs_tbl) (ho : fs_Ok M2 n) (hi : fs_Is M2.1) (hn2 : As.length = n) (hr : fs_Rm Γ d) (hw : st.length ≤ 8) (hst : ST = As.reverse ++ st) (hk : fs_C M2 d As σ Q) (hq : ∀ r τ, Q r τ → fs_W Γ M (pc + 3) L (r.toList.map Sum.inl ++ st) τ) : fs_W Γ M pc L ST σ := by
  subst hst
  intro p l e R s m args below meth c D ad cs cells slots Z hC hG hn H locs ls hH hL
  obtain ⟨r1, r2, r3, r4⟩ := hr _ _ _ _ _ _ _ _ _ _ _ hG
  obtain ⟨hx, hb, hrt, hml, hlk, hown, hts, hK, hS⟩ := id hC
  obtain ⟨⟨o1, o2⟩, o3, o4, o5, o6, o7⟩ := ho
  have hgood : GoodIn fs_tbl (.code M2.1 M2.2.1 M2.2.2.1 M2.2.2.2 :: fs_tbl) := fs_goodAll (fun w hw => (List.mem_cons.mp hw).elim (fun h => by rw [h]; exact o3) id)
  refine fs_back hC hG hn hH hL (va_runS (As := As.map (fs_cv ad)) (rest := st.map (fs_cv ad)) ⟨hx, hb, hml, hown, hts⟩ (hk l D ad cs) ⟨callB_of n hts hgood rfl rfl rfl (hts _ o4) (hts _ hm) ⟨o5, o6, o7⟩ ⟨r1, by show 8 + (M2.2.2.1 + 11) + 64 * d ≤ R.locals; omega⟩, hts _ hi⟩ ⟨fs_blind, fun U hU hW => ⟨rfl, fs_pre hK hS hH hU hW⟩⟩ rfl (by rw [List.length_map]; exact hn2) (hL.1.trans hn) (by simp) (fs_room hw) hd ⟨r3, r4⟩) hq
theorem fs_callSN {n d idx : Nat} {host : String} {Q : fs_Q} (As : List fs_V) (hd : decode M.2.1 pc = .ok (.invokestatic idx, 3)) (hm : Cond.methodLinkNest M.1.cls idx M2.1 host ∈ fs_nest) (ho : fs_Ok M2 n) (hi : fs_Is M2.1) (hn2 : As.length = n) (hr : fs_Rm Γ d) (hw : st.length ≤ 8) (hst : ST = As.reverse ++ st) (hk : fs_C M2 d As σ Q) (hq : ∀ r τ, Q r τ → fs_W Γ M (pc + 3) L (r.toList.map Sum.inl ++ st) τ) : fs_W Γ M pc L ST σ := by
  subst hst
  intro p l e R s m args below meth c D ad cs cells slots Z hC hG hn H locs ls hH hL
  obtain ⟨r1, r2, r3, r4⟩ := hr _ _ _ _ _ _ _ _ _ _ _ hG
  obtain ⟨hx, hb, hrt, hml, hlk, hown, hts, hK, hS⟩ := id hC
  obtain ⟨⟨o1, o2⟩, o3, o4, o5, o6, o7⟩ := ho
  have hgood : GoodIn fs_tbl (.code M2.1 M2.2.1 M2.2.2.1 M2.2.2.2 :: fs_tbl) := fs_goodAll (fun w hw => (List.mem_cons.mp hw).elim (fun h => by rw [h]; exact o3) id)
  refine fs_back hC hG hn hH hL (va_runSN (As := As.map (fs_cv ad)) (rest := st.map (fs_cv ad)) ⟨hx, hb, hml, hown, hts⟩ (hk l D ad cs) ⟨va_cnB n hts hgood rfl rfl rfl (hS.2 _ hm) (hts _ o4) ⟨o5, o6, o7⟩ ⟨r1, by show 8 + (M2.2.2.1 + 11) + 64 * d ≤ R.locals; omega⟩, hts _ hi, trivial⟩ ⟨fs_blind, fun U hU hW => ⟨rfl, fs_pre hK hS hH hU hW⟩⟩ rfl (by rw [List.length_map]; exact hn2) (hL.1.trans hn) (by simp) (fs_room hw) hd ⟨r3, r4⟩) hq
/-! the same, with the answer on the stack (i) or without one (v) -/
theorem fr_callVi (q : Nat) {n d idx : Nat} {k : Int} {ci : Nat} {fs : List (Option Int)} {T : u_T} {N : Nat} (As : List fs_V) (hd : decode M.2.1 pc = .ok (.invokevirtual idx, 3)) (hp : pc + 3 = q) (hm : Cond.methodLink M.1.cls idx M2.1 ∈ fs_tbl) (ho : fs_Ok M2 n) (hi : fs_Iv M2.1) (hl : fs_lay k = some (.inl (ci, fs))) (hc : fs_cl[ci]? = some (M2.1.cls, T, N)) (hn2 : As.length = n) (hr : fs_Rm Γ d) (hw : st.length ≤ 8) (hst : ST = As.reverse ++ .inr k :: st) (hk : fs_C M2 d (.inr k :: As) σ (fun r τ => ∃ x, r = some x ∧ fs_W Γ M q L (.inl x :: st) τ)) : fs_W Γ M pc L ST σ := by
  subst hp
  exact fs_callV As hd hm ho hi hl hc hn2 hr hw hst hk (fun r τ h => by obtain ⟨x, rfl, h⟩ := h; exact h)
theorem fr_callVv (q : Nat) {n d idx : Nat} {k : Int} {ci : Nat} {fs : List (Option Int)} {T : u_T} {N : Nat} (As : List fs_V) (hd : decode M.2.1 pc = .ok (.invokevirtual idx, 3)) (hp : pc + 3 = q) (hm : Cond.methodLink M.1.cls idx M2.1 ∈ fs_tbl) (ho : fs_Ok M2 n) (hi : fs_Iv M2.1) (hl : fs_lay k = some (.inl (ci, fs))) (hc : fs_cl[ci]? = some (M2.1.cls, T, N)) (hn2 : As.length = n) (hr : fs_Rm Γ d) (hw : st.length ≤ 8) (hst : ST = As.reverse ++ .inr k :: st) (hk : fs_C M2 d (.inr k :: As) σ (fun r τ => r = none ∧ fs_W Γ M q L st τ)) : fs_W Γ M pc L ST σ := by
  subst hp
  exact fs_callV As hd hm ho hi hl hc hn2 hr hw hst hk (fun r τ h => by obtain ⟨rfl, h⟩ := h; exact h)
theorem fr_callSi (q : Nat) {n d idx : Nat} (As : List fs_V) (hd : decode M.2.1 pc = .ok (.invokestatic idx, 3)) (hp : pc + 3 = q) (hm : Cond.methodLink M.1.cls idx M2.1 ∈ fs_tbl) (ho : fs_Ok M2 n) (hi : fs_Is M2.1) (hn2 : As.length = n) (hr : fs_Rm Γ d) (hw : st.length ≤ 8) (hst : ST = As.reverse ++ st) (hk : fs_C M2 d As σ (fun r τ => ∃ x, r = some x ∧ fs_W Γ M q L (.inl x :: st) τ)) : fs_W Γ M pc L ST σ := by
  subst hp
  exact fs_callS As hd hm ho hi hn2 hr hw hst hk (fun r τ h => by obtain ⟨x, rfl, h⟩ := h; exact h)
theorem fr_callSv (q : Nat) {n d idx : Nat} (As : List fs_V) (hd : decode M.2.1 pc = .ok (.invokestatic idx, 3)) (hp : pc + 3 = q) (hm : Cond.methodLink M.1.cls idx M2.1 ∈ fs_tbl) (ho : fs_Ok M2 n) (hi : fs_Is M2.1) (hn2 : As.length = n) (hr : fs_Rm Γ d) (hw : st.length ≤ 8) (hst : ST = As.reverse ++ st) (hk : fs_C M2 d As σ (fun r τ => r = none ∧ fs_W Γ M q L st τ)) : fs_W Γ M pc L ST σ := by
  subst hp
  exact fs_callS As hd hm ho hi hn2 hr hw hst hk (fun r τ h => by obtain ⟨rfl, h⟩ := h; exact h)
theorem fr_callSNi (q : Nat) {n d idx : Nat} {host : String} (As : List fs_V) (hd : decode M.2.1 pc = .ok (.invokestatic idx, 3)) (hp : pc + 3 = q) (hm : Cond.methodLinkNest M.1.cls idx M2.1 host ∈ fs_nest) (ho : fs_Ok M2 n) (hi : fs_Is M2.1) (hn2 : As.length = n) (hr : fs_Rm Γ d) (hw : st.length ≤ 8) (hst : ST = As.reverse ++ st) (hk : fs_C M2 d As σ (fun r τ => ∃ x, r = some x ∧ fs_W Γ M q L (.inl x :: st) τ)) : fs_W Γ M pc L ST σ := by
  subst hp
  exact fs_callSN As hd hm ho hi hn2 hr hw hst hk (fun r τ h => by obtain ⟨x, rfl, h⟩ := h; exact h)
end CALLS
end
section
/-! ===== Math.max, Math.min, switches, a cell's row by an explicit number ===== -/
section MORE
variable {Γ : fs_G} {M : fs_Me} {pc : Nat} {L : List (Option fs_V)} {st : List fs_V} {σ : fs_S}
theorem fs_cats {ad : Int → Nat} (l : List fs_V) : ((l.map (fs_cv ad)).map fun v => v.category).sum = l.length := by
  induction l with
  | nil => rfl
  | cons a l ih =>
    simp only [List.map_cons, List.sum_cons, List.length_cons, fs_cv_cat] at ih ⊢
    omega
theorem fr_mmax (q : Nat) {idx d : Nat} {a b : Int} (hd : decode M.2.1 pc = .ok (.invokestatic idx, 3)) (hp : pc + 3 = q) (hm : Cond.methodLink M.1.cls idx Lib.Math.max.name ∈ fs_tbl) (h1 : Cond.static Lib.Math.max.name ∈ fs_tbl) (h2 : Cond.initialized "java/lang/Math" ∈ fs_tbl) (h3 : Cond.code Lib.Math.max.name Lib.Math.max.code 2 (some .int) ∈ fs_tbl) (hr : fs_Rm Γ d) (hw : st.length ≤ 8) (ha : -2147483648 ≤ a ∧ a < 2147483648) (hb : -2147483648 ≤ b ∧ b < 2147483648) (kk : fs_W Γ M q L (.inl (max a b) :: st) σ) : fs_W Γ M pc L (.inl b :: .inl a :: st) σ := by
  subst hp
  intro p l e R s m args below meth c D ad cs cells slots Z hC hG hn H locs ls hH hL
  have K := kk p l e R s m args below meth c D ad cs cells slots Z hC hG hn H locs ls hH hL
  obtain ⟨r1, r2, r3, r4⟩ := hr _ _ _ _ _ _ _ _ _ _ _ hG
  have hts := hC.2.2.2.2.2.2.1
  refine va_mmax hC.1 hC.2.1 (hC.2.2.2.1.trans (hL.1.trans hn).symm) hC.2.2.2.2.2.1 (hts _ hm) (hts _ h1) (hts _ h2) (hts _ h3) (by omega) (by rw [fs_cats]; omega) r3 r4 hd ?_
  rw [fs_mp (x := max a b) (v := if Int32.ofInt a < Int32.ofInt b then Int32.ofInt b else Int32.ofInt a) (by
    by_cases h : a < b
    · rw [if_pos ((fs_lt ha hb).mpr h)]; congr 1; omega
    · rw [if_neg (fun z => h ((fs_lt ha hb).mp z))]; congr 1; omega)] at K
  exact K
theorem fr_mmin (q : Nat) {idx d : Nat} {a b : Int} (hd : decode M.2.1 pc = .ok (.invokestatic idx, 3)) (hp : pc + 3 = q) (hm : Cond.methodLink M.1.cls idx Lib.Math.min.name ∈ fs_tbl) (h1 : Cond.static Lib.Math.min.name ∈ fs_tbl) (h2 : Cond.initialized "java/lang/Math" ∈ fs_tbl) (h3 : Cond.code Lib.Math.min.name Lib.Math.min.code 2 (some .int) ∈ fs_tbl) (hr : fs_Rm Γ d) (hw : st.length ≤ 8) (ha : -2147483648 ≤ a ∧ a < 2147483648) (hb : -2147483648 ≤ b ∧ b < 2147483648) (kk : fs_W Γ M q L (.inl (min a b) :: st) σ) : fs_W Γ M pc L (.inl b :: .inl a :: st) σ := by
  subst hp
  intro p l e R s m args below meth c D ad cs cells slots Z hC hG hn H locs ls hH hL
  have K := kk p l e R s m args below meth c D ad cs cells slots Z hC hG hn H locs ls hH hL
  obtain ⟨r1, r2, r3, r4⟩ := hr _ _ _ _ _ _ _ _ _ _ _ hG
  have hts := hC.2.2.2.2.2.2.1
  refine va_mmin hC.1 hC.2.1 (hC.2.2.2.1.trans (hL.1.trans hn).symm) hC.2.2.2.2.2.1 (hts _ hm) (hts _ h1) (hts _ h2) (hts _ h3) (by omega) (by rw [fs_cats]; omega) r3 r4 hd ?_
  rw [fs_mp (x := min a b) (v := if Int32.ofInt b < Int32.ofInt a then Int32.ofInt b else Int32.ofInt a) (by
    by_cases h : b < a
    · rw [if_pos ((fs_lt hb ha).mpr h)]; congr 1; omega
    · rw [if_neg (fun z => h ((fs_lt hb ha).mp z))]; congr 1; omega)] at K
  exact K
theorem fr_tblIn (t : Nat) {x dflt lo hi off : Int} {offs : Array Int} {len : Nat} (hd : decode M.2.1 pc = .ok (.tableswitch dflt lo hi offs, len)) (hr : -2147483648 ≤ x ∧ x < 2147483648) (h1 : lo ≤ x) (h2 : x ≤ hi) (ho : offs[(x - lo).toNat]? = some off) (ht : (pc : Int) + off = (t : Int)) (kk : fs_W Γ M t L st σ) : fs_W Γ M pc L (.inl x :: st) σ := by
  intro p l e R s m args below meth c D ad cs cells slots Z hC hG hn H locs ls hH hL
  exact lv_tableIn hC.1 hC.2.1 hd (by rw [fs_toInt hr]; omega) (by rw [fs_toInt hr]; omega) (by rw [fs_toInt hr]; exact ho) ht (kk p l e R s m args below meth c D ad cs cells slots Z hC hG hn H locs ls hH hL)
theorem fr_tblOut (t : Nat) {x dflt lo hi : Int} {offs : Array Int} {len : Nat} (hd : decode M.2.1 pc = .ok (.tableswitch dflt lo hi offs, len)) (hr : -2147483648 ≤ x ∧ x < 2147483648) (h1 : x < lo ∨ hi < x) (ht : (pc : Int) + dflt = (t : Int)) (kk : fs_W Γ M t L st σ) : fs_W Γ M pc L (.inl x :: st) σ := by
  intro p l e R s m args below meth c D ad cs cells slots Z hC hG hn H locs ls hH hL
  exact lv_tableOut hC.1 hC.2.1 hd (by rw [fs_toInt hr]; exact h1) ht (kk p l e R s m args below meth c D ad cs cells slots Z hC hG hn H locs ls hH hL)
theorem fr_look (t : Nat) {x dflt off : Int} {ps : Array (Int × Int)} {len : Nat} (hd : decode M.2.1 pc = .ok (.lookupswitch dflt ps, len)) (hr : -2147483648 ≤ x ∧ x < 2147483648) (hp : (ps.toList.zip (ps.toList.drop 1)).all (fun (a, next) => a.1 < next.1) = true) (ho : Op.lookupswitch.offset ps.toList dflt x = off) (ht : (pc : Int) + off = (t : Int)) (kk : fs_W Γ M t L st σ) : fs_W Γ M pc L (.inl x :: st) σ := by
  intro p l e R s m args below meth c D ad cs cells slots Z hC hG hn H locs ls hH hL
  exact lv_lookup hC.1 hC.2.1 hd hp (by rw [fs_toInt hr]; exact ho) ht (kk p l e R s m args below meth c D ad cs cells slots Z hC hG hn H locs ls hH hL)
theorem fr_aaldE (q : Nat) (y : Int) {k x b : Int} {n : Nat} {o : Bool} (hd : decode M.2.1 pc = .ok (.aaload, 1)) (hp : pc + 1 = q) (hl : fs_lay k = some (.inr (.inr (n, o, b)))) (hx : 0 ≤ x ∧ x < (n : Int)) (hy : b + x = y) (kk : fs_W Γ M q L (.inr y :: st) σ) : fs_W Γ M pc L (.inl x :: .inr k :: st) σ := by
  subst hy
  exact fr_aald q hd hp hl hx kk
end MORE
/-! the state behind a write -/
theorem fs_u_eq (σ : fs_S) (k i v : Int) : fs_u σ k i v k i = v := by simp [fs_u]
theorem fs_u_ne (σ : fs_S) {k i v k' i' : Int} (h : ¬ (k' = k ∧ i' = i)) : fs_u σ k i v k' i' = σ k' i' := by simp [fs_u, h]
theorem fs_u_k (σ : fs_S) {k i v k' : Int} (i' : Int) (h : k' ≠ k) : fs_u σ k i v k' i' = σ k' i' := by simp [fs_u, h]
theorem fs_u_i (σ : fs_S) {k i v i' : Int} (h : i' ≠ i) : fs_u σ k i v k i' = σ k i' := by simp [fs_u, h]
end
section
theorem fs_nX6_9 : Cond.methodLinkNest RX6 9 yX3_init "FieldSorter" ∈ fs_nest := List.mem_of_getElem? (i := 0) (by decide +kernel)
theorem fs_nX6_56 : Cond.methodLinkNest RX6 56 yX1_init "FieldSorter" ∈ fs_nest := List.mem_of_getElem? (i := 1) (by decide +kernel)
theorem fs_nX1_22 : Cond.methodLinkNest RX1 22 yX3_init "FieldSorter" ∈ fs_nest := List.mem_of_getElem? (i := 2) (by decide +kernel)
theorem fs_nX2_24 : Cond.fieldLinkNest RX2 24 "FieldSorter" "GREATEST" "[I" "FieldSorter" ∈ fs_nest := List.mem_of_getElem? (i := 3) (by decide +kernel)
theorem fs_nX4_60 : Cond.fieldLinkNest RX4 60 "FieldSorter" "GREATEST" "[I" "FieldSorter" ∈ fs_nest := List.mem_of_getElem? (i := 4) (by decide +kernel)
theorem fs_nX4_74 : Cond.methodLinkNest RX4 74 yX6_lowestBit "FieldSorter" ∈ fs_nest := List.mem_of_getElem? (i := 5) (by decide +kernel)
theorem fs_nX3_60 : Cond.fieldLinkNest RX3 60 "FieldSorter" "WIDTH" "[I" "FieldSorter" ∈ fs_nest := List.mem_of_getElem? (i := 6) (by decide +kernel)
theorem fs_nX5_79 : Cond.fieldLinkNest RX5 79 "FieldSorter" "WIDTH" "[I" "FieldSorter" ∈ fs_nest := List.mem_of_getElem? (i := 7) (by decide +kernel)
theorem fs_nX0_89 : Cond.fieldLinkNest RX0 89 "FieldSorter" "GREATEST" "[I" "FieldSorter" ∈ fs_nest := List.mem_of_getElem? (i := 8) (by decide +kernel)
theorem fs_nX0_92 : Cond.fieldLinkNest RX0 92 "FieldSorter" "WIDTH" "[I" "FieldSorter" ∈ fs_nest := List.mem_of_getElem? (i := 9) (by decide +kernel)
theorem fs_iniMath : Cond.initialized "java/lang/Math" ∈ fs_tbl := fs_tm 67 (by decide +kernel) rfl
theorem fs_cdmax : Cond.code Lib.Math.max.name Lib.Math.max.code 2 (some .int) ∈ fs_tbl := fs_tm 493 (by decide +kernel) rfl
theorem fs_cdmin : Cond.code Lib.Math.min.name Lib.Math.min.code 2 (some .int) ∈ fs_tbl := fs_tm 496 (by decide +kernel) rfl
end
section
/-- a call that answers v and changes nothing -/
theorem fs_C.ci {M M2 : fs_Me} {d q : Nat} {av st : List fs_V} {σ : fs_S} {v : Int} {Γ : fs_G} {L : List (Option fs_V)} (h : fs_C M d av σ (fun r τ => r = some v ∧ τ = σ)) (k : fs_W Γ M2 q L (.inl v :: st) σ) : fs_C M d av σ (fun r τ => ∃ x, r = some x ∧ fs_W Γ M2 q L (.inl x :: st) τ) :=
  h.mono (fun r τ e => ⟨v, e.1, by rw [e.2]; exact k⟩)
/-! ===== numbers: bits of small numbers, sums, masks ===== -/
theorem fm_ofNat (a : Nat) : Int32.ofInt (a : Int) = Int32.ofNat a := Int32.ofInt_eq_ofNat
theorem fm_toInt {a : Nat} (h : a < 2147483648) : (Int32.ofNat a).toInt = (a : Int) := by
  rw [← fm_ofNat, fs_toInt (by omega)]
theorem fm_and {a b : Nat} (ha : a < 2147483648) (hb : b < 2147483648) : fi_and (a : Int) (b : Int) = ((a &&& b : Nat) : Int) := by
  unfold fi_and
  rw [fm_ofNat, fm_ofNat, show Int32.ofNat a &&& Int32.ofNat b = Int32.ofNat (a &&& b) from Int32.toBitVec.inj (by simp [BitVec.ofNat_and]), fm_toInt (Nat.lt_of_le_of_lt Nat.and_le_left ha)]
theorem fm_or {a b : Nat} (ha : a < 2147483648) (hb : b < 2147483648) : fi_or (a : Int) (b : Int) = ((a ||| b : Nat) : Int) := by
  unfold fi_or
  rw [fm_ofNat, fm_ofNat, show Int32.ofNat a ||| Int32.ofNat b = Int32.ofNat (a ||| b) from Int32.toBitVec.inj (by simp [BitVec.ofNat_or]), fm_toInt (Nat.or_lt_two_pow (n := 31) ha hb)]
theorem fm_xor {a b : Nat} (ha : a < 2147483648) (hb : b < 2147483648) : fi_xor (a : Int) (b : Int) = ((a ^^^ b : Nat) : Int) := by
  unfold fi_xor
  rw [fm_ofNat, fm_ofNat, show Int32.ofNat a ^^^ Int32.ofNat b = Int32.ofNat (a ^^^ b) from Int32.toBitVec.inj (by simp [BitVec.ofNat_xor]), fm_toInt (Nat.xor_lt_two_pow (n := 31) ha hb)]
theorem fm_shl1 (k : Nat) (h : k < 31) : fi_shl 1 (k : Int) = ((2 ^ k : Nat) : Int) := by
  have : ∀ k : Nat, k < 31 → fi_shl 1 (k : Int) = ((2 ^ k : Nat) : Int) := by decide +kernel
  exact this k h
theorem fm_shr {a i : Nat} (ha : a < 2147483648) (hi : i < 32) : fi_shr (a : Int) (i : Int) = ((a / 2 ^ i : Nat) : Int) := by
  unfold fi_shr
  have hs : ∀ i : Nat, i < 32 → ((Int32.ofInt (i : Int) &&& 31).toBitVec.smod 32).toNat = i := by decide +kernel
  have h := pk_shrN (n := a) ha (Int32.ofInt (i : Int) &&& 31) i (hs i hi)
  unfold nI at h
  rw [fm_ofNat, h, fm_toInt (Nat.lt_of_le_of_lt (Nat.div_le_self _ _) ha)]
/-- bit i -/
theorem fm_bit {a i : Nat} (ha : a < 2147483648) (hi : i < 32) : fi_and (fi_shr (a : Int) (i : Int)) 1 = if a.testBit i then 1 else 0 := by
  rw [fm_shr ha hi, show (1 : Int) = ((1 : Nat) : Int) from rfl, fm_and (Nat.lt_of_le_of_lt (Nat.div_le_self _ _) ha) (by decide), Nat.and_one_is_mod, Nat.testBit_eq_decide_div_mod_eq]
  by_cases h : a / 2 ^ i % 2 = 1
  · simp [h]
  · have : a / 2 ^ i % 2 = 0 := by omega
    simp [this]
/-! sums -/
def sm (g : Int → Int) : Nat → Int
  | 0 => 0
  | n + 1 => sm g n + g (n : Int)
def smI (g : Int → Int) (k : Int) : Int := sm g k.toNat
theorem smI_0 (g : Int → Int) : smI g 0 = 0 := rfl
theorem smI_s (g : Int → Int) {k : Int} (h : 0 ≤ k) : smI g (k + 1) = smI g k + g k := by
  unfold smI
  rw [show (k + 1).toNat = k.toNat + 1 by omega]
  show sm g k.toNat + g ((k.toNat : Nat) : Int) = _
  rw [show ((k.toNat : Nat) : Int) = k by omega]
theorem sm_congr {g h : Int → Int} {n : Nat} (e : ∀ i : Int, 0 ≤ i → i < n → g i = h i) : sm g n = sm h n := by
  induction n with
  | zero => rfl
  | succ n ih =>
    show sm g n + g n = sm h n + h n
    rw [ih (fun i h0 h1 => e i h0 (by omega)), e n (by omega) (by omega)]
theorem smI_congr {g h : Int → Int} {k : Int} (e : ∀ i : Int, 0 ≤ i → i < k → g i = h i) : smI g k = smI h k := sm_congr (fun i h0 h1 => e i h0 (by omega))
theorem sm_add (g h : Int → Int) (n : Nat) : sm (fun i => g i + h i) n = sm g n + sm h n := by
  induction n with
  | zero => rfl
  | succ n ih => show sm _ n + (g n + h n) = (sm g n + g n) + (sm h n + h n); rw [ih]; omega
theorem sm_mul (c : Int) (g : Int → Int) (n : Nat) : sm (fun i => c * g i) n = c * sm g n := by
  induction n with
  | zero => show (0 : Int) = c * 0; rw [Int.mul_zero]
  | succ n ih => show sm _ n + c * g n = c * (sm g n + g n); rw [ih, Int.mul_add]
theorem sm_zero (n : Nat) : sm (fun _ => 0) n = 0 := by
  induction n with
  | zero => rfl
  | succ n ih => show sm _ n + 0 = 0; rw [ih]; rfl
theorem sm_const (c : Int) (n : Nat) : sm (fun _ => c) n = (n : Int) * c := by
  induction n with
  | zero => show (0 : Int) = ((0 : Nat) : Int) * c; simp
  | succ n ih => show sm _ n + c = ((n + 1 : Nat) : Int) * c; rw [ih, Int.natCast_add, Int.add_mul]; simp
theorem sm_swap (g : Int → Int → Int) (m n : Nat) : sm (fun i => sm (fun j => g i j) n) m = sm (fun j => sm (fun i => g i j) m) n := by
  induction m with
  | zero => exact (sm_zero n).symm
  | succ m ih =>
    show sm _ m + sm (fun j => g m j) n = _
    rw [ih, ← sm_add]
    rfl
theorem sm_nonneg {g : Int → Int} {n : Nat} (h : ∀ i : Int, 0 ≤ i → i < n → 0 ≤ g i) : 0 ≤ sm g n := by
  induction n with
  | zero => exact Int.le_refl _
  | succ n ih =>
    have h1 := ih (fun i h0 h1 => h i h0 (by omega))
    have h2 := h n (by omega) (by omega)
    show 0 ≤ sm g n + g n
    omega
theorem sm_le {g h : Int → Int} {n : Nat} (e : ∀ i : Int, 0 ≤ i → i < n → g i ≤ h i) : sm g n ≤ sm h n := by
  induction n with
  | zero => exact Int.le_refl _
  | succ n ih =>
    have h1 := ih (fun i h0 h1 => e i h0 (by omega))
    have h2 := e n (by omega) (by omega)
    show sm g n + g n ≤ sm h n + h n
    omega
theorem sm_term {g : Int → Int} {n : Nat} (h : ∀ i : Int, 0 ≤ i → i < n → 0 ≤ g i) {j : Int} (h0 : 0 ≤ j) (h1 : j < n) : g j ≤ sm g n := by
  induction n with
  | zero => omega
  | succ n ih =>
    show g j ≤ sm g n + g n
    have h2 := sm_nonneg (g := g) (n := n) (fun i a b => h i a (by omega))
    have h3 := h n (by omega) (by omega)
    by_cases e : j = n
    · subst e; omega
    · have := ih (fun i a b => h i a (by omega)) (by omega); omega
/-- a sum of one unit -/
theorem sm_one {n : Nat} {j : Int} (h0 : 0 ≤ j) (h1 : j < n) (c : Int) : sm (fun i => if i = j then c else 0) n = c := by
  induction n with
  | zero => omega
  | succ n ih =>
    show sm _ n + (if (n : Int) = j then c else 0) = c
    by_cases e : (n : Int) = j
    · rw [if_pos e, sm_congr (h := fun _ => 0) (fun i a b => by rw [if_neg (by omega)]), sm_zero]; omega
    · rw [if_neg e, ih (by omega)]; omega
/-! masks: bit p of bm P n is P p, below n -/
def bm (P : Int → Bool) : Nat → Nat
  | 0 => 0
  | n + 1 => bm P n + (if P (n : Int) then 2 ^ n else 0)
theorem bm_lt (P : Int → Bool) (n : Nat) : bm P n < 2 ^ n := by
  induction n with
  | zero => exact Nat.one_pos
  | succ n ih =>
    show bm P n + (if P (n : Int) then 2 ^ n else 0) < 2 ^ (n + 1)
    have : 2 ^ (n + 1) = 2 ^ n + 2 ^ n := by rw [Nat.pow_succ]; omega
    split <;> omega
theorem bm_bit (P : Int → Bool) (n i : Nat) : (bm P n).testBit i = (decide (i < n) && P (i : Int)) := by
  induction n with
  | zero => simp [bm]
  | succ n ih =>
    show (bm P n + (if P (n : Int) then 2 ^ n else 0)).testBit i = _
    have hl := bm_lt P n
    by_cases hP : P (n : Int) = true
    · rw [if_pos hP, Nat.add_comm]
      rcases Nat.lt_trichotomy i n with h | h | h
      · rw [Nat.testBit_two_pow_add_gt h, ih]
        simp [h, Nat.lt_succ_of_lt h]
      · subst h
        rw [Nat.testBit_two_pow_add_eq, ih]
        simp [hP]
      · rw [Nat.testBit_lt_two_pow]
        · simp; omega
        · have h1 : 2 ^ (n + 1) ≤ 2 ^ i := Nat.pow_le_pow_right (by decide) h
          have : 2 ^ (n + 1) = 2 ^ n + 2 ^ n := by rw [Nat.pow_succ]; omega
          omega
    · rw [if_neg hP, Nat.add_zero, ih]
      by_cases h : i < n
      · simp [h, Nat.lt_succ_of_lt h]
      · by_cases h2 : i = n
        · subst h2; simp at hP; simp [hP]
        · simp [h, show ¬ i < n + 1 by omega]
theorem bm_congr {P Q : Int → Bool} {n : Nat} (h : ∀ i : Int, 0 ≤ i → i < n → P i = Q i) : bm P n = bm Q n := by
  apply Nat.eq_of_testBit_eq
  intro i
  rw [bm_bit, bm_bit]
  by_cases hi : i < n
  · rw [h i (by omega) (by omega)]
  · simp [hi]
theorem bm_and (P Q : Int → Bool) (n : Nat) : bm P n &&& bm Q n = bm (fun i => P i && Q i) n := by
  apply Nat.eq_of_testBit_eq
  intro i
  rw [Nat.testBit_and, bm_bit, bm_bit, bm_bit]
  cases decide (i < n) <;> simp
theorem bm_or (P Q : Int → Bool) (n : Nat) : bm P n ||| bm Q n = bm (fun i => P i || Q i) n := by
  apply Nat.eq_of_testBit_eq
  intro i
  rw [Nat.testBit_or, bm_bit, bm_bit, bm_bit]
  cases decide (i < n) <;> simp
theorem bm_xor (P Q : Int → Bool) (n : Nat) : bm P n ^^^ bm Q n = bm (fun i => P i ^^ Q i) n := by
  apply Nat.eq_of_testBit_eq
  intro i
  rw [Nat.testBit_xor, bm_bit, bm_bit, bm_bit]
  cases decide (i < n) <;> simp
theorem bm_true (n : Nat) : bm (fun _ => true) n + 1 = 2 ^ n := by
  induction n with
  | zero => rfl
  | succ n ih =>
    show bm _ n + 2 ^ n + 1 = 2 ^ (n + 1)
    rw [Nat.pow_succ]; omega
theorem bm_s (P : Int → Bool) (n : Nat) : bm P (n + 1) = bm P n ||| (if P (n : Int) then 2 ^ n else 0) := by
  show bm P n + (if P (n : Int) then 2 ^ n else 0) = _
  split
  · have h := bm_lt P n
    have e := Nat.two_pow_add_eq_or_of_lt h 1
    rw [Nat.or_comm, Nat.add_comm]
    simpa using e
  · simp
theorem bm_pow (P : Int → Bool) {n : Nat} (h : n ≤ 16) : bm P n < 65536 := Nat.lt_of_lt_of_le (bm_lt P n) (by
  have : 2 ^ n ≤ 2 ^ 16 := Nat.pow_le_pow_right (by decide) h
  exact this)
/-- the mask grows by a bit -/
theorem bmI_t {P : Int → Bool} {k : Int} (h0 : 0 ≤ k) (h1 : k < 31) (hP : P k = true) : fi_or ((bm P k.toNat : Nat) : Int) (fi_shl 1 k) = ((bm P (k + 1).toNat : Nat) : Int) := by
  obtain ⟨n, rfl⟩ := Int.eq_ofNat_of_zero_le h0
  have hn : n < 31 := by omega
  rw [fm_shl1 n hn, show ((n : Int) + 1).toNat = n + 1 by omega, show (n : Int).toNat = n by omega, bm_s, if_pos hP, fm_or]
  · exact Nat.lt_of_lt_of_le (bm_lt P n) (by have : 2 ^ n ≤ 2 ^ 31 := Nat.pow_le_pow_right (by decide) (by omega); exact this)
  · have : 2 ^ n ≤ 2 ^ 30 := Nat.pow_le_pow_right (by decide) (by omega)
    omega
theorem bmI_f {P : Int → Bool} {k : Int} (h0 : 0 ≤ k) (h1 : k < 31) (hP : P k = false) : fi_or ((bm P k.toNat : Nat) : Int) 0 = ((bm P (k + 1).toNat : Nat) : Int) := by
  obtain ⟨n, rfl⟩ := Int.eq_ofNat_of_zero_le h0
  have hn : n < 31 := by omega
  rw [show (0 : Int) = ((0 : Nat) : Int) from rfl, show ((n : Int) + 1).toNat = n + 1 by omega, show (n : Int).toNat = n by omega, bm_s, if_neg (by rw [hP]; decide), fm_or]
  · exact Nat.lt_of_lt_of_le (bm_lt P n) (by have : 2 ^ n ≤ 2 ^ 31 := Nat.pow_le_pow_right (by decide) (by omega); exact this)
  · decide
end
section
/-! ===== what is spoken of: a table of rules, their order, masks ===== -/
abbrev rt : Type := Int × (Int → Int → Int) × (Int → Int → Int) × (Int → Int) × (Int → Int)
def tn (t : rt) : Int := t.1
def tlo (t : rt) (r f : Int) : Int := t.2.1 r f
def thi (t : rt) (r f : Int) : Int := t.2.2.1 r f
def trk (t : rt) (r : Int) : Int := t.2.2.2.1 r
def tac (t : rt) (r : Int) : Int := t.2.2.2.2 r
def gr (f : Int) : Int := if f = 3 then 3 else 63
def wd (f : Int) : Int := if f = 3 then 2 else 6
theorem gr_r (f : Int) : 3 ≤ gr f ∧ gr f ≤ 63 := by unfold gr; split <;> omega
theorem wd_r (f : Int) : 2 ≤ wd f ∧ wd f ≤ 6 := by unfold wd; split <;> omega
def twf (t : rt) : Prop := (0 ≤ tn t ∧ tn t ≤ 16) ∧ (∀ r f, 0 ≤ r → r < tn t → 0 ≤ f → f < 4 → 0 ≤ tlo t r f ∧ tlo t r f ≤ thi t r f ∧ thi t r f ≤ gr f) ∧ (∀ r, 0 ≤ r → r < tn t → (0 ≤ trk t r ∧ trk t r ≤ 999) ∧ 0 ≤ tac t r ∧ tac t r ≤ 9)
def tah (t : rt) (q r : Int) : Bool := decide (trk t q < trk t r ∨ trk t q = trk t r ∧ q < r)
/-- how many are ahead of r; the rule at a place -/
def tpl (t : rt) (r : Int) : Int := smI (fun q => if tah t q r then 1 else 0) (tn t)
def tod (t : rt) (p : Int) : Int := smI (fun r => if tpl t r = p then r else 0) (tn t)
theorem tah_tr {t : rt} {a b c : Int} (h1 : tah t a b = true) (h2 : tah t b c = true) : tah t a c = true := by
  simp only [tah, decide_eq_true_eq] at *
  omega
theorem tah_ir (t : rt) (a : Int) : tah t a a = false := by
  simp only [tah, decide_eq_false_iff_not]
  omega
theorem tah_to {t : rt} {a b : Int} (h : a ≠ b) : tah t a b = true ∨ tah t b a = true := by
  simp only [tah, decide_eq_true_eq]
  omega
theorem tpl_lt {t : rt} {q r : Int} (h0 : 0 ≤ q) (h1 : q < tn t) (h : tah t q r = true) : tpl t q < tpl t r := by
  unfold tpl smI
  have h2 : sm (fun x => (if tah t x q then 1 else 0) + (if x = q then 1 else 0)) (tn t).toNat ≤ sm (fun x => if tah t x r then 1 else 0) (tn t).toNat := by
    refine sm_le (fun x a b => ?_)
    by_cases e : x = q
    · subst e
      rw [if_pos rfl, tah_ir, h]
      decide
    · rw [if_neg e]
      by_cases e2 : tah t x q = true
      · rw [e2, tah_tr e2 h]; decide
      · have e3 : tah t x q = false := by cases hx : tah t x q with | true => exact absurd hx e2 | false => rfl
        rw [e3, if_neg (by decide : ¬ (false = true))]
        split <;> decide
  rw [sm_add, sm_one h0 (by omega)] at h2
  omega
theorem tpl_r {t : rt} {r : Int} (h0 : 0 ≤ r) (h1 : r < tn t) : 0 ≤ tpl t r ∧ tpl t r < tn t := by
  unfold tpl smI
  refine ⟨sm_nonneg (fun x _ _ => by split <;> decide), ?_⟩
  have h2 : sm (fun x => (if tah t x r then 1 else 0) + (if x = r then 1 else 0)) (tn t).toNat ≤ sm (fun _ => 1) (tn t).toNat := by
    refine sm_le (fun x a b => ?_)
    by_cases e : x = r
    · subst e
      rw [if_pos rfl, tah_ir]
      decide
    · rw [if_neg e]
      split <;> decide
  rw [sm_add, sm_one h0 (by omega), sm_const] at h2
  omega
theorem tpl_inj {t : rt} {q r : Int} (h0 : 0 ≤ q) (h1 : q < tn t) (g0 : 0 ≤ r) (g1 : r < tn t) (h : tpl t q = tpl t r) : q = r := by
  by_cases e : q = r
  · exact e
  · rcases tah_to (t := t) e with a | a
    · have := tpl_lt h0 h1 a; omega
    · have := tpl_lt g0 g1 a; omega
/-- every place is some rule's -/
theorem tpl_sur {t : rt} {p : Int} (h0 : 0 ≤ p) (h1 : p < tn t) : ∃ r, 0 ≤ r ∧ r < tn t ∧ tpl t r = p := by
  have ex : ∀ q : Int, sm (fun r => if tpl t r = q then 1 else 0) (tn t).toNat ≤ 1 := by
    intro q
    by_cases hq : ∃ r, 0 ≤ r ∧ r < tn t ∧ tpl t r = q
    · obtain ⟨r, a, b, c⟩ := hq
      have h2 : sm (fun x => if tpl t x = q then 1 else 0) (tn t).toNat ≤ sm (fun x => if x = r then 1 else 0) (tn t).toNat := by
        refine sm_le (fun x a2 b2 => ?_)
        by_cases e : x = r
        · rw [if_pos e]; split <;> decide
        · rw [if_neg (fun z => e (tpl_inj a2 (by omega) a b (z.trans c.symm))), if_neg e]
          decide
      rw [sm_one a (by omega)] at h2
      exact h2
    · rw [sm_congr (h := fun _ => 0) (fun x a b => if_neg (fun z => hq ⟨x, a, by omega, z⟩)), sm_zero]
      decide
  have tot : sm (fun q => sm (fun r => if tpl t r = q then 1 else 0) (tn t).toNat) (tn t).toNat = tn t := by
    rw [sm_swap, sm_congr (h := fun _ => 1) (fun r a b => ?_), sm_const]
    · omega
    · rw [sm_congr (h := fun q => if q = tpl t r then 1 else 0) (fun q _ _ => by
        by_cases e : tpl t r = q
        · rw [if_pos e, if_pos e.symm]
        · rw [if_neg e, if_neg (fun z => e z.symm)])]
      have := tpl_r a (by omega : r < tn t)
      exact sm_one this.1 (by omega) 1
  by_cases hp : ∃ r, 0 ≤ r ∧ r < tn t ∧ tpl t r = p
  · exact hp
  · exfalso
    have z : sm (fun r => if tpl t r = p then 1 else 0) (tn t).toNat = 0 := by
      rw [sm_congr (h := fun _ => 0) (fun x a b => if_neg (fun z => hp ⟨x, a, by omega, z⟩)), sm_zero]
    have h2 : sm (fun q => sm (fun r => if tpl t r = q then 1 else 0) (tn t).toNat + (if q = p then 1 else 0)) (tn t).toNat ≤ sm (fun _ => 1) (tn t).toNat := by
      refine sm_le (fun q a b => ?_)
      by_cases e : q = p
      · subst e; rw [if_pos rfl, z]; decide
      · rw [if_neg e]; have := ex q; omega
    rw [sm_add, tot, sm_one h0 (by omega), sm_const] at h2
    omega
theorem tod_pl {t : rt} {r : Int} (h0 : 0 ≤ r) (h1 : r < tn t) : tod t (tpl t r) = r := by
  unfold tod smI
  rw [sm_congr (h := fun x => if x = r then r else 0) (fun x a b => ?_), sm_one h0 (by omega)]
  by_cases e : x = r
  · subst e; rw [if_pos rfl, if_pos rfl]
  · rw [if_neg (fun z => e (tpl_inj a (by omega) h0 h1 z)), if_neg e]
theorem tod_r {t : rt} {p : Int} (h0 : 0 ≤ p) (h1 : p < tn t) : 0 ≤ tod t p ∧ tod t p < tn t ∧ tpl t (tod t p) = p := by
  obtain ⟨r, a, b, c⟩ := tpl_sur h0 h1
  subst c
  rw [tod_pl a b]
  exact ⟨a, b, rfl⟩
/-- the rules that take some number of a range in a field, as a mask by places -/
def tkP (t : rt) (f a b : Int) (p : Int) : Bool := decide (tlo t (tod t p) f ≤ b ∧ a ≤ thi t (tod t p) f)
def tkm (t : rt) (f a b : Int) : Nat := bm (tkP t f a b) (tn t).toNat
def tfit (t : rt) (a b c d : Int) : Nat := tkm t 0 a a &&& tkm t 1 b b &&& tkm t 2 c c &&& tkm t 3 d d
def lowg (m : Nat) : Nat → Nat → Nat
  | 0, i => i
  | n + 1, i => if m.testBit i then i else lowg m n (i + 1)
/-- the lowest bit (16: none), how many bits -/
def lowb (m : Nat) : Int := ((lowg m 16 0 : Nat) : Int)
def pop (m : Nat) : Int := smI (fun i => if m.testBit i.toNat then 1 else 0) 16
theorem twf_n {t : rt} (h : twf t) : 0 ≤ tn t ∧ tn t ≤ 16 := h.1
theorem tkm_lt {t : rt} (h : twf t) (f a b : Int) : tkm t f a b < 65536 := bm_pow _ (by have := h.1; omega)
theorem tfit_lt {t : rt} (h : twf t) (a b c d : Int) : tfit t a b c d < 65536 := Nat.lt_of_le_of_lt (Nat.le_trans Nat.and_le_left (Nat.le_trans Nat.and_le_left Nat.and_le_left)) (tkm_lt h 0 a a)
/-! the model's cells: 0 its object, 1 low, 2 high, 3 ranks, 4 actions -/
def RM (σ : fs_S) (t : rt) : Prop := σ 0 0 = tn t ∧ (∀ r f, 0 ≤ r → r < tn t → 0 ≤ f → f < 4 → σ 1 (4 * r + f) = tlo t r f ∧ σ 2 (4 * r + f) = thi t r f) ∧ (∀ r, 0 ≤ r → r < tn t → σ 3 r = trk t r ∧ σ 4 r = tac t r)
abbrev rg (x : Int) : Prop := -2147483648 ≤ x ∧ x < 2147483648
theorem RM.eq {σ τ : fs_S} {t : rt} (h : RM σ t) (hw : twf t) (h0 : τ 0 0 = σ 0 0) (hk : ∀ k i, 1 ≤ k → k ≤ 4 → 0 ≤ i → i < 64 → τ k i = σ k i) : RM τ t := by
  have hn := hw.1
  refine ⟨h0.trans h.1, fun r f a b c d => ?_, fun r a b => ?_⟩
  · rw [hk _ _ (by omega) (by omega) (by omega) (by omega), hk _ _ (by omega) (by omega) (by omega) (by omega)]
    exact h.2.1 r f a b c d
  · rw [hk _ _ (by omega) (by omega) (by omega) (by omega), hk _ _ (by omega) (by omega) (by omega) (by omega)]
    exact h.2.2 r a b
/-- the model's order and masks are worked out -/
def OV (σ : fs_S) (t : rt) : Prop := (∀ p, 0 ≤ p → p < tn t → σ 5 p = tod t p) ∧ (∀ f v, 0 ≤ f → f < 4 → 0 ≤ v → v ≤ gr f → σ 6 (64 * f + v) = ((tkm t f v v : Nat) : Int))
theorem lowg_spec (m : Nat) : ∀ (n i : Nat), i ≤ lowg m n i ∧ lowg m n i ≤ i + n ∧ (∀ j, i ≤ j → j < lowg m n i → m.testBit j = false) ∧ (lowg m n i < i + n → m.testBit (lowg m n i) = true)
  | 0, i => ⟨Nat.le_refl _, Nat.le_refl _, fun j a b => absurd b (by simp [lowg]; omega), fun h => absurd h (by simp [lowg])⟩
  | n + 1, i => by
    rw [lowg]
    by_cases h : m.testBit i = true
    · rw [if_pos h]
      exact ⟨Nat.le_refl _, by omega, fun j a b => by omega, fun _ => h⟩
    · rw [if_neg h]
      obtain ⟨h1, h2, h3, h4⟩ := lowg_spec m n (i + 1)
      refine ⟨by omega, by omega, fun j a b => ?_, fun hl => h4 (by omega)⟩
      by_cases e : j = i
      · subst e; simpa using h
      · exact h3 j (by omega) b
/-- the lowest bit of a mask that isn't 0 -/
theorem lowb_spec {m : Nat} (hm : m < 65536) (h0 : m ≠ 0) : ∃ j : Nat, lowb m = (j : Int) ∧ j < 16 ∧ m.testBit j = true ∧ ∀ i, i < j → m.testBit i = false := by
  obtain ⟨h1, h2, h3, h4⟩ := lowg_spec m 16 0
  have hlt : lowg m 16 0 < 16 := by
    apply Nat.lt_of_not_le
    intro hge
    apply h0
    apply Nat.eq_of_testBit_eq
    intro i
    rw [Nat.zero_testBit]
    by_cases hi : i < 16
    · exact h3 i (by omega) (by omega)
    · exact Nat.testBit_lt_two_pow (Nat.lt_of_lt_of_le hm (by
        have : 2 ^ 16 ≤ 2 ^ i := Nat.pow_le_pow_right (by decide) (by omega)
        exact this))
  exact ⟨lowg m 16 0, rfl, hlt, h4 (by omega), fun i hi => h3 i (by omega) hi⟩
theorem tkm_bit (t : rt) (f a b : Int) (i : Nat) (h : (tkm t f a b).testBit i = true) : (i : Int) < tn t ∧ tkP t f a b (i : Int) = true := by
  unfold tkm at h
  rw [bm_bit] at h
  simp only [Bool.and_eq_true, decide_eq_true_eq] at h
  exact ⟨by omega, h.2⟩
theorem tfit_bit {t : rt} {a b c d : Int} {i : Nat} (h : (tfit t a b c d).testBit i = true) : (i : Int) < tn t := by
  unfold tfit at h
  rw [Nat.testBit_and, Nat.testBit_and, Nat.testBit_and] at h
  simp only [Bool.and_eq_true] at h
  exact (tkm_bit t 0 a a i h.1.1.1).1
theorem tfit_low {t : rt} (hw : twf t) {a b c d : Int} (h : tfit t a b c d ≠ 0) : 0 ≤ lowb (tfit t a b c d) ∧ lowb (tfit t a b c d) < tn t := by
  obtain ⟨j, e, -, h2, -⟩ := lowb_spec (tfit_lt hw a b c d) h
  rw [e]
  exact ⟨by omega, tfit_bit h2⟩
end
section
/-! ===== sums over packets, by stretches ===== -/
theorem sm_split (g : Int → Int) (m n : Nat) : sm g (m + n) = sm g m + sm (fun i => g ((m : Int) + i)) n := by
  induction n with
  | zero => show sm g m = sm g m + 0; omega
  | succ n ih =>
    show sm g (m + n) + g ((m + n : Nat) : Int) = sm g m + (sm (fun i => g ((m : Int) + i)) n + g ((m : Int) + (n : Int)))
    rw [ih, show ((m + n : Nat) : Int) = (m : Int) + (n : Int) by omega]
    omega
theorem sm_rect (F : Int → Int → Int) (n : Nat) (hn : 0 < n) : ∀ m : Nat, sm (fun i => F (i / (n : Int)) (i % (n : Int))) (m * n) = sm (fun a => sm (fun b => F a b) n) m
  | 0 => by rw [Nat.zero_mul]; rfl
  | m + 1 => by
    rw [Nat.succ_mul, sm_split, sm_rect F n hn m]
    show _ = sm (fun a => sm (fun b => F a b) n) m + sm (fun b => F (m : Int) b) n
    congr 1
    refine sm_congr (fun i h0 h1 => ?_)
    have e1 : (((m * n : Nat) : Int) + i) / (n : Int) = (m : Int) := by
      rw [Int.natCast_mul, Int.mul_comm, Int.add_comm, Int.add_mul_ediv_left _ _ (by omega), Int.ediv_eq_zero_of_lt h0 h1]; omega
    have e2 : (((m * n : Nat) : Int) + i) % (n : Int) = i := by
      rw [Int.natCast_mul, Int.mul_comm, Int.add_comm, Int.add_mul_emod_self_left, Int.emod_eq_of_lt h0 h1]
    rw [e1, e2]
theorem smI_rect (F : Int → Int → Int) {m n : Int} (hm : 0 ≤ m) (hn : 0 < n) : smI (fun i => F (i / n) (i % n)) (m * n) = smI (fun a => smI (fun b => F a b) n) m := by
  obtain ⟨m', rfl⟩ := Int.eq_ofNat_of_zero_le hm
  obtain ⟨n', rfl⟩ := Int.eq_ofNat_of_zero_le (by omega : 0 ≤ n)
  have := sm_rect F n' (by omega) m'
  unfold smI
  rw [show ((m' : Int) * (n' : Int)).toNat = m' * n' by rw [← Int.natCast_mul]; omega, show (n' : Int).toNat = n' by omega, show (m' : Int).toNat = m' by omega]
  exact this
theorem smI_mul (c : Int) (g : Int → Int) (k : Int) : smI (fun i => c * g i) k = c * smI g k := sm_mul c g _
theorem smI_nonneg {g : Int → Int} {k : Int} (h : ∀ i : Int, 0 ≤ i → i < k → 0 ≤ g i) : 0 ≤ smI g k := sm_nonneg (fun i a b => h i a (by omega))
/-- the sum of a number of the rules' mask over all packets -/
def S4 (t : rt) (g : Nat → Int) : Int := smI (fun a => smI (fun b => smI (fun c => smI (fun d => g (tfit t a b c d)) 4) 64) 64) 64
/-- a mask without its lowest bit -/
def rs (m : Nat) : Nat := m ^^^ 2 ^ (lowg m 16 0)
def gW (t : rt) (r : Int) (m : Nat) : Int := if m ≠ 0 ∧ tod t (lowb m) = r then 1 else 0
def gN (t : rt) (r : Int) (m : Nat) : Int := if m ≠ 0 ∧ tod t (lowb m) = r ∧ (rs m = 0 ∨ tac t (tod t (lowb (rs m))) ≠ tac t r) then 1 else 0
def gD (t : rt) (x : Int) (m : Nat) : Int := if (m = 0 ∧ x = 10) ∨ (m ≠ 0 ∧ tac t (tod t (lowb m)) = x) then 1 else 0
/-- the stretches of a field, the first v numbers of it: where they begin (cell cb), how many numbers they have (cz) -/
def SL (t : rt) (f v s : Int) (B Z : Int → Int) : Prop := (0 ≤ s ∧ s ≤ v) ∧ (0 < v → 1 ≤ s ∧ tkm t f (B (s - 1)) (B (s - 1)) = tkm t f (v - 1) (v - 1)) ∧ (∀ j, 0 ≤ j → j < s → (0 ≤ B j ∧ B j < v) ∧ 1 ≤ Z j) ∧ (∀ h : Nat → Int, smI (fun x => h (tkm t f x x)) v = smI (fun j => Z j * h (tkm t f (B j) (B j))) s)
theorem SL.congr {t : rt} {f v s : Int} {B Z B' Z' : Int → Int} (h : SL t f v s B Z) (hb : ∀ j, 0 ≤ j → j < s → B' j = B j) (hz : ∀ j, 0 ≤ j → j < s → Z' j = Z j) : SL t f v s B' Z' := by
  obtain ⟨h1, h2, h3, h4⟩ := h
  refine ⟨h1, fun hv => ?_, fun j a b => ?_, fun g => ?_⟩
  · have := h2 hv
    rw [hb _ (by omega) (by omega)]
    exact this
  · rw [hb j a b, hz j a b]; exact h3 j a b
  · rw [h4 g]
    exact smI_congr (fun j a b => by rw [hb j a b, hz j a b])
theorem SL.zero (t : rt) (f : Int) (B Z : Int → Int) : SL t f 0 0 B Z := ⟨by omega, fun h => by omega, fun j a b => by omega, fun h => rfl⟩
/-- a new stretch -/
theorem SL.new {t : rt} {f v s : Int} {B Z B' Z' : Int → Int} (h : SL t f v s B Z) (hv : 0 ≤ v) (hb : ∀ j, 0 ≤ j → j < s → B' j = B j) (hz : ∀ j, 0 ≤ j → j < s → Z' j = Z j) (b1 : B' s = v) (z1 : Z' s = 1) : SL t f (v + 1) (s + 1) B' Z' := by
  obtain ⟨h1, h2, h3, h4⟩ := h.congr hb hz
  refine ⟨by omega, fun _ => ⟨by omega, ?_⟩, fun j a b => ?_, fun g => ?_⟩
  · rw [show s + 1 - 1 = s by omega, show v + 1 - 1 = v by omega, b1]
  · by_cases e : j = s
    · subst e; omega
    · have := h3 j a (by omega); omega
  · rw [smI_s _ hv, smI_s _ h1.1, h4 g, b1, z1]; omega
/-- the last one goes on -/
theorem SL.more {t : rt} {f v s : Int} {B Z B' Z' : Int → Int} (h : SL t f v s B Z) (hv : 0 < v) (hb : ∀ j, 0 ≤ j → j < s → B' j = B j) (hz : ∀ j, 0 ≤ j → j < s - 1 → Z' j = Z j) (z1 : Z' (s - 1) = Z (s - 1) + 1) (he : tkm t f v v = tkm t f (v - 1) (v - 1)) : SL t f (v + 1) s B' Z' := by
  obtain ⟨h1, h2, h3, h4⟩ := h
  have h2 := h2 hv
  refine ⟨by omega, fun _ => ⟨h2.1, ?_⟩, fun j a b => ?_, fun g => ?_⟩
  · rw [show v + 1 - 1 = v by omega, hb _ (by omega) (by omega), h2.2, he]
  · have := h3 j a b
    by_cases e : j = s - 1
    · subst e; rw [hb _ (by omega) (by omega), z1]; omega
    · rw [hb _ (by omega) (by omega), hz j a (by omega)]; omega
  · have e1 := h4 g
    obtain ⟨s', rfl⟩ : ∃ s', s = s' + 1 := ⟨s - 1, by omega⟩
    rw [show s' + 1 - 1 = s' by omega] at *
    rw [smI_s _ (by omega : 0 ≤ s')] at e1 ⊢
    rw [smI_s _ (by omega : 0 ≤ v), e1, z1, hb s' (by omega) (by omega), he, ← h2.2, Int.add_mul, Int.one_mul, smI_congr (g := fun j => Z' j * g (tkm t f (B' j) (B' j))) (h := fun j => Z j * g (tkm t f (B j) (B j))) (fun j a b => by rw [hb j a (by omega), hz j a (by omega)])]
    omega
/-- all four fields' stretches give the sum over all packets -/
theorem SL.sum {t : rt} {s : Int → Int} {B Z : Int → Int → Int} (h : ∀ f, 0 ≤ f → f < 4 → SL t f (gr f + 1) (s f) (B f) (Z f)) (g : Nat → Int) :
    smI (fun a => smI (fun b => smI (fun c => smI (fun d => Z 0 a * Z 1 b * Z 2 c * Z 3 d * g (tkm t 0 (B 0 a) (B 0 a) &&& tkm t 1 (B 1 b) (B 1 b) &&& tkm t 2 (B 2 c) (B 2 c) &&& tkm t 3 (B 3 d) (B 3 d))) (s 3)) (s 2)) (s 1)) (s 0) = S4 t g := by
  have g0 : gr 0 + 1 = 64 := rfl
  have g1 : gr 1 + 1 = 64 := rfl
  have g2 : gr 2 + 1 = 64 := rfl
  have g3 : gr 3 + 1 = 4 := rfl
  have q0 := (h 0 (by omega) (by omega)).2.2.2
  have q1 := (h 1 (by omega) (by omega)).2.2.2
  have q2 := (h 2 (by omega) (by omega)).2.2.2
  have q3 := (h 3 (by omega) (by omega)).2.2.2
  rw [g0] at q0
  rw [g1] at q1
  rw [g2] at q2
  rw [g3] at q3
  unfold S4 tfit
  have e0 := q0 (fun y => smI (fun b => smI (fun c => smI (fun d => g (y &&& tkm t 1 b b &&& tkm t 2 c c &&& tkm t 3 d d)) 4) 64) 64)
  rw [e0]
  refine smI_congr (fun a _ _ => ?_)
  rw [q1 (fun y => smI (fun c => smI (fun d => g (tkm t 0 (B 0 a) (B 0 a) &&& y &&& tkm t 2 c c &&& tkm t 3 d d)) 4) 64), ← smI_mul]
  refine smI_congr (fun b _ _ => ?_)
  rw [q2 (fun y => smI (fun d => g (tkm t 0 (B 0 a) (B 0 a) &&& tkm t 1 (B 1 b) (B 1 b) &&& y &&& tkm t 3 d d)) 4), ← smI_mul, ← smI_mul]
  refine smI_congr (fun c _ _ => ?_)
  rw [q3 (fun y => g (tkm t 0 (B 0 a) (B 0 a) &&& tkm t 1 (B 1 b) (B 1 b) &&& tkm t 2 (B 2 c) (B 2 c) &&& y)), ← smI_mul, ← smI_mul, ← smI_mul]
  refine smI_congr (fun d _ _ => ?_)
  simp only [Int.mul_assoc]
theorem rs_bit {m : Nat} (hm : m < 65536) (h0 : m ≠ 0) (i : Nat) : (rs m).testBit i = (m.testBit i && decide ((i : Int) ≠ lowb m)) := by
  obtain ⟨j, e, -, h2, -⟩ := lowb_spec hm h0
  have e2 : lowg m 16 0 = j := by unfold lowb at e; omega
  unfold rs
  rw [e2, e, Nat.testBit_xor, Nat.testBit_two_pow]
  by_cases hj : j = i
  · subst hj; simp [h2]
  · have : ¬ ((i : Int) = (j : Int)) := by omega
    simp [hj, this]
theorem rs_lt {m : Nat} (hm : m < 65536) (h0 : m ≠ 0) : rs m < 65536 := by
  obtain ⟨j, e, hj, h2, -⟩ := lowb_spec hm h0
  have e2 : lowg m 16 0 = j := by unfold lowb at e; omega
  unfold rs
  rw [e2]
  exact Nat.xor_lt_two_pow (n := 16) hm (Nat.pow_lt_pow_right (by decide) hj)
/-- m & ~(1 << own) -/
theorem fm_clear {m : Nat} (hm : m < 65536) (h0 : m ≠ 0) : fi_and (m : Int) (fi_xor (fi_shl 1 (lowb m)) (-1)) = ((rs m : Nat) : Int) := by
  have hr := rs_lt hm h0
  obtain ⟨j, e, hj, h2, -⟩ := lowb_spec hm h0
  have e2 : lowg m 16 0 = j := by unfold lowb at e; omega
  rw [e, fm_shl1 j (by omega)]
  unfold fi_and fi_xor
  rw [Int32.ofInt_toInt, fm_ofNat, fm_ofNat, ← fm_toInt (a := rs m) (by omega)]
  congr 1
  apply Int32.toBitVec.inj
  apply BitVec.eq_of_getLsbD_eq
  intro i hi
  have hneg : (Int32.ofInt (-1)).toBitVec = BitVec.allOnes 32 := by decide
  rw [Int32.toBitVec_and, Int32.toBitVec_xor, hneg]
  simp only [Int32.toBitVec_ofNat', BitVec.getLsbD_and, BitVec.getLsbD_xor, BitVec.getLsbD_ofNat, BitVec.getLsbD_allOnes, hi, decide_true, Bool.true_and]
  unfold rs
  rw [e2, Nat.testBit_xor, Nat.testBit_two_pow]
  by_cases hji : j = i
  · subst hji; simp [h2]
  · simp [hji]
end
section
/-! ===== the state that both hold: rules, draft, bin, deep, images; what a call does to it ===== -/
abbrev ab : Type := rt × ((Int → Int) × (Int → Int)) × (Int × Int) × (Int → Int × rt × Int × Int)
def awf (A : ab) : Prop := twf A.1 ∧ (∀ f, 0 ≤ f → f < 4 → 0 ≤ A.2.1.1 f ∧ A.2.1.1 f ≤ A.2.1.2 f ∧ A.2.1.2 f ≤ gr f) ∧ ((1 ≤ A.2.2.1.1 ∧ A.2.2.1.1 ≤ 4) ∧ 1 ≤ A.2.2.1.2 ∧ A.2.2.1.2 ≤ 8) ∧ (∀ k, 0 ≤ k → k < 2 → ((A.2.2.2 k).1 = 0 ∨ (A.2.2.2 k).1 = 1) ∧ ((A.2.2.2 k).1 = 1 → twf (A.2.2.2 k).2.1 ∧ (1 ≤ (A.2.2.2 k).2.2.1 ∧ (A.2.2.2 k).2.2.1 ≤ 4) ∧ 1 ≤ (A.2.2.2 k).2.2.2 ∧ (A.2.2.2 k).2.2.2 ≤ 8))
/-- the model's image k -/
def RI (σ : fs_S) (k : Int) (I : rt × Int × Int) : Prop := σ 24 (163 * k + 160) = tn I.1 ∧ (∀ r f, 0 ≤ r → r < tn I.1 → 0 ≤ f → f < 4 → σ 24 (163 * k + (4 * r + f)) = tlo I.1 r f ∧ σ 24 (163 * k + 64 + (4 * r + f)) = thi I.1 r f) ∧ (∀ r, 0 ≤ r → r < tn I.1 → σ 24 (163 * k + 128 + r) = trk I.1 r ∧ σ 24 (163 * k + 144 + r) = tac I.1 r) ∧ σ 24 (163 * k + 161) = I.2.1 ∧ σ 24 (163 * k + 162) = I.2.2
def IMc (σ : fs_S) (A : ab) : Prop := RM σ A.1 ∧ (∀ f, 0 ≤ f → f < 4 → σ 1 (64 + f) = A.2.1.1 f ∧ σ 2 (64 + f) = A.2.1.2 f) ∧ (σ 0 5 = A.2.2.1.1 ∧ σ 0 6 = A.2.2.1.2) ∧ (∀ k, 0 ≤ k → k < 2 → σ 25 k = (A.2.2.2 k).1 ∧ ((A.2.2.2 k).1 = 1 → RI σ k (A.2.2.2 k).2))
theorem IMc.eq {σ τ : fs_S} {A : ab} (h : IMc σ A) (hw : awf A) (h0 : ∀ i, i = 0 ∨ i = 5 ∨ i = 6 → τ 0 i = σ 0 i) (hk : ∀ k i, (1 ≤ k ∧ k ≤ 4) ∨ k = 24 ∨ k = 25 → τ k i = σ k i) : IMc τ A := by
  obtain ⟨a1, a2, a3, a4⟩ := h
  refine ⟨a1.eq hw.1 (h0 _ (by omega)) (fun k i a b _ _ => hk k i (by omega)), fun f a b => ?_, ?_, fun k a b => ?_⟩
  · rw [hk _ _ (by omega), hk _ _ (by omega)]; exact a2 f a b
  · rw [h0 _ (by omega), h0 _ (by omega)]; exact a3
  · rw [hk _ _ (by omega)]
    refine ⟨(a4 k a b).1, fun z => ?_⟩
    obtain ⟨b1, b2, b3, b4, b5⟩ := (a4 k a b).2 z
    refine ⟨by rw [hk _ _ (by omega)]; exact b1, fun r f c d e g => ?_, fun r c d => ?_, by rw [hk _ _ (by omega)]; exact b4, by rw [hk _ _ (by omega)]; exact b5⟩
    · rw [hk _ _ (by omega), hk _ _ (by omega)]; exact b2 r f c d e g
    · rw [hk _ _ (by omega), hk _ _ (by omega)]; exact b3 r c d
/-! draft -/
def aDraft (f lo hi : Int) : Int := if 0 ≤ f ∧ f < 4 then (if (0 ≤ lo ∧ lo ≤ gr f) ∧ (0 ≤ hi ∧ hi ≤ gr f) ∧ lo ≤ hi then hi - lo + 1 else -2) else -1
def sDraft (A : ab) (f lo hi : Int) : ab := if (0 ≤ f ∧ f < 4) ∧ (0 ≤ lo ∧ lo ≤ gr f) ∧ (0 ≤ hi ∧ hi ≤ gr f) ∧ lo ≤ hi then (A.1, (fun x => if x = f then lo else A.2.1.1 x, fun x => if x = f then hi else A.2.1.2 x), A.2.2) else A
/-! rule -/
def nRule (A : ab) (rk ac : Int) : ab := ((tn A.1 + 1, fun r f => if r = tn A.1 then A.2.1.1 f else tlo A.1 r f, fun r f => if r = tn A.1 then A.2.1.2 f else thi A.1 r f, fun r => if r = tn A.1 then rk else trk A.1 r, fun r => if r = tn A.1 then ac else tac A.1 r), (fun _ => 0, gr), A.2.2)
def aRule (A : ab) (rk ac : Int) : Int := if (0 ≤ rk ∧ rk ≤ 999) ∧ 0 ≤ ac ∧ ac ≤ 9 then (if tn A.1 = 16 then -4 else tn A.1) else -2
def sRule (A : ab) (rk ac : Int) : ab := if ((0 ≤ rk ∧ rk ≤ 999) ∧ 0 ≤ ac ∧ ac ≤ 9) ∧ tn A.1 ≠ 16 then nRule A rk ac else A
/-! drop -/
def dx (r x : Int) : Int := if r ≤ x then x + 1 else x
def tDrop (t : rt) (r : Int) : rt := (tn t - 1, fun x f => tlo t (dx r x) f, fun x f => thi t (dx r x) f, fun x => trk t (dx r x), fun x => tac t (dx r x))
def aDrop (A : ab) (r : Int) : Int := if 0 ≤ r ∧ r < tn A.1 then tn A.1 - 1 else -1
def sDrop (A : ab) (r : Int) : ab := if 0 ≤ r ∧ r < tn A.1 then (tDrop A.1 r, A.2) else A
/-! rank -/
def tRank (t : rt) (r k : Int) : rt := (tn t, t.2.1, t.2.2.1, fun x => if x = r then k else trk t x, t.2.2.2.2)
def aRank (A : ab) (r k : Int) : Int := if 0 ≤ r ∧ r < tn A.1 then (if 0 ≤ k ∧ k ≤ 999 then tpl (tRank A.1 r k) r else -2) else -1
def sRank (A : ab) (r k : Int) : ab := if (0 ≤ r ∧ r < tn A.1) ∧ 0 ≤ k ∧ k ≤ 999 then (tRank A.1 r k, A.2) else A
/-! told -/
def aTold (t : rt) (r w : Int) : Int := if 0 ≤ r ∧ r < tn t then (if 10 ≤ w ∧ w ≤ 17 then (if w % 2 = 0 then tlo t r ((w - 10) / 2) else thi t r ((w - 10) / 2)) else if w = 0 then trk t r else if w = 1 then tac t r else if w = 2 then tpl t r else -2) else -1
/-! overlap: how many numbers two rules share in a field -/
def tsh (t : rt) (a b f : Int) : Int := max 0 (min (thi t a f) (thi t b f) - max (tlo t a f) (tlo t b f) + 1)
def prI (g : Int → Int) (k : Int) : Int := (List.range k.toNat).foldl (fun x (i : Nat) => x * g (i : Int)) 1
theorem prI_0 (g : Int → Int) : prI g 0 = 1 := rfl
theorem prI_s (g : Int → Int) {k : Int} (h : 0 ≤ k) : prI g (k + 1) = prI g k * g k := by
  unfold prI
  rw [show (k + 1).toNat = k.toNat + 1 by omega, List.range_succ, List.foldl_append]
  show _ * g ((k.toNat : Nat) : Int) = _
  rw [show ((k.toNat : Nat) : Int) = k by omega]
def aOverlap (t : rt) (a b : Int) : Int := if (0 ≤ a ∧ a < tn t) ∧ 0 ≤ b ∧ b < tn t then prI (tsh t a b) 4 else -1
/-! covered -/
def tin (t : rt) (o r f : Int) : Bool := decide (tlo t o f ≤ tlo t r f ∧ thi t r f ≤ thi t o f)
def tfl (t : rt) (o r k : Int) : Int := smI (fun f => if tin t o r f then 0 else 1) k
def twi (t : rt) (o r : Int) : Bool := decide (tfl t o r 4 = 0)
/-- the least number below n with P; n if there is none -/
def leg (P : Int → Bool) : Nat → Int → Int
  | 0, i => i
  | n + 1, i => if P i then i else leg P n (i + 1)
def lea (P : Int → Bool) (n : Int) : Int := leg P n.toNat 0
theorem leg_spec (P : Int → Bool) : ∀ (n : Nat) (i : Int), i ≤ leg P n i ∧ leg P n i ≤ i + n ∧ (∀ j, i ≤ j → j < leg P n i → P j = false) ∧ (leg P n i < i + n → P (leg P n i) = true)
  | 0, i => ⟨Int.le_refl _, by simp [leg], fun j a b => absurd b (by simp [leg]; omega), fun h => absurd h (by simp [leg])⟩
  | n + 1, i => by
    rw [leg]
    by_cases h : P i = true
    · rw [if_pos h]
      exact ⟨Int.le_refl _, by omega, fun j a b => by omega, fun _ => h⟩
    · rw [if_neg h]
      obtain ⟨h1, h2, h3, h4⟩ := leg_spec P n (i + 1)
      refine ⟨by omega, by omega, fun j a b => ?_, fun hl => h4 (by omega)⟩
      by_cases e : j = i
      · subst e; simpa using h
      · exact h3 j (by omega) b
theorem lea_spec (P : Int → Bool) {n : Int} (h : 0 ≤ n) : 0 ≤ lea P n ∧ lea P n ≤ n ∧ (∀ j, 0 ≤ j → j < lea P n → P j = false) ∧ (lea P n < n → P (lea P n) = true) := by
  obtain ⟨h1, h2, h3, h4⟩ := leg_spec P n.toNat 0
  exact ⟨h1, by unfold lea; omega, h3, fun z => h4 (by unfold lea at z; omega)⟩
theorem lea_at {P : Int → Bool} {n p : Int} (h0 : 0 ≤ p) (h1 : p < n) (hp : P p = true) (hm : ∀ j, 0 ≤ j → j < p → P j = false) : lea P n = p := by
  obtain ⟨a, b, c, d⟩ := lea_spec P (n := n) (by omega)
  rcases Int.lt_trichotomy (lea P n) p with e | e | e
  · have := d (by omega)
    rw [hm _ a e] at this
    cases this
  · exact e
  · have := c p h0 e
    rw [hp] at this
    cases this
theorem lea_no {P : Int → Bool} {n : Int} (h : 0 ≤ n) (hm : ∀ j, 0 ≤ j → j < n → P j = false) : lea P n = n := by
  obtain ⟨a, b, c, d⟩ := lea_spec P h
  by_cases e : lea P n < n
  · have := d e
    rw [hm _ a e] at this
    cases this
  · omega
def tcv (t : rt) (r : Int) : Int := if lea (fun p => twi t (tod t p) r) (tpl t r) < tpl t r then tod t (lea (fun p => twi t (tod t p) r) (tpl t r)) else -6
def aCovered (t : rt) (r : Int) : Int := if 0 ≤ r ∧ r < tn t then tcv t r else -1
end
section
/-! ===== the model: small methods, order, masks ===== -/
set_option maxRecDepth 100000 in
set_option maxHeartbeats 4000000 in
theorem cM_in {σ : fs_S} {v a b : Int} (hv : -2147483648 ≤ v ∧ v < 2147483648) (ha : -2147483648 ≤ a ∧ a < 2147483648) (hb : -2147483648 ≤ b ∧ b < 2147483648) : fs_C mX7_in 0 [.inl v, .inl a, .inl b] σ (fun r τ => r = some (if a ≤ v ∧ v ≤ b then 1 else 0) ∧ τ = σ) := by
  refine fs_C.intro [some (.inl v), some (.inl a), some (.inl b)] fs_oX7_in (Nat.le_of_ble_eq_true rfl) rfl ?_
  refine fr_iload_n 1 dX7_in_0 rfl rfl ?_
  refine fr_iload_n 2 dX7_in_1 rfl rfl ?_
  refine fr_icmp_lt 14 5 dX7_in_2 rfl rfl (by omega) (by omega) (fun h2 => ?_) (fun h2 => ?_)
  · refine fr_iconst 15 dX7_in_14 rfl ?_
    refine fr_zret dX7_in_15 rfl (by omega) ?_
    exact ⟨congrArg some (by split <;> omega), rfl⟩
  · refine fr_iload_n 6 dX7_in_5 rfl rfl ?_
    refine fr_iload_n 7 dX7_in_6 rfl rfl ?_
    refine fr_icmp_gt 14 10 dX7_in_7 rfl rfl (by omega) (by omega) (fun h7 => ?_) (fun h7 => ?_)
    · refine fr_iconst 15 dX7_in_14 rfl ?_
      refine fr_zret dX7_in_15 rfl (by omega) ?_
      exact ⟨congrArg some (by split <;> omega), rfl⟩
    · refine fr_iconst 11 dX7_in_10 rfl ?_
      refine fr_goto 15 dX7_in_11 rfl ?_
      refine fr_zret dX7_in_15 rfl (by omega) ?_
      exact ⟨congrArg some (by split <;> omega), rfl⟩
set_option maxRecDepth 100000 in
set_option maxHeartbeats 4000000 in
theorem cM_width {σ : fs_S} {f : Int} (hf : -2147483648 ≤ f ∧ f < 2147483648) : fs_C mX7_width 0 [.inl f] σ (fun r τ => r = some (wd f) ∧ τ = σ) := by
  refine fs_C.intro [some (.inl f)] fs_oX7_width (Nat.le_of_ble_eq_true rfl) rfl ?_
  refine fr_iload_n 1 dX7_width_0 rfl rfl ?_
  refine fr_iconst 2 dX7_width_1 rfl ?_
  refine fr_icmp_ne 9 5 dX7_width_2 rfl rfl (by omega) (by omega) (fun h2 => ?_) (fun h2 => ?_)
  · refine fr_bipush 11 dX7_width_9 rfl (by decide) ?_
    refine fr_iret dX7_width_11 rfl ?_
    exact ⟨congrArg some (by unfold wd; split <;> omega), rfl⟩
  · refine fr_iconst 6 dX7_width_5 rfl ?_
    refine fr_goto 11 dX7_width_6 rfl ?_
    refine fr_iret dX7_width_11 rfl ?_
    exact ⟨congrArg some (by unfold wd; split <;> omega), rfl⟩
theorem shl_wd (f : Int) : fi_shl 1 (wd f) = gr f + 1 := by
  unfold wd gr
  split <;> decide
set_option maxRecDepth 100000 in
set_option maxHeartbeats 4000000 in
theorem cM_most {σ : fs_S} {f : Int} (hf : -2147483648 ≤ f ∧ f < 2147483648) : fs_C mX7_most 1 [.inl f] σ (fun r τ => r = some (gr f) ∧ τ = σ) := by
  refine fs_C.intro [some (.inl f)] fs_oX7_most (Nat.le_of_ble_eq_true rfl) rfl ?_
  refine fr_iconst 1 dX7_most_0 rfl ?_
  refine fr_iload_n 2 dX7_most_1 rfl rfl ?_
  refine fr_callSi 5 (M2 := mX7_width) [_] dX7_most_2 rfl fs_mX7_96 fs_oX7_width fs_sX7_width rfl (fs_Γ_rm (d := 0) (by decide)) (Nat.le_of_ble_eq_true rfl) rfl ?_
  refine (cM_width hf).ci ?_
  refine fr_ishl 6 dX7_most_5 rfl ?_
  refine fr_iconst 7 dX7_most_6 rfl ?_
  refine fr_isub 8 dX7_most_7 rfl ?_
  refine fr_iret dX7_most_8 rfl ?_
  exact ⟨congrArg some (by rw [shl_wd]; omega), rfl⟩
set_option maxRecDepth 100000 in
set_option maxHeartbeats 4000000 in
theorem cM_isField {σ : fs_S} {f : Int} (hf : -2147483648 ≤ f ∧ f < 2147483648) : fs_C mX7_isField 1 [.inl f] σ (fun r τ => r = some (if 0 ≤ f ∧ f < 4 then 1 else 0) ∧ τ = σ) := by
  refine fs_C.intro [some (.inl f)] fs_oX7_isField (Nat.le_of_ble_eq_true rfl) rfl ?_
  refine fr_iload_n 1 dX7_isField_0 rfl rfl ?_
  refine fr_iconst 2 dX7_isField_1 rfl ?_
  refine fr_iconst 3 dX7_isField_2 rfl ?_
  refine fr_callSi 6 (M2 := mX7_in) [_, _, _] dX7_isField_3 rfl fs_mX7_100 fs_oX7_in fs_sX7_in rfl (fs_Γ_rm (d := 0) (by decide)) (Nat.le_of_ble_eq_true rfl) rfl ?_
  refine (cM_in hf (by omega) (by omega)).ci ?_
  refine fr_zret dX7_isField_6 rfl (by omega) ?_
  exact ⟨congrArg some (by split <;> split <;> omega), rfl⟩
set_option maxRecDepth 100000 in
set_option maxHeartbeats 4000000 in
theorem cM_isRule {σ : fs_S} {r n : Int} (hn : σ 0 0 = n) (h : 0 ≤ n ∧ n ≤ 16) (hr : -2147483648 ≤ r ∧ r < 2147483648) : fs_C mX7_isRule 1 [.inr 0, .inl r] σ (fun x τ => x = some (if 0 ≤ r ∧ r < n then 1 else 0) ∧ τ = σ) := by
  refine fs_C.intro [some (.inr 0), some (.inl r)] fs_oX7_isRule (Nat.le_of_ble_eq_true rfl) rfl ?_
  refine fr_iload_n 1 dX7_isRule_0 rfl rfl ?_
  refine fr_iconst 2 dX7_isRule_1 rfl ?_
  refine fr_aload_n 3 dX7_isRule_2 rfl rfl ?_
  refine fr_geti 6 0 dX7_isRule_3 rfl fs_kX7_104 rfl fs_l0 rfl ?_
  refine fr_iconst 7 dX7_isRule_6 rfl ?_
  refine fr_isub 8 dX7_isRule_7 rfl ?_
  refine fr_callSi 11 (M2 := mX7_in) [_, _, _] dX7_isRule_8 rfl fs_mX7_100 fs_oX7_in fs_sX7_in rfl (fs_Γ_rm (d := 0) (by decide)) (Nat.le_of_ble_eq_true rfl) rfl ?_
  refine (cM_in hr (by omega) (by omega)).ci ?_
  refine fr_zret dX7_isRule_11 rfl (by omega) ?_
  exact ⟨congrArg some (by split <;> split <;> omega), rfl⟩
set_option maxRecDepth 100000 in
set_option maxHeartbeats 4000000 in
theorem cM_isPacket {σ : fs_S} {a b c d : Int} (ha : -2147483648 ≤ a ∧ a < 2147483648) (hb : -2147483648 ≤ b ∧ b < 2147483648) (hc : -2147483648 ≤ c ∧ c < 2147483648) (hd : -2147483648 ≤ d ∧ d < 2147483648) : fs_C mX7_isPacket 1 [.inl a, .inl b, .inl c, .inl d] σ (fun x τ => x = some (if (0 ≤ a ∧ a ≤ 63) ∧ (0 ≤ b ∧ b ≤ 63) ∧ (0 ≤ c ∧ c ≤ 63) ∧ 0 ≤ d ∧ d ≤ 3 then 1 else 0) ∧ τ = σ) := by
  refine fs_C.intro [some (.inl a), some (.inl b), some (.inl c), some (.inl d)] fs_oX7_isPacket (Nat.le_of_ble_eq_true rfl) rfl ?_
  refine fr_iload_n 1 dX7_isPacket_0 rfl rfl ?_
  refine fr_iconst 2 dX7_isPacket_1 rfl ?_
  refine fr_bipush 4 dX7_isPacket_2 rfl (by decide) ?_
  refine fr_callSi 7 (M2 := mX7_in) [_, _, _] dX7_isPacket_4 rfl fs_mX7_100 fs_oX7_in fs_sX7_in rfl (fs_Γ_rm (d := 0) (by decide)) (Nat.le_of_ble_eq_true rfl) rfl ?_
  refine (cM_in (by omega) (by omega) (by omega)).ci ?_
  refine fr_if_eq 43 10 dX7_isPacket_7 rfl rfl (by omega) (fun h7 => ?_) (fun h7 => ?_)
  · refine fr_iconst 44 dX7_isPacket_43 rfl ?_
    refine fr_zret dX7_isPacket_44 rfl (by omega) ?_
    exact ⟨congrArg some (by split <;> omega), rfl⟩
  · refine fr_iload_n 11 dX7_isPacket_10 rfl rfl ?_
    refine fr_iconst 12 dX7_isPacket_11 rfl ?_
    refine fr_bipush 14 dX7_isPacket_12 rfl (by decide) ?_
    refine fr_callSi 17 (M2 := mX7_in) [_, _, _] dX7_isPacket_14 rfl fs_mX7_100 fs_oX7_in fs_sX7_in rfl (fs_Γ_rm (d := 0) (by decide)) (Nat.le_of_ble_eq_true rfl) rfl ?_
    refine (cM_in (by omega) (by omega) (by omega)).ci ?_
    refine fr_if_eq 43 20 dX7_isPacket_17 rfl rfl (by omega) (fun h17 => ?_) (fun h17 => ?_)
    · refine fr_iconst 44 dX7_isPacket_43 rfl ?_
      refine fr_zret dX7_isPacket_44 rfl (by omega) ?_
      exact ⟨congrArg some (by split <;> omega), rfl⟩
    · refine fr_iload_n 21 dX7_isPacket_20 rfl rfl ?_
      refine fr_iconst 22 dX7_isPacket_21 rfl ?_
      refine fr_bipush 24 dX7_isPacket_22 rfl (by decide) ?_
      refine fr_callSi 27 (M2 := mX7_in) [_, _, _] dX7_isPacket_24 rfl fs_mX7_100 fs_oX7_in fs_sX7_in rfl (fs_Γ_rm (d := 0) (by decide)) (Nat.le_of_ble_eq_true rfl) rfl ?_
      refine (cM_in (by omega) (by omega) (by omega)).ci ?_
      refine fr_if_eq 43 30 dX7_isPacket_27 rfl rfl (by omega) (fun h27 => ?_) (fun h27 => ?_)
      · refine fr_iconst 44 dX7_isPacket_43 rfl ?_
        refine fr_zret dX7_isPacket_44 rfl (by omega) ?_
        exact ⟨congrArg some (by split <;> omega), rfl⟩
      · refine fr_iload_n 31 dX7_isPacket_30 rfl rfl ?_
        refine fr_iconst 32 dX7_isPacket_31 rfl ?_
        refine fr_iconst 33 dX7_isPacket_32 rfl ?_
        refine fr_callSi 36 (M2 := mX7_in) [_, _, _] dX7_isPacket_33 rfl fs_mX7_100 fs_oX7_in fs_sX7_in rfl (fs_Γ_rm (d := 0) (by decide)) (Nat.le_of_ble_eq_true rfl) rfl ?_
        refine (cM_in (by omega) (by omega) (by omega)).ci ?_
        refine fr_if_eq 43 39 dX7_isPacket_36 rfl rfl (by omega) (fun h36 => ?_) (fun h36 => ?_)
        · refine fr_iconst 44 dX7_isPacket_43 rfl ?_
          refine fr_zret dX7_isPacket_44 rfl (by omega) ?_
          exact ⟨congrArg some (by split <;> omega), rfl⟩
        · refine fr_iconst 40 dX7_isPacket_39 rfl ?_
          refine fr_goto 44 dX7_isPacket_40 rfl ?_
          refine fr_zret dX7_isPacket_44 rfl (by omega) ?_
          exact ⟨congrArg some (by split <;> omega), rfl⟩
set_option maxRecDepth 100000 in
set_option maxHeartbeats 4000000 in
theorem cM_has {σ : fs_S} {m i : Nat} (hm : m < 65536) (hi : i < 32) : fs_C mX7_has 0 [.inl (m : Int), .inl (i : Int)] σ (fun x τ => x = some (if m.testBit i then 1 else 0) ∧ τ = σ) := by
  refine fs_C.intro [some (.inl (m : Int)), some (.inl (i : Int))] fs_oX7_has (Nat.le_of_ble_eq_true rfl) rfl ?_
  refine fr_iload_n 1 dX7_has_0 rfl rfl ?_
  refine fr_iload_n 2 dX7_has_1 rfl rfl ?_
  refine fr_ishr 3 dX7_has_2 rfl ?_
  refine fr_iconst 4 dX7_has_3 rfl ?_
  refine fr_iand 5 dX7_has_4 rfl ?_
  refine fr_top (fm_bit (by omega) hi) ?_
  refine fr_iconst 6 dX7_has_5 rfl ?_
  refine fr_icmp_ne 13 9 dX7_has_6 rfl rfl (by split <;> decide) (by decide) (fun h6 => ?_) (fun h6 => ?_)
  · refine fr_iconst 14 dX7_has_13 rfl ?_
    refine fr_zret dX7_has_14 rfl (by omega) ?_
    exact ⟨congrArg some (by split at h6 <;> simp_all), rfl⟩
  · refine fr_iconst 10 dX7_has_9 rfl ?_
    refine fr_goto 14 dX7_has_10 rfl ?_
    refine fr_zret dX7_has_14 rfl (by omega) ?_
    exact ⟨congrArg some (by split at h6 <;> simp_all), rfl⟩
set_option maxRecDepth 100000 in
set_option maxHeartbeats 4000000 in
theorem cM_lowest {σ : fs_S} {m : Nat} (hm : m < 65536) : fs_C mX7_lowest 1 [.inl (m : Int)] σ (fun x τ => x = some (lowb m) ∧ τ = σ) := by
  refine fs_C.intro [some (.inl (m : Int)), none] fs_oX7_lowest (Nat.le_of_ble_eq_true rfl) rfl ?_
  have key : ∀ (j i : Nat), i + j = 16 → lowg m j i = lowg m 16 0 → fs_W (fs_Γ 1 (fun x τ => x = some (lowb m) ∧ τ = σ)) mX7_lowest 2 [some (.inl (m : Int)), some (.inl (i : Int))] [] σ := by
    intro j
    induction j with
    | zero =>
      intro i hi hl
      refine fr_iload_n 3 dX7_lowest_2 rfl rfl ?_
      refine fr_bipush 5 dX7_lowest_3 rfl (by decide) ?_
      refine fr_icmp_ge 22 8 dX7_lowest_5 rfl rfl (by omega) (by omega) (fun h5 => ?_) (fun h5 => ?_)
      · refine fr_iload_n 23 dX7_lowest_22 rfl rfl ?_
        refine fr_iret dX7_lowest_23 rfl ?_
        exact ⟨congrArg some (by unfold lowb; rw [← hl]; rfl), rfl⟩
      · exact absurd h5 (by omega)
    | succ j ih =>
      intro i hi hl
      refine fr_iload_n 3 dX7_lowest_2 rfl rfl ?_
      refine fr_bipush 5 dX7_lowest_3 rfl (by decide) ?_
      refine fr_icmp_ge 22 8 dX7_lowest_5 rfl rfl (by omega) (by omega) (fun h5 => ?_) (fun h5 => ?_)
      · exact absurd h5 (by omega)
      · refine fr_iload_n 9 dX7_lowest_8 rfl rfl ?_
        refine fr_iload_n 10 dX7_lowest_9 rfl rfl ?_
        refine fr_callSi 13 (M2 := mX7_has) [_, _] dX7_lowest_10 rfl fs_mX7_107 fs_oX7_has fs_sX7_has rfl (fs_Γ_rm (d := 0) (by decide)) (Nat.le_of_ble_eq_true rfl) rfl ?_
        refine (cM_has hm (by omega)).ci ?_
        refine fr_if_ne 22 16 dX7_lowest_13 rfl rfl (by split <;> decide) (fun h13 => ?_) (fun h13 => ?_)
        · refine fr_iload_n 23 dX7_lowest_22 rfl rfl ?_
          refine fr_iret dX7_lowest_23 rfl ?_
          exact ⟨congrArg some (by unfold lowb; rw [← hl, lowg]; split at h13 <;> simp_all), rfl⟩
        · refine fr_iinc 19 [_, _] dX7_lowest_16 rfl rfl rfl ?_
          refine fr_goto 2 dX7_lowest_19 rfl ?_
          exact ih (i + 1) (by omega) (by rw [← hl]; rw [lowg]; split at h13 <;> simp_all)
  refine fr_iconst 1 dX7_lowest_0 rfl ?_
  refine fr_istore_n 2 [_, _] dX7_lowest_1 rfl (Nat.le_of_ble_eq_true rfl) rfl ?_
  exact key 16 0 rfl rfl
set_option maxRecDepth 100000 in
set_option maxHeartbeats 4000000 in
theorem cM_bits {σ : fs_S} {m : Nat} (hm : m < 65536) : fs_C mX7_bits 0 [.inl (m : Int)] σ (fun x τ => x = some (pop m) ∧ τ = σ) := by
  refine fs_C.intro [some (.inl (m : Int)), none, none] fs_oX7_bits (Nat.le_of_ble_eq_true rfl) rfl ?_
  have key : ∀ (j i : Nat), i + j = 16 → fs_W (fs_Γ 0 (fun x τ => x = some (pop m) ∧ τ = σ)) mX7_bits 4 [some (.inl (m : Int)), some (.inl (smI (fun i => if m.testBit i.toNat then 1 else 0) (i : Int))), some (.inl (i : Int))] [] σ := by
    intro j
    induction j with
    | zero =>
      intro i hi
      refine fr_iload_n 5 dX7_bits_4 rfl rfl ?_
      refine fr_bipush 7 dX7_bits_5 rfl (by decide) ?_
      refine fr_icmp_ge 24 10 dX7_bits_7 rfl rfl (by omega) (by omega) (fun h7 => ?_) (fun h7 => ?_)
      · refine fr_iload_n 25 dX7_bits_24 rfl rfl ?_
        refine fr_iret dX7_bits_25 rfl ?_
        exact ⟨congrArg some (by rw [show i = 16 by omega]; rfl), rfl⟩
      · exact absurd h7 (by omega)
    | succ j ih =>
      intro i hi
      refine fr_iload_n 5 dX7_bits_4 rfl rfl ?_
      refine fr_bipush 7 dX7_bits_5 rfl (by decide) ?_
      refine fr_icmp_ge 24 10 dX7_bits_7 rfl rfl (by omega) (by omega) (fun h7 => ?_) (fun h7 => ?_)
      · exact absurd h7 (by omega)
      · refine fr_iload_n 11 dX7_bits_10 rfl rfl ?_
        refine fr_iload_n 12 dX7_bits_11 rfl rfl ?_
        refine fr_iload_n 13 dX7_bits_12 rfl rfl ?_
        refine fr_ishr 14 dX7_bits_13 rfl ?_
        refine fr_iconst 15 dX7_bits_14 rfl ?_
        refine fr_iand 16 dX7_bits_15 rfl ?_
        refine fr_top (fm_bit (by omega) (by omega)) ?_
        refine fr_iadd 17 dX7_bits_16 rfl ?_
        refine fr_top (y := smI (fun i => if m.testBit i.toNat then 1 else 0) ((i + 1 : Nat) : Int)) (by rw [show ((i + 1 : Nat) : Int) = (i : Int) + 1 by omega, smI_s _ (by omega)]; rfl) ?_
        refine fr_istore_n 18 [_, _, _] dX7_bits_17 rfl (Nat.le_of_ble_eq_true rfl) rfl ?_
        refine fr_iinc 21 [_, _, _] dX7_bits_18 rfl rfl rfl ?_
        refine fr_goto 4 dX7_bits_21 rfl ?_
        exact ih (i + 1) (by omega)
  refine fr_iconst 1 dX7_bits_0 rfl ?_
  refine fr_istore_n 2 [_, _, _] dX7_bits_1 rfl (Nat.le_of_ble_eq_true rfl) rfl ?_
  refine fr_iconst 3 dX7_bits_2 rfl ?_
  refine fr_istore_n 4 [_, _, _] dX7_bits_3 rfl (Nat.le_of_ble_eq_true rfl) rfl ?_
  exact key 16 0 rfl
set_option maxRecDepth 100000 in
set_option maxHeartbeats 4000000 in
theorem cM_change {σ : fs_S} : fs_C mX7_change 0 [.inr 0] σ (fun x τ => x = none ∧ (∀ i, 7 ≤ i → i ≤ 10 → τ 0 i = 0) ∧ (∀ k i, ¬ (k = 0 ∧ 7 ≤ i ∧ i ≤ 10) → τ k i = σ k i)) := by
  refine fs_C.intro [some (.inr 0)] fs_oX7_change (Nat.le_of_ble_eq_true rfl) rfl ?_
  refine fr_aload_n 1 dX7_change_0 rfl rfl ?_
  refine fr_iconst 2 dX7_change_1 rfl ?_
  refine fr_putz 5 7 dX7_change_2 rfl fs_kX7_111 fs_pX7_7 rfl fs_l0 rfl (by omega) ?_
  refine fr_aload_n 6 dX7_change_5 rfl rfl ?_
  refine fr_iconst 7 dX7_change_6 rfl ?_
  refine fr_putz 10 8 dX7_change_7 rfl fs_kX7_115 fs_pX7_8 rfl fs_l0 rfl (by omega) ?_
  refine fr_aload_n 11 dX7_change_10 rfl rfl ?_
  refine fr_iconst 12 dX7_change_11 rfl ?_
  refine fr_putz 15 9 dX7_change_12 rfl fs_kX7_118 fs_pX7_9 rfl fs_l0 rfl (by omega) ?_
  refine fr_aload_n 16 dX7_change_15 rfl rfl ?_
  refine fr_iconst 17 dX7_change_16 rfl ?_
  refine fr_putz 20 10 dX7_change_17 rfl fs_kX7_121 fs_pX7_10 rfl fs_l0 rfl (by omega) ?_
  refine fr_vret dX7_change_20 rfl ?_
  refine ⟨rfl, fun i a b => ?_, fun k i h => ?_⟩
  · unfold fs_u; (repeat' split) <;> omega
  · unfold fs_u; (repeat' split) <;> omega
set_option maxRecDepth 100000 in
set_option maxHeartbeats 4000000 in
theorem cM_clearDraft {σ : fs_S} : fs_C mX7_clearDraft 2 [.inr 0] σ (fun x τ => x = none ∧ (∀ f, 0 ≤ f → f < 4 → τ 1 (64 + f) = 0 ∧ τ 2 (64 + f) = gr f) ∧ (∀ k i, ¬ ((k = 1 ∨ k = 2) ∧ 64 ≤ i ∧ i < 68) → τ k i = σ k i)) := by
  refine fs_C.intro [some (.inr 0), none] fs_oX7_clearDraft (Nat.le_of_ble_eq_true rfl) rfl ?_
  have key : ∀ (m : Nat) (k : Int) (τ : fs_S), 0 ≤ k → k ≤ 4 → 4 - k < m → (∀ f, 0 ≤ f → f < k → τ 1 (64 + f) = 0 ∧ τ 2 (64 + f) = gr f) → (∀ k i, ¬ ((k = 1 ∨ k = 2) ∧ 64 ≤ i ∧ i < 68) → τ k i = σ k i) → fs_W (fs_Γ 2 (fun x τ => x = none ∧ (∀ f, 0 ≤ f → f < 4 → τ 1 (64 + f) = 0 ∧ τ 2 (64 + f) = gr f) ∧ (∀ k i, ¬ ((k = 1 ∨ k = 2) ∧ 64 ≤ i ∧ i < 68) → τ k i = σ k i))) mX7_clearDraft 2 [some (.inr 0), some (.inl k)] [] τ := by
    intro m
    induction m with
    | zero => intro k τ h0 h1 h2; omega
    | succ m ih =>
      intro k τ h0 h1 h2 hA hF
      refine fr_iload_n 3 dX7_clearDraft_2 rfl rfl ?_
      refine fr_iconst 4 dX7_clearDraft_3 rfl ?_
      refine fr_icmp_ge 36 7 dX7_clearDraft_4 rfl rfl (by omega) (by omega) (fun h4 => ?_) (fun h4 => ?_)
      · refine fr_vret dX7_clearDraft_36 rfl ?_
        exact ⟨rfl, fun f a b => hA f a (by omega), hF⟩
      · refine fr_aload_n 8 dX7_clearDraft_7 rfl rfl ?_
        refine fr_getr 11 1 dX7_clearDraft_8 rfl fs_kX7_7 fs_l0 rfl ?_
        refine fr_bipush 13 dX7_clearDraft_11 rfl (by decide) ?_
        refine fr_iload_n 14 dX7_clearDraft_13 rfl rfl ?_
        refine fr_iadd 15 dX7_clearDraft_14 rfl ?_
        refine fr_iconst 16 dX7_clearDraft_15 rfl ?_
        refine fr_iast 17 dX7_clearDraft_16 rfl fs_l1 (by omega) ?_
        refine fr_aload_n 18 dX7_clearDraft_17 rfl rfl ?_
        refine fr_getr 21 2 dX7_clearDraft_18 rfl fs_kX7_13 fs_l0 rfl ?_
        refine fr_bipush 23 dX7_clearDraft_21 rfl (by decide) ?_
        refine fr_iload_n 24 dX7_clearDraft_23 rfl rfl ?_
        refine fr_iadd 25 dX7_clearDraft_24 rfl ?_
        refine fr_iload_n 26 dX7_clearDraft_25 rfl rfl ?_
        refine fr_callSi 29 (M2 := mX7_most) [_] dX7_clearDraft_26 rfl fs_mX7_124 fs_oX7_most fs_sX7_most rfl (fs_Γ_rm (d := 1) (by decide)) (Nat.le_of_ble_eq_true rfl) rfl ?_
        refine (cM_most (by omega)).ci ?_
        refine fr_iast 30 dX7_clearDraft_29 rfl fs_l2 (by omega) ?_
        refine fr_iinc 33 [_, _] dX7_clearDraft_30 rfl rfl rfl ?_
        refine fr_goto 2 dX7_clearDraft_33 rfl ?_
        refine ih (k + 1) _ (by omega) (by omega) (by omega) (fun f a b => ?_) (fun k2 i h => ?_)
        · by_cases e : f = k
          · subst e; exact ⟨by unfold fs_u; (repeat' split) <;> omega, by unfold fs_u; (repeat' split) <;> omega⟩
          · have := hA f a (by omega); exact ⟨by unfold fs_u; (repeat' split) <;> omega, by unfold fs_u; (repeat' split) <;> omega⟩
        · have := hF k2 i h; unfold fs_u; (repeat' split) <;> omega
  refine fr_iconst 1 dX7_clearDraft_0 rfl ?_
  refine fr_istore_n 2 [_, _] dX7_clearDraft_1 rfl (Nat.le_of_ble_eq_true rfl) rfl ?_
  exact key 5 0 σ (by omega) (by omega) (by omega) (fun f a b => by omega) (fun _ _ _ => rfl)
set_option maxRecDepth 100000 in
set_option maxHeartbeats 4000000 in
theorem cM_isAhead {σ : fs_S} {t : rt} {q r : Int} (hw : twf t) (hR : RM σ t) (h0 : 0 ≤ q) (h1 : q < tn t) (g0 : 0 ≤ r) (g1 : r < tn t) : fs_C mX7_isAhead 0 [.inr 0, .inl q, .inl r] σ (fun x τ => x = some (if tah t q r then 1 else 0) ∧ τ = σ) := by
  refine fs_C.intro [some (.inr 0), some (.inl q), some (.inl r)] fs_oX7_isAhead (Nat.le_of_ble_eq_true rfl) rfl ?_
  have hn := hw.1
  have eq := (hR.2.2 q h0 h1).1
  have er := (hR.2.2 r g0 g1).1
  have rq := (hw.2.2 q h0 h1).1
  have rr := (hw.2.2 r g0 g1).1
  refine fr_aload_n 1 dX7_isAhead_0 rfl rfl ?_
  refine fr_getr 4 3 dX7_isAhead_1 rfl fs_kX7_16 fs_l0 rfl ?_
  refine fr_iload_n 5 dX7_isAhead_4 rfl rfl ?_
  refine fr_iald 6 dX7_isAhead_5 rfl fs_l3 (by omega) ?_
  refine fr_aload_n 7 dX7_isAhead_6 rfl rfl ?_
  refine fr_getr 10 3 dX7_isAhead_7 rfl fs_kX7_16 fs_l0 rfl ?_
  refine fr_iload_n 11 dX7_isAhead_10 rfl rfl ?_
  refine fr_iald 12 dX7_isAhead_11 rfl fs_l3 (by omega) ?_
  refine fr_icmp_lt 35 15 dX7_isAhead_12 rfl rfl (by omega) (by omega) (fun h12 => ?_) (fun h12 => ?_)
  · refine fr_iconst 36 dX7_isAhead_35 rfl ?_
    refine fr_goto 40 dX7_isAhead_36 rfl ?_
    refine fr_zret dX7_isAhead_40 rfl (by omega) ?_
    exact ⟨congrArg some (by simp only [tah, decide_eq_true_eq]; split <;> omega), rfl⟩
  · refine fr_aload_n 16 dX7_isAhead_15 rfl rfl ?_
    refine fr_getr 19 3 dX7_isAhead_16 rfl fs_kX7_16 fs_l0 rfl ?_
    refine fr_iload_n 20 dX7_isAhead_19 rfl rfl ?_
    refine fr_iald 21 dX7_isAhead_20 rfl fs_l3 (by omega) ?_
    refine fr_aload_n 22 dX7_isAhead_21 rfl rfl ?_
    refine fr_getr 25 3 dX7_isAhead_22 rfl fs_kX7_16 fs_l0 rfl ?_
    refine fr_iload_n 26 dX7_isAhead_25 rfl rfl ?_
    refine fr_iald 27 dX7_isAhead_26 rfl fs_l3 (by omega) ?_
    refine fr_icmp_ne 39 30 dX7_isAhead_27 rfl rfl (by omega) (by omega) (fun h27 => ?_) (fun h27 => ?_)
    · refine fr_iconst 40 dX7_isAhead_39 rfl ?_
      refine fr_zret dX7_isAhead_40 rfl (by omega) ?_
      exact ⟨congrArg some (by simp only [tah, decide_eq_true_eq]; split <;> omega), rfl⟩
    · refine fr_iload_n 31 dX7_isAhead_30 rfl rfl ?_
      refine fr_iload_n 32 dX7_isAhead_31 rfl rfl ?_
      refine fr_icmp_ge 39 35 dX7_isAhead_32 rfl rfl (by omega) (by omega) (fun h32 => ?_) (fun h32 => ?_)
      · refine fr_iconst 40 dX7_isAhead_39 rfl ?_
        refine fr_zret dX7_isAhead_40 rfl (by omega) ?_
        exact ⟨congrArg some (by simp only [tah, decide_eq_true_eq]; split <;> omega), rfl⟩
      · refine fr_iconst 36 dX7_isAhead_35 rfl ?_
        refine fr_goto 40 dX7_isAhead_36 rfl ?_
        refine fr_zret dX7_isAhead_40 rfl (by omega) ?_
        exact ⟨congrArg some (by simp only [tah, decide_eq_true_eq]; split <;> omega), rfl⟩
set_option maxRecDepth 100000 in
set_option maxHeartbeats 4000000 in
theorem cM_aheadOf {σ : fs_S} {t : rt} {r : Int} (hw : twf t) (hR : RM σ t) (g0 : 0 ≤ r) (g1 : r < tn t) : fs_C mX7_aheadOf 1 [.inr 0, .inl r] σ (fun x τ => x = some (tpl t r) ∧ τ = σ) := by
  refine fs_C.intro [some (.inr 0), some (.inl r), none, none] fs_oX7_aheadOf (Nat.le_of_ble_eq_true rfl) rfl ?_
  have hn := hw.1
  have hm := hR.1
  have key : ∀ (m : Nat) (k : Int), 0 ≤ k → k ≤ tn t → tn t - k < m → fs_W (fs_Γ 1 (fun x τ => x = some (tpl t r) ∧ τ = σ)) mX7_aheadOf 4 [some (.inr 0), some (.inl r), some (.inl (smI (fun q => if tah t q r then 1 else 0) k)), some (.inl k)] [] σ := by
    intro m
    induction m with
    | zero => intro k h0 h1 h2; omega
    | succ m ih =>
      intro k h0 h1 h2
      refine fr_iload_n 5 dX7_aheadOf_4 rfl rfl ?_
      refine fr_aload_n 6 dX7_aheadOf_5 rfl rfl ?_
      refine fr_geti 9 0 dX7_aheadOf_6 rfl fs_kX7_104 rfl fs_l0 rfl ?_
      refine fr_icmp_ge 35 12 dX7_aheadOf_9 rfl rfl (by omega) (by omega) (fun h9 => ?_) (fun h9 => ?_)
      · refine fr_iload_n 36 dX7_aheadOf_35 rfl rfl ?_
        refine fr_iret dX7_aheadOf_36 rfl ?_
        exact ⟨congrArg some (by rw [show k = tn t by omega]; rfl), rfl⟩
      · refine fr_iload_n 13 dX7_aheadOf_12 rfl rfl ?_
        refine fr_aload_n 14 dX7_aheadOf_13 rfl rfl ?_
        refine fr_iload_n 15 dX7_aheadOf_14 rfl rfl ?_
        refine fr_iload_n 16 dX7_aheadOf_15 rfl rfl ?_
        refine fr_callVi 19 (M2 := mX7_isAhead) [_, _] dX7_aheadOf_16 rfl fs_mX7_137 fs_oX7_isAhead fs_iX7_isAhead fs_l0 rfl rfl (fs_Γ_rm (d := 0) (by decide)) (Nat.le_of_ble_eq_true rfl) rfl ?_
        refine (cM_isAhead hw hR h0 (by omega) g0 g1).ci ?_
        refine fr_if_eq 26 22 dX7_aheadOf_19 rfl rfl (by omega) (fun h19 => ?_) (fun h19 => ?_)
        · refine fr_iconst 27 dX7_aheadOf_26 rfl ?_
          refine fr_iadd 28 dX7_aheadOf_27 rfl ?_
          refine fr_top (y := smI (fun q => if tah t q r then 1 else 0) (k + 1)) (by rw [smI_s _ h0]; split at h19 <;> simp_all) ?_
          refine fr_istore_n 29 [_, _, _, _] dX7_aheadOf_28 rfl (Nat.le_of_ble_eq_true rfl) rfl ?_
          refine fr_iinc 32 [_, _, _, _] dX7_aheadOf_29 rfl rfl rfl ?_
          refine fr_goto 4 dX7_aheadOf_32 rfl ?_
          exact ih (k + 1) (by omega) (by omega) (by omega)
        · refine fr_iconst 23 dX7_aheadOf_22 rfl ?_
          refine fr_goto 27 dX7_aheadOf_23 rfl ?_
          refine fr_iadd 28 dX7_aheadOf_27 rfl ?_
          refine fr_top (y := smI (fun q => if tah t q r then 1 else 0) (k + 1)) (by rw [smI_s _ h0]; split at h19 <;> simp_all) ?_
          refine fr_istore_n 29 [_, _, _, _] dX7_aheadOf_28 rfl (Nat.le_of_ble_eq_true rfl) rfl ?_
          refine fr_iinc 32 [_, _, _, _] dX7_aheadOf_29 rfl rfl rfl ?_
          refine fr_goto 4 dX7_aheadOf_32 rfl ?_
          exact ih (k + 1) (by omega) (by omega) (by omega)
  refine fr_iconst 1 dX7_aheadOf_0 rfl ?_
  refine fr_istore_n 2 [_, _, _, _] dX7_aheadOf_1 rfl (Nat.le_of_ble_eq_true rfl) rfl ?_
  refine fr_iconst 3 dX7_aheadOf_2 rfl ?_
  refine fr_istore_n 4 [_, _, _, _] dX7_aheadOf_3 rfl (Nat.le_of_ble_eq_true rfl) rfl ?_
  exact key ((tn t).toNat + 1) 0 (by omega) (by omega) (by omega)
set_option maxRecDepth 100000 in
set_option maxHeartbeats 4000000 in
theorem cM_takersOf {σ : fs_S} {t : rt} {f a b : Int} (hw : twf t) (hR : RM σ t) (hO : ∀ p, 0 ≤ p → p < tn t → σ 5 p = tod t p) (hf : 0 ≤ f ∧ f < 4) (ha : -2147483648 ≤ a ∧ a < 2147483648) (hb : -2147483648 ≤ b ∧ b < 2147483648) : fs_C mX7_takersOf 0 [.inr 0, .inl f, .inl a, .inl b] σ (fun r τ => r = some ((tkm t f a b : Nat) : Int) ∧ τ = σ) := by
  refine fs_C.intro [some (.inr 0), some (.inl f), some (.inl a), some (.inl b), none, none, none] fs_oX7_takersOf (Nat.le_of_ble_eq_true rfl) rfl ?_
  have hn := hw.1
  have hm := hR.1
  have key : ∀ (m : Nat) (k : Int) (x6 : Option fs_V), 0 ≤ k → k ≤ tn t → tn t - k < m → fs_W (fs_Γ 0 (fun r τ => r = some ((tkm t f a b : Nat) : Int) ∧ τ = σ)) mX7_takersOf 6 [some (.inr 0), some (.inl f), some (.inl a), some (.inl b), some (.inl ((bm (tkP t f a b) k.toNat : Nat) : Int)), some (.inl k), x6] [] σ := by
    intro m
    induction m with
    | zero => intro k x6 h0 h1 h2; omega
    | succ m ih =>
      intro k x6 h0 h1 h2
      refine fr_iload 8 dX7_takersOf_6 rfl rfl ?_
      refine fr_aload_n 9 dX7_takersOf_8 rfl rfl ?_
      refine fr_geti 12 0 dX7_takersOf_9 rfl fs_kX7_104 rfl fs_l0 rfl ?_
      refine fr_icmp_ge 69 15 dX7_takersOf_12 rfl rfl (by omega) (by omega) (fun h12 => ?_) (fun h12 => ?_)
      · refine fr_iload 71 dX7_takersOf_69 rfl rfl ?_
        refine fr_iret dX7_takersOf_71 rfl ?_
        exact ⟨by rw [show k = tn t by omega]; rfl, rfl⟩
      · have hod := tod_r (t := t) h0 (by omega)
        have hlo := hw.2.1 (tod t k) f hod.1 hod.2.1 hf.1 hf.2
        have hg := gr_r f
        refine fr_iconst 16 dX7_takersOf_15 rfl ?_
        refine fr_aload_n 17 dX7_takersOf_16 rfl rfl ?_
        refine fr_getr 20 5 dX7_takersOf_17 rfl fs_kX7_29 fs_l0 rfl ?_
        refine fr_iload 22 dX7_takersOf_20 rfl rfl ?_
        refine fr_iald 23 dX7_takersOf_22 rfl fs_l5 (by omega) ?_
        refine fr_top (hO k h0 (by omega)) ?_
        refine fr_imul 24 dX7_takersOf_23 rfl ?_
        refine fr_iload_n 25 dX7_takersOf_24 rfl rfl ?_
        refine fr_iadd 26 dX7_takersOf_25 rfl ?_
        refine fr_istore 28 [_, _, _, _, _, _, _] dX7_takersOf_26 rfl (Nat.le_of_ble_eq_true rfl) rfl ?_
        refine fr_iload 30 dX7_takersOf_28 rfl rfl ?_
        refine fr_aload_n 31 dX7_takersOf_30 rfl rfl ?_
        refine fr_getr 34 1 dX7_takersOf_31 rfl fs_kX7_7 fs_l0 rfl ?_
        refine fr_iload 36 dX7_takersOf_34 rfl rfl ?_
        refine fr_iald 37 dX7_takersOf_36 rfl fs_l1 (by omega) ?_
        refine fr_top (hR.2.1 _ f hod.1 hod.2.1 hf.1 hf.2).1 ?_
        refine fr_iload_n 38 dX7_takersOf_37 rfl rfl ?_
        refine fr_icmp_gt 59 41 dX7_takersOf_38 rfl rfl (by omega) (by omega) (fun h38 => ?_) (fun h38 => ?_)
        · refine fr_iconst 60 dX7_takersOf_59 rfl ?_
          refine fr_ior 61 dX7_takersOf_60 rfl ?_
          refine fr_top (y := ((bm (tkP t f a b) (k + 1).toNat : Nat) : Int)) (by first | exact bmI_t h0 (by omega) (decide_eq_true (by omega)) | exact bmI_f h0 (by omega) (decide_eq_false (by omega))) ?_
          refine fr_istore 63 [_, _, _, _, _, _, _] dX7_takersOf_61 rfl (Nat.le_of_ble_eq_true rfl) rfl ?_
          refine fr_iinc 66 [_, _, _, _, _, _, _] dX7_takersOf_63 rfl rfl rfl ?_
          refine fr_goto 6 dX7_takersOf_66 rfl ?_
          exact ih (k + 1) _ (by omega) (by omega) (by omega)
        · refine fr_aload_n 42 dX7_takersOf_41 rfl rfl ?_
          refine fr_getr 45 2 dX7_takersOf_42 rfl fs_kX7_13 fs_l0 rfl ?_
          refine fr_iload 47 dX7_takersOf_45 rfl rfl ?_
          refine fr_iald 48 dX7_takersOf_47 rfl fs_l2 (by omega) ?_
          refine fr_top (hR.2.1 _ f hod.1 hod.2.1 hf.1 hf.2).2 ?_
          refine fr_iload_n 49 dX7_takersOf_48 rfl rfl ?_
          refine fr_icmp_lt 59 52 dX7_takersOf_49 rfl rfl (by omega) (by omega) (fun h49 => ?_) (fun h49 => ?_)
          · refine fr_iconst 60 dX7_takersOf_59 rfl ?_
            refine fr_ior 61 dX7_takersOf_60 rfl ?_
            refine fr_top (y := ((bm (tkP t f a b) (k + 1).toNat : Nat) : Int)) (by first | exact bmI_t h0 (by omega) (decide_eq_true (by omega)) | exact bmI_f h0 (by omega) (decide_eq_false (by omega))) ?_
            refine fr_istore 63 [_, _, _, _, _, _, _] dX7_takersOf_61 rfl (Nat.le_of_ble_eq_true rfl) rfl ?_
            refine fr_iinc 66 [_, _, _, _, _, _, _] dX7_takersOf_63 rfl rfl rfl ?_
            refine fr_goto 6 dX7_takersOf_66 rfl ?_
            exact ih (k + 1) _ (by omega) (by omega) (by omega)
          · refine fr_iconst 53 dX7_takersOf_52 rfl ?_
            refine fr_iload 55 dX7_takersOf_53 rfl rfl ?_
            refine fr_ishl 56 dX7_takersOf_55 rfl ?_
            refine fr_goto 60 dX7_takersOf_56 rfl ?_
            refine fr_ior 61 dX7_takersOf_60 rfl ?_
            refine fr_top (y := ((bm (tkP t f a b) (k + 1).toNat : Nat) : Int)) (by first | exact bmI_t h0 (by omega) (decide_eq_true (by omega)) | exact bmI_f h0 (by omega) (decide_eq_false (by omega))) ?_
            refine fr_istore 63 [_, _, _, _, _, _, _] dX7_takersOf_61 rfl (Nat.le_of_ble_eq_true rfl) rfl ?_
            refine fr_iinc 66 [_, _, _, _, _, _, _] dX7_takersOf_63 rfl rfl rfl ?_
            refine fr_goto 6 dX7_takersOf_66 rfl ?_
            exact ih (k + 1) _ (by omega) (by omega) (by omega)
  refine fr_iconst 1 dX7_takersOf_0 rfl ?_
  refine fr_istore 3 [_, _, _, _, _, _, _] dX7_takersOf_1 rfl (Nat.le_of_ble_eq_true rfl) rfl ?_
  refine fr_iconst 4 dX7_takersOf_3 rfl ?_
  refine fr_istore 6 [_, _, _, _, _, _, _] dX7_takersOf_4 rfl (Nat.le_of_ble_eq_true rfl) rfl ?_
  exact key ((tn t).toNat + 1) 0 _ (by omega) (by omega) (by omega)
/-- what order leaves as it was -/
abbrev frO (σ τ : fs_S) : Prop := ∀ k i, k ≠ 5 → k ≠ 6 → ¬ (k = 0 ∧ i = 7) → τ k i = σ k i
set_option maxRecDepth 100000 in
set_option maxHeartbeats 4000000 in
theorem cM_order {σ : fs_S} {t : rt} (hw : twf t) (hR : RM σ t) (hb : σ 0 7 = 0 ∨ σ 0 7 = 1) (hv : σ 0 7 = 1 → OV σ t) : fs_C mX7_order 2 [.inr 0] σ (fun x τ => x = none ∧ OV τ t ∧ τ 0 7 = 1 ∧ frO σ τ) := by
  refine fs_C.intro [some (.inr 0), none, none] fs_oX7_order (Nat.le_of_ble_eq_true rfl) rfl ?_
  have hn := hw.1
  have hm := hR.1
  have hRt : ∀ τ, frO σ τ → RM τ t := fun τ h => hR.eq hw (h _ _ (by decide) (by decide) (by decide)) (fun k i a b _ _ => h k i (by omega) (by omega) (by omega))
  have k3 : ∀ (m : Nat) (f v : Int) (τ : fs_S), 0 ≤ f → f < 4 → 0 ≤ v → v ≤ gr f + 1 → gr f + 1 - v < m → τ 0 7 = 1 → frO σ τ → (∀ p, 0 ≤ p → p < tn t → τ 5 p = tod t p) → (∀ f' v', 0 ≤ f' → 0 ≤ v' → v' ≤ gr f' → (f' < f ∨ f' = f ∧ v' < v) → τ 6 (64 * f' + v') = ((tkm t f' v' v' : Nat) : Int)) →
      (∀ τ', τ' 0 7 = 1 → frO σ τ' → (∀ p, 0 ≤ p → p < tn t → τ' 5 p = tod t p) → (∀ f' v', 0 ≤ f' → 0 ≤ v' → v' ≤ gr f' → f' < f + 1 → τ' 6 (64 * f' + v') = ((tkm t f' v' v' : Nat) : Int)) → ∀ y, fs_W (fs_Γ 2 (fun x τ => x = none ∧ OV τ t ∧ τ 0 7 = 1 ∧ frO σ τ)) mX7_order 81 [some (.inr 0), some (.inl f), y] [] τ') →
      fs_W (fs_Γ 2 (fun x τ => x = none ∧ OV τ t ∧ τ 0 7 = 1 ∧ frO σ τ)) mX7_order 49 [some (.inr 0), some (.inl f), some (.inl v)] [] τ := by
    intro m
    induction m with
    | zero => intro f v τ h0 h1 h2 h3 h4; omega
    | succ m ih =>
      intro f v τ h0 h1 h2 h3 h4 hd hF hO hT kk
      have hg := gr_r f
      refine fr_iload_n 50 dX7_order_49 rfl rfl ?_
      refine fr_iload_n 51 dX7_order_50 rfl rfl ?_
      refine fr_callSi 54 (M2 := mX7_most) [_] dX7_order_51 rfl fs_mX7_124 fs_oX7_most fs_sX7_most rfl (fs_Γ_rm (d := 1) (by decide)) (Nat.le_of_ble_eq_true rfl) rfl ?_
      refine (cM_most (by omega)).ci ?_
      refine fr_icmp_gt 81 57 dX7_order_54 rfl rfl (by omega) (by omega) (fun h54 => ?_) (fun h54 => ?_)
      · exact kk _ hd hF hO (fun f' v' a b c d => hT f' v' a b c (by by_cases e : f' = f <;> first | (subst e; right; omega) | (left; omega))) _
      · refine fr_aload_n 58 dX7_order_57 rfl rfl ?_
        refine fr_getr 61 6 dX7_order_58 rfl fs_kX7_32 fs_l0 rfl ?_
        refine fr_bipush 63 dX7_order_61 rfl (by decide) ?_
        refine fr_iload_n 64 dX7_order_63 rfl rfl ?_
        refine fr_imul 65 dX7_order_64 rfl ?_
        refine fr_iload_n 66 dX7_order_65 rfl rfl ?_
        refine fr_iadd 67 dX7_order_66 rfl ?_
        refine fr_aload_n 68 dX7_order_67 rfl rfl ?_
        refine fr_iload_n 69 dX7_order_68 rfl rfl ?_
        refine fr_iload_n 70 dX7_order_69 rfl rfl ?_
        refine fr_iload_n 71 dX7_order_70 rfl rfl ?_
        refine fr_callVi 74 (M2 := mX7_takersOf) [_, _, _] dX7_order_71 rfl fs_mX7_143 fs_oX7_takersOf fs_iX7_takersOf fs_l0 rfl rfl (fs_Γ_rm (d := 0) (by decide)) (Nat.le_of_ble_eq_true rfl) rfl ?_
        refine (cM_takersOf hw (hRt _ hF) hO ⟨h0, h1⟩ (by omega) (by omega)).ci ?_
        refine fr_iast 75 dX7_order_74 rfl fs_l6 (by omega) ?_
        refine fr_iinc 78 [_, _, _] dX7_order_75 rfl rfl rfl ?_
        refine fr_goto 49 dX7_order_78 rfl ?_
        refine ih f (v + 1) _ h0 h1 (by omega) (by omega) (by omega) (by unfold fs_u; (repeat' split) <;> omega) (fun k i a b c => ?_) (fun p a b => ?_) (fun f' v' a b c d => ?_) kk
        · have := hF k i a b c; unfold fs_u; (repeat' split) <;> omega
        · have := hO p a b; unfold fs_u; (repeat' split) <;> omega
        · have hg' := gr_r f'
          by_cases e : f' = f ∧ v' = v
          · obtain ⟨rfl, rfl⟩ := e
            exact fs_u_eq _ _ _ _
          · rw [fs_u_ne _ (by omega)]
            exact hT f' v' a b c (by omega)
  have k2 : ∀ (m : Nat) (f : Int) (τ : fs_S) (y : Option fs_V), 0 ≤ f → f ≤ 4 → 4 - f < m → τ 0 7 = 1 → frO σ τ → (∀ p, 0 ≤ p → p < tn t → τ 5 p = tod t p) → (∀ f' v', 0 ≤ f' → 0 ≤ v' → v' ≤ gr f' → f' < f → τ 6 (64 * f' + v') = ((tkm t f' v' v' : Nat) : Int)) →
      fs_W (fs_Γ 2 (fun x τ => x = none ∧ OV τ t ∧ τ 0 7 = 1 ∧ frO σ τ)) mX7_order 42 [some (.inr 0), some (.inl f), y] [] τ := by
    intro m
    induction m with
    | zero => intro f τ y h0 h1 h2; omega
    | succ m ih =>
      intro f τ y h0 h1 h2 hd hF hO hT
      have hg := gr_r f
      refine fr_iload_n 43 dX7_order_42 rfl rfl ?_
      refine fr_iconst 44 dX7_order_43 rfl ?_
      refine fr_icmp_ge 87 47 dX7_order_44 rfl rfl (by omega) (by omega) (fun h44 => ?_) (fun h44 => ?_)
      · refine fr_vret dX7_order_87 rfl ?_
        exact ⟨rfl, ⟨hO, fun f' v' a b c d => hT f' v' a c d (by omega)⟩, hd, hF⟩
      · refine fr_iconst 48 dX7_order_47 rfl ?_
        refine fr_istore_n 49 [_, _, _] dX7_order_48 rfl (Nat.le_of_ble_eq_true rfl) rfl ?_
        refine k3 ((gr f + 1).toNat + 1) f 0 _ h0 (by omega) (by omega) (by omega) (by omega) hd hF hO (fun f' v' a b c d => hT f' v' a b c (by omega)) (fun τ' hd' hF' hO' hT' y' => ?_)
        refine fr_iinc 84 [_, _, _] dX7_order_81 rfl rfl rfl ?_
        refine fr_goto 42 dX7_order_84 rfl ?_
        exact ih (f + 1) _ _ (by omega) (by omega) (by omega) hd' hF' hO' hT'
  have k1 : ∀ (m : Nat) (k : Int) (τ : fs_S), 0 ≤ k → k ≤ tn t → tn t - k < m → τ 0 7 = 1 → frO σ τ → (∀ q, 0 ≤ q → q < k → τ 5 (tpl t q) = q) →
      fs_W (fs_Γ 2 (fun x τ => x = none ∧ OV τ t ∧ τ 0 7 = 1 ∧ frO σ τ)) mX7_order 15 [some (.inr 0), some (.inl k), none] [] τ := by
    intro m
    induction m with
    | zero => intro k τ h0 h1 h2; omega
    | succ m ih =>
      intro k τ h0 h1 h2 hd hF hI
      have hm2 := (hRt _ hF).1
      refine fr_iload_n 16 dX7_order_15 rfl rfl ?_
      refine fr_aload_n 17 dX7_order_16 rfl rfl ?_
      refine fr_geti 20 0 dX7_order_17 rfl fs_kX7_104 rfl fs_l0 rfl ?_
      refine fr_icmp_ge 40 23 dX7_order_20 rfl rfl (by omega) (by omega) (fun h20 => ?_) (fun h20 => ?_)
      · refine fr_iconst 41 dX7_order_40 rfl ?_
        refine fr_istore_n 42 [_, _, _] dX7_order_41 rfl (Nat.le_of_ble_eq_true rfl) rfl ?_
        refine k2 5 0 _ _ (by omega) (by omega) (by omega) hd hF (fun p a b => ?_) (fun f' v' a b c d => by omega)
        obtain ⟨o1, o2, o3⟩ := tod_r (t := t) a b
        have := hI (tod t p) o1 (by omega)
        rw [o3] at this
        exact this
      · refine fr_aload_n 24 dX7_order_23 rfl rfl ?_
        refine fr_getr 27 5 dX7_order_24 rfl fs_kX7_29 fs_l0 rfl ?_
        refine fr_aload_n 28 dX7_order_27 rfl rfl ?_
        refine fr_iload_n 29 dX7_order_28 rfl rfl ?_
        refine fr_callVi 32 (M2 := mX7_aheadOf) [_] dX7_order_29 rfl fs_mX7_140 fs_oX7_aheadOf fs_iX7_aheadOf fs_l0 rfl rfl (fs_Γ_rm (d := 1) (by decide)) (Nat.le_of_ble_eq_true rfl) rfl ?_
        refine (cM_aheadOf hw (hRt _ hF) h0 (by omega)).ci ?_
        have hpl := tpl_r (t := t) h0 (by omega)
        refine fr_iload_n 33 dX7_order_32 rfl rfl ?_
        refine fr_iast 34 dX7_order_33 rfl fs_l5 (by omega) ?_
        refine fr_iinc 37 [_, _, _] dX7_order_34 rfl rfl rfl ?_
        refine fr_goto 15 dX7_order_37 rfl ?_
        refine ih (k + 1) _ (by omega) (by omega) (by omega) (by unfold fs_u; (repeat' split) <;> omega) (fun k2 i a b c => ?_) (fun q a b => ?_)
        · have := hF k2 i a b c; unfold fs_u; (repeat' split) <;> omega
        · by_cases e : q = k
          · subst e
            exact fs_u_eq _ _ _ _
          · rw [fs_u_ne _ (fun z => e (tpl_inj a (by omega) h0 (by omega) z.2))]
            exact hI q a (by omega)
  refine fr_aload_n 1 dX7_order_0 rfl rfl ?_
  refine fr_geti 4 7 dX7_order_1 rfl fs_kX7_111 rfl fs_l0 rfl ?_
  refine fr_if_eq 8 7 dX7_order_4 rfl rfl (by omega) (fun h4 => ?_) (fun h4 => ?_)
  · refine fr_aload_n 9 dX7_order_8 rfl rfl ?_
    refine fr_iconst 10 dX7_order_9 rfl ?_
    refine fr_putz 13 7 dX7_order_10 rfl fs_kX7_111 fs_pX7_7 rfl fs_l0 rfl (by omega) ?_
    refine fr_iconst 14 dX7_order_13 rfl ?_
    refine fr_istore_n 15 [_, _, _] dX7_order_14 rfl (Nat.le_of_ble_eq_true rfl) rfl ?_
    refine k1 ((tn t).toNat + 1) 0 _ (by omega) (by omega) (by omega) (by unfold fs_u; (repeat' split) <;> omega) (fun k i a b c => ?_) (fun q a b => by omega)
    unfold fs_u; (repeat' split) <;> omega
  · refine fr_vret dX7_order_7 rfl ?_
    exact ⟨rfl, hv (by omega), by omega, fun _ _ _ _ _ => rfl⟩
set_option maxRecDepth 100000 in
set_option maxHeartbeats 4000000 in
theorem cM_fitting {σ : fs_S} {t : rt} {a b c d : Int} (hw : twf t) (hR : RM σ t) (hb : σ 0 7 = 0 ∨ σ 0 7 = 1) (hv : σ 0 7 = 1 → OV σ t) (ha : 0 ≤ a ∧ a ≤ 63) (hbb : 0 ≤ b ∧ b ≤ 63) (hc : 0 ≤ c ∧ c ≤ 63) (hd : 0 ≤ d ∧ d ≤ 3) : fs_C mX7_fitting 3 [.inr 0, .inl a, .inl b, .inl c, .inl d] σ (fun x τ => x = some ((tfit t a b c d : Nat) : Int) ∧ OV τ t ∧ τ 0 7 = 1 ∧ frO σ τ) := by
  refine fs_C.intro [some (.inr 0), some (.inl a), some (.inl b), some (.inl c), some (.inl d)] fs_oX7_fitting (Nat.le_of_ble_eq_true rfl) rfl ?_
  refine fr_aload_n 1 dX7_fitting_0 rfl rfl ?_
  refine fr_callVv 4 (M2 := mX7_order) [] dX7_fitting_1 rfl fs_mX7_147 fs_oX7_order fs_iX7_order fs_l0 rfl rfl (fs_Γ_rm (d := 2) (by decide)) (Nat.le_of_ble_eq_true rfl) rfl ?_
  refine (cM_order hw hR hb hv).mono ?_
  rintro _ τ ⟨rfl, hO, h7, hF⟩
  refine ⟨rfl, ?_⟩
  have q0 := hO.2 0 a (by omega) (by omega) ha.1 (by unfold gr; split <;> omega)
  have q1 := hO.2 1 b (by omega) (by omega) hbb.1 (by unfold gr; split <;> omega)
  have q2 := hO.2 2 c (by omega) (by omega) hc.1 (by unfold gr; split <;> omega)
  have q3 := hO.2 3 d (by omega) (by omega) hd.1 (by unfold gr; split <;> omega)
  rw [show (64 * 0 + a : Int) = a by omega] at q0
  rw [show (64 * 1 + b : Int) = 64 + b by omega] at q1
  rw [show (64 * 2 + c : Int) = 128 + c by omega] at q2
  rw [show (64 * 3 + d : Int) = 192 + d by omega] at q3
  have l0 := tkm_lt hw 0 a a
  have l1 := tkm_lt hw 1 b b
  have l2 := tkm_lt hw 2 c c
  have l3 := tkm_lt hw 3 d d
  refine fr_aload_n 5 dX7_fitting_4 rfl rfl ?_
  refine fr_getr 8 6 dX7_fitting_5 rfl fs_kX7_32 fs_l0 rfl ?_
  refine fr_iload_n 9 dX7_fitting_8 rfl rfl ?_
  refine fr_iald 10 dX7_fitting_9 rfl fs_l6 (by omega) ?_
  refine fr_top q0 ?_
  refine fr_aload_n 11 dX7_fitting_10 rfl rfl ?_
  refine fr_getr 14 6 dX7_fitting_11 rfl fs_kX7_32 fs_l0 rfl ?_
  refine fr_bipush 16 dX7_fitting_14 rfl (by decide) ?_
  refine fr_iload_n 17 dX7_fitting_16 rfl rfl ?_
  refine fr_iadd 18 dX7_fitting_17 rfl ?_
  refine fr_iald 19 dX7_fitting_18 rfl fs_l6 (by omega) ?_
  refine fr_top q1 ?_
  refine fr_iand 20 dX7_fitting_19 rfl ?_
  refine fr_top (fm_and (by omega) (by omega)) ?_
  refine fr_aload_n 21 dX7_fitting_20 rfl rfl ?_
  refine fr_getr 24 6 dX7_fitting_21 rfl fs_kX7_32 fs_l0 rfl ?_
  refine fr_sipush 27 dX7_fitting_24 rfl (by decide) ?_
  refine fr_iload_n 28 dX7_fitting_27 rfl rfl ?_
  refine fr_iadd 29 dX7_fitting_28 rfl ?_
  refine fr_iald 30 dX7_fitting_29 rfl fs_l6 (by omega) ?_
  refine fr_top q2 ?_
  refine fr_iand 31 dX7_fitting_30 rfl ?_
  refine fr_top (fm_and (Nat.lt_of_le_of_lt Nat.and_le_left (by omega)) (by omega)) ?_
  refine fr_aload_n 32 dX7_fitting_31 rfl rfl ?_
  refine fr_getr 35 6 dX7_fitting_32 rfl fs_kX7_32 fs_l0 rfl ?_
  refine fr_sipush 38 dX7_fitting_35 rfl (by decide) ?_
  refine fr_iload 40 dX7_fitting_38 rfl rfl ?_
  refine fr_iadd 41 dX7_fitting_40 rfl ?_
  refine fr_iald 42 dX7_fitting_41 rfl fs_l6 (by omega) ?_
  refine fr_top q3 ?_
  refine fr_iand 43 dX7_fitting_42 rfl ?_
  refine fr_top (fm_and (Nat.lt_of_le_of_lt (Nat.le_trans Nat.and_le_left Nat.and_le_left) (by omega)) (by omega)) ?_
  refine fr_iret dX7_fitting_43 rfl ?_
  exact ⟨rfl, hO, h7, hF⟩
/-- the answer of first -/
def aFirst (t : rt) (a b c d : Int) : Int := if (0 ≤ a ∧ a ≤ 63) ∧ (0 ≤ b ∧ b ≤ 63) ∧ (0 ≤ c ∧ c ≤ 63) ∧ 0 ≤ d ∧ d ≤ 3 then (if tfit t a b c d = 0 then -6 else tod t (lowb (tfit t a b c d))) else -2
set_option maxRecDepth 100000 in
set_option maxHeartbeats 4000000 in
theorem cM_first {σ : fs_S} {t : rt} {a b c d : Int} (hw : twf t) (hR : RM σ t) (hb : σ 0 7 = 0 ∨ σ 0 7 = 1) (hv : σ 0 7 = 1 → OV σ t) (ha : rg a) (hbb : rg b) (hc : rg c) (hd : rg d) : fs_C mX7_first 4 [.inr 0, .inl a, .inl b, .inl c, .inl d] σ (fun x τ => x = some (aFirst t a b c d) ∧ ((τ = σ) ∨ OV τ t ∧ τ 0 7 = 1 ∧ frO σ τ)) := by
  refine fs_C.intro [some (.inr 0), some (.inl a), some (.inl b), some (.inl c), some (.inl d), none] fs_oX7_first (Nat.le_of_ble_eq_true rfl) rfl ?_
  refine fr_iload_n 1 dX7_first_0 rfl rfl ?_
  refine fr_iload_n 2 dX7_first_1 rfl rfl ?_
  refine fr_iload_n 3 dX7_first_2 rfl rfl ?_
  refine fr_iload 5 dX7_first_3 rfl rfl ?_
  refine fr_callSi 8 (M2 := mX7_isPacket) [_, _, _, _] dX7_first_5 rfl fs_mX7_150 fs_oX7_isPacket fs_sX7_isPacket rfl (fs_Γ_rm (d := 1) (by decide)) (Nat.le_of_ble_eq_true rfl) rfl ?_
  refine (cM_isPacket ha hbb hc hd).ci ?_
  refine fr_if_ne 14 11 dX7_first_8 rfl rfl (by omega) (fun h8 => ?_) (fun h8 => ?_)
  · refine fr_aload_n 15 dX7_first_14 rfl rfl ?_
    refine fr_iload_n 16 dX7_first_15 rfl rfl ?_
    refine fr_iload_n 17 dX7_first_16 rfl rfl ?_
    refine fr_iload_n 18 dX7_first_17 rfl rfl ?_
    refine fr_iload 20 dX7_first_18 rfl rfl ?_
    refine fr_callVi 23 (M2 := mX7_fitting) [_, _, _, _] dX7_first_20 rfl fs_mX7_154 fs_oX7_fitting fs_iX7_fitting fs_l0 rfl rfl (fs_Γ_rm (d := 3) (by decide)) (Nat.le_of_ble_eq_true rfl) rfl ?_
    have hp : (0 ≤ a ∧ a ≤ 63) ∧ (0 ≤ b ∧ b ≤ 63) ∧ (0 ≤ c ∧ c ≤ 63) ∧ 0 ≤ d ∧ d ≤ 3 := by omega
    refine (cM_fitting hw hR hb hv hp.1 hp.2.1 hp.2.2.1 hp.2.2.2).mono ?_
    rintro _ τ ⟨rfl, hO, h7, hF⟩
    refine ⟨_, rfl, ?_⟩
    have hl := tfit_lt hw a b c d
    refine fr_istore 25 [_, _, _, _, _, _] dX7_first_23 rfl (Nat.le_of_ble_eq_true rfl) rfl ?_
    refine fr_iload 27 dX7_first_25 rfl rfl ?_
    refine fr_if_ne 35 30 dX7_first_27 rfl rfl (by omega) (fun h27 => ?_) (fun h27 => ?_)
    · refine fr_aload_n 36 dX7_first_35 rfl rfl ?_
      refine fr_getr 39 5 dX7_first_36 rfl fs_kX7_29 fs_l0 rfl ?_
      refine fr_iload 41 dX7_first_39 rfl rfl ?_
      refine fr_callSi 44 (M2 := mX7_lowest) [_] dX7_first_41 rfl fs_mX7_158 fs_oX7_lowest fs_sX7_lowest rfl (fs_Γ_rm (d := 1) (by decide)) (Nat.le_of_ble_eq_true rfl) rfl ?_
      refine (cM_lowest hl).ci ?_
      have hlow := tfit_low hw (a := a) (b := b) (c := c) (d := d) (by omega)
      have hn := hw.1
      refine fr_iald 45 dX7_first_44 rfl fs_l5 (by omega) ?_
      refine fr_top (hO.1 _ hlow.1 hlow.2) ?_
      refine fr_iret dX7_first_45 rfl ?_
      exact ⟨congrArg some (by unfold aFirst; rw [if_pos hp]; split <;> omega), Or.inr ⟨hO, h7, hF⟩⟩
    · refine fr_bipush 32 dX7_first_30 rfl (by decide) ?_
      refine fr_goto 45 dX7_first_32 rfl ?_
      refine fr_iret dX7_first_45 rfl ?_
      exact ⟨congrArg some (by unfold aFirst; rw [if_pos hp]; split <;> omega), Or.inr ⟨hO, h7, hF⟩⟩
  · refine fr_bipush 13 dX7_first_11 rfl (by decide) ?_
    refine fr_iret dX7_first_13 rfl ?_
    exact ⟨congrArg some (by unfold aFirst; rw [if_neg (by intro z; rw [if_pos z] at h8; omega)]), Or.inl rfl⟩
end
section
/-! ===== the model: stretches, meet, sweep ===== -/
def Q_lay (t : rt) (σ : fs_S) : fs_Q := fun x τ => x = none ∧ (∀ f, 0 ≤ f → f < 4 → SL t f (gr f + 1) (τ 9 f) (fun j => τ 7 (64 * f + j)) (fun j => τ 8 (64 * f + j))) ∧ (∀ k i, k ≠ 7 → k ≠ 8 → k ≠ 9 → τ k i = σ k i)
set_option maxRecDepth 100000 in
set_option maxHeartbeats 4000000 in
theorem cM_layStretches {σ : fs_S} {t : rt} (hw : twf t) (hO : ∀ f v, 0 ≤ f → f < 4 → 0 ≤ v → v ≤ gr f → σ 6 (64 * f + v) = ((tkm t f v v : Nat) : Int)) : fs_C mX7_layStretches 2 [.inr 0] σ (Q_lay t σ) := by
  refine fs_C.intro [some (.inr 0), none, none] fs_oX7_layStretches (Nat.le_of_ble_eq_true rfl) rfl ?_
  have k2 : ∀ (m : Nat) (f v : Int) (τ : fs_S), 0 ≤ f → f < 4 → 0 ≤ v → v ≤ gr f + 1 → gr f + 1 - v < m → (∀ k i, k ≠ 7 → k ≠ 8 → k ≠ 9 → τ k i = σ k i) → (∀ f', 0 ≤ f' → f' < f → SL t f' (gr f' + 1) (τ 9 f') (fun j => τ 7 (64 * f' + j)) (fun j => τ 8 (64 * f' + j))) → SL t f v (τ 9 f) (fun j => τ 7 (64 * f + j)) (fun j => τ 8 (64 * f + j)) →
      (∀ τ' y, (∀ k i, k ≠ 7 → k ≠ 8 → k ≠ 9 → τ' k i = σ k i) → (∀ f', 0 ≤ f' → f' < f + 1 → SL t f' (gr f' + 1) (τ' 9 f') (fun j => τ' 7 (64 * f' + j)) (fun j => τ' 8 (64 * f' + j))) → fs_W (fs_Γ 2 (Q_lay t σ)) mX7_layStretches 127 [some (.inr 0), some (.inl f), y] [] τ') →
      fs_W (fs_Γ 2 (Q_lay t σ)) mX7_layStretches 16 [some (.inr 0), some (.inl f), some (.inl v)] [] τ := by
    intro m
    induction m with
    | zero => intro f v τ h0 h1 h2 h3 h4; omega
    | succ m ih =>
      intro f v τ h0 h1 h2 h3 h4 hF hA hS kk
      have hg := gr_r f
      obtain ⟨s, hs⟩ : ∃ s, τ 9 f = s := ⟨_, rfl⟩
      have hs1 := hS.1
      rw [hs] at hs1
      have fr : ∀ (v' : Int) (τ' : fs_S), (∀ k i, ¬ ((k = 7 ∨ k = 8) ∧ 64 * f ≤ i ∧ i < 64 * f + 64) → ¬ (k = 9 ∧ i = f) → τ' k i = τ k i) → (∀ k i, k ≠ 7 → k ≠ 8 → k ≠ 9 → τ' k i = σ k i) ∧ (∀ f', 0 ≤ f' → f' < f → SL t f' (gr f' + 1) (τ' 9 f') (fun j => τ' 7 (64 * f' + j)) (fun j => τ' 8 (64 * f' + j))) := by
        intro v' τ' h
        refine ⟨fun k i a b c => by rw [h k i (by omega) (by omega)]; exact hF k i a b c, fun f' a b => ?_⟩
        have hq := hA f' a b
        have hg' := gr_r f'
        have hq1 := hq.1
        rw [h 9 f' (by omega) (by omega)]
        exact hq.congr (fun j c d => h 7 _ (by omega) (by omega)) (fun j c d => h 8 _ (by omega) (by omega))
      refine fr_iload_n 17 dX7_layStretches_16 rfl rfl ?_
      refine fr_iload_n 18 dX7_layStretches_17 rfl rfl ?_
      refine fr_callSi 21 (M2 := mX7_most) [_] dX7_layStretches_18 rfl fs_mX7_124 fs_oX7_most fs_sX7_most rfl (fs_Γ_rm (d := 1) (by decide)) (Nat.le_of_ble_eq_true rfl) rfl ?_
      refine (cM_most (by omega)).ci ?_
      refine fr_icmp_gt 127 24 dX7_layStretches_21 rfl rfl (by omega) (by omega) (fun h21 => ?_) (fun h21 => ?_)
      · exact kk _ _ hF (fun f' a b => by
          by_cases e : f' = f
          · subst e; rw [show gr f' + 1 = v by omega]; exact hS
          · exact hA f' a (by omega))
      · refine fr_iload_n 25 dX7_layStretches_24 rfl rfl ?_
        refine fr_if_eq 55 28 dX7_layStretches_25 rfl rfl (by omega) (fun h25 => ?_) (fun h25 => ?_)
        · first | skip
          refine fr_aload_n 56 dX7_layStretches_55 rfl rfl ?_
          refine fr_getr 59 7 dX7_layStretches_56 rfl fs_kX7_35 fs_l0 rfl ?_
          refine fr_bipush 61 dX7_layStretches_59 rfl (by decide) ?_
          refine fr_iload_n 62 dX7_layStretches_61 rfl rfl ?_
          refine fr_imul 63 dX7_layStretches_62 rfl ?_
          refine fr_aload_n 64 dX7_layStretches_63 rfl rfl ?_
          refine fr_getr 67 9 dX7_layStretches_64 rfl fs_kX7_41 fs_l0 rfl ?_
          refine fr_iload_n 68 dX7_layStretches_67 rfl rfl ?_
          refine fr_iald 69 dX7_layStretches_68 rfl fs_l9 (by omega) ?_
          refine fr_top hs ?_
          refine fr_iadd 70 dX7_layStretches_69 rfl ?_
          refine fr_iload_n 71 dX7_layStretches_70 rfl rfl ?_
          refine fr_iast 72 dX7_layStretches_71 rfl fs_l7 (by omega) ?_
          refine fr_aload_n 73 dX7_layStretches_72 rfl rfl ?_
          refine fr_getr 76 8 dX7_layStretches_73 rfl fs_kX7_38 fs_l0 rfl ?_
          refine fr_bipush 78 dX7_layStretches_76 rfl (by decide) ?_
          refine fr_iload_n 79 dX7_layStretches_78 rfl rfl ?_
          refine fr_imul 80 dX7_layStretches_79 rfl ?_
          refine fr_aload_n 81 dX7_layStretches_80 rfl rfl ?_
          refine fr_getr 84 9 dX7_layStretches_81 rfl fs_kX7_41 fs_l0 rfl ?_
          refine fr_iload_n 85 dX7_layStretches_84 rfl rfl ?_
          refine fr_iald 86 dX7_layStretches_85 rfl fs_l9 (by omega) ?_
          refine fr_top (y := s) (by unfold fs_u; (repeat' split) <;> omega) ?_
          refine fr_iadd 87 dX7_layStretches_86 rfl ?_
          refine fr_iconst 88 dX7_layStretches_87 rfl ?_
          refine fr_iast 89 dX7_layStretches_88 rfl fs_l8 (by omega) ?_
          refine fr_aload_n 90 dX7_layStretches_89 rfl rfl ?_
          refine fr_getr 93 9 dX7_layStretches_90 rfl fs_kX7_41 fs_l0 rfl ?_
          refine fr_iload_n 94 dX7_layStretches_93 rfl rfl ?_
          refine fr_dup2 95 dX7_layStretches_94 rfl ?_
          refine fr_iald 96 dX7_layStretches_95 rfl fs_l9 (by omega) ?_
          refine fr_top (y := s) (by unfold fs_u; (repeat' split) <;> omega) ?_
          refine fr_iconst 97 dX7_layStretches_96 rfl ?_
          refine fr_iadd 98 dX7_layStretches_97 rfl ?_
          refine fr_iast 99 dX7_layStretches_98 rfl fs_l9 (by omega) ?_
          refine fr_aload_n 100 dX7_layStretches_99 rfl rfl ?_
          refine fr_getr 103 8 dX7_layStretches_100 rfl fs_kX7_38 fs_l0 rfl ?_
          refine fr_bipush 105 dX7_layStretches_103 rfl (by decide) ?_
          refine fr_iload_n 106 dX7_layStretches_105 rfl rfl ?_
          refine fr_imul 107 dX7_layStretches_106 rfl ?_
          refine fr_aload_n 108 dX7_layStretches_107 rfl rfl ?_
          refine fr_getr 111 9 dX7_layStretches_108 rfl fs_kX7_41 fs_l0 rfl ?_
          refine fr_iload_n 112 dX7_layStretches_111 rfl rfl ?_
          refine fr_iald 113 dX7_layStretches_112 rfl fs_l9 (by omega) ?_
          refine fr_top (y := s + 1) (by unfold fs_u; (repeat' split) <;> omega) ?_
          refine fr_iadd 114 dX7_layStretches_113 rfl ?_
          refine fr_iconst 115 dX7_layStretches_114 rfl ?_
          refine fr_isub 116 dX7_layStretches_115 rfl ?_
          refine fr_dup2 117 dX7_layStretches_116 rfl ?_
          refine fr_iald 118 dX7_layStretches_117 rfl fs_l8 (by omega) ?_
          refine fr_top (y := 0) (by unfold fs_u; (repeat' split) <;> omega) ?_
          refine fr_iconst 119 dX7_layStretches_118 rfl ?_
          refine fr_iadd 120 dX7_layStretches_119 rfl ?_
          refine fr_iast 121 dX7_layStretches_120 rfl fs_l8 (by omega) ?_
          refine fr_iinc 124 [_, _, _] dX7_layStretches_121 rfl rfl rfl ?_
          refine fr_goto 16 dX7_layStretches_124 rfl ?_
          obtain ⟨g1, g2⟩ := fr (v + 1) (fs_u (fs_u (fs_u (fs_u τ 7 (64 * f + s) v) 8 (64 * f + s) 0) 9 f (s + 1)) 8 (64 * f + (s + 1) - 1) (0 + 1)) (fun k i a b => by unfold fs_u; (repeat' split) <;> omega)
          refine ih f (v + 1) _ h0 h1 (by omega) (by omega) (by omega) g1 g2 ?_ kk
          rw [show fs_u (fs_u (fs_u (fs_u τ 7 (64 * f + s) v) 8 (64 * f + s) 0) 9 f (s + 1)) 8 (64 * f + (s + 1) - 1) (0 + 1) 9 f = s + 1 by unfold fs_u; (repeat' split) <;> omega]
          rw [hs] at hS
          exact hS.new h2 (fun j a b => by unfold fs_u; (repeat' split) <;> omega) (fun j a b => by unfold fs_u; (repeat' split) <;> omega) (by unfold fs_u; (repeat' split) <;> omega) (by unfold fs_u; (repeat' split) <;> omega)
        · have t1 := hO f v h0 h1 h2 (by omega)
          have t2 := hO f (v - 1) h0 h1 (by omega) (by omega)
          rw [← hF 6 _ (by decide) (by decide) (by decide)] at t1 t2
          rw [show 64 * f + (v - 1) = 64 * f + v - 1 by omega] at t2
          have l1 := tkm_lt hw f v v
          have l2 := tkm_lt hw f (v - 1) (v - 1)
          refine fr_aload_n 29 dX7_layStretches_28 rfl rfl ?_
          refine fr_getr 32 6 dX7_layStretches_29 rfl fs_kX7_32 fs_l0 rfl ?_
          refine fr_bipush 34 dX7_layStretches_32 rfl (by decide) ?_
          refine fr_iload_n 35 dX7_layStretches_34 rfl rfl ?_
          refine fr_imul 36 dX7_layStretches_35 rfl ?_
          refine fr_iload_n 37 dX7_layStretches_36 rfl rfl ?_
          refine fr_iadd 38 dX7_layStretches_37 rfl ?_
          refine fr_iald 39 dX7_layStretches_38 rfl fs_l6 (by omega) ?_
          refine fr_aload_n 40 dX7_layStretches_39 rfl rfl ?_
          refine fr_getr 43 6 dX7_layStretches_40 rfl fs_kX7_32 fs_l0 rfl ?_
          refine fr_bipush 45 dX7_layStretches_43 rfl (by decide) ?_
          refine fr_iload_n 46 dX7_layStretches_45 rfl rfl ?_
          refine fr_imul 47 dX7_layStretches_46 rfl ?_
          refine fr_iload_n 48 dX7_layStretches_47 rfl rfl ?_
          refine fr_iadd 49 dX7_layStretches_48 rfl ?_
          refine fr_iconst 50 dX7_layStretches_49 rfl ?_
          refine fr_isub 51 dX7_layStretches_50 rfl ?_
          refine fr_iald 52 dX7_layStretches_51 rfl fs_l6 (by omega) ?_
          refine fr_icmp_eq 99 55 dX7_layStretches_52 rfl rfl (by omega) (by omega) (fun h52 => ?_) (fun h52 => ?_)
          · have hs2 := hS.2.1 (by omega)
            rw [hs] at hs2
            refine fr_aload_n 100 dX7_layStretches_99 rfl rfl ?_
            refine fr_getr 103 8 dX7_layStretches_100 rfl fs_kX7_38 fs_l0 rfl ?_
            refine fr_bipush 105 dX7_layStretches_103 rfl (by decide) ?_
            refine fr_iload_n 106 dX7_layStretches_105 rfl rfl ?_
            refine fr_imul 107 dX7_layStretches_106 rfl ?_
            refine fr_aload_n 108 dX7_layStretches_107 rfl rfl ?_
            refine fr_getr 111 9 dX7_layStretches_108 rfl fs_kX7_41 fs_l0 rfl ?_
            refine fr_iload_n 112 dX7_layStretches_111 rfl rfl ?_
            refine fr_iald 113 dX7_layStretches_112 rfl fs_l9 (by omega) ?_
            refine fr_top hs ?_
            refine fr_iadd 114 dX7_layStretches_113 rfl ?_
            refine fr_iconst 115 dX7_layStretches_114 rfl ?_
            refine fr_isub 116 dX7_layStretches_115 rfl ?_
            refine fr_dup2 117 dX7_layStretches_116 rfl ?_
            refine fr_iald 118 dX7_layStretches_117 rfl fs_l8 (by omega) ?_
            refine fr_iconst 119 dX7_layStretches_118 rfl ?_
            refine fr_iadd 120 dX7_layStretches_119 rfl ?_
            refine fr_iast 121 dX7_layStretches_120 rfl fs_l8 (by omega) ?_
            refine fr_iinc 124 [_, _, _] dX7_layStretches_121 rfl rfl rfl ?_
            refine fr_goto 16 dX7_layStretches_124 rfl ?_
            obtain ⟨g1, g2⟩ := fr (v + 1) (fs_u τ 8 (64 * f + s - 1) (τ 8 (64 * f + s - 1) + 1)) (fun k i a b => by unfold fs_u; (repeat' split) <;> omega)
            refine ih f (v + 1) _ h0 h1 (by omega) (by omega) (by omega) g1 g2 ?_ kk
            rw [show fs_u τ 8 (64 * f + s - 1) (τ 8 (64 * f + s - 1) + 1) 9 f = s by unfold fs_u; (repeat' split) <;> omega]
            rw [hs] at hS
            refine hS.more (by omega) (fun j a b => by unfold fs_u; (repeat' split) <;> omega) (fun j a b => by unfold fs_u; (repeat' split) <;> omega) ?_ (by omega)
            show fs_u τ 8 (64 * f + s - 1) (τ 8 (64 * f + s - 1) + 1) 8 (64 * f + (s - 1)) = τ 8 (64 * f + (s - 1)) + 1
            rw [show 64 * f + (s - 1) = 64 * f + s - 1 by omega]
            exact fs_u_eq _ _ _ _
          · first | skip
            refine fr_aload_n 56 dX7_layStretches_55 rfl rfl ?_
            refine fr_getr 59 7 dX7_layStretches_56 rfl fs_kX7_35 fs_l0 rfl ?_
            refine fr_bipush 61 dX7_layStretches_59 rfl (by decide) ?_
            refine fr_iload_n 62 dX7_layStretches_61 rfl rfl ?_
            refine fr_imul 63 dX7_layStretches_62 rfl ?_
            refine fr_aload_n 64 dX7_layStretches_63 rfl rfl ?_
            refine fr_getr 67 9 dX7_layStretches_64 rfl fs_kX7_41 fs_l0 rfl ?_
            refine fr_iload_n 68 dX7_layStretches_67 rfl rfl ?_
            refine fr_iald 69 dX7_layStretches_68 rfl fs_l9 (by omega) ?_
            refine fr_top hs ?_
            refine fr_iadd 70 dX7_layStretches_69 rfl ?_
            refine fr_iload_n 71 dX7_layStretches_70 rfl rfl ?_
            refine fr_iast 72 dX7_layStretches_71 rfl fs_l7 (by omega) ?_
            refine fr_aload_n 73 dX7_layStretches_72 rfl rfl ?_
            refine fr_getr 76 8 dX7_layStretches_73 rfl fs_kX7_38 fs_l0 rfl ?_
            refine fr_bipush 78 dX7_layStretches_76 rfl (by decide) ?_
            refine fr_iload_n 79 dX7_layStretches_78 rfl rfl ?_
            refine fr_imul 80 dX7_layStretches_79 rfl ?_
            refine fr_aload_n 81 dX7_layStretches_80 rfl rfl ?_
            refine fr_getr 84 9 dX7_layStretches_81 rfl fs_kX7_41 fs_l0 rfl ?_
            refine fr_iload_n 85 dX7_layStretches_84 rfl rfl ?_
            refine fr_iald 86 dX7_layStretches_85 rfl fs_l9 (by omega) ?_
            refine fr_top (y := s) (by unfold fs_u; (repeat' split) <;> omega) ?_
            refine fr_iadd 87 dX7_layStretches_86 rfl ?_
            refine fr_iconst 88 dX7_layStretches_87 rfl ?_
            refine fr_iast 89 dX7_layStretches_88 rfl fs_l8 (by omega) ?_
            refine fr_aload_n 90 dX7_layStretches_89 rfl rfl ?_
            refine fr_getr 93 9 dX7_layStretches_90 rfl fs_kX7_41 fs_l0 rfl ?_
            refine fr_iload_n 94 dX7_layStretches_93 rfl rfl ?_
            refine fr_dup2 95 dX7_layStretches_94 rfl ?_
            refine fr_iald 96 dX7_layStretches_95 rfl fs_l9 (by omega) ?_
            refine fr_top (y := s) (by unfold fs_u; (repeat' split) <;> omega) ?_
            refine fr_iconst 97 dX7_layStretches_96 rfl ?_
            refine fr_iadd 98 dX7_layStretches_97 rfl ?_
            refine fr_iast 99 dX7_layStretches_98 rfl fs_l9 (by omega) ?_
            refine fr_aload_n 100 dX7_layStretches_99 rfl rfl ?_
            refine fr_getr 103 8 dX7_layStretches_100 rfl fs_kX7_38 fs_l0 rfl ?_
            refine fr_bipush 105 dX7_layStretches_103 rfl (by decide) ?_
            refine fr_iload_n 106 dX7_layStretches_105 rfl rfl ?_
            refine fr_imul 107 dX7_layStretches_106 rfl ?_
            refine fr_aload_n 108 dX7_layStretches_107 rfl rfl ?_
            refine fr_getr 111 9 dX7_layStretches_108 rfl fs_kX7_41 fs_l0 rfl ?_
            refine fr_iload_n 112 dX7_layStretches_111 rfl rfl ?_
            refine fr_iald 113 dX7_layStretches_112 rfl fs_l9 (by omega) ?_
            refine fr_top (y := s + 1) (by unfold fs_u; (repeat' split) <;> omega) ?_
            refine fr_iadd 114 dX7_layStretches_113 rfl ?_
            refine fr_iconst 115 dX7_layStretches_114 rfl ?_
            refine fr_isub 116 dX7_layStretches_115 rfl ?_
            refine fr_dup2 117 dX7_layStretches_116 rfl ?_
            refine fr_iald 118 dX7_layStretches_117 rfl fs_l8 (by omega) ?_
            refine fr_top (y := 0) (by unfold fs_u; (repeat' split) <;> omega) ?_
            refine fr_iconst 119 dX7_layStretches_118 rfl ?_
            refine fr_iadd 120 dX7_layStretches_119 rfl ?_
            refine fr_iast 121 dX7_layStretches_120 rfl fs_l8 (by omega) ?_
            refine fr_iinc 124 [_, _, _] dX7_layStretches_121 rfl rfl rfl ?_
            refine fr_goto 16 dX7_layStretches_124 rfl ?_
            obtain ⟨g1, g2⟩ := fr (v + 1) (fs_u (fs_u (fs_u (fs_u τ 7 (64 * f + s) v) 8 (64 * f + s) 0) 9 f (s + 1)) 8 (64 * f + (s + 1) - 1) (0 + 1)) (fun k i a b => by unfold fs_u; (repeat' split) <;> omega)
            refine ih f (v + 1) _ h0 h1 (by omega) (by omega) (by omega) g1 g2 ?_ kk
            rw [show fs_u (fs_u (fs_u (fs_u τ 7 (64 * f + s) v) 8 (64 * f + s) 0) 9 f (s + 1)) 8 (64 * f + (s + 1) - 1) (0 + 1) 9 f = s + 1 by unfold fs_u; (repeat' split) <;> omega]
            rw [hs] at hS
            exact hS.new h2 (fun j a b => by unfold fs_u; (repeat' split) <;> omega) (fun j a b => by unfold fs_u; (repeat' split) <;> omega) (by unfold fs_u; (repeat' split) <;> omega) (by unfold fs_u; (repeat' split) <;> omega)
  have k1 : ∀ (m : Nat) (f : Int) (τ : fs_S) (y : Option fs_V), 0 ≤ f → f ≤ 4 → 4 - f < m → (∀ k i, k ≠ 7 → k ≠ 8 → k ≠ 9 → τ k i = σ k i) → (∀ f', 0 ≤ f' → f' < f → SL t f' (gr f' + 1) (τ 9 f') (fun j => τ 7 (64 * f' + j)) (fun j => τ 8 (64 * f' + j))) →
      fs_W (fs_Γ 2 (Q_lay t σ)) mX7_layStretches 2 [some (.inr 0), some (.inl f), y] [] τ := by
    intro m
    induction m with
    | zero => intro f τ y h0 h1 h2; omega
    | succ m ih =>
      intro f τ y h0 h1 h2 hF hA
      have hg := gr_r f
      refine fr_iload_n 3 dX7_layStretches_2 rfl rfl ?_
      refine fr_iconst 4 dX7_layStretches_3 rfl ?_
      refine fr_icmp_ge 133 7 dX7_layStretches_4 rfl rfl (by omega) (by omega) (fun h4 => ?_) (fun h4 => ?_)
      · refine fr_vret dX7_layStretches_133 rfl ?_
        exact ⟨rfl, fun f' a b => hA f' a (by omega), hF⟩
      · refine fr_aload_n 8 dX7_layStretches_7 rfl rfl ?_
        refine fr_getr 11 9 dX7_layStretches_8 rfl fs_kX7_41 fs_l0 rfl ?_
        refine fr_iload_n 12 dX7_layStretches_11 rfl rfl ?_
        refine fr_iconst 13 dX7_layStretches_12 rfl ?_
        refine fr_iast 14 dX7_layStretches_13 rfl fs_l9 (by omega) ?_
        refine fr_iconst 15 dX7_layStretches_14 rfl ?_
        refine fr_istore_n 16 [_, _, _] dX7_layStretches_15 rfl (Nat.le_of_ble_eq_true rfl) rfl ?_
        refine k2 ((gr f + 1).toNat + 1) f 0 _ h0 (by omega) (by omega) (by omega) (by omega) (fun k i a b c => by rw [fs_u_ne _ (by omega)]; exact hF k i a b c) (fun f' a b => ?_) ?_ (fun τ' y' hF' hA' => ?_)
        · rw [fs_u_ne _ (by omega)]
          exact hA f' a b
        · rw [fs_u_eq]
          exact SL.zero t f _ _
        · show fs_W _ _ _ _ _ _
          refine fr_iinc 130 [_, _, _] dX7_layStretches_127 rfl rfl rfl ?_
          refine fr_goto 2 dX7_layStretches_130 rfl ?_
          exact ih (f + 1) _ _ (by omega) (by omega) (by omega) hF' hA'
  refine fr_iconst 1 dX7_layStretches_0 rfl ?_
  refine fr_istore_n 2 [_, _, _] dX7_layStretches_1 rfl (Nat.le_of_ble_eq_true rfl) rfl ?_
  exact k1 5 0 σ _ (by omega) (by omega) (by omega) (fun _ _ _ _ _ => rfl) (fun f' a b => by omega)
/-- the counts of a sweep so far, as a functional of what is counted -/
def AC (τ : fs_S) (t : rt) (Acc : (Nat → Int) → Int) : Prop := (∀ r, 0 ≤ r → r < 16 → τ 10 r = Acc (gW t r)) ∧ (∀ r, 0 ≤ r → r < 16 → 0 ≤ Acc (gN t r) ∧ (0 < Acc (gN t r) → τ 11 r = 1) ∧ (Acc (gN t r) = 0 → τ 11 r = 0)) ∧ (∀ x, 0 ≤ x → x ≤ 10 → τ 12 x = Acc (gD t x))
theorem AC.eq {σ τ : fs_S} {t : rt} {Acc : (Nat → Int) → Int} (h : AC σ t Acc) (e : ∀ k i, k = 10 ∨ k = 11 ∨ k = 12 → τ k i = σ k i) : AC τ t Acc := by
  refine ⟨fun r a b => ?_, fun r a b => ?_, fun x a b => ?_⟩
  · rw [e _ _ (by omega)]; exact h.1 r a b
  · rw [e _ _ (by omega)]; exact h.2.1 r a b
  · rw [e _ _ (by omega)]; exact h.2.2 x a b
theorem AC.congr {τ : fs_S} {t : rt} {A B : (Nat → Int) → Int} (h : AC τ t A) (e : ∀ g, A g = B g) : AC τ t B := by
  have : A = B := funext e
  rw [← this]; exact h
abbrev frMeet (σ τ : fs_S) : Prop := ∀ k i, k ≠ 10 → k ≠ 11 → k ≠ 12 → τ k i = σ k i
set_option maxRecDepth 100000 in
set_option maxHeartbeats 4000000 in
theorem cM_meet {σ : fs_S} {t : rt} {m : Nat} {w : Int} {Acc : (Nat → Int) → Int} (hw : twf t) (hR : RM σ t) (hO : ∀ p, 0 ≤ p → p < tn t → σ 5 p = tod t p) (hm : m < 65536) (hb : ∀ i, m.testBit i = true → (i : Int) < tn t) (hw1 : 1 ≤ w) (hA : AC σ t Acc) : fs_C mX7_meet 2 [.inr 0, .inl (m : Int), .inl w] σ (fun x τ => x = none ∧ AC τ t (fun g => Acc g + w * g m) ∧ frMeet σ τ) := by
  refine fs_C.intro [some (.inr 0), some (.inl (m : Int)), some (.inl w), none, none, none] fs_oX7_meet (Nat.le_of_ble_eq_true rfl) rfl ?_
  have hn := hw.1
  obtain ⟨a1, a2, a3⟩ := id hA
  by_cases h0 : m = 0
  · subst h0
    refine fr_iload_n 1 dX7_meet_0 rfl rfl ?_
    refine fr_if_ne 16 4 dX7_meet_1 rfl rfl (by omega) (fun h1 => ?_) (fun h1 => ?_)
    · exact absurd rfl h1
    · refine fr_aload_n 5 dX7_meet_4 rfl rfl ?_
      refine fr_getr 8 12 dX7_meet_5 rfl fs_kX7_51 fs_l0 rfl ?_
      refine fr_bipush 10 dX7_meet_8 rfl (by decide) ?_
      refine fr_dup2 11 dX7_meet_10 rfl ?_
      refine fr_iald 12 dX7_meet_11 rfl fs_l12 (by omega) ?_
      refine fr_iload_n 13 dX7_meet_12 rfl rfl ?_
      refine fr_iadd 14 dX7_meet_13 rfl ?_
      refine fr_iast 15 dX7_meet_14 rfl fs_l12 (by omega) ?_
      refine fr_vret dX7_meet_15 rfl ?_
      refine ⟨rfl, ⟨fun r a b => ?_, fun r a b => ?_, fun x a b => ?_⟩, fun k i a b c => fs_u_ne _ (by omega)⟩
      · dsimp only; rw [fs_u_ne _ (by omega), a1 r a b, show gW t r 0 = 0 from if_neg (by simp)]; omega
      · dsimp only; rw [fs_u_ne _ (by omega), show gN t r 0 = 0 from if_neg (by simp), show Acc (gN t r) + w * 0 = Acc (gN t r) by omega]; exact a2 r a b
      · dsimp only
        by_cases e : x = 10
        · subst e
          rw [fs_u_eq, a3 10 (by omega) (by omega), show gD t 10 0 = 1 from if_pos (Or.inl ⟨rfl, rfl⟩)]; omega
        · rw [fs_u_ne _ (by omega), a3 x a b, show gD t x 0 = 0 from if_neg (by simp; omega)]; omega
  · obtain ⟨j, ej, hj, hjb, -⟩ := lowb_spec hm h0
    have hjn := hb j hjb
    have hod := tod_r (t := t) (p := (j : Int)) (by omega) hjn
    obtain ⟨r, hr⟩ : ∃ r, tod t (lowb m) = r := ⟨_, rfl⟩
    have hr2 : tod t (j : Int) = r := by rw [← ej]; exact hr
    rw [hr2] at hod
    have hac := (hw.2.2 r hod.1 hod.2.1).2
    have eac := (hR.2.2 r hod.1 hod.2.1).2
    have hrs := rs_lt hm h0
    have gWe : ∀ x, gW t x m = if x = r then 1 else 0 := fun x => by
      unfold gW
      by_cases e : x = r
      · rw [if_pos ⟨h0, by rw [hr, e]⟩, if_pos e]
      · rw [if_neg (fun z => e (by rw [← z.2, hr])), if_neg e]
    have gDe : ∀ x, gD t x m = if x = tac t r then 1 else 0 := fun x => by
      unfold gD
      by_cases e : x = tac t r
      · rw [if_pos (Or.inr ⟨h0, by rw [hr, e]⟩), if_pos e]
      · rw [if_neg (fun z => z.elim (fun z => h0 z.1) (fun z => e (by rw [← z.2, hr]))), if_neg e]
    have fin : ∀ (τ : fs_S) (nd : Int), (nd = 0 ∨ nd = 1) → gN t r m = nd → (∀ k i, k ≠ 10 → k ≠ 11 → k ≠ 12 → τ k i = σ k i) → (τ 10 r = σ 10 r + w) → (∀ x, x ≠ r → τ 10 x = σ 10 x) → (τ 12 (tac t r) = σ 12 (tac t r) + w) → (∀ x, x ≠ tac t r → τ 12 x = σ 12 x) → (nd = 1 → τ 11 r = 1) → (∀ x, (x ≠ r ∨ nd = 0) → τ 11 x = σ 11 x) → AC τ t (fun g => Acc g + w * g m) ∧ frMeet σ τ := by
      intro τ nd hnd hN hF f1 f1' f2 f2' f3 f3'
      refine ⟨⟨fun x a b => ?_, fun x a b => ?_, fun x a b => ?_⟩, hF⟩
      · dsimp only
        have q := a1 x a b
        have q2 := gWe x
        by_cases e : x = r
        · subst e
          rw [if_pos rfl] at q2
          rw [f1, q2]; omega
        · rw [if_neg e] at q2
          rw [f1' x e, q2]; omega
      · dsimp only
        have q := a2 x a b
        by_cases e : x = r
        · subst e
          rw [hN]
          rcases hnd with rfl | rfl
          · rw [f3' x (Or.inr rfl), show Acc (gN t x) + w * 0 = Acc (gN t x) by omega]; exact q
          · exact ⟨by omega, fun _ => f3 rfl, fun z => by omega⟩
        · rw [f3' x (Or.inl e), show gN t x m = 0 from if_neg (fun z => e (by rw [← z.2.1, hr])), show Acc (gN t x) + w * 0 = Acc (gN t x) by omega]; exact q
      · dsimp only
        have q := a3 x a b
        have q2 := gDe x
        by_cases e : x = tac t r
        · subst e
          rw [if_pos rfl] at q2
          rw [f2, q2]; omega
        · rw [if_neg e] at q2
          rw [f2' x e, q2]; omega
    obtain ⟨S0, eS0⟩ : ∃ S, S = fs_u (fs_u σ 10 r (σ 10 r + w)) 12 (tac t r) (fs_u σ 10 r (σ 10 r + w) 12 (tac t r) + w) := ⟨_, rfl⟩
    have s10 : S0 10 r = σ 10 r + w := by rw [eS0, fs_u_k _ _ (by decide), fs_u_eq]
    have s10' : ∀ x, x ≠ r → S0 10 x = σ 10 x := fun x hx => by rw [eS0, fs_u_k _ _ (by decide), fs_u_i _ hx]
    have s12 : S0 12 (tac t r) = σ 12 (tac t r) + w := by rw [eS0, fs_u_eq, fs_u_k _ _ (by decide)]
    have s12' : ∀ x, x ≠ tac t r → S0 12 x = σ 12 x := fun x hx => by rw [eS0, fs_u_i _ hx, fs_u_k _ _ (by decide)]
    have s11 : ∀ x, S0 11 x = σ 11 x := fun x => by rw [eS0, fs_u_k _ _ (by decide), fs_u_k _ _ (by decide)]
    have sF : ∀ k i, k ≠ 10 → k ≠ 11 → k ≠ 12 → S0 k i = σ k i := fun k i a b c => by rw [eS0, fs_u_k _ _ c, fs_u_k _ _ a]
    have fin0 : gN t r m = 0 → AC S0 t (fun g => Acc g + w * g m) ∧ frMeet σ S0 := fun h => fin S0 0 (Or.inl rfl) h sF s10 s10' s12 s12' (fun z => by omega) (fun x _ => s11 x)
    have fin1 : gN t r m = 1 → AC (fs_u S0 11 r 1) t (fun g => Acc g + w * g m) ∧ frMeet σ (fs_u S0 11 r 1) := fun h => fin _ 1 (Or.inr rfl) h (fun k i a b c => by rw [fs_u_k _ _ b]; exact sF k i a b c) (by rw [fs_u_k _ _ (by decide)]; exact s10) (fun x hx => by rw [fs_u_k _ _ (by decide)]; exact s10' x hx) (by rw [fs_u_k _ _ (by decide)]; exact s12) (fun x hx => by rw [fs_u_k _ _ (by decide)]; exact s12' x hx) (fun _ => fs_u_eq _ _ _ _) (fun x hx => by rw [fs_u_i _ (by omega)]; exact s11 x)
    rw [eS0] at fin0 fin1
    have e1 : ∀ v, fs_u σ 10 r v 4 r = tac t r := fun v => by rw [fs_u_ne _ (by omega)]; exact eac
    refine fr_iload_n 1 dX7_meet_0 rfl rfl ?_
    refine fr_if_ne 16 4 dX7_meet_1 rfl rfl (by omega) (fun h1 => ?_) (fun h1 => ?_)
    · refine fr_iload_n 17 dX7_meet_16 rfl rfl ?_
      refine fr_callSi 20 (M2 := mX7_lowest) [_] dX7_meet_17 rfl fs_mX7_158 fs_oX7_lowest fs_sX7_lowest rfl (fs_Γ_rm (d := 1) (by decide)) (Nat.le_of_ble_eq_true rfl) rfl ?_
      first
      | refine (cM_lowest hm).ci ?_
      | refine (cM_lowest hrs).ci ?_
      refine fr_istore_n 21 [_, _, _, _, _, _] dX7_meet_20 rfl (Nat.le_of_ble_eq_true rfl) rfl ?_
      refine fr_iload_n 22 dX7_meet_21 rfl rfl ?_
      refine fr_iconst 23 dX7_meet_22 rfl ?_
      refine fr_iload_n 24 dX7_meet_23 rfl rfl ?_
      refine fr_ishl 25 dX7_meet_24 rfl ?_
      refine fr_iconst 26 dX7_meet_25 rfl ?_
      refine fr_ixor 27 dX7_meet_26 rfl ?_
      refine fr_iand 28 dX7_meet_27 rfl ?_
      refine fr_top (fm_clear hm h0) ?_
      refine fr_istore 30 [_, _, _, _, _, _] dX7_meet_28 rfl (Nat.le_of_ble_eq_true rfl) rfl ?_
      refine fr_aload_n 31 dX7_meet_30 rfl rfl ?_
      refine fr_getr 34 5 dX7_meet_31 rfl fs_kX7_29 fs_l0 rfl ?_
      refine fr_iload_n 35 dX7_meet_34 rfl rfl ?_
      refine fr_iald 36 dX7_meet_35 rfl fs_l5 (by rw [ej]; omega) ?_
      refine fr_top (y := r) (by rw [hO _ (by omega) (by omega), hr]) ?_
      refine fr_istore 38 [_, _, _, _, _, _] dX7_meet_36 rfl (Nat.le_of_ble_eq_true rfl) rfl ?_
      refine fr_aload_n 39 dX7_meet_38 rfl rfl ?_
      refine fr_getr 42 10 dX7_meet_39 rfl fs_kX7_44 fs_l0 rfl ?_
      refine fr_iload 44 dX7_meet_42 rfl rfl ?_
      refine fr_dup2 45 dX7_meet_44 rfl ?_
      refine fr_iald 46 dX7_meet_45 rfl fs_l10 (by omega) ?_
      refine fr_iload_n 47 dX7_meet_46 rfl rfl ?_
      refine fr_iadd 48 dX7_meet_47 rfl ?_
      refine fr_iast 49 dX7_meet_48 rfl fs_l10 (by omega) ?_
      refine fr_aload_n 50 dX7_meet_49 rfl rfl ?_
      refine fr_getr 53 12 dX7_meet_50 rfl fs_kX7_51 fs_l0 rfl ?_
      refine fr_aload_n 54 dX7_meet_53 rfl rfl ?_
      refine fr_getr 57 4 dX7_meet_54 rfl fs_kX7_19 fs_l0 rfl ?_
      refine fr_iload 59 dX7_meet_57 rfl rfl ?_
      refine fr_iald 60 dX7_meet_59 rfl fs_l4 (by omega) ?_
      refine fr_top (e1 _) ?_
      refine fr_dup2 61 dX7_meet_60 rfl ?_
      refine fr_iald 62 dX7_meet_61 rfl fs_l12 (by omega) ?_
      refine fr_iload_n 63 dX7_meet_62 rfl rfl ?_
      refine fr_iadd 64 dX7_meet_63 rfl ?_
      refine fr_iast 65 dX7_meet_64 rfl fs_l12 (by omega) ?_
      refine fr_iload 67 dX7_meet_65 rfl rfl ?_
      refine fr_if_eq 95 70 dX7_meet_67 rfl rfl (by omega) (fun h67 => ?_) (fun h67 => ?_)
      · refine fr_aload_n 96 dX7_meet_95 rfl rfl ?_
        refine fr_getr 99 11 dX7_meet_96 rfl fs_kX7_47 fs_l0 rfl ?_
        refine fr_iload 101 dX7_meet_99 rfl rfl ?_
        refine fr_iconst 102 dX7_meet_101 rfl ?_
        refine fr_zast 103 dX7_meet_102 rfl fs_l11 (by omega) (by omega) ?_
        refine fr_vret dX7_meet_103 rfl ?_
        refine ⟨rfl, ?_⟩
        first
        | exact fin1 (if_pos ⟨h0, hr, Or.inl (by omega)⟩)
        | exact fin1 (if_pos ⟨h0, hr, Or.inr (by rw [ej2]; exact h92)⟩)
        | exact fin0 (if_neg (fun z => z.2.2.elim (fun z => by omega) (fun z => z (by rw [ej2]; exact h92))))
      · obtain ⟨j2, ej2, hj2, hjb2, -⟩ := lowb_spec hrs (by omega)
        have hjn2 : (j2 : Int) < tn t := hb j2 (by rw [rs_bit hm h0] at hjb2; simp only [Bool.and_eq_true] at hjb2; exact hjb2.1)
        have hod2 := tod_r (t := t) (p := (j2 : Int)) (by omega) hjn2
        have hac2 := (hw.2.2 _ hod2.1 hod2.2.1).2
        have eac2 := (hR.2.2 _ hod2.1 hod2.2.1).2
        refine fr_aload_n 71 dX7_meet_70 rfl rfl ?_
        refine fr_getr 74 4 dX7_meet_71 rfl fs_kX7_19 fs_l0 rfl ?_
        refine fr_aload_n 75 dX7_meet_74 rfl rfl ?_
        refine fr_getr 78 5 dX7_meet_75 rfl fs_kX7_29 fs_l0 rfl ?_
        refine fr_iload 80 dX7_meet_78 rfl rfl ?_
        refine fr_callSi 83 (M2 := mX7_lowest) [_] dX7_meet_80 rfl fs_mX7_158 fs_oX7_lowest fs_sX7_lowest rfl (fs_Γ_rm (d := 1) (by decide)) (Nat.le_of_ble_eq_true rfl) rfl ?_
        first
        | refine (cM_lowest hm).ci ?_
        | refine (cM_lowest hrs).ci ?_
        refine fr_iald 84 dX7_meet_83 rfl fs_l5 (by rw [ej2]; omega) ?_
        refine fr_top (y := tod t (j2 : Int)) (by rw [fs_u_k _ _ (by decide), fs_u_k _ _ (by decide), ej2]; exact hO _ (by omega) (by omega)) ?_
        refine fr_iald 85 dX7_meet_84 rfl fs_l4 (by omega) ?_
        refine fr_top (y := tac t (tod t (j2 : Int))) (by rw [fs_u_k _ _ (by decide), fs_u_k _ _ (by decide)]; exact eac2) ?_
        refine fr_aload_n 86 dX7_meet_85 rfl rfl ?_
        refine fr_getr 89 4 dX7_meet_86 rfl fs_kX7_19 fs_l0 rfl ?_
        refine fr_iload 91 dX7_meet_89 rfl rfl ?_
        refine fr_iald 92 dX7_meet_91 rfl fs_l4 (by omega) ?_
        refine fr_top (y := tac t r) (by rw [fs_u_k _ _ (by decide), fs_u_k _ _ (by decide)]; exact eac) ?_
        refine fr_icmp_eq 103 95 dX7_meet_92 rfl rfl (by omega) (by omega) (fun h92 => ?_) (fun h92 => ?_)
        · refine fr_vret dX7_meet_103 rfl ?_
          refine ⟨rfl, ?_⟩
          first
          | exact fin1 (if_pos ⟨h0, hr, Or.inl (by omega)⟩)
          | exact fin1 (if_pos ⟨h0, hr, Or.inr (by rw [ej2]; exact h92)⟩)
          | exact fin0 (if_neg (fun z => z.2.2.elim (fun z => by omega) (fun z => z (by rw [ej2]; exact h92))))
        · refine fr_aload_n 96 dX7_meet_95 rfl rfl ?_
          refine fr_getr 99 11 dX7_meet_96 rfl fs_kX7_47 fs_l0 rfl ?_
          refine fr_iload 101 dX7_meet_99 rfl rfl ?_
          refine fr_iconst 102 dX7_meet_101 rfl ?_
          refine fr_zast 103 dX7_meet_102 rfl fs_l11 (by omega) (by omega) ?_
          refine fr_vret dX7_meet_103 rfl ?_
          refine ⟨rfl, ?_⟩
          first
          | exact fin1 (if_pos ⟨h0, hr, Or.inl (by omega)⟩)
          | exact fin1 (if_pos ⟨h0, hr, Or.inr (by rw [ej2]; exact h92)⟩)
          | exact fin0 (if_neg (fun z => z.2.2.elim (fun z => by omega) (fun z => z (by rw [ej2]; exact h92))))
    · exact absurd h1 (by omega)
abbrev frS (σ τ : fs_S) : Prop := ∀ k i, ¬ (5 ≤ k ∧ k ≤ 12) → ¬ (k = 0 ∧ (i = 7 ∨ i = 8)) → τ k i = σ k i
def Q_sw (t : rt) (σ : fs_S) : fs_Q := fun x τ => x = none ∧ AC τ t (S4 t) ∧ OV τ t ∧ τ 0 7 = 1 ∧ τ 0 8 = 1 ∧ frS σ τ
def swT (t : rt) (ρ : fs_S) (a b c d : Int) (g : Nat → Int) : Int := ρ 8 (64 * 0 + a) * ρ 8 (64 * 1 + b) * ρ 8 (64 * 2 + c) * ρ 8 (64 * 3 + d) * g (tkm t 0 (ρ 7 (64 * 0 + a)) (ρ 7 (64 * 0 + a)) &&& tkm t 1 (ρ 7 (64 * 1 + b)) (ρ 7 (64 * 1 + b)) &&& tkm t 2 (ρ 7 (64 * 2 + c)) (ρ 7 (64 * 2 + c)) &&& tkm t 3 (ρ 7 (64 * 3 + d)) (ρ 7 (64 * 3 + d)))
def swA (t : rt) (ρ : fs_S) (i c d : Int) (g : Nat → Int) : Int := smI (fun i' => smI (fun c' => smI (fun d' => swT t ρ (i' / ρ 9 1) (i' % ρ 9 1) c' d' g) (ρ 9 3)) (ρ 9 2)) i + smI (fun c' => smI (fun d' => swT t ρ (i / ρ 9 1) (i % ρ 9 1) c' d' g) (ρ 9 3)) c + smI (fun d' => swT t ρ (i / ρ 9 1) (i % ρ 9 1) c d' g) d
theorem OV.eq {σ τ : fs_S} {t : rt} (h : OV σ t) (e : ∀ k i, k = 5 ∨ k = 6 → τ k i = σ k i) : OV τ t := ⟨fun p a b => by rw [e _ _ (by omega)]; exact h.1 p a b, fun f v a b c d => by rw [e _ _ (by omega)]; exact h.2 f v a b c d⟩
set_option maxRecDepth 100000 in
set_option maxHeartbeats 8000000 in
theorem cM_sweepL {σ ρ : fs_S} {t : rt} (hw : twf t) (hR : RM ρ t) (hO : OV ρ t) (h7 : ρ 0 7 = 1) (h8 : ρ 0 8 = 1) (hF0 : frS σ ρ) (hS : ∀ f, 0 ≤ f → f < 4 → SL t f (gr f + 1) (ρ 9 f) (fun j => ρ 7 (64 * f + j)) (fun j => ρ 8 (64 * f + j))) (hA0 : AC ρ t (fun _ => 0)) :
    ∀ (y2 y3 y4 y5 y6 y7 : Option fs_V), fs_W (fs_Γ 3 (Q_sw t σ)) mX7_sweep 72 [some (.inr 0), some (.inl 0), y2, y3, y4, y5, y6, y7] [] ρ := by
  have hn := hw.1
  obtain ⟨s0, es0⟩ : ∃ s, ρ 9 0 = s := ⟨_, rfl⟩
  obtain ⟨s1, es1⟩ : ∃ s, ρ 9 1 = s := ⟨_, rfl⟩
  obtain ⟨s2, es2⟩ : ∃ s, ρ 9 2 = s := ⟨_, rfl⟩
  obtain ⟨s3, es3⟩ : ∃ s, ρ 9 3 = s := ⟨_, rfl⟩
  have g0 : gr 0 + 1 = 64 := rfl
  have g1 : gr 1 + 1 = 64 := rfl
  have g2 : gr 2 + 1 = 64 := rfl
  have g3 : gr 3 + 1 = 4 := rfl
  have S0 := hS 0 (by omega) (by omega)
  have S1 := hS 1 (by omega) (by omega)
  have S2 := hS 2 (by omega) (by omega)
  have S3 := hS 3 (by omega) (by omega)
  rw [g0, es0] at S0
  rw [g1, es1] at S1
  rw [g2, es2] at S2
  rw [g3, es3] at S3
  have b0 := S0.1
  have b1 := S1.1
  have b2 := S2.1
  have b3 := S3.1
  have p0 := (S0.2.1 (by omega)).1
  have p1 := (S1.2.1 (by omega)).1
  have p2 := (S2.2.1 (by omega)).1
  have p3 := (S3.2.1 (by omega)).1
  have kD : ∀ (m : Nat) (i c d : Int) (τ : fs_S) (y7 : Option fs_V), 0 ≤ i → i < s0 * s1 → 0 ≤ c → c < s2 → 0 ≤ d → d ≤ s3 → s3 - d < m → frMeet ρ τ → AC τ t (swA t ρ i c d) →
      (∀ (τ' : fs_S) (y6' y7' : Option fs_V), frMeet ρ τ' → AC τ' t (swA t ρ i (c + 1) 0) → fs_W (fs_Γ 3 (Q_sw t σ)) mX7_sweep 261 [some (.inr 0), some (.inl i), some (.inl (i / s1)), some (.inl (64 + i % s1)), some (.inl ((tkm t 0 (ρ 7 (64 * 0 + i / s1)) (ρ 7 (64 * 0 + i / s1)) &&& tkm t 1 (ρ 7 (64 * 1 + i % s1)) (ρ 7 (64 * 1 + i % s1)) : Nat) : Int)), some (.inl c), y6', y7'] [] τ') →
      fs_W (fs_Γ 3 (Q_sw t σ)) mX7_sweep 155 [some (.inr 0), some (.inl i), some (.inl (i / s1)), some (.inl (64 + i % s1)), some (.inl ((tkm t 0 (ρ 7 (64 * 0 + i / s1)) (ρ 7 (64 * 0 + i / s1)) &&& tkm t 1 (ρ 7 (64 * 1 + i % s1)) (ρ 7 (64 * 1 + i % s1)) : Nat) : Int)), some (.inl c), some (.inl d), y7] [] τ := by
    intro m
    induction m with
    | zero => intro i c d τ y7 h0 h1 h2 h3 h4 h5 h6; omega
    | succ m ih =>
      intro i c d τ y7 h0 h1 h2 h3 h4 h5 h6 hF hA kk
      have a0 : 0 ≤ i / s1 := Int.ediv_nonneg h0 (by omega)
      have a1 : i / s1 < s0 := Int.ediv_lt_of_lt_mul (by omega) h1
      have q0 : 0 ≤ i % s1 := Int.emod_nonneg _ (by omega)
      have q1 : i % s1 < s1 := Int.emod_lt_of_pos _ (by omega)
      have f7 : ∀ x, τ 7 x = ρ 7 x := fun x => hF 7 x (by decide) (by decide) (by decide)
      have f8 : ∀ x, τ 8 x = ρ 8 x := fun x => hF 8 x (by decide) (by decide) (by decide)
      have f9 : ∀ x, τ 9 x = ρ 9 x := fun x => hF 9 x (by decide) (by decide) (by decide)
      have f6 : ∀ x, τ 6 x = ρ 6 x := fun x => hF 6 x (by decide) (by decide) (by decide)
      have e3 : τ 9 3 = s3 := (f9 3).trans es3
      have l0 := tkm_lt hw 0 (ρ 7 (64 * 0 + i / s1)) (ρ 7 (64 * 0 + i / s1))
      have l1 := tkm_lt hw 1 (ρ 7 (64 * 1 + i % s1)) (ρ 7 (64 * 1 + i % s1))
      have l2 := tkm_lt hw 2 (ρ 7 (64 * 2 + c)) (ρ 7 (64 * 2 + c))
      have l3 := tkm_lt hw 3 (ρ 7 (64 * 3 + d)) (ρ 7 (64 * 3 + d))
      have l01 : tkm t 0 (ρ 7 (64 * 0 + i / s1)) (ρ 7 (64 * 0 + i / s1)) &&& tkm t 1 (ρ 7 (64 * 1 + i % s1)) (ρ 7 (64 * 1 + i % s1)) < 65536 := Nat.lt_of_le_of_lt Nat.and_le_left l0
      have z0 := S0.2.2.1 (i / s1) a0 a1
      have z1 := S1.2.2.1 (i % s1) q0 q1
      have z2 := S2.2.2.1 c h2 h3
      dsimp only at z0 z1 z2
      have w0 : τ 8 (i / s1) = ρ 8 (64 * 0 + i / s1) := by rw [f8]; congr 1; omega
      have w1 : τ 8 (64 + i % s1) = ρ 8 (64 * 1 + i % s1) := f8 _
      have w2 : τ 8 (128 + c) = ρ 8 (64 * 2 + c) := f8 _
      have w3 : τ 8 (192 + d) = ρ 8 (64 * 3 + d) := f8 _
      have v2 : τ 7 (128 + c) = ρ 7 (64 * 2 + c) := f7 _
      have v3 : τ 7 (192 + d) = ρ 7 (64 * 3 + d) := f7 _
      have t2 := hO.2 2 (ρ 7 (64 * 2 + c)) (by omega) (by omega) z2.1.1 (by omega)
      rw [← f6] at t2
      refine fr_iload 157 dX7_sweep_155 rfl rfl ?_
      refine fr_aload_n 158 dX7_sweep_157 rfl rfl ?_
      refine fr_getr 161 9 dX7_sweep_158 rfl fs_kX7_41 fs_l0 rfl ?_
      refine fr_iconst 162 dX7_sweep_161 rfl ?_
      refine fr_iald 163 dX7_sweep_162 rfl fs_l9 (by omega) ?_
      refine fr_icmp_ge 261 166 dX7_sweep_163 rfl rfl (by omega) (by omega) (fun h163 => ?_) (fun h163 => ?_)
      · exact kk _ _ _ hF (hA.congr (fun g => by
          unfold swA
          rw [smI_s _ h2, smI_0, show d = ρ 9 3 by omega]
          omega))
      · have z3 := S3.2.2.1 d h4 (by omega)
        dsimp only at z3
        have t3 := hO.2 3 (ρ 7 (64 * 3 + d)) (by omega) (by omega) z3.1.1 (by omega)
        rw [← f6] at t3
        have hpos : 1 ≤ ρ 8 (64 * 0 + i / s1) * ρ 8 (64 * 1 + i % s1) * ρ 8 (64 * 2 + c) * ρ 8 (64 * 3 + d) := Int.mul_pos (Int.mul_pos (Int.mul_pos z0.2 z1.2) z2.2) z3.2
        refine fr_iload 168 dX7_sweep_166 rfl rfl ?_
        refine fr_aload_n 169 dX7_sweep_168 rfl rfl ?_
        refine fr_getr 172 6 dX7_sweep_169 rfl fs_kX7_32 fs_l0 rfl ?_
        refine fr_sipush 175 dX7_sweep_172 rfl (by decide) ?_
        refine fr_aload_n 176 dX7_sweep_175 rfl rfl ?_
        refine fr_getr 179 7 dX7_sweep_176 rfl fs_kX7_35 fs_l0 rfl ?_
        refine fr_sipush 182 dX7_sweep_179 rfl (by decide) ?_
        refine fr_iload 184 dX7_sweep_182 rfl rfl ?_
        refine fr_iadd 185 dX7_sweep_184 rfl ?_
        refine fr_iald 186 dX7_sweep_185 rfl fs_l7 (by omega) ?_
        refine fr_top v2 ?_
        refine fr_iadd 187 dX7_sweep_186 rfl ?_
        refine fr_iald 188 dX7_sweep_187 rfl fs_l6 (by omega) ?_
        refine fr_top (y := ((tkm t 2 (ρ 7 (64 * 2 + c)) (ρ 7 (64 * 2 + c)) : Nat) : Int)) t2 ?_
        refine fr_iand 189 dX7_sweep_188 rfl ?_
        refine fr_top (fm_and (by omega) (by omega)) ?_
        refine fr_aload_n 190 dX7_sweep_189 rfl rfl ?_
        refine fr_getr 193 6 dX7_sweep_190 rfl fs_kX7_32 fs_l0 rfl ?_
        refine fr_sipush 196 dX7_sweep_193 rfl (by decide) ?_
        refine fr_aload_n 197 dX7_sweep_196 rfl rfl ?_
        refine fr_getr 200 7 dX7_sweep_197 rfl fs_kX7_35 fs_l0 rfl ?_
        refine fr_sipush 203 dX7_sweep_200 rfl (by decide) ?_
        refine fr_iload 205 dX7_sweep_203 rfl rfl ?_
        refine fr_iadd 206 dX7_sweep_205 rfl ?_
        refine fr_iald 207 dX7_sweep_206 rfl fs_l7 (by omega) ?_
        refine fr_top v3 ?_
        refine fr_iadd 208 dX7_sweep_207 rfl ?_
        refine fr_iald 209 dX7_sweep_208 rfl fs_l6 (by omega) ?_
        refine fr_top (y := ((tkm t 3 (ρ 7 (64 * 3 + d)) (ρ 7 (64 * 3 + d)) : Nat) : Int)) t3 ?_
        refine fr_iand 210 dX7_sweep_209 rfl ?_
        refine fr_top (fm_and (Nat.lt_of_le_of_lt Nat.and_le_left (by omega)) (by omega)) ?_
        refine fr_istore 212 [_, _, _, _, _, _, _, _] dX7_sweep_210 rfl (Nat.le_of_ble_eq_true rfl) rfl ?_
        refine fr_aload_n 213 dX7_sweep_212 rfl rfl ?_
        refine fr_iload 215 dX7_sweep_213 rfl rfl ?_
        refine fr_aload_n 216 dX7_sweep_215 rfl rfl ?_
        refine fr_getr 219 8 dX7_sweep_216 rfl fs_kX7_38 fs_l0 rfl ?_
        refine fr_iload_n 220 dX7_sweep_219 rfl rfl ?_
        refine fr_iald 221 dX7_sweep_220 rfl fs_l8 (by omega) ?_
        refine fr_top w0 ?_
        refine fr_aload_n 222 dX7_sweep_221 rfl rfl ?_
        refine fr_getr 225 8 dX7_sweep_222 rfl fs_kX7_38 fs_l0 rfl ?_
        refine fr_iload_n 226 dX7_sweep_225 rfl rfl ?_
        refine fr_iald 227 dX7_sweep_226 rfl fs_l8 (by omega) ?_
        refine fr_top w1 ?_
        refine fr_imul 228 dX7_sweep_227 rfl ?_
        refine fr_aload_n 229 dX7_sweep_228 rfl rfl ?_
        refine fr_getr 232 8 dX7_sweep_229 rfl fs_kX7_38 fs_l0 rfl ?_
        refine fr_sipush 235 dX7_sweep_232 rfl (by decide) ?_
        refine fr_iload 237 dX7_sweep_235 rfl rfl ?_
        refine fr_iadd 238 dX7_sweep_237 rfl ?_
        refine fr_iald 239 dX7_sweep_238 rfl fs_l8 (by omega) ?_
        refine fr_top w2 ?_
        refine fr_imul 240 dX7_sweep_239 rfl ?_
        refine fr_aload_n 241 dX7_sweep_240 rfl rfl ?_
        refine fr_getr 244 8 dX7_sweep_241 rfl fs_kX7_38 fs_l0 rfl ?_
        refine fr_sipush 247 dX7_sweep_244 rfl (by decide) ?_
        refine fr_iload 249 dX7_sweep_247 rfl rfl ?_
        refine fr_iadd 250 dX7_sweep_249 rfl ?_
        refine fr_iald 251 dX7_sweep_250 rfl fs_l8 (by omega) ?_
        refine fr_top w3 ?_
        refine fr_imul 252 dX7_sweep_251 rfl ?_
        refine fr_callVv 255 (M2 := mX7_meet) [_, _] dX7_sweep_252 rfl fs_mX7_164 fs_oX7_meet fs_iX7_meet fs_l0 rfl rfl (fs_Γ_rm (d := 2) (by decide)) (Nat.le_of_ble_eq_true rfl) rfl ?_
        refine (cM_meet hw (hR.eq hw (hF _ _ (by decide) (by decide) (by decide)) (fun k i a b _ _ => hF k i (by omega) (by omega) (by omega))) (fun p a b => by rw [hF _ _ (by decide) (by decide) (by decide)]; exact hO.1 p a b) (Nat.lt_of_le_of_lt Nat.and_le_left (Nat.lt_of_le_of_lt Nat.and_le_left l01)) (fun x hx => ?_) hpos hA).mono ?_
        · rw [Nat.testBit_and, Nat.testBit_and, Nat.testBit_and] at hx
          simp only [Bool.and_eq_true] at hx
          exact (tkm_bit t 0 _ _ x hx.1.1.1).1
        rintro _ τ' ⟨rfl, hA', hF'⟩
        refine ⟨rfl, ?_⟩
        refine fr_iinc 258 [_, _, _, _, _, _, _, _] dX7_sweep_255 rfl rfl rfl ?_
        refine fr_goto 155 dX7_sweep_258 rfl ?_
        refine ih i c (d + 1) _ _ h0 h1 h2 h3 (by omega) (by omega) (by omega) (fun k x a b c' => (hF' k x a b c').trans (hF k x a b c')) (hA'.congr (fun g => ?_)) kk
        unfold swA
        rw [smI_s _ h4]
        unfold swT
        rw [es1]
        omega
  have kC : ∀ (m : Nat) (i c : Int) (τ : fs_S) (y6 y7 : Option fs_V), 0 ≤ i → i < s0 * s1 → 0 ≤ c → c ≤ s2 → s2 - c < m → frMeet ρ τ → AC τ t (swA t ρ i c 0) →
      (∀ (τ' : fs_S) (y2' y3' y4' y5' y6' y7' : Option fs_V), frMeet ρ τ' → AC τ' t (swA t ρ (i + 1) 0 0) → fs_W (fs_Γ 3 (Q_sw t σ)) mX7_sweep 267 [some (.inr 0), some (.inl i), y2', y3', y4', y5', y6', y7'] [] τ') →
      fs_W (fs_Γ 3 (Q_sw t σ)) mX7_sweep 141 [some (.inr 0), some (.inl i), some (.inl (i / s1)), some (.inl (64 + i % s1)), some (.inl ((tkm t 0 (ρ 7 (64 * 0 + i / s1)) (ρ 7 (64 * 0 + i / s1)) &&& tkm t 1 (ρ 7 (64 * 1 + i % s1)) (ρ 7 (64 * 1 + i % s1)) : Nat) : Int)), some (.inl c), y6, y7] [] τ := by
    intro m
    induction m with
    | zero => intro i c τ y6 y7 h0 h1 h2 h3 h4; omega
    | succ m ih =>
      intro i c τ y6 y7 h0 h1 h2 h3 h4 hF hA kk
      have e2 : τ 9 2 = s2 := (hF 9 2 (by decide) (by decide) (by decide)).trans es2
      refine fr_iload 143 dX7_sweep_141 rfl rfl ?_
      refine fr_aload_n 144 dX7_sweep_143 rfl rfl ?_
      refine fr_getr 147 9 dX7_sweep_144 rfl fs_kX7_41 fs_l0 rfl ?_
      refine fr_iconst 148 dX7_sweep_147 rfl ?_
      refine fr_iald 149 dX7_sweep_148 rfl fs_l9 (by omega) ?_
      refine fr_icmp_ge 267 152 dX7_sweep_149 rfl rfl (by omega) (by omega) (fun h149 => ?_) (fun h149 => ?_)
      · exact kk _ _ _ _ _ _ _ hF (hA.congr (fun g => by
          unfold swA
          rw [smI_s _ h0, smI_0, smI_0, smI_0, show c = ρ 9 2 by omega]
          omega))
      · refine fr_iconst 153 dX7_sweep_152 rfl ?_
        refine fr_istore 155 [_, _, _, _, _, _, _, _] dX7_sweep_153 rfl (Nat.le_of_ble_eq_true rfl) rfl ?_
        refine kD (s3.toNat + 1) i c 0 _ _ h0 h1 h2 (by omega) (by omega) (by omega) (by omega) hF hA (fun τ' y6' y7' hF' hA' => ?_)
        refine fr_iinc 264 [_, _, _, _, _, _, _, _] dX7_sweep_261 rfl rfl rfl ?_
        refine fr_goto 141 dX7_sweep_264 rfl ?_
        exact ih i (c + 1) _ _ _ h0 h1 (by omega) (by omega) (by omega) hF' hA' kk
  have kI : ∀ (m : Nat) (i : Int) (τ : fs_S) (y2 y3 y4 y5 y6 y7 : Option fs_V), 0 ≤ i → i ≤ s0 * s1 → s0 * s1 - i < m → frMeet ρ τ → AC τ t (swA t ρ i 0 0) →
      fs_W (fs_Γ 3 (Q_sw t σ)) mX7_sweep 72 [some (.inr 0), some (.inl i), y2, y3, y4, y5, y6, y7] [] τ := by
    intro m
    induction m with
    | zero => intro i τ y2 y3 y4 y5 y6 y7 h0 h1 h2; omega
    | succ m ih =>
      intro i τ y2 y3 y4 y5 y6 y7 h0 h1 h2 hF hA
      have e0 : τ 9 0 = s0 := (hF 9 0 (by decide) (by decide) (by decide)).trans es0
      have e1 : τ 9 1 = s1 := (hF 9 1 (by decide) (by decide) (by decide)).trans es1
      have hb : s0 * s1 ≤ 64 * 64 := Int.mul_le_mul b0.2 b1.2 (by omega) (by omega)
      refine fr_iload_n 73 dX7_sweep_72 rfl rfl ?_
      refine fr_aload_n 74 dX7_sweep_73 rfl rfl ?_
      refine fr_getr 77 9 dX7_sweep_74 rfl fs_kX7_41 fs_l0 rfl ?_
      refine fr_iconst 78 dX7_sweep_77 rfl ?_
      refine fr_iald 79 dX7_sweep_78 rfl fs_l9 (by omega) ?_
      refine fr_top e0 ?_
      refine fr_aload_n 80 dX7_sweep_79 rfl rfl ?_
      refine fr_getr 83 9 dX7_sweep_80 rfl fs_kX7_41 fs_l0 rfl ?_
      refine fr_iconst 84 dX7_sweep_83 rfl ?_
      refine fr_iald 85 dX7_sweep_84 rfl fs_l9 (by omega) ?_
      refine fr_top e1 ?_
      refine fr_imul 86 dX7_sweep_85 rfl ?_
      refine fr_icmp_ge 273 89 dX7_sweep_86 rfl rfl (by omega) (by omega) (fun h86 => ?_) (fun h86 => ?_)
      · refine fr_vret dX7_sweep_273 rfl ?_
        refine ⟨rfl, hA.congr (fun g => ?_), hO.eq (fun k x h => hF k x (by omega) (by omega) (by omega)), (hF _ _ (by decide) (by decide) (by decide)).trans h7, (hF _ _ (by decide) (by decide) (by decide)).trans h8, fun k x a b => (hF k x (by omega) (by omega) (by omega)).trans (hF0 k x a b)⟩
        unfold swA
        rw [smI_0, smI_0, show i = s0 * ρ 9 1 by rw [es1]; omega, smI_rect (fun a b => smI (fun c' => smI (fun d' => swT t ρ a b c' d' g) (ρ 9 3)) (ρ 9 2)) (by omega) (by omega), ← es0]
        have := SL.sum hS g
        unfold swT
        rw [this]
        omega
      · have a0 : 0 ≤ i / s1 := Int.ediv_nonneg h0 (by omega)
        have a1 : i / s1 < s0 := Int.ediv_lt_of_lt_mul (by omega) h86
        have q0 : 0 ≤ i % s1 := Int.emod_nonneg _ (by omega)
        have q1 : i % s1 < s1 := Int.emod_lt_of_pos _ (by omega)
        have f7 : ∀ x, τ 7 x = ρ 7 x := fun x => hF 7 x (by decide) (by decide) (by decide)
        have f6 : ∀ x, τ 6 x = ρ 6 x := fun x => hF 6 x (by decide) (by decide) (by decide)
        have z0 := S0.2.2.1 (i / s1) a0 a1
        have z1 := S1.2.2.1 (i % s1) q0 q1
        dsimp only at z0 z1
        have v0 : τ 7 (i / s1) = ρ 7 (64 * 0 + i / s1) := by rw [f7]; congr 1; omega
        have v1 : τ 7 (64 + i % s1) = ρ 7 (64 * 1 + i % s1) := f7 _
        have t0 := hO.2 0 (ρ 7 (64 * 0 + i / s1)) (by omega) (by omega) z0.1.1 (by omega)
        have t1 := hO.2 1 (ρ 7 (64 * 1 + i % s1)) (by omega) (by omega) z1.1.1 (by omega)
        rw [← f6] at t0 t1
        have t0' : τ 6 (ρ 7 (64 * 0 + i / s1)) = ((tkm t 0 (ρ 7 (64 * 0 + i / s1)) (ρ 7 (64 * 0 + i / s1)) : Nat) : Int) := by rw [← t0]; congr 1; omega
        have l0 := tkm_lt hw 0 (ρ 7 (64 * 0 + i / s1)) (ρ 7 (64 * 0 + i / s1))
        have l1 := tkm_lt hw 1 (ρ 7 (64 * 1 + i % s1)) (ρ 7 (64 * 1 + i % s1))
        refine fr_iload_n 90 dX7_sweep_89 rfl rfl ?_
        refine fr_aload_n 91 dX7_sweep_90 rfl rfl ?_
        refine fr_getr 94 9 dX7_sweep_91 rfl fs_kX7_41 fs_l0 rfl ?_
        refine fr_iconst 95 dX7_sweep_94 rfl ?_
        refine fr_iald 96 dX7_sweep_95 rfl fs_l9 (by omega) ?_
        refine fr_top e1 ?_
        refine fr_idiv 97 dX7_sweep_96 rfl (by omega) (by omega) ?_
        refine fr_istore_n 98 [_, _, _, _, _, _, _, _] dX7_sweep_97 rfl (Nat.le_of_ble_eq_true rfl) rfl ?_
        refine fr_bipush 100 dX7_sweep_98 rfl (by decide) ?_
        refine fr_iload_n 101 dX7_sweep_100 rfl rfl ?_
        refine fr_aload_n 102 dX7_sweep_101 rfl rfl ?_
        refine fr_getr 105 9 dX7_sweep_102 rfl fs_kX7_41 fs_l0 rfl ?_
        refine fr_iconst 106 dX7_sweep_105 rfl ?_
        refine fr_iald 107 dX7_sweep_106 rfl fs_l9 (by omega) ?_
        refine fr_top e1 ?_
        refine fr_irem 108 dX7_sweep_107 rfl (by omega) (by omega) ?_
        refine fr_iadd 109 dX7_sweep_108 rfl ?_
        refine fr_istore_n 110 [_, _, _, _, _, _, _, _] dX7_sweep_109 rfl (Nat.le_of_ble_eq_true rfl) rfl ?_
        refine fr_aload_n 111 dX7_sweep_110 rfl rfl ?_
        refine fr_getr 114 6 dX7_sweep_111 rfl fs_kX7_32 fs_l0 rfl ?_
        refine fr_aload_n 115 dX7_sweep_114 rfl rfl ?_
        refine fr_getr 118 7 dX7_sweep_115 rfl fs_kX7_35 fs_l0 rfl ?_
        refine fr_iload_n 119 dX7_sweep_118 rfl rfl ?_
        refine fr_iald 120 dX7_sweep_119 rfl fs_l7 (by omega) ?_
        refine fr_top v0 ?_
        refine fr_iald 121 dX7_sweep_120 rfl fs_l6 (by omega) ?_
        refine fr_top t0' ?_
        refine fr_aload_n 122 dX7_sweep_121 rfl rfl ?_
        refine fr_getr 125 6 dX7_sweep_122 rfl fs_kX7_32 fs_l0 rfl ?_
        refine fr_bipush 127 dX7_sweep_125 rfl (by decide) ?_
        refine fr_aload_n 128 dX7_sweep_127 rfl rfl ?_
        refine fr_getr 131 7 dX7_sweep_128 rfl fs_kX7_35 fs_l0 rfl ?_
        refine fr_iload_n 132 dX7_sweep_131 rfl rfl ?_
        refine fr_iald 133 dX7_sweep_132 rfl fs_l7 (by omega) ?_
        refine fr_top v1 ?_
        refine fr_iadd 134 dX7_sweep_133 rfl ?_
        refine fr_iald 135 dX7_sweep_134 rfl fs_l6 (by omega) ?_
        refine fr_top (y := ((tkm t 1 (ρ 7 (64 * 1 + i % s1)) (ρ 7 (64 * 1 + i % s1)) : Nat) : Int)) t1 ?_
        refine fr_iand 136 dX7_sweep_135 rfl ?_
        refine fr_top (fm_and (by omega) (by omega)) ?_
        refine fr_istore 138 [_, _, _, _, _, _, _, _] dX7_sweep_136 rfl (Nat.le_of_ble_eq_true rfl) rfl ?_
        refine fr_iconst 139 dX7_sweep_138 rfl ?_
        refine fr_istore 141 [_, _, _, _, _, _, _, _] dX7_sweep_139 rfl (Nat.le_of_ble_eq_true rfl) rfl ?_
        refine kC (s2.toNat + 1) i 0 _ _ _ h0 h86 (by omega) (by omega) (by omega) hF hA (fun τ' y2' y3' y4' y5' y6' y7' hF' hA' => ?_)
        refine fr_iinc 270 [_, _, _, _, _, _, _, _] dX7_sweep_267 rfl rfl rfl ?_
        refine fr_goto 72 dX7_sweep_270 rfl ?_
        exact ih (i + 1) _ _ _ _ _ _ _ (by omega) (by omega) (by omega) hF' hA'
  intro y2 y3 y4 y5 y6 y7
  have hb : 0 ≤ s0 * s1 := Int.mul_nonneg b0.1 b1.1
  refine kI ((s0 * s1).toNat + 1) 0 ρ y2 y3 y4 y5 y6 y7 (by omega) (by omega) (by omega) (fun _ _ _ _ _ => rfl) (hA0.congr (fun g => ?_))
  unfold swA
  rw [smI_0, smI_0, smI_0]
  rfl
end
section
/-! ===== the model: sweep, wins, idle, packets ===== -/
set_option maxRecDepth 100000 in
set_option maxHeartbeats 8000000 in
theorem cM_sweep {σ : fs_S} {t : rt} (hw : twf t) (hR : RM σ t) (hb : σ 0 7 = 0 ∨ σ 0 7 = 1) (hv : σ 0 7 = 1 → OV σ t) (hb8 : σ 0 8 = 0 ∨ σ 0 8 = 1) (hv8 : σ 0 8 = 1 → AC σ t (S4 t)) : fs_C mX7_sweep 3 [.inr 0] σ (Q_sw t σ) := by
  refine fs_C.intro [some (.inr 0), none, none, none, none, none, none, none] fs_oX7_sweep (Nat.le_of_ble_eq_true rfl) rfl ?_
  have kB : ∀ (m : Nat) (k : Int) (τ : fs_S), 0 ≤ k → k ≤ 11 → 11 - k < m → OV τ t → τ 0 7 = 1 → τ 0 8 = 1 → frS σ τ → (∀ i, 0 ≤ i → i < 16 → τ 10 i = 0 ∧ τ 11 i = 0) → (∀ i, 0 ≤ i → i < k → τ 12 i = 0) →
      fs_W (fs_Γ 3 (Q_sw t σ)) mX7_sweep 47 [some (.inr 0), some (.inl k), none, none, none, none, none, none] [] τ := by
    intro m
    induction m with
    | zero => intro k τ h0 h1 h2; omega
    | succ m ih =>
      intro k τ h0 h1 h2 hO h7 h8 hF hz hd
      refine fr_iload_n 48 dX7_sweep_47 rfl rfl ?_
      refine fr_bipush 50 dX7_sweep_48 rfl (by decide) ?_
      refine fr_icmp_ge 66 53 dX7_sweep_50 rfl rfl (by omega) (by omega) (fun h50 => ?_) (fun h50 => ?_)
      · refine fr_aload_n 67 dX7_sweep_66 rfl rfl ?_
        refine fr_callVv 70 (M2 := mX7_layStretches) [] dX7_sweep_67 rfl fs_mX7_161 fs_oX7_layStretches fs_iX7_layStretches fs_l0 rfl rfl (fs_Γ_rm (d := 2) (by decide)) (Nat.le_of_ble_eq_true rfl) rfl ?_
        refine (cM_layStretches hw hO.2).mono ?_
        rintro _ ρ ⟨rfl, hS, hF2⟩
        refine ⟨rfl, ?_⟩
        refine fr_iconst 71 dX7_sweep_70 rfl ?_
        refine fr_istore_n 72 [_, _, _, _, _, _, _, _] dX7_sweep_71 rfl (Nat.le_of_ble_eq_true rfl) rfl ?_
        refine cM_sweepL hw (hR.eq hw ?_ (fun k i a b _ _ => ?_)) (hO.eq (fun k x h => hF2 k x (by omega) (by omega) (by omega))) ?_ ?_ (fun k x a b => ?_) hS ⟨fun i a b => ?_, fun i a b => ?_, fun i a b => ?_⟩ _ _ _ _ _ _
        · rw [hF2 _ _ (by decide) (by decide) (by decide)]; exact hF _ _ (by decide) (by decide)
        · rw [hF2 _ _ (by omega) (by omega) (by omega)]; exact hF _ _ (by omega) (by omega)
        · rw [hF2 _ _ (by decide) (by decide) (by decide)]; exact h7
        · rw [hF2 _ _ (by decide) (by decide) (by decide)]; exact h8
        · rw [hF2 _ _ (by omega) (by omega) (by omega)]; exact hF k x a b
        · rw [hF2 _ _ (by decide) (by decide) (by decide)]; exact (hz i a b).1
        · rw [hF2 _ _ (by decide) (by decide) (by decide)]; exact ⟨Int.le_refl _, fun z => absurd z (Int.lt_irrefl 0), fun _ => (hz i a b).2⟩
        · rw [hF2 _ _ (by decide) (by decide) (by decide)]; exact hd i a (by omega)
      · refine fr_aload_n 54 dX7_sweep_53 rfl rfl ?_
        refine fr_getr 57 12 dX7_sweep_54 rfl fs_kX7_51 fs_l0 rfl ?_
        refine fr_iload_n 58 dX7_sweep_57 rfl rfl ?_
        refine fr_iconst 59 dX7_sweep_58 rfl ?_
        refine fr_iast 60 dX7_sweep_59 rfl fs_l12 (by omega) ?_
        refine fr_iinc 63 [_, _, _, _, _, _, _, _] dX7_sweep_60 rfl rfl rfl ?_
        refine fr_goto 47 dX7_sweep_63 rfl ?_
        exact ih (k + 1) _ (by omega) (by omega) (by omega) (hO.eq (fun k x h => fs_u_k _ _ (by omega))) (by rw [fs_u_k _ _ (by decide)]; exact h7) (by rw [fs_u_k _ _ (by decide)]; exact h8) (fun k x a b => by rw [fs_u_k _ _ (by omega)]; exact hF k x a b) (fun i a b => ⟨by rw [fs_u_k _ _ (by decide)]; exact (hz i a b).1, by rw [fs_u_k _ _ (by decide)]; exact (hz i a b).2⟩) (fun i a b => by
          by_cases e : i = k
          · rw [e]; exact fs_u_eq _ _ _ _
          · rw [fs_u_i _ e]; exact hd i a (by omega))
  have kA : ∀ (m : Nat) (k : Int) (τ : fs_S), 0 ≤ k → k ≤ 16 → 16 - k < m → OV τ t → τ 0 7 = 1 → τ 0 8 = 1 → frS σ τ → (∀ i, 0 ≤ i → i < k → τ 10 i = 0 ∧ τ 11 i = 0) →
      fs_W (fs_Γ 3 (Q_sw t σ)) mX7_sweep 19 [some (.inr 0), some (.inl k), none, none, none, none, none, none] [] τ := by
    intro m
    induction m with
    | zero => intro k τ h0 h1 h2; omega
    | succ m ih =>
      intro k τ h0 h1 h2 hO h7 h8 hF hz
      refine fr_iload_n 20 dX7_sweep_19 rfl rfl ?_
      refine fr_bipush 22 dX7_sweep_20 rfl (by decide) ?_
      refine fr_icmp_ge 45 25 dX7_sweep_22 rfl rfl (by omega) (by omega) (fun h22 => ?_) (fun h22 => ?_)
      · refine fr_iconst 46 dX7_sweep_45 rfl ?_
        refine fr_istore_n 47 [_, _, _, _, _, _, _, _] dX7_sweep_46 rfl (Nat.le_of_ble_eq_true rfl) rfl ?_
        exact kB 12 0 _ (by omega) (by omega) (by omega) hO h7 h8 hF (fun i a b => hz i a (by omega)) (fun i a b => by omega)
      · refine fr_aload_n 26 dX7_sweep_25 rfl rfl ?_
        refine fr_getr 29 10 dX7_sweep_26 rfl fs_kX7_44 fs_l0 rfl ?_
        refine fr_iload_n 30 dX7_sweep_29 rfl rfl ?_
        refine fr_iconst 31 dX7_sweep_30 rfl ?_
        refine fr_iast 32 dX7_sweep_31 rfl fs_l10 (by omega) ?_
        refine fr_aload_n 33 dX7_sweep_32 rfl rfl ?_
        refine fr_getr 36 11 dX7_sweep_33 rfl fs_kX7_47 fs_l0 rfl ?_
        refine fr_iload_n 37 dX7_sweep_36 rfl rfl ?_
        refine fr_iconst 38 dX7_sweep_37 rfl ?_
        refine fr_zast 39 dX7_sweep_38 rfl fs_l11 (by omega) (by omega) ?_
        refine fr_iinc 42 [_, _, _, _, _, _, _, _] dX7_sweep_39 rfl rfl rfl ?_
        refine fr_goto 19 dX7_sweep_42 rfl ?_
        exact ih (k + 1) _ (by omega) (by omega) (by omega) (hO.eq (fun k x h => by rw [fs_u_k _ _ (by omega), fs_u_k _ _ (by omega)])) (by rw [fs_u_k _ _ (by decide), fs_u_k _ _ (by decide)]; exact h7) (by rw [fs_u_k _ _ (by decide), fs_u_k _ _ (by decide)]; exact h8) (fun k x a b => by rw [fs_u_k _ _ (by omega), fs_u_k _ _ (by omega)]; exact hF k x a b) (fun i a b => by
          by_cases e : i = k
          · rw [e]; exact ⟨by rw [fs_u_k _ _ (by decide)]; exact fs_u_eq _ _ _ _, fs_u_eq _ _ _ _⟩
          · rw [fs_u_k _ _ (by decide), fs_u_i _ e, fs_u_i _ e, fs_u_k _ _ (by decide)]; exact hz i a (by omega))
  refine fr_aload_n 1 dX7_sweep_0 rfl rfl ?_
  refine fr_callVv 4 (M2 := mX7_order) [] dX7_sweep_1 rfl fs_mX7_147 fs_oX7_order fs_iX7_order fs_l0 rfl rfl (fs_Γ_rm (d := 2) (by decide)) (Nat.le_of_ble_eq_true rfl) rfl ?_
  refine (cM_order hw hR hb hv).mono ?_
  rintro _ τ ⟨rfl, hO, h7, hF⟩
  refine ⟨rfl, ?_⟩
  have e8 : τ 0 8 = σ 0 8 := hF _ _ (by decide) (by decide) (by decide)
  refine fr_aload_n 5 dX7_sweep_4 rfl rfl ?_
  refine fr_geti 8 8 dX7_sweep_5 rfl fs_kX7_115 rfl fs_l0 rfl ?_
  refine fr_if_eq 12 11 dX7_sweep_8 rfl rfl (by omega) (fun h8 => ?_) (fun h8 => ?_)
  · refine fr_aload_n 13 dX7_sweep_12 rfl rfl ?_
    refine fr_iconst 14 dX7_sweep_13 rfl ?_
    refine fr_putz 17 8 dX7_sweep_14 rfl fs_kX7_115 fs_pX7_8 rfl fs_l0 rfl (by omega) ?_
    refine fr_iconst 18 dX7_sweep_17 rfl ?_
    refine fr_istore_n 19 [_, _, _, _, _, _, _, _] dX7_sweep_18 rfl (Nat.le_of_ble_eq_true rfl) rfl ?_
    exact kA 17 0 _ (by omega) (by omega) (by omega) (hO.eq (fun k x h => fs_u_ne _ (by omega))) (by rw [fs_u_ne _ (by decide)]; exact h7) (fs_u_eq _ _ _ _) (fun k x a b => by rw [fs_u_ne _ (by omega)]; exact hF k x (by omega) (by omega) (by omega)) (fun i a b => by omega)
  · refine fr_vret dX7_sweep_11 rfl ?_
    exact ⟨rfl, (hv8 (by omega)).eq (fun k i h => hF k i (by omega) (by omega) (by omega)), hO, h7, by omega, fun k i a b => hF k i (by omega) (by omega) (by omega)⟩
def aWins (t : rt) (r : Int) : Int := if 0 ≤ r ∧ r < tn t then S4 t (gW t r) else -1
def aIdle (t : rt) (r : Int) : Int := if 0 ≤ r ∧ r < tn t then (if 0 < S4 t (gN t r) then 0 else 1) else -1
def aPackets (t : rt) (x : Int) : Int := if -1 ≤ x ∧ x ≤ 9 then S4 t (gD t (if x < 0 then 10 else x)) else -2
abbrev Q_swA (t : rt) (σ : fs_S) (v : Int) : fs_Q := fun x τ => x = some v ∧ (τ = σ ∨ AC τ t (S4 t) ∧ OV τ t ∧ τ 0 7 = 1 ∧ τ 0 8 = 1 ∧ frS σ τ)
set_option maxRecDepth 100000 in
set_option maxHeartbeats 8000000 in
theorem cM_wins {σ : fs_S} {t : rt} {r : Int} (hw : twf t) (hR : RM σ t) (hb : σ 0 7 = 0 ∨ σ 0 7 = 1) (hv : σ 0 7 = 1 → OV σ t) (hb8 : σ 0 8 = 0 ∨ σ 0 8 = 1) (hv8 : σ 0 8 = 1 → AC σ t (S4 t)) (hr : rg r) : fs_C mX7_wins 4 [.inr 0, .inl r] σ (Q_swA t σ (aWins t r)) := by
  refine fs_C.intro [some (.inr 0), some (.inl r)] fs_oX7_wins (Nat.le_of_ble_eq_true rfl) rfl ?_
  have hn := hw.1
  refine fr_aload_n 1 dX7_wins_0 rfl rfl ?_
  refine fr_iload_n 2 dX7_wins_1 rfl rfl ?_
  refine fr_callVi 5 (M2 := mX7_isRule) [_] dX7_wins_2 rfl fs_mX7_134 fs_oX7_isRule fs_iX7_isRule fs_l0 rfl rfl (fs_Γ_rm (d := 1) (by decide)) (Nat.le_of_ble_eq_true rfl) rfl ?_
  refine (cM_isRule hR.1 hn hr).ci ?_
  refine fr_if_ne 10 8 dX7_wins_5 rfl rfl (by omega) (fun h5 => ?_) (fun h5 => ?_)
  · refine fr_aload_n 11 dX7_wins_10 rfl rfl ?_
    refine fr_callVv 14 (M2 := mX7_sweep) [] dX7_wins_11 rfl fs_mX7_168 fs_oX7_sweep fs_iX7_sweep fs_l0 rfl rfl (fs_Γ_rm (d := 3) (by decide)) (Nat.le_of_ble_eq_true rfl) rfl ?_
    refine (cM_sweep hw hR hb hv hb8 hv8).mono ?_
    rintro _ τ ⟨rfl, hA, hq⟩
    refine ⟨rfl, ?_⟩
    refine fr_aload_n 15 dX7_wins_14 rfl rfl ?_
    refine fr_getr 18 10 dX7_wins_15 rfl fs_kX7_44 fs_l0 rfl ?_
    refine fr_iload_n 19 dX7_wins_18 rfl rfl ?_
    refine fr_iald 20 dX7_wins_19 rfl fs_l10 (by omega) ?_
    refine fr_iret dX7_wins_20 rfl ?_
    exact ⟨congrArg some (by unfold aWins; rw [if_pos (by omega)]; exact hA.1 r (by omega) (by omega)), Or.inr ⟨hA, hq⟩⟩
  · refine fr_iconst 9 dX7_wins_8 rfl ?_
    refine fr_iret dX7_wins_9 rfl ?_
    exact ⟨congrArg some (by unfold aWins; rw [if_neg (by omega)]), Or.inl rfl⟩
set_option maxRecDepth 100000 in
set_option maxHeartbeats 8000000 in
theorem cM_idle {σ : fs_S} {t : rt} {r : Int} (hw : twf t) (hR : RM σ t) (hb : σ 0 7 = 0 ∨ σ 0 7 = 1) (hv : σ 0 7 = 1 → OV σ t) (hb8 : σ 0 8 = 0 ∨ σ 0 8 = 1) (hv8 : σ 0 8 = 1 → AC σ t (S4 t)) (hr : rg r) : fs_C mX7_idle 4 [.inr 0, .inl r] σ (Q_swA t σ (aIdle t r)) := by
  refine fs_C.intro [some (.inr 0), some (.inl r)] fs_oX7_idle (Nat.le_of_ble_eq_true rfl) rfl ?_
  have hn := hw.1
  refine fr_aload_n 1 dX7_idle_0 rfl rfl ?_
  refine fr_iload_n 2 dX7_idle_1 rfl rfl ?_
  refine fr_callVi 5 (M2 := mX7_isRule) [_] dX7_idle_2 rfl fs_mX7_134 fs_oX7_isRule fs_iX7_isRule fs_l0 rfl rfl (fs_Γ_rm (d := 1) (by decide)) (Nat.le_of_ble_eq_true rfl) rfl ?_
  refine (cM_isRule hR.1 hn hr).ci ?_
  refine fr_if_ne 10 8 dX7_idle_5 rfl rfl (by omega) (fun h5 => ?_) (fun h5 => ?_)
  · refine fr_aload_n 11 dX7_idle_10 rfl rfl ?_
    refine fr_callVv 14 (M2 := mX7_sweep) [] dX7_idle_11 rfl fs_mX7_168 fs_oX7_sweep fs_iX7_sweep fs_l0 rfl rfl (fs_Γ_rm (d := 3) (by decide)) (Nat.le_of_ble_eq_true rfl) rfl ?_
    refine (cM_sweep hw hR hb hv hb8 hv8).mono ?_
    rintro _ τ ⟨rfl, hA, hq⟩
    refine ⟨rfl, ?_⟩
    have q := hA.2.1 r (by omega) (by omega)
    have q2 : τ 11 r = if 0 < S4 t (gN t r) then 1 else 0 := by
      by_cases e : 0 < S4 t (gN t r)
      · rw [if_pos e]; exact q.2.1 e
      · rw [if_neg e]; exact q.2.2 (by omega)
    refine fr_aload_n 15 dX7_idle_14 rfl rfl ?_
    refine fr_getr 18 11 dX7_idle_15 rfl fs_kX7_47 fs_l0 rfl ?_
    refine fr_iload_n 19 dX7_idle_18 rfl rfl ?_
    refine fr_zald 20 dX7_idle_19 rfl fs_l11 (by omega) ?_
    refine fr_if_eq 27 23 dX7_idle_20 rfl rfl (by rw [q2]; split <;> decide) (fun h20 => ?_) (fun h20 => ?_)
    · refine fr_iconst 28 dX7_idle_27 rfl ?_
      refine fr_iret dX7_idle_28 rfl ?_
      exact ⟨congrArg some (by unfold aIdle; rw [if_pos (by omega)]; rw [q2] at h20; split at h20 <;> split <;> omega), Or.inr ⟨hA, hq⟩⟩
    · refine fr_iconst 24 dX7_idle_23 rfl ?_
      refine fr_goto 28 dX7_idle_24 rfl ?_
      refine fr_iret dX7_idle_28 rfl ?_
      exact ⟨congrArg some (by unfold aIdle; rw [if_pos (by omega)]; rw [q2] at h20; split at h20 <;> split <;> omega), Or.inr ⟨hA, hq⟩⟩
  · refine fr_iconst 9 dX7_idle_8 rfl ?_
    refine fr_iret dX7_idle_9 rfl ?_
    exact ⟨congrArg some (by unfold aIdle; rw [if_neg (by omega)]), Or.inl rfl⟩
set_option maxRecDepth 100000 in
set_option maxHeartbeats 8000000 in
theorem cM_packets {σ : fs_S} {t : rt} {r : Int} (hw : twf t) (hR : RM σ t) (hb : σ 0 7 = 0 ∨ σ 0 7 = 1) (hv : σ 0 7 = 1 → OV σ t) (hb8 : σ 0 8 = 0 ∨ σ 0 8 = 1) (hv8 : σ 0 8 = 1 → AC σ t (S4 t)) (hr : rg r) : fs_C mX7_packets 4 [.inr 0, .inl r] σ (Q_swA t σ (aPackets t r)) := by
  refine fs_C.intro [some (.inr 0), some (.inl r)] fs_oX7_packets (Nat.le_of_ble_eq_true rfl) rfl ?_
  have hn := hw.1
  refine fr_iload_n 1 dX7_packets_0 rfl rfl ?_
  refine fr_iconst 2 dX7_packets_1 rfl ?_
  refine fr_bipush 4 dX7_packets_2 rfl (by decide) ?_
  refine fr_callSi 7 (M2 := mX7_in) [_, _, _] dX7_packets_4 rfl fs_mX7_100 fs_oX7_in fs_sX7_in rfl (fs_Γ_rm (d := 0) (by decide)) (Nat.le_of_ble_eq_true rfl) rfl ?_
  refine (cM_in hr (by decide) (by decide)).ci ?_
  refine fr_if_ne 13 10 dX7_packets_7 rfl rfl (by omega) (fun h7 => ?_) (fun h7 => ?_)
  · refine fr_aload_n 14 dX7_packets_13 rfl rfl ?_
    refine fr_callVv 17 (M2 := mX7_sweep) [] dX7_packets_14 rfl fs_mX7_168 fs_oX7_sweep fs_iX7_sweep fs_l0 rfl rfl (fs_Γ_rm (d := 3) (by decide)) (Nat.le_of_ble_eq_true rfl) rfl ?_
    refine (cM_sweep hw hR hb hv hb8 hv8).mono ?_
    rintro _ τ ⟨rfl, hA, hq⟩
    refine ⟨rfl, ?_⟩
    refine fr_aload_n 18 dX7_packets_17 rfl rfl ?_
    refine fr_getr 21 12 dX7_packets_18 rfl fs_kX7_51 fs_l0 rfl ?_
    refine fr_iload_n 22 dX7_packets_21 rfl rfl ?_
    refine fr_if_ge 30 25 dX7_packets_22 rfl rfl (by omega) (fun h22 => ?_) (fun h22 => ?_)
    · refine fr_iload_n 31 dX7_packets_30 rfl rfl ?_
      refine fr_iald 32 dX7_packets_31 rfl fs_l12 (by omega) ?_
      refine fr_iret dX7_packets_32 rfl ?_
      refine ⟨congrArg some ?_, Or.inr ⟨hA, hq⟩⟩
      unfold aPackets
      rw [if_pos (by omega)]
      first
      | (rw [if_pos (by omega)]; exact hA.2.2 10 (by omega) (by omega))
      | (rw [if_neg (by omega)]; exact hA.2.2 r (by omega) (by omega))
    · refine fr_bipush 27 dX7_packets_25 rfl (by decide) ?_
      refine fr_goto 31 dX7_packets_27 rfl ?_
      refine fr_iald 32 dX7_packets_31 rfl fs_l12 (by omega) ?_
      refine fr_iret dX7_packets_32 rfl ?_
      refine ⟨congrArg some ?_, Or.inr ⟨hA, hq⟩⟩
      unfold aPackets
      rw [if_pos (by omega)]
      first
      | (rw [if_pos (by omega)]; exact hA.2.2 10 (by omega) (by omega))
      | (rw [if_neg (by omega)]; exact hA.2.2 r (by omega) (by omega))
  · refine fr_bipush 12 dX7_packets_10 rfl (by decide) ?_
    refine fr_iret dX7_packets_12 rfl ?_
    exact ⟨congrArg some (by unfold aPackets; rw [if_neg (by omega)]), Or.inl rfl⟩
end
section
/-! ===== the model: draft, rule, drop, rank, told, overlap, covered ===== -/
abbrev frC (σ τ : fs_S) : Prop := ∀ k i, 26 ≤ k → τ k i = σ k i
set_option maxRecDepth 100000 in
set_option maxHeartbeats 8000000 in
theorem cM_draft {σ : fs_S} {A : ab} {f lo hi : Int} (hI : IMc σ A) (hw : awf A) (hf : rg f) (hlo : rg lo) (hhi : rg hi) : fs_C mX7_draft 2 [.inr 0, .inl f, .inl lo, .inl hi] σ (fun x τ => x = some (aDraft f lo hi) ∧ IMc τ (sDraft A f lo hi) ∧ (∀ k i, ¬ ((k = 1 ∨ k = 2) ∧ 64 ≤ i ∧ i < 68) → τ k i = σ k i)) := by
  refine fs_C.intro [some (.inr 0), some (.inl f), some (.inl lo), some (.inl hi)] fs_oX7_draft (Nat.le_of_ble_eq_true rfl) rfl ?_
  have hg := gr_r f
  refine fr_iload_n 1 dX7_draft_0 rfl rfl ?_
  refine fr_callSi 4 (M2 := mX7_isField) [_] dX7_draft_1 rfl fs_mX7_127 fs_oX7_isField fs_sX7_isField rfl (fs_Γ_rm (d := 1) (by decide)) (Nat.le_of_ble_eq_true rfl) rfl ?_
  refine (cM_isField hf).ci ?_
  refine fr_if_ne 9 7 dX7_draft_4 rfl rfl (by omega) (fun h4 => ?_) (fun h4 => ?_)
  · refine fr_iload_n 10 dX7_draft_9 rfl rfl ?_
    refine fr_iconst 11 dX7_draft_10 rfl ?_
    refine fr_iload_n 12 dX7_draft_11 rfl rfl ?_
    refine fr_callSi 15 (M2 := mX7_most) [_] dX7_draft_12 rfl fs_mX7_124 fs_oX7_most fs_sX7_most rfl (fs_Γ_rm (d := 1) (by decide)) (Nat.le_of_ble_eq_true rfl) rfl ?_
    refine (cM_most hf).ci ?_
    refine fr_callSi 18 (M2 := mX7_in) [_, _, _] dX7_draft_15 rfl fs_mX7_100 fs_oX7_in fs_sX7_in rfl (fs_Γ_rm (d := 0) (by decide)) (Nat.le_of_ble_eq_true rfl) rfl ?_
    refine (cM_in (by omega) (by omega) (by omega)).ci ?_
    refine fr_if_eq 38 21 dX7_draft_18 rfl rfl (by omega) (fun h18 => ?_) (fun h18 => ?_)
    · refine fr_bipush 40 dX7_draft_38 rfl (by decide) ?_
      refine fr_iret dX7_draft_40 rfl ?_
      exact ⟨congrArg some (by unfold aDraft; rw [if_pos (by omega), if_neg (by omega)]), by unfold sDraft; rw [if_neg (by omega)]; exact hI, fun _ _ _ => rfl⟩
    · refine fr_iload_n 22 dX7_draft_21 rfl rfl ?_
      refine fr_iconst 23 dX7_draft_22 rfl ?_
      refine fr_iload_n 24 dX7_draft_23 rfl rfl ?_
      refine fr_callSi 27 (M2 := mX7_most) [_] dX7_draft_24 rfl fs_mX7_124 fs_oX7_most fs_sX7_most rfl (fs_Γ_rm (d := 1) (by decide)) (Nat.le_of_ble_eq_true rfl) rfl ?_
      refine (cM_most hf).ci ?_
      refine fr_callSi 30 (M2 := mX7_in) [_, _, _] dX7_draft_27 rfl fs_mX7_100 fs_oX7_in fs_sX7_in rfl (fs_Γ_rm (d := 0) (by decide)) (Nat.le_of_ble_eq_true rfl) rfl ?_
      refine (cM_in (by omega) (by omega) (by omega)).ci ?_
      refine fr_if_eq 38 33 dX7_draft_30 rfl rfl (by omega) (fun h30 => ?_) (fun h30 => ?_)
      · refine fr_bipush 40 dX7_draft_38 rfl (by decide) ?_
        refine fr_iret dX7_draft_40 rfl ?_
        exact ⟨congrArg some (by unfold aDraft; rw [if_pos (by omega), if_neg (by omega)]), by unfold sDraft; rw [if_neg (by omega)]; exact hI, fun _ _ _ => rfl⟩
      · refine fr_iload_n 34 dX7_draft_33 rfl rfl ?_
        refine fr_iload_n 35 dX7_draft_34 rfl rfl ?_
        refine fr_icmp_le 41 38 dX7_draft_35 rfl rfl (by omega) (by omega) (fun h35 => ?_) (fun h35 => ?_)
        · refine fr_aload_n 42 dX7_draft_41 rfl rfl ?_
          refine fr_getr 45 1 dX7_draft_42 rfl fs_kX7_7 fs_l0 rfl ?_
          refine fr_bipush 47 dX7_draft_45 rfl (by decide) ?_
          refine fr_iload_n 48 dX7_draft_47 rfl rfl ?_
          refine fr_iadd 49 dX7_draft_48 rfl ?_
          refine fr_iload_n 50 dX7_draft_49 rfl rfl ?_
          refine fr_iast 51 dX7_draft_50 rfl fs_l1 (by omega) ?_
          refine fr_aload_n 52 dX7_draft_51 rfl rfl ?_
          refine fr_getr 55 2 dX7_draft_52 rfl fs_kX7_13 fs_l0 rfl ?_
          refine fr_bipush 57 dX7_draft_55 rfl (by decide) ?_
          refine fr_iload_n 58 dX7_draft_57 rfl rfl ?_
          refine fr_iadd 59 dX7_draft_58 rfl ?_
          refine fr_iload_n 60 dX7_draft_59 rfl rfl ?_
          refine fr_iast 61 dX7_draft_60 rfl fs_l2 (by omega) ?_
          refine fr_iload_n 62 dX7_draft_61 rfl rfl ?_
          refine fr_iload_n 63 dX7_draft_62 rfl rfl ?_
          refine fr_isub 64 dX7_draft_63 rfl ?_
          refine fr_iconst 65 dX7_draft_64 rfl ?_
          refine fr_iadd 66 dX7_draft_65 rfl ?_
          refine fr_iret dX7_draft_66 rfl ?_
          refine ⟨congrArg some (by unfold aDraft; rw [if_pos (by omega), if_pos (by omega)]), ?_, fun k i h => by unfold fs_u; (repeat' split) <;> omega⟩
          unfold sDraft; rw [if_pos (by omega)]
          obtain ⟨a1, a2, a3, a4⟩ := hI
          have hn := hw.1.1
          refine ⟨a1.eq hw.1 (by unfold fs_u; (repeat' split) <;> omega) (fun k i a b c d => by unfold fs_u; (repeat' split) <;> omega), fun x a b => ?_, ⟨a3.1, a3.2⟩, fun k a b => ⟨(a4 k a b).1, fun z => ?_⟩⟩
          · have q := a2 x a b
            by_cases e : x = f
            · subst e
              exact ⟨by rw [fs_u_k _ _ (by decide), fs_u_eq]; exact (if_pos rfl).symm, by rw [fs_u_eq]; exact (if_pos rfl).symm⟩
            · exact ⟨by rw [fs_u_k _ _ (by decide), fs_u_i _ (by omega), q.1]; exact (if_neg e).symm, by rw [fs_u_i _ (by omega), fs_u_k _ _ (by decide), q.2]; exact (if_neg e).symm⟩
          · exact (a4 k a b).2 z
        · refine fr_bipush 40 dX7_draft_38 rfl (by decide) ?_
          refine fr_iret dX7_draft_40 rfl ?_
          exact ⟨congrArg some (by unfold aDraft; rw [if_pos (by omega), if_neg (by omega)]), by unfold sDraft; rw [if_neg (by omega)]; exact hI, fun _ _ _ => rfl⟩
  · refine fr_iconst 8 dX7_draft_7 rfl ?_
    refine fr_iret dX7_draft_8 rfl ?_
    exact ⟨congrArg some (by unfold aDraft; rw [if_neg (by omega)]), by unfold sDraft; rw [if_neg (by omega)]; exact hI, fun _ _ _ => rfl⟩
theorem nRule_wf {A : ab} {rk ac : Int} (hw : awf A) (h1 : 0 ≤ rk ∧ rk ≤ 999) (h2 : 0 ≤ ac ∧ ac ≤ 9) (hn : tn A.1 ≠ 16) : awf (nRule A rk ac) := by
  obtain ⟨a1, a2, a3, a4⟩ := hw
  have hN := a1.1
  refine ⟨⟨⟨?_, ?_⟩, fun r f b1 b2 b3 b4 => ?_, fun r b1 b2 => ?_⟩, fun f b1 b2 => ⟨Int.le_refl _, by have := gr_r f; show (0 : Int) ≤ gr f; omega, Int.le_refl _⟩, a3, a4⟩
  · show 0 ≤ tn A.1 + 1; omega
  · show tn A.1 + 1 ≤ 16; omega
  · change r < tn A.1 + 1 at b2
    show 0 ≤ (if r = tn A.1 then A.2.1.1 f else tlo A.1 r f) ∧ (if r = tn A.1 then A.2.1.1 f else tlo A.1 r f) ≤ (if r = tn A.1 then A.2.1.2 f else thi A.1 r f) ∧ (if r = tn A.1 then A.2.1.2 f else thi A.1 r f) ≤ gr f
    by_cases e : r = tn A.1
    · rw [if_pos e, if_pos e]; exact a2 f b3 b4
    · rw [if_neg e, if_neg e]; exact a1.2.1 r f b1 (by omega) b3 b4
  · change r < tn A.1 + 1 at b2
    show (0 ≤ (if r = tn A.1 then rk else trk A.1 r) ∧ (if r = tn A.1 then rk else trk A.1 r) ≤ 999) ∧ 0 ≤ (if r = tn A.1 then ac else tac A.1 r) ∧ (if r = tn A.1 then ac else tac A.1 r) ≤ 9
    by_cases e : r = tn A.1
    · rw [if_pos e, if_pos e]; exact ⟨h1, h2⟩
    · rw [if_neg e, if_neg e]; exact a1.2.2 r b1 (by omega)
/-- the four flags are down -/
abbrev fl0 (τ : fs_S) : Prop := ∀ i, 7 ≤ i → i ≤ 10 → τ 0 i = 0
set_option maxRecDepth 100000 in
set_option maxHeartbeats 8000000 in
theorem cM_rule {σ : fs_S} {A : ab} {rk ac : Int} (hI : IMc σ A) (hw : awf A) (hrk : rg rk) (hac : rg ac) : fs_C mX7_rule 3 [.inr 0, .inl rk, .inl ac] σ (fun x τ => x = some (aRule A rk ac) ∧ IMc τ (sRule A rk ac) ∧ (τ = σ ∧ sRule A rk ac = A ∨ fl0 τ) ∧ frC σ τ) := by
  refine fs_C.intro [some (.inr 0), some (.inl rk), some (.inl ac), none] fs_oX7_rule (Nat.le_of_ble_eq_true rfl) rfl ?_
  obtain ⟨a1, a2, a3, a4⟩ := id hI
  have hn := hw.1.1
  have hm := a1.1
  obtain ⟨n, en⟩ : ∃ n, tn A.1 = n := ⟨_, rfl⟩
  rw [en] at hn hm
  have key : ∀ (m : Nat) (f : Int) (τ : fs_S), ((0 ≤ rk ∧ rk ≤ 999) ∧ 0 ≤ ac ∧ ac ≤ 9) → n ≠ 16 → 0 ≤ f → f ≤ 4 → 4 - f < m → (∀ k i, ¬ ((k = 1 ∨ k = 2) ∧ 4 * n ≤ i ∧ i < 4 * n + 4) → τ k i = σ k i) → (∀ g, 0 ≤ g → g < f → τ 1 (4 * n + g) = A.2.1.1 g ∧ τ 2 (4 * n + g) = A.2.1.2 g) →
      fs_W (fs_Γ 3 (fun x τ => x = some (aRule A rk ac) ∧ IMc τ (sRule A rk ac) ∧ (τ = σ ∧ sRule A rk ac = A ∨ fl0 τ) ∧ frC σ τ)) mX7_rule 38 [some (.inr 0), some (.inl rk), some (.inl ac), some (.inl f)] [] τ := by
    intro m
    induction m with
    | zero => intro f τ hok hn16 h0 h1 h2; omega
    | succ m ih =>
      intro f τ hok hn16 h0 h1 h2 hF hC
      have e0 : τ 0 0 = n := (hF 0 0 (by omega)).trans hm
      refine fr_iload_n 39 dX7_rule_38 rfl rfl ?_
      refine fr_iconst 40 dX7_rule_39 rfl ?_
      refine fr_icmp_ge 93 43 dX7_rule_40 rfl rfl (by omega) (by omega) (fun h40 => ?_) (fun h40 => ?_)
      · refine fr_aload_n 94 dX7_rule_93 rfl rfl ?_
        refine fr_getr 97 3 dX7_rule_94 rfl fs_kX7_16 fs_l0 rfl ?_
        refine fr_aload_n 98 dX7_rule_97 rfl rfl ?_
        refine fr_geti 101 0 dX7_rule_98 rfl fs_kX7_104 rfl fs_l0 rfl ?_
        refine fr_top e0 ?_
        refine fr_iload_n 102 dX7_rule_101 rfl rfl ?_
        refine fr_iast 103 dX7_rule_102 rfl fs_l3 (by omega) ?_
        refine fr_aload_n 104 dX7_rule_103 rfl rfl ?_
        refine fr_getr 107 4 dX7_rule_104 rfl fs_kX7_19 fs_l0 rfl ?_
        refine fr_aload_n 108 dX7_rule_107 rfl rfl ?_
        refine fr_geti 111 0 dX7_rule_108 rfl fs_kX7_104 rfl fs_l0 rfl ?_
        refine fr_top (y := n) (by rw [fs_u_k _ _ (by decide)]; exact e0) ?_
        refine fr_iload_n 112 dX7_rule_111 rfl rfl ?_
        refine fr_iast 113 dX7_rule_112 rfl fs_l4 (by omega) ?_
        refine fr_aload_n 114 dX7_rule_113 rfl rfl ?_
        refine fr_dup 115 dX7_rule_114 rfl ?_
        refine fr_geti 118 0 dX7_rule_115 rfl fs_kX7_104 rfl fs_l0 rfl ?_
        refine fr_top (y := n) (by rw [fs_u_k _ _ (by decide), fs_u_k _ _ (by decide)]; exact e0) ?_
        refine fr_iconst 119 dX7_rule_118 rfl ?_
        refine fr_iadd 120 dX7_rule_119 rfl ?_
        refine fr_puti 123 0 dX7_rule_120 rfl fs_kX7_104 fs_pX7_0 rfl fs_l0 rfl ?_
        refine fr_aload_n 124 dX7_rule_123 rfl rfl ?_
        refine fr_callVv 127 (M2 := mX7_clearDraft) [] dX7_rule_124 rfl fs_mX7_93 fs_oX7_clearDraft fs_iX7_clearDraft fs_l0 rfl rfl (fs_Γ_rm (d := 2) (by decide)) (Nat.le_of_ble_eq_true rfl) rfl ?_
        refine cM_clearDraft.mono ?_
        rintro _ τ2 ⟨rfl, d1, d2⟩
        refine ⟨rfl, ?_⟩
        refine fr_aload_n 128 dX7_rule_127 rfl rfl ?_
        refine fr_callVv 131 (M2 := mX7_change) [] dX7_rule_128 rfl fs_mX7_131 fs_oX7_change fs_iX7_change fs_l0 rfl rfl (fs_Γ_rm (d := 0) (by decide)) (Nat.le_of_ble_eq_true rfl) rfl ?_
        refine cM_change.mono ?_
        rintro _ τ3 ⟨rfl, c1, c2⟩
        refine ⟨rfl, ?_⟩
        have e3 : τ3 0 0 = n + 1 := by rw [c2 _ _ (by decide), d2 _ _ (by decide), fs_u_eq]
        have fr3 : ∀ k i, ¬ ((k = 1 ∨ k = 2) ∧ 4 * n ≤ i) → ¬ (k = 0 ∧ (i = 0 ∨ 7 ≤ i ∧ i ≤ 10)) → ¬ ((k = 3 ∨ k = 4) ∧ i = n) → τ3 k i = σ k i := fun k i b1 b2 b3 => by
          rw [c2 _ _ (by omega), d2 _ _ (by omega), fs_u_ne _ (by omega), fs_u_ne _ (by omega), fs_u_ne _ (by omega)]
          exact hF k i (by omega)
        refine fr_aload_n 132 dX7_rule_131 rfl rfl ?_
        refine fr_geti 135 0 dX7_rule_132 rfl fs_kX7_104 rfl fs_l0 rfl ?_
        refine fr_top e3 ?_
        refine fr_iconst 136 dX7_rule_135 rfl ?_
        refine fr_isub 137 dX7_rule_136 rfl ?_
        refine fr_iret dX7_rule_137 rfl ?_
        refine ⟨congrArg some ?_, ?_, Or.inr c1, fun k i b1 => fr3 k i (by omega) (by omega) (by omega)⟩
        · unfold aRule; rw [if_pos hok, en, if_neg hn16]; omega
        · unfold sRule; rw [if_pos ⟨hok, by rw [en]; exact hn16⟩]
          refine ⟨⟨?_, fun r f b1 b2 b3 b4 => ?_, fun r b1 b2 => ?_⟩, fun f b1 b2 => ?_, ?_, fun k b1 b2 => ?_⟩
          · show τ3 0 0 = tn A.1 + 1
            rw [e3, en]
          · change r < tn A.1 + 1 at b2
            show τ3 1 (4 * r + f) = (if r = tn A.1 then A.2.1.1 f else tlo A.1 r f) ∧ τ3 2 (4 * r + f) = (if r = tn A.1 then A.2.1.2 f else thi A.1 r f)
            rw [en] at b2 ⊢
            by_cases e : r = n
            · rw [if_pos e, if_pos e, e, c2 _ _ (by omega), d2 _ _ (by omega), fs_u_ne _ (by omega), fs_u_ne _ (by omega), fs_u_ne _ (by omega), c2 _ _ (by omega), d2 _ _ (by omega), fs_u_ne _ (by omega), fs_u_ne _ (by omega), fs_u_ne _ (by omega)]
              exact hC f b3 (by omega)
            · rw [if_neg e, if_neg e, fr3 _ _ (by omega) (by omega) (by omega), fr3 _ _ (by omega) (by omega) (by omega)]
              exact a1.2.1 r f b1 (by omega) b3 b4
          · change r < tn A.1 + 1 at b2
            show τ3 3 r = (if r = tn A.1 then rk else trk A.1 r) ∧ τ3 4 r = (if r = tn A.1 then ac else tac A.1 r)
            rw [en] at b2 ⊢
            by_cases e : r = n
            · rw [if_pos e, if_pos e, e, c2 _ _ (by omega), d2 _ _ (by omega), fs_u_ne _ (by omega), fs_u_ne _ (by omega), fs_u_eq, c2 _ _ (by omega), d2 _ _ (by omega), fs_u_ne _ (by omega), fs_u_eq]
              exact ⟨rfl, rfl⟩
            · rw [if_neg e, if_neg e, fr3 _ _ (by omega) (by omega) (by omega), fr3 _ _ (by omega) (by omega) (by omega)]
              exact a1.2.2 r b1 (by omega)
          · rw [c2 _ _ (by omega), c2 _ _ (by omega)]; exact d1 f b1 b2
          · rw [fr3 _ _ (by omega) (by omega) (by omega), fr3 _ _ (by omega) (by omega) (by omega)]; exact a3
          · rw [fr3 _ _ (by omega) (by omega) (by omega)]
            refine ⟨(a4 k b1 b2).1, fun z => ?_⟩
            obtain ⟨q1, q2, q3, q4, q5⟩ := (a4 k b1 b2).2 z
            refine ⟨by rw [fr3 _ _ (by omega) (by omega) (by omega)]; exact q1, fun r f c d e g => ?_, fun r c d => ?_, by rw [fr3 _ _ (by omega) (by omega) (by omega)]; exact q4, by rw [fr3 _ _ (by omega) (by omega) (by omega)]; exact q5⟩
            · rw [fr3 _ _ (by omega) (by omega) (by omega), fr3 _ _ (by omega) (by omega) (by omega)]; exact q2 r f c d e g
            · rw [fr3 _ _ (by omega) (by omega) (by omega), fr3 _ _ (by omega) (by omega) (by omega)]; exact q3 r c d
      · refine fr_aload_n 44 dX7_rule_43 rfl rfl ?_
        refine fr_getr 47 1 dX7_rule_44 rfl fs_kX7_7 fs_l0 rfl ?_
        refine fr_iconst 48 dX7_rule_47 rfl ?_
        refine fr_aload_n 49 dX7_rule_48 rfl rfl ?_
        refine fr_geti 52 0 dX7_rule_49 rfl fs_kX7_104 rfl fs_l0 rfl ?_
        refine fr_top e0 ?_
        refine fr_imul 53 dX7_rule_52 rfl ?_
        refine fr_iload_n 54 dX7_rule_53 rfl rfl ?_
        refine fr_iadd 55 dX7_rule_54 rfl ?_
        refine fr_aload_n 56 dX7_rule_55 rfl rfl ?_
        refine fr_getr 59 1 dX7_rule_56 rfl fs_kX7_7 fs_l0 rfl ?_
        refine fr_bipush 61 dX7_rule_59 rfl (by decide) ?_
        refine fr_iload_n 62 dX7_rule_61 rfl rfl ?_
        refine fr_iadd 63 dX7_rule_62 rfl ?_
        refine fr_iald 64 dX7_rule_63 rfl fs_l1 (by omega) ?_
        refine fr_iast 65 dX7_rule_64 rfl fs_l1 (by omega) ?_
        refine fr_aload_n 66 dX7_rule_65 rfl rfl ?_
        refine fr_getr 69 2 dX7_rule_66 rfl fs_kX7_13 fs_l0 rfl ?_
        refine fr_iconst 70 dX7_rule_69 rfl ?_
        refine fr_aload_n 71 dX7_rule_70 rfl rfl ?_
        refine fr_geti 74 0 dX7_rule_71 rfl fs_kX7_104 rfl fs_l0 rfl ?_
        refine fr_top (y := n) (by rw [fs_u_k _ _ (by decide)]; exact e0) ?_
        refine fr_imul 75 dX7_rule_74 rfl ?_
        refine fr_iload_n 76 dX7_rule_75 rfl rfl ?_
        refine fr_iadd 77 dX7_rule_76 rfl ?_
        refine fr_aload_n 78 dX7_rule_77 rfl rfl ?_
        refine fr_getr 81 2 dX7_rule_78 rfl fs_kX7_13 fs_l0 rfl ?_
        refine fr_bipush 83 dX7_rule_81 rfl (by decide) ?_
        refine fr_iload_n 84 dX7_rule_83 rfl rfl ?_
        refine fr_iadd 85 dX7_rule_84 rfl ?_
        refine fr_iald 86 dX7_rule_85 rfl fs_l2 (by omega) ?_
        refine fr_iast 87 dX7_rule_86 rfl fs_l2 (by omega) ?_
        refine fr_iinc 90 [_, _, _, _] dX7_rule_87 rfl rfl rfl ?_
        refine fr_goto 38 dX7_rule_90 rfl ?_
        have q := a2 f h0 (by omega)
        refine ih (f + 1) _ hok hn16 (by omega) (by omega) (by omega) (fun k i h => ?_) (fun g a b => ?_)
        · rw [fs_u_ne _ (by omega), fs_u_ne _ (by omega)]; exact hF k i h
        · by_cases e : g = f
          · subst e
            refine ⟨?_, ?_⟩
            · rw [fs_u_k _ _ (by decide), fs_u_eq, hF 1 _ (by omega)]; exact q.1
            · rw [fs_u_eq, fs_u_k _ _ (by decide), hF 2 _ (by omega)]; exact q.2
          · rw [fs_u_k _ _ (by decide), fs_u_i _ (by omega), fs_u_i _ (by omega), fs_u_k _ _ (by decide)]; exact hC g a (by omega)
  refine fr_iload_n 1 dX7_rule_0 rfl rfl ?_
  refine fr_iconst 2 dX7_rule_1 rfl ?_
  refine fr_sipush 5 dX7_rule_2 rfl (by decide) ?_
  refine fr_callSi 8 (M2 := mX7_in) [_, _, _] dX7_rule_5 rfl fs_mX7_100 fs_oX7_in fs_sX7_in rfl (fs_Γ_rm (d := 0) (by decide)) (Nat.le_of_ble_eq_true rfl) rfl ?_
  refine (cM_in (by omega) (by omega) (by omega)).ci ?_
  refine fr_if_eq 21 11 dX7_rule_8 rfl rfl (by omega) (fun h8 => ?_) (fun h8 => ?_)
  · refine fr_bipush 23 dX7_rule_21 rfl (by decide) ?_
    refine fr_iret dX7_rule_23 rfl ?_
    have no : ¬ ((0 ≤ rk ∧ rk ≤ 999) ∧ 0 ≤ ac ∧ ac ≤ 9) := by omega
    have es : sRule A rk ac = A := if_neg (fun z => no z.1)
    exact ⟨congrArg some (by unfold aRule; rw [if_neg no]), by rw [es]; exact hI, Or.inl ⟨rfl, es⟩, fun _ _ _ => rfl⟩
  · refine fr_iload_n 12 dX7_rule_11 rfl rfl ?_
    refine fr_iconst 13 dX7_rule_12 rfl ?_
    refine fr_bipush 15 dX7_rule_13 rfl (by decide) ?_
    refine fr_callSi 18 (M2 := mX7_in) [_, _, _] dX7_rule_15 rfl fs_mX7_100 fs_oX7_in fs_sX7_in rfl (fs_Γ_rm (d := 0) (by decide)) (Nat.le_of_ble_eq_true rfl) rfl ?_
    refine (cM_in (by omega) (by omega) (by omega)).ci ?_
    refine fr_if_ne 24 21 dX7_rule_18 rfl rfl (by omega) (fun h18 => ?_) (fun h18 => ?_)
    · refine fr_aload_n 25 dX7_rule_24 rfl rfl ?_
      refine fr_geti 28 0 dX7_rule_25 rfl fs_kX7_104 rfl fs_l0 rfl ?_
      refine fr_bipush 30 dX7_rule_28 rfl (by decide) ?_
      refine fr_icmp_ne 36 33 dX7_rule_30 rfl rfl (by omega) (by omega) (fun h30 => ?_) (fun h30 => ?_)
      · refine fr_iconst 37 dX7_rule_36 rfl ?_
        refine fr_istore_n 38 [_, _, _, _] dX7_rule_37 rfl (Nat.le_of_ble_eq_true rfl) rfl ?_
        exact key 5 0 σ (by omega) (by omega) (by omega) (by omega) (by omega) (fun _ _ _ => rfl) (fun g a b => by omega)
      · refine fr_bipush 35 dX7_rule_33 rfl (by decide) ?_
        refine fr_iret dX7_rule_35 rfl ?_
        have es : sRule A rk ac = A := if_neg (fun z => z.2 (by omega))
        exact ⟨congrArg some (by unfold aRule; rw [if_pos (by omega), if_pos (by omega)]), by rw [es]; exact hI, Or.inl ⟨rfl, es⟩, fun _ _ _ => rfl⟩
    · refine fr_bipush 23 dX7_rule_21 rfl (by decide) ?_
      refine fr_iret dX7_rule_23 rfl ?_
      have no : ¬ ((0 ≤ rk ∧ rk ≤ 999) ∧ 0 ≤ ac ∧ ac ≤ 9) := by omega
      have es : sRule A rk ac = A := if_neg (fun z => no z.1)
      exact ⟨congrArg some (by unfold aRule; rw [if_neg no]), by rw [es]; exact hI, Or.inl ⟨rfl, es⟩, fun _ _ _ => rfl⟩
theorem tDrop_wf {t : rt} {r : Int} (hw : twf t) (h : 0 ≤ r ∧ r < tn t) : twf (tDrop t r) := by
  obtain ⟨a1, a2, a3⟩ := hw
  refine ⟨⟨?_, ?_⟩, fun x f b1 b2 b3 b4 => ?_, fun x b1 b2 => ?_⟩
  · show 0 ≤ tn t - 1; omega
  · show tn t - 1 ≤ 16; omega
  · change x < tn t - 1 at b2
    exact a2 (dx r x) f (by unfold dx; split <;> omega) (by unfold dx; split <;> omega) b3 b4
  · change x < tn t - 1 at b2
    exact a3 (dx r x) (by unfold dx; split <;> omega) (by unfold dx; split <;> omega)
theorem tRank_wf {t : rt} {r k : Int} (hw : twf t) (h : 0 ≤ k ∧ k ≤ 999) : twf (tRank t r k) := by
  obtain ⟨a1, a2, a3⟩ := hw
  refine ⟨a1, a2, fun x b1 b2 => ⟨?_, (a3 x b1 b2).2⟩⟩
  show 0 ≤ (if x = r then k else trk t x) ∧ (if x = r then k else trk t x) ≤ 999
  have := (a3 x b1 b2).1
  split <;> omega
/-- while rules are moved down, from r on, those below k are moved already -/
def dk (r k x : Int) : Int := if r ≤ x ∧ x < k then x + 1 else x
def Q_drop (A : ab) (r : Int) (σ : fs_S) : fs_Q := fun x τ => x = some (aDrop A r) ∧ IMc τ (sDrop A r) ∧ (τ = σ ∧ sDrop A r = A ∨ fl0 τ) ∧ frC σ τ
set_option maxRecDepth 100000 in
set_option maxHeartbeats 8000000 in
theorem cM_drop {σ : fs_S} {A : ab} {r : Int} (hI : IMc σ A) (hw : awf A) (hr : rg r) : fs_C mX7_drop 2 [.inr 0, .inl r] σ (Q_drop A r σ) := by
  refine fs_C.intro [some (.inr 0), some (.inl r), none, none] fs_oX7_drop (Nat.le_of_ble_eq_true rfl) rfl ?_
  obtain ⟨a1, a2, a3, a4⟩ := id hI
  have hn := hw.1.1
  have hm := a1.1
  obtain ⟨n, en⟩ : ∃ n, tn A.1 = n := ⟨_, rfl⟩
  rw [en] at hn hm
  have kF : ∀ (m : Nat) (k f : Int) (τ : fs_S), (0 ≤ r ∧ r < n) → r ≤ k → k < n - 1 → 0 ≤ f → f ≤ 4 → 4 - f < m → τ 0 0 = n - 1 → (∀ k i, k ≠ 1 → k ≠ 2 → k ≠ 3 → k ≠ 4 → ¬ (k = 0 ∧ i = 0) → τ k i = σ k i) → (∀ k i, (k = 1 ∨ k = 2) → 64 ≤ i → τ k i = σ k i) → (∀ x g, 0 ≤ x → x < n → 0 ≤ g → g < 4 → τ 1 (4 * x + g) = tlo A.1 (dk r (if g < f then k + 1 else k) x) g ∧ τ 2 (4 * x + g) = thi A.1 (dk r (if g < f then k + 1 else k) x) g) → (∀ x, 0 ≤ x → x < n → τ 3 x = trk A.1 (dk r k x) ∧ τ 4 x = tac A.1 (dk r k x)) →
      (∀ τ' y, τ' 0 0 = n - 1 → (∀ k i, k ≠ 1 → k ≠ 2 → k ≠ 3 → k ≠ 4 → ¬ (k = 0 ∧ i = 0) → τ' k i = σ k i) → (∀ k i, (k = 1 ∨ k = 2) → 64 ≤ i → τ' k i = σ k i) → (∀ x g, 0 ≤ x → x < n → 0 ≤ g → g < 4 → τ' 1 (4 * x + g) = tlo A.1 (dk r (k + 1) x) g ∧ τ' 2 (4 * x + g) = thi A.1 (dk r (k + 1) x) g) → (∀ x, 0 ≤ x → x < n → τ' 3 x = trk A.1 (dk r k x) ∧ τ' 4 x = tac A.1 (dk r k x)) → fs_W (fs_Γ 2 (Q_drop A r σ)) mX7_drop 87 [some (.inr 0), some (.inl r), some (.inl k), y] [] τ') →
      fs_W (fs_Γ 2 (Q_drop A r σ)) mX7_drop 32 [some (.inr 0), some (.inl r), some (.inl k), some (.inl f)] [] τ := by
    intro m
    induction m with
    | zero => intro k f τ hr h0 h1 h2 h3 h4; omega
    | succ m ih =>
      intro k f τ hrr h0 h1 h2 h3 h4 e0 hF hD hA hB kk
      refine fr_iload_n 33 dX7_drop_32 rfl rfl ?_
      refine fr_iconst 34 dX7_drop_33 rfl ?_
      refine fr_icmp_ge 87 37 dX7_drop_34 rfl rfl (by omega) (by omega) (fun h34 => ?_) (fun h34 => ?_)
      · exact kk _ _ e0 hF hD (fun x g b1 b2 b3 b4 => by have := hA x g b1 b2 b3 b4; rw [if_pos (by omega)] at this; exact this) hB
      · refine fr_aload_n 38 dX7_drop_37 rfl rfl ?_
        refine fr_getr 41 1 dX7_drop_38 rfl fs_kX7_7 fs_l0 rfl ?_
        refine fr_iconst 42 dX7_drop_41 rfl ?_
        refine fr_iload_n 43 dX7_drop_42 rfl rfl ?_
        refine fr_imul 44 dX7_drop_43 rfl ?_
        refine fr_iload_n 45 dX7_drop_44 rfl rfl ?_
        refine fr_iadd 46 dX7_drop_45 rfl ?_
        refine fr_aload_n 47 dX7_drop_46 rfl rfl ?_
        refine fr_getr 50 1 dX7_drop_47 rfl fs_kX7_7 fs_l0 rfl ?_
        refine fr_iconst 51 dX7_drop_50 rfl ?_
        refine fr_iload_n 52 dX7_drop_51 rfl rfl ?_
        refine fr_imul 53 dX7_drop_52 rfl ?_
        refine fr_iconst 54 dX7_drop_53 rfl ?_
        refine fr_iadd 55 dX7_drop_54 rfl ?_
        refine fr_iload_n 56 dX7_drop_55 rfl rfl ?_
        refine fr_iadd 57 dX7_drop_56 rfl ?_
        refine fr_iald 58 dX7_drop_57 rfl fs_l1 (by omega) ?_
        refine fr_iast 59 dX7_drop_58 rfl fs_l1 (by omega) ?_
        refine fr_aload_n 60 dX7_drop_59 rfl rfl ?_
        refine fr_getr 63 2 dX7_drop_60 rfl fs_kX7_13 fs_l0 rfl ?_
        refine fr_iconst 64 dX7_drop_63 rfl ?_
        refine fr_iload_n 65 dX7_drop_64 rfl rfl ?_
        refine fr_imul 66 dX7_drop_65 rfl ?_
        refine fr_iload_n 67 dX7_drop_66 rfl rfl ?_
        refine fr_iadd 68 dX7_drop_67 rfl ?_
        refine fr_aload_n 69 dX7_drop_68 rfl rfl ?_
        refine fr_getr 72 2 dX7_drop_69 rfl fs_kX7_13 fs_l0 rfl ?_
        refine fr_iconst 73 dX7_drop_72 rfl ?_
        refine fr_iload_n 74 dX7_drop_73 rfl rfl ?_
        refine fr_imul 75 dX7_drop_74 rfl ?_
        refine fr_iconst 76 dX7_drop_75 rfl ?_
        refine fr_iadd 77 dX7_drop_76 rfl ?_
        refine fr_iload_n 78 dX7_drop_77 rfl rfl ?_
        refine fr_iadd 79 dX7_drop_78 rfl ?_
        refine fr_iald 80 dX7_drop_79 rfl fs_l2 (by omega) ?_
        refine fr_iast 81 dX7_drop_80 rfl fs_l2 (by omega) ?_
        refine fr_iinc 84 [_, _, _, _] dX7_drop_81 rfl rfl rfl ?_
        refine fr_goto 32 dX7_drop_84 rfl ?_
        have q := hA (k + 1) f (by omega) (by omega) h2 (by omega)
        rw [if_neg (by omega), show dk r k (k + 1) = k + 1 by unfold dk; rw [if_neg (by omega)], show 4 * (k + 1) + f = 4 * k + 4 + f by omega] at q
        refine ih k (f + 1) _ hrr h0 h1 (by omega) (by omega) (by omega) (by rw [fs_u_k _ _ (by decide), fs_u_k _ _ (by decide)]; exact e0) (fun k i b1 b2 b3 b4 b5 => by rw [fs_u_k _ _ b2, fs_u_k _ _ b1]; exact hF k i b1 b2 b3 b4 b5) (fun k' i b1 b2 => by rw [fs_u_ne _ (by omega), fs_u_ne _ (by omega)]; exact hD k' i b1 b2) (fun x g b1 b2 b3 b4 => ?_) (fun x b1 b2 => by rw [fs_u_k _ _ (by decide), fs_u_k _ _ (by decide), fs_u_k _ _ (by decide), fs_u_k _ _ (by decide)]; exact hB x b1 b2) kk
        rw [fs_u_k (k' := 1) _ _ (by decide)]
        by_cases e : x = k ∧ g = f
        · obtain ⟨rfl, rfl⟩ := e
          rw [fs_u_eq, fs_u_eq, fs_u_k _ _ (by decide), if_pos (by omega), show dk r (x + 1) x = x + 1 by unfold dk; rw [if_pos (by omega)]]
          exact q
        · rw [fs_u_i _ (by omega), fs_u_i _ (by omega), fs_u_k _ _ (by decide)]
          have := hA x g b1 b2 b3 b4
          by_cases e2 : g = f
          · subst e2
            rw [if_neg (by omega), show dk r k x = dk r (k + 1) x by unfold dk; split <;> split <;> omega] at this
            rw [if_pos (by omega)]
            exact this
          · by_cases e3 : g < f
            · rw [if_pos e3] at this; rw [if_pos (by omega)]; exact this
            · rw [if_neg e3] at this; rw [if_neg (by omega)]; exact this
  have kK : ∀ (m : Nat) (k : Int) (τ : fs_S) (y : Option fs_V), (0 ≤ r ∧ r < n) → r ≤ k → k ≤ n - 1 → n - 1 - k < m → τ 0 0 = n - 1 → (∀ k i, k ≠ 1 → k ≠ 2 → k ≠ 3 → k ≠ 4 → ¬ (k = 0 ∧ i = 0) → τ k i = σ k i) → (∀ k i, (k = 1 ∨ k = 2) → 64 ≤ i → τ k i = σ k i) → (∀ x g, 0 ≤ x → x < n → 0 ≤ g → g < 4 → τ 1 (4 * x + g) = tlo A.1 (dk r k x) g ∧ τ 2 (4 * x + g) = thi A.1 (dk r k x) g) → (∀ x, 0 ≤ x → x < n → τ 3 x = trk A.1 (dk r k x) ∧ τ 4 x = tac A.1 (dk r k x)) →
      fs_W (fs_Γ 2 (Q_drop A r σ)) mX7_drop 22 [some (.inr 0), some (.inl r), some (.inl k), y] [] τ := by
    intro m
    induction m with
    | zero => intro k τ y hr h0 h1 h2; omega
    | succ m ih =>
      intro k τ y hrr h0 h1 h2 e0 hF hD hA hB
      refine fr_iload_n 23 dX7_drop_22 rfl rfl ?_
      refine fr_aload_n 24 dX7_drop_23 rfl rfl ?_
      refine fr_geti 27 0 dX7_drop_24 rfl fs_kX7_104 rfl fs_l0 rfl ?_
      refine fr_icmp_ge 121 30 dX7_drop_27 rfl rfl (by omega) (by omega) (fun h27 => ?_) (fun h27 => ?_)
      · refine fr_aload_n 122 dX7_drop_121 rfl rfl ?_
        refine fr_callVv 125 (M2 := mX7_change) [] dX7_drop_122 rfl fs_mX7_131 fs_oX7_change fs_iX7_change fs_l0 rfl rfl (fs_Γ_rm (d := 0) (by decide)) (Nat.le_of_ble_eq_true rfl) rfl ?_
        refine cM_change.mono ?_
        rintro _ τ3 ⟨rfl, c1, c2⟩
        refine ⟨rfl, ?_⟩
        have e3 : τ3 0 0 = n - 1 := by rw [c2 _ _ (by decide)]; exact e0
        refine fr_aload_n 126 dX7_drop_125 rfl rfl ?_
        refine fr_geti 129 0 dX7_drop_126 rfl fs_kX7_104 rfl fs_l0 rfl ?_
        refine fr_top e3 ?_
        refine fr_iret dX7_drop_129 rfl ?_
        have ek : k = n - 1 := by omega
        have ed : ∀ x, x < n - 1 → dk r k x = dx r x := fun x hx => by unfold dk dx; split <;> split <;> omega
        refine ⟨congrArg some ?_, ?_, Or.inr c1, fun k i b1 => by rw [c2 _ _ (by omega)]; exact hF k i (by omega) (by omega) (by omega) (by omega) (by omega)⟩
        · unfold aDrop; rw [en, if_pos hrr]
        · unfold sDrop; rw [en, if_pos hrr]
          refine ⟨⟨?_, fun x f b1 b2 b3 b4 => ?_, fun x b1 b2 => ?_⟩, fun f b1 b2 => ?_, ?_, fun k b1 b2 => ?_⟩
          · show τ3 0 0 = tn A.1 - 1
            rw [e3, en]
          · change x < tn A.1 - 1 at b2
            show τ3 1 (4 * x + f) = tlo A.1 (dx r x) f ∧ τ3 2 (4 * x + f) = thi A.1 (dx r x) f
            rw [en] at b2
            rw [c2 _ _ (by omega), c2 _ _ (by omega), ← ed x b2]
            exact hA x f b1 (by omega) b3 b4
          · change x < tn A.1 - 1 at b2
            show τ3 3 x = trk A.1 (dx r x) ∧ τ3 4 x = tac A.1 (dx r x)
            rw [en] at b2
            rw [c2 _ _ (by omega), c2 _ _ (by omega), ← ed x b2]
            exact hB x b1 (by omega)
          · rw [c2 _ _ (by omega), c2 _ _ (by omega), hD _ _ (by omega) (by omega), hD _ _ (by omega) (by omega)]; exact a2 f b1 b2
          · rw [c2 _ _ (by omega), c2 _ _ (by omega), hF _ _ (by omega) (by omega) (by omega) (by omega) (by omega), hF _ _ (by omega) (by omega) (by omega) (by omega) (by omega)]; exact a3
          · have f24 : ∀ i, τ3 24 i = σ 24 i := fun i => by rw [c2 _ _ (by omega)]; exact hF _ _ (by omega) (by omega) (by omega) (by omega) (by omega)
            have f25 : ∀ i, τ3 25 i = σ 25 i := fun i => by rw [c2 _ _ (by omega)]; exact hF _ _ (by omega) (by omega) (by omega) (by omega) (by omega)
            rw [f25]
            refine ⟨(a4 k b1 b2).1, fun z => ?_⟩
            obtain ⟨q1, q2, q3, q4, q5⟩ := (a4 k b1 b2).2 z
            refine ⟨by rw [f24]; exact q1, fun r f c d e g => ?_, fun r c d => ?_, by rw [f24]; exact q4, by rw [f24]; exact q5⟩
            · rw [f24, f24]; exact q2 r f c d e g
            · rw [f24, f24]; exact q3 r c d
      · refine fr_iconst 31 dX7_drop_30 rfl ?_
        refine fr_istore_n 32 [_, _, _, _] dX7_drop_31 rfl (Nat.le_of_ble_eq_true rfl) rfl ?_
        refine kF 5 k 0 _ hrr h0 (by omega) (by omega) (by omega) (by omega) e0 hF hD (fun x g b1 b2 b3 b4 => by rw [if_neg (by omega)]; exact hA x g b1 b2 b3 b4) hB (fun τ' y' e0' hF' hD' hA' hB' => ?_)
        refine fr_aload_n 88 dX7_drop_87 rfl rfl ?_
        refine fr_getr 91 3 dX7_drop_88 rfl fs_kX7_16 fs_l0 rfl ?_
        refine fr_iload_n 92 dX7_drop_91 rfl rfl ?_
        refine fr_aload_n 93 dX7_drop_92 rfl rfl ?_
        refine fr_getr 96 3 dX7_drop_93 rfl fs_kX7_16 fs_l0 rfl ?_
        refine fr_iload_n 97 dX7_drop_96 rfl rfl ?_
        refine fr_iconst 98 dX7_drop_97 rfl ?_
        refine fr_iadd 99 dX7_drop_98 rfl ?_
        refine fr_iald 100 dX7_drop_99 rfl fs_l3 (by omega) ?_
        refine fr_iast 101 dX7_drop_100 rfl fs_l3 (by omega) ?_
        refine fr_aload_n 102 dX7_drop_101 rfl rfl ?_
        refine fr_getr 105 4 dX7_drop_102 rfl fs_kX7_19 fs_l0 rfl ?_
        refine fr_iload_n 106 dX7_drop_105 rfl rfl ?_
        refine fr_aload_n 107 dX7_drop_106 rfl rfl ?_
        refine fr_getr 110 4 dX7_drop_107 rfl fs_kX7_19 fs_l0 rfl ?_
        refine fr_iload_n 111 dX7_drop_110 rfl rfl ?_
        refine fr_iconst 112 dX7_drop_111 rfl ?_
        refine fr_iadd 113 dX7_drop_112 rfl ?_
        refine fr_iald 114 dX7_drop_113 rfl fs_l4 (by omega) ?_
        refine fr_iast 115 dX7_drop_114 rfl fs_l4 (by omega) ?_
        refine fr_iinc 118 [_, _, _, _] dX7_drop_115 rfl rfl rfl ?_
        refine fr_goto 22 dX7_drop_118 rfl ?_
        have q := hB' (k + 1) (by omega) (by omega)
        rw [show dk r k (k + 1) = k + 1 by unfold dk; rw [if_neg (by omega)]] at q
        refine ih (k + 1) _ _ hrr (by omega) (by omega) (by omega) (by rw [fs_u_k _ _ (by decide), fs_u_k _ _ (by decide)]; exact e0') (fun k i b1 b2 b3 b4 b5 => by rw [fs_u_k _ _ b4, fs_u_k _ _ b3]; exact hF' k i b1 b2 b3 b4 b5) (fun k' i b1 b2 => by rw [fs_u_k _ _ (by omega), fs_u_k _ _ (by omega)]; exact hD' k' i b1 b2) (fun x g b1 b2 b3 b4 => by rw [fs_u_k _ _ (by decide), fs_u_k _ _ (by decide), fs_u_k _ _ (by decide), fs_u_k _ _ (by decide)]; exact hA' x g b1 b2 b3 b4) (fun x b1 b2 => ?_)
        rw [fs_u_k (k' := 3) _ _ (by decide)]
        by_cases e : x = k
        · subst e
          rw [fs_u_eq, fs_u_eq, fs_u_k _ _ (by decide), show dk r (x + 1) x = x + 1 by unfold dk; rw [if_pos (by omega)]]
          exact q
        · rw [fs_u_i _ e, fs_u_i _ e, fs_u_k _ _ (by decide), show dk r (k + 1) x = dk r k x by unfold dk; split <;> split <;> omega]
          exact hB' x b1 b2
  refine fr_aload_n 1 dX7_drop_0 rfl rfl ?_
  refine fr_iload_n 2 dX7_drop_1 rfl rfl ?_
  refine fr_callVi 5 (M2 := mX7_isRule) [_] dX7_drop_2 rfl fs_mX7_134 fs_oX7_isRule fs_iX7_isRule fs_l0 rfl rfl (fs_Γ_rm (d := 1) (by decide)) (Nat.le_of_ble_eq_true rfl) rfl ?_
  refine (cM_isRule hm hn hr).ci ?_
  refine fr_if_ne 10 8 dX7_drop_5 rfl rfl (by omega) (fun h5 => ?_) (fun h5 => ?_)
  · refine fr_aload_n 11 dX7_drop_10 rfl rfl ?_
    refine fr_dup 12 dX7_drop_11 rfl ?_
    refine fr_geti 15 0 dX7_drop_12 rfl fs_kX7_104 rfl fs_l0 rfl ?_
    refine fr_iconst 16 dX7_drop_15 rfl ?_
    refine fr_isub 17 dX7_drop_16 rfl ?_
    refine fr_puti 20 0 dX7_drop_17 rfl fs_kX7_104 fs_pX7_0 rfl fs_l0 rfl ?_
    refine fr_iload_n 21 dX7_drop_20 rfl rfl ?_
    refine fr_istore_n 22 [_, _, _, _] dX7_drop_21 rfl (Nat.le_of_ble_eq_true rfl) rfl ?_
    have e9 : ∀ x, dk r r x = x := fun x => by unfold dk; rw [if_neg (by omega)]
    refine kK (n.toNat + 1) r _ _ (by omega) (by omega) (by omega) (by omega) (by rw [fs_u_eq, hm]) (fun k i b1 b2 b3 b4 b5 => fs_u_ne _ b5) (fun k i b1 b2 => fs_u_ne _ (by omega)) (fun x g b1 b2 b3 b4 => ?_) (fun x b1 b2 => ?_)
    · rw [fs_u_k _ _ (by decide), fs_u_k _ _ (by decide), e9]; exact a1.2.1 x g b1 (by omega) b3 b4
    · rw [fs_u_k _ _ (by decide), fs_u_k _ _ (by decide), e9]; exact a1.2.2 x b1 (by omega)
  · refine fr_iconst 9 dX7_drop_8 rfl ?_
    refine fr_iret dX7_drop_9 rfl ?_
    have es : sDrop A r = A := if_neg (by omega)
    exact ⟨congrArg some (by unfold aDrop; rw [if_neg (by omega)]), by rw [es]; exact hI, Or.inl ⟨rfl, es⟩, fun _ _ _ => rfl⟩
set_option maxRecDepth 100000 in
set_option maxHeartbeats 8000000 in
theorem cM_rank {σ : fs_S} {A : ab} {r k : Int} (hI : IMc σ A) (hw : awf A) (hr : rg r) (hk : rg k) : fs_C mX7_rank 2 [.inr 0, .inl r, .inl k] σ (fun x τ => x = some (aRank A r k) ∧ IMc τ (sRank A r k) ∧ (τ = σ ∧ sRank A r k = A ∨ fl0 τ) ∧ frC σ τ) := by
  refine fs_C.intro [some (.inr 0), some (.inl r), some (.inl k)] fs_oX7_rank (Nat.le_of_ble_eq_true rfl) rfl ?_
  obtain ⟨a1, a2, a3, a4⟩ := id hI
  have hn := hw.1.1
  refine fr_aload_n 1 dX7_rank_0 rfl rfl ?_
  refine fr_iload_n 2 dX7_rank_1 rfl rfl ?_
  refine fr_callVi 5 (M2 := mX7_isRule) [_] dX7_rank_2 rfl fs_mX7_134 fs_oX7_isRule fs_iX7_isRule fs_l0 rfl rfl (fs_Γ_rm (d := 1) (by decide)) (Nat.le_of_ble_eq_true rfl) rfl ?_
  refine (cM_isRule a1.1 hn hr).ci ?_
  refine fr_if_ne 10 8 dX7_rank_5 rfl rfl (by omega) (fun h5 => ?_) (fun h5 => ?_)
  · refine fr_iload_n 11 dX7_rank_10 rfl rfl ?_
    refine fr_iconst 12 dX7_rank_11 rfl ?_
    refine fr_sipush 15 dX7_rank_12 rfl (by decide) ?_
    refine fr_callSi 18 (M2 := mX7_in) [_, _, _] dX7_rank_15 rfl fs_mX7_100 fs_oX7_in fs_sX7_in rfl (fs_Γ_rm (d := 0) (by decide)) (Nat.le_of_ble_eq_true rfl) rfl ?_
    refine (cM_in (by omega) (by omega) (by omega)).ci ?_
    refine fr_if_ne 24 21 dX7_rank_18 rfl rfl (by omega) (fun h18 => ?_) (fun h18 => ?_)
    · refine fr_aload_n 25 dX7_rank_24 rfl rfl ?_
      refine fr_getr 28 3 dX7_rank_25 rfl fs_kX7_16 fs_l0 rfl ?_
      refine fr_iload_n 29 dX7_rank_28 rfl rfl ?_
      refine fr_iload_n 30 dX7_rank_29 rfl rfl ?_
      refine fr_iast 31 dX7_rank_30 rfl fs_l3 (by omega) ?_
      refine fr_aload_n 32 dX7_rank_31 rfl rfl ?_
      refine fr_callVv 35 (M2 := mX7_change) [] dX7_rank_32 rfl fs_mX7_131 fs_oX7_change fs_iX7_change fs_l0 rfl rfl (fs_Γ_rm (d := 0) (by decide)) (Nat.le_of_ble_eq_true rfl) rfl ?_
      refine cM_change.mono ?_
      rintro _ τ ⟨rfl, c1, c2⟩
      refine ⟨rfl, ?_⟩
      have hrr : 0 ≤ r ∧ r < tn A.1 := by omega
      have hkk : 0 ≤ k ∧ k ≤ 999 := by omega
      have hR : RM τ (tRank A.1 r k) := by
        refine ⟨?_, fun x f b1 b2 b3 b4 => ?_, fun x b1 b2 => ?_⟩
        · rw [c2 _ _ (by omega), fs_u_k _ _ (by decide)]; exact a1.1
        · rw [c2 _ _ (by omega), c2 _ _ (by omega), fs_u_k _ _ (by decide), fs_u_k _ _ (by decide)]; exact a1.2.1 x f b1 b2 b3 b4
        · rw [c2 _ _ (by omega), c2 _ _ (by omega), fs_u_k (k' := 4) _ _ (by decide)]
          refine ⟨?_, (a1.2.2 x b1 b2).2⟩
          show _ = (if x = r then k else trk A.1 x)
          by_cases e : x = r
          · rw [if_pos e, e, fs_u_eq]
          · rw [if_neg e, fs_u_i _ e]; exact (a1.2.2 x b1 b2).1
      refine fr_aload_n 36 dX7_rank_35 rfl rfl ?_
      refine fr_iload_n 37 dX7_rank_36 rfl rfl ?_
      refine fr_callVi 40 (M2 := mX7_aheadOf) [_] dX7_rank_37 rfl fs_mX7_140 fs_oX7_aheadOf fs_iX7_aheadOf fs_l0 rfl rfl (fs_Γ_rm (d := 1) (by decide)) (Nat.le_of_ble_eq_true rfl) rfl ?_
      refine (cM_aheadOf (tRank_wf hw.1 hkk) hR hrr.1 hrr.2).ci ?_
      refine fr_iret dX7_rank_40 rfl ?_
      refine ⟨congrArg some (by unfold aRank; rw [if_pos hrr, if_pos hkk]), ?_, Or.inr c1, fun k i b1 => by rw [c2 _ _ (by omega), fs_u_k _ _ (by omega)]⟩
      unfold sRank; rw [if_pos ⟨hrr, hkk⟩]
      have f24 : ∀ k i, k ≠ 0 → k ≠ 3 → τ k i = σ k i := fun k i b1 b2 => by rw [c2 _ _ (by omega), fs_u_k _ _ b2]
      refine ⟨hR, fun f b1 b2 => ?_, ?_, fun k b1 b2 => ?_⟩
      · rw [f24 _ _ (by omega) (by omega), f24 _ _ (by omega) (by omega)]; exact a2 f b1 b2
      · rw [c2 _ _ (by omega), c2 _ _ (by omega), fs_u_k _ _ (by decide), fs_u_k _ _ (by decide)]; exact a3
      · rw [f24 _ _ (by omega) (by omega)]
        refine ⟨(a4 k b1 b2).1, fun z => ?_⟩
        obtain ⟨q1, q2, q3, q4, q5⟩ := (a4 k b1 b2).2 z
        refine ⟨by rw [f24 _ _ (by omega) (by omega)]; exact q1, fun r f c d e g => ?_, fun r c d => ?_, by rw [f24 _ _ (by omega) (by omega)]; exact q4, by rw [f24 _ _ (by omega) (by omega)]; exact q5⟩
        · rw [f24 _ _ (by omega) (by omega), f24 _ _ (by omega) (by omega)]; exact q2 r f c d e g
        · rw [f24 _ _ (by omega) (by omega), f24 _ _ (by omega) (by omega)]; exact q3 r c d
    · refine fr_bipush 23 dX7_rank_21 rfl (by decide) ?_
      refine fr_iret dX7_rank_23 rfl ?_
      have es : sRank A r k = A := if_neg (by omega)
      exact ⟨congrArg some (by unfold aRank; rw [if_pos (by omega), if_neg (by omega)]), by rw [es]; exact hI, Or.inl ⟨rfl, es⟩, fun _ _ _ => rfl⟩
  · refine fr_iconst 9 dX7_rank_8 rfl ?_
    refine fr_iret dX7_rank_9 rfl ?_
    have es : sRank A r k = A := if_neg (by omega)
    exact ⟨congrArg some (by unfold aRank; rw [if_neg (by omega)]), by rw [es]; exact hI, Or.inl ⟨rfl, es⟩, fun _ _ _ => rfl⟩
end
