section
-- ===== PART A: goes FIRST, ahead of the names: the tables' words, and 'selects' of the private methods out of them =====
/-- a private method of a class that the tables say can be made, by its rows of tables_1 -/
def lw_okq (q : MethodName × Nat) : Prop := (q.1.cls ≠ "java/lang/invoke/MethodHandle" ∧ q.1.cls ≠ "java/lang/invoke/VarHandle") ∧ Cond.instantiable q.1.cls q.2 ∈ tables_1 ∧ Cond.privateMethod q.1 ∈ tables_1 ∧ Cond.instanceMethod q.1 ∈ tables_1
theorem lw_p0 : lw_okq (⟨"CutListDesk", "isEdit", "(II)Z"⟩, 8) := ⟨⟨by decide +kernel, by decide +kernel⟩, List.mem_of_getElem? (i := 13) (by decide +kernel), List.mem_of_getElem? (i := 205) (by decide +kernel), List.mem_of_getElem? (i := 206) (by decide +kernel)⟩
theorem lw_p1 : lw_okq (⟨"CutListDesk", "found", "(I)I"⟩, 8) := ⟨⟨by decide +kernel, by decide +kernel⟩, List.mem_of_getElem? (i := 13) (by decide +kernel), List.mem_of_getElem? (i := 234) (by decide +kernel), List.mem_of_getElem? (i := 235) (by decide +kernel)⟩
theorem lw_p2 : lw_okq (⟨"CutListDesk", "lengthOf", "(I)I"⟩, 8) := ⟨⟨by decide +kernel, by decide +kernel⟩, List.mem_of_getElem? (i := 13) (by decide +kernel), List.mem_of_getElem? (i := 275) (by decide +kernel), List.mem_of_getElem? (i := 276) (by decide +kernel)⟩
theorem lw_p3 : lw_okq (⟨"CutListDesk$Edit", "firstAtLeast", "(I)I"⟩, 5) := ⟨⟨by decide +kernel, by decide +kernel⟩, List.mem_of_getElem? (i := 76) (by decide +kernel), List.mem_of_getElem? (i := 292) (by decide +kernel), List.mem_of_getElem? (i := 293) (by decide +kernel)⟩
theorem lw_p4 : lw_okq (⟨"CutListDesk", "gather", "(II)LCutListDesk$Spans;"⟩, 8) := ⟨⟨by decide +kernel, by decide +kernel⟩, List.mem_of_getElem? (i := 13) (by decide +kernel), List.mem_of_getElem? (i := 349) (by decide +kernel), List.mem_of_getElem? (i := 350) (by decide +kernel)⟩
theorem lw_p5 : lw_okq (⟨"CutListDesk$Spans", "isFull", "()Z"⟩, 5) := ⟨⟨by decide +kernel, by decide +kernel⟩, List.mem_of_getElem? (i := 28) (by decide +kernel), List.mem_of_getElem? (i := 360) (by decide +kernel), List.mem_of_getElem? (i := 361) (by decide +kernel)⟩
theorem lw_p6 : lw_okq (⟨"CutListDesk$Spans", "isBehind", "(III)Z"⟩, 5) := ⟨⟨by decide +kernel, by decide +kernel⟩, List.mem_of_getElem? (i := 28) (by decide +kernel), List.mem_of_getElem? (i := 364) (by decide +kernel), List.mem_of_getElem? (i := 365) (by decide +kernel)⟩
theorem lw_p7 : lw_okq (⟨"CutListDesk$Spans", "move", "(II)V"⟩, 5) := ⟨⟨by decide +kernel, by decide +kernel⟩, List.mem_of_getElem? (i := 28) (by decide +kernel), List.mem_of_getElem? (i := 368) (by decide +kernel), List.mem_of_getElem? (i := 369) (by decide +kernel)⟩
theorem lw_p8 : lw_okq (⟨"CutListDesk$Spans", "fill", "(IIIII)V"⟩, 5) := ⟨⟨by decide +kernel, by decide +kernel⟩, List.mem_of_getElem? (i := 28) (by decide +kernel), List.mem_of_getElem? (i := 372) (by decide +kernel), List.mem_of_getElem? (i := 373) (by decide +kernel)⟩
theorem lw_p9 : lw_okq (⟨"CutListDesk", "lacking", "(LCutListDesk$Spans;I)I"⟩, 8) := ⟨⟨by decide +kernel, by decide +kernel⟩, List.mem_of_getElem? (i := 13) (by decide +kernel), List.mem_of_getElem? (i := 385) (by decide +kernel), List.mem_of_getElem? (i := 386) (by decide +kernel)⟩
theorem lw_p10 : lw_okq (⟨"CutListDesk", "lackingOfAll", "(LCutListDesk$Spans;)I"⟩, 8) := ⟨⟨by decide +kernel, by decide +kernel⟩, List.mem_of_getElem? (i := 13) (by decide +kernel), List.mem_of_getElem? (i := 411) (by decide +kernel), List.mem_of_getElem? (i := 412) (by decide +kernel)⟩
theorem lw_p11 : lw_okq (⟨"CutListDesk$Match", "takeEach", "(LCutListDesk$Cut;LCutListDesk$Cut;Z)V"⟩, 2) := ⟨⟨by decide +kernel, by decide +kernel⟩, List.mem_of_getElem? (i := 56) (by decide +kernel), List.mem_of_getElem? (i := 424) (by decide +kernel), List.mem_of_getElem? (i := 425) (by decide +kernel)⟩
theorem lw_p12 : lw_okq (⟨"CutListDesk$Match", "takeFor", "(ILCutListDesk$Cut;LCutListDesk$Edit;Z)V"⟩, 2) := ⟨⟨by decide +kernel, by decide +kernel⟩, List.mem_of_getElem? (i := 56) (by decide +kernel), List.mem_of_getElem? (i := 428) (by decide +kernel), List.mem_of_getElem? (i := 429) (by decide +kernel)⟩
theorem lw_p13 : lw_okq (⟨"CutListDesk", "gatherFresh", "()V"⟩, 8) := ⟨⟨by decide +kernel, by decide +kernel⟩, List.mem_of_getElem? (i := 13) (by decide +kernel), List.mem_of_getElem? (i := 459) (by decide +kernel), List.mem_of_getElem? (i := 460) (by decide +kernel)⟩
theorem lw_p14 : lw_okq (⟨"CutListDesk", "addWithout", "(LCutListDesk$Spans;III)V"⟩, 8) := ⟨⟨by decide +kernel, by decide +kernel⟩, List.mem_of_getElem? (i := 13) (by decide +kernel), List.mem_of_getElem? (i := 466) (by decide +kernel), List.mem_of_getElem? (i := 467) (by decide +kernel)⟩
theorem lw_p15 : lw_okq (⟨"CutListDesk", "keptEdits", "()I"⟩, 8) := ⟨⟨by decide +kernel, by decide +kernel⟩, List.mem_of_getElem? (i := 13) (by decide +kernel), List.mem_of_getElem? (i := 533) (by decide +kernel), List.mem_of_getElem? (i := 534) (by decide +kernel)⟩
def lw_privs_1 : List (MethodName × Nat) := [(⟨"CutListDesk", "isEdit", "(II)Z"⟩, 8), (⟨"CutListDesk", "found", "(I)I"⟩, 8), (⟨"CutListDesk", "lengthOf", "(I)I"⟩, 8), (⟨"CutListDesk$Edit", "firstAtLeast", "(I)I"⟩, 5), (⟨"CutListDesk", "gather", "(II)LCutListDesk$Spans;"⟩, 8), (⟨"CutListDesk$Spans", "isFull", "()Z"⟩, 5), (⟨"CutListDesk$Spans", "isBehind", "(III)Z"⟩, 5), (⟨"CutListDesk$Spans", "move", "(II)V"⟩, 5), (⟨"CutListDesk$Spans", "fill", "(IIIII)V"⟩, 5), (⟨"CutListDesk", "lacking", "(LCutListDesk$Spans;I)I"⟩, 8), (⟨"CutListDesk", "lackingOfAll", "(LCutListDesk$Spans;)I"⟩, 8), (⟨"CutListDesk$Match", "takeEach", "(LCutListDesk$Cut;LCutListDesk$Cut;Z)V"⟩, 2), (⟨"CutListDesk$Match", "takeFor", "(ILCutListDesk$Cut;LCutListDesk$Edit;Z)V"⟩, 2), (⟨"CutListDesk", "gatherFresh", "()V"⟩, 8), (⟨"CutListDesk", "addWithout", "(LCutListDesk$Spans;III)V"⟩, 8), (⟨"CutListDesk", "keptEdits", "()I"⟩, 8)]
theorem lw_r1 : ∀ q ∈ lw_privs_1, lw_okq q := List.forall_mem_cons.mpr ⟨lw_p0, List.forall_mem_cons.mpr ⟨lw_p1, List.forall_mem_cons.mpr ⟨lw_p2, List.forall_mem_cons.mpr ⟨lw_p3, List.forall_mem_cons.mpr ⟨lw_p4, List.forall_mem_cons.mpr ⟨lw_p5, List.forall_mem_cons.mpr ⟨lw_p6, List.forall_mem_cons.mpr ⟨lw_p7, List.forall_mem_cons.mpr ⟨lw_p8, List.forall_mem_cons.mpr ⟨lw_p9, List.forall_mem_cons.mpr ⟨lw_p10, List.forall_mem_cons.mpr ⟨lw_p11, List.forall_mem_cons.mpr ⟨lw_p12, List.forall_mem_cons.mpr ⟨lw_p13, List.forall_mem_cons.mpr ⟨lw_p14, List.forall_mem_cons.mpr ⟨lw_p15, fun _ h => absurd h List.not_mem_nil⟩⟩⟩⟩⟩⟩⟩⟩⟩⟩⟩⟩⟩⟩⟩⟩
theorem lw_p16 : lw_okq (⟨"CutListDesk", "digestOfEdits", "(JI)J"⟩, 8) := ⟨⟨by decide +kernel, by decide +kernel⟩, List.mem_of_getElem? (i := 13) (by decide +kernel), List.mem_of_getElem? (i := 545) (by decide +kernel), List.mem_of_getElem? (i := 546) (by decide +kernel)⟩
theorem lw_p17 : lw_okq (⟨"CutListDesk", "digestOfList", "(JI)J"⟩, 8) := ⟨⟨by decide +kernel, by decide +kernel⟩, List.mem_of_getElem? (i := 13) (by decide +kernel), List.mem_of_getElem? (i := 551) (by decide +kernel), List.mem_of_getElem? (i := 552) (by decide +kernel)⟩
theorem lw_p18 : lw_okq (⟨"CutListDesk", "digestOfTold", "(JI)J"⟩, 8) := ⟨⟨by decide +kernel, by decide +kernel⟩, List.mem_of_getElem? (i := 13) (by decide +kernel), List.mem_of_getElem? (i := 563) (by decide +kernel), List.mem_of_getElem? (i := 564) (by decide +kernel)⟩
theorem lw_p19 : lw_okq (⟨"CutListDeskModel", "adds", "(IIIIII)I"⟩, 21) := ⟨⟨by decide +kernel, by decide +kernel⟩, List.mem_of_getElem? (i := 569) (by decide +kernel), List.mem_of_getElem? (i := 651) (by decide +kernel), List.mem_of_getElem? (i := 652) (by decide +kernel)⟩
theorem lw_p20 : lw_okq (⟨"CutListDeskModel", "isEdit", "(II)Z"⟩, 21) := ⟨⟨by decide +kernel, by decide +kernel⟩, List.mem_of_getElem? (i := 569) (by decide +kernel), List.mem_of_getElem? (i := 670) (by decide +kernel), List.mem_of_getElem? (i := 671) (by decide +kernel)⟩
theorem lw_p21 : lw_okq (⟨"CutListDeskModel", "meets", "(I)I"⟩, 21) := ⟨⟨by decide +kernel, by decide +kernel⟩, List.mem_of_getElem? (i := 569) (by decide +kernel), List.mem_of_getElem? (i := 700) (by decide +kernel), List.mem_of_getElem? (i := 701) (by decide +kernel)⟩
theorem lw_p22 : lw_okq (⟨"CutListDeskModel", "infoOf", "(III)I"⟩, 21) := ⟨⟨by decide +kernel, by decide +kernel⟩, List.mem_of_getElem? (i := 569) (by decide +kernel), List.mem_of_getElem? (i := 708) (by decide +kernel), List.mem_of_getElem? (i := 709) (by decide +kernel)⟩
theorem lw_p23 : lw_okq (⟨"CutListDeskModel", "beginOf", "(II)I"⟩, 21) := ⟨⟨by decide +kernel, by decide +kernel⟩, List.mem_of_getElem? (i := 569) (by decide +kernel), List.mem_of_getElem? (i := 712) (by decide +kernel), List.mem_of_getElem? (i := 713) (by decide +kernel)⟩
theorem lw_p24 : lw_okq (⟨"CutListDeskModel", "lastOf", "(I)I"⟩, 21) := ⟨⟨by decide +kernel, by decide +kernel⟩, List.mem_of_getElem? (i := 569) (by decide +kernel), List.mem_of_getElem? (i := 716) (by decide +kernel), List.mem_of_getElem? (i := 717) (by decide +kernel)⟩
theorem lw_p25 : lw_okq (⟨"CutListDeskModel", "frameOf", "(II)I"⟩, 21) := ⟨⟨by decide +kernel, by decide +kernel⟩, List.mem_of_getElem? (i := 569) (by decide +kernel), List.mem_of_getElem? (i := 720) (by decide +kernel), List.mem_of_getElem? (i := 721) (by decide +kernel)⟩
theorem lw_p26 : lw_okq (⟨"CutListDeskModel", "showsOf", "(III)I"⟩, 21) := ⟨⟨by decide +kernel, by decide +kernel⟩, List.mem_of_getElem? (i := 569) (by decide +kernel), List.mem_of_getElem? (i := 728) (by decide +kernel), List.mem_of_getElem? (i := 729) (by decide +kernel)⟩
theorem lw_p27 : lw_okq (⟨"CutListDeskModel", "seenOf", "(IIII)I"⟩, 21) := ⟨⟨by decide +kernel, by decide +kernel⟩, List.mem_of_getElem? (i := 569) (by decide +kernel), List.mem_of_getElem? (i := 737) (by decide +kernel), List.mem_of_getElem? (i := 738) (by decide +kernel)⟩
theorem lw_p28 : lw_okq (⟨"CutListDeskModel", "stillOf", "(II)I"⟩, 21) := ⟨⟨by decide +kernel, by decide +kernel⟩, List.mem_of_getElem? (i := 569) (by decide +kernel), List.mem_of_getElem? (i := 745) (by decide +kernel), List.mem_of_getElem? (i := 746) (by decide +kernel)⟩
theorem lw_p29 : lw_okq (⟨"CutListDeskModel", "toldOf", "(II)I"⟩, 21) := ⟨⟨by decide +kernel, by decide +kernel⟩, List.mem_of_getElem? (i := 569) (by decide +kernel), List.mem_of_getElem? (i := 754) (by decide +kernel), List.mem_of_getElem? (i := 755) (by decide +kernel)⟩
theorem lw_p30 : lw_okq (⟨"CutListDeskModel", "numbered", "(I)I"⟩, 21) := ⟨⟨by decide +kernel, by decide +kernel⟩, List.mem_of_getElem? (i := 569) (by decide +kernel), List.mem_of_getElem? (i := 758) (by decide +kernel), List.mem_of_getElem? (i := 759) (by decide +kernel)⟩
theorem lw_p31 : lw_okq (⟨"CutListDeskModel", "aSecond", "()I"⟩, 21) := ⟨⟨by decide +kernel, by decide +kernel⟩, List.mem_of_getElem? (i := 569) (by decide +kernel), List.mem_of_getElem? (i := 762) (by decide +kernel), List.mem_of_getElem? (i := 763) (by decide +kernel)⟩
def lw_privs_2 : List (MethodName × Nat) := [(⟨"CutListDesk", "digestOfEdits", "(JI)J"⟩, 8), (⟨"CutListDesk", "digestOfList", "(JI)J"⟩, 8), (⟨"CutListDesk", "digestOfTold", "(JI)J"⟩, 8), (⟨"CutListDeskModel", "adds", "(IIIIII)I"⟩, 21), (⟨"CutListDeskModel", "isEdit", "(II)Z"⟩, 21), (⟨"CutListDeskModel", "meets", "(I)I"⟩, 21), (⟨"CutListDeskModel", "infoOf", "(III)I"⟩, 21), (⟨"CutListDeskModel", "beginOf", "(II)I"⟩, 21), (⟨"CutListDeskModel", "lastOf", "(I)I"⟩, 21), (⟨"CutListDeskModel", "frameOf", "(II)I"⟩, 21), (⟨"CutListDeskModel", "showsOf", "(III)I"⟩, 21), (⟨"CutListDeskModel", "seenOf", "(IIII)I"⟩, 21), (⟨"CutListDeskModel", "stillOf", "(II)I"⟩, 21), (⟨"CutListDeskModel", "toldOf", "(II)I"⟩, 21), (⟨"CutListDeskModel", "numbered", "(I)I"⟩, 21), (⟨"CutListDeskModel", "aSecond", "()I"⟩, 21)]
theorem lw_r2 : ∀ q ∈ lw_privs_2, lw_okq q := List.forall_mem_cons.mpr ⟨lw_p16, List.forall_mem_cons.mpr ⟨lw_p17, List.forall_mem_cons.mpr ⟨lw_p18, List.forall_mem_cons.mpr ⟨lw_p19, List.forall_mem_cons.mpr ⟨lw_p20, List.forall_mem_cons.mpr ⟨lw_p21, List.forall_mem_cons.mpr ⟨lw_p22, List.forall_mem_cons.mpr ⟨lw_p23, List.forall_mem_cons.mpr ⟨lw_p24, List.forall_mem_cons.mpr ⟨lw_p25, List.forall_mem_cons.mpr ⟨lw_p26, List.forall_mem_cons.mpr ⟨lw_p27, List.forall_mem_cons.mpr ⟨lw_p28, List.forall_mem_cons.mpr ⟨lw_p29, List.forall_mem_cons.mpr ⟨lw_p30, List.forall_mem_cons.mpr ⟨lw_p31, fun _ h => absurd h List.not_mem_nil⟩⟩⟩⟩⟩⟩⟩⟩⟩⟩⟩⟩⟩⟩⟩⟩
theorem lw_p32 : lw_okq (⟨"CutListDeskModel", "numberOf", "(IIII)I"⟩, 21) := ⟨⟨by decide +kernel, by decide +kernel⟩, List.mem_of_getElem? (i := 569) (by decide +kernel), List.mem_of_getElem? (i := 770) (by decide +kernel), List.mem_of_getElem? (i := 771) (by decide +kernel)⟩
theorem lw_p33 : lw_okq (⟨"CutListDeskModel", "manyPulls", "(I)I"⟩, 21) := ⟨⟨by decide +kernel, by decide +kernel⟩, List.mem_of_getElem? (i := 569) (by decide +kernel), List.mem_of_getElem? (i := 778) (by decide +kernel), List.mem_of_getElem? (i := 779) (by decide +kernel)⟩
theorem lw_p34 : lw_okq (⟨"CutListDeskModel", "pullsOf", "(II)V"⟩, 21) := ⟨⟨by decide +kernel, by decide +kernel⟩, List.mem_of_getElem? (i := 569) (by decide +kernel), List.mem_of_getElem? (i := 782) (by decide +kernel), List.mem_of_getElem? (i := 783) (by decide +kernel)⟩
theorem lw_p35 : lw_okq (⟨"CutListDeskModel", "joins", "(I)Z"⟩, 21) := ⟨⟨by decide +kernel, by decide +kernel⟩, List.mem_of_getElem? (i := 569) (by decide +kernel), List.mem_of_getElem? (i := 789) (by decide +kernel), List.mem_of_getElem? (i := 790) (by decide +kernel)⟩
theorem lw_p36 : lw_okq (⟨"CutListDeskModel", "areNear", "(II)Z"⟩, 21) := ⟨⟨by decide +kernel, by decide +kernel⟩, List.mem_of_getElem? (i := 569) (by decide +kernel), List.mem_of_getElem? (i := 793) (by decide +kernel), List.mem_of_getElem? (i := 794) (by decide +kernel)⟩
theorem lw_p37 : lw_okq (⟨"CutListDeskModel", "copies", "(II)V"⟩, 21) := ⟨⟨by decide +kernel, by decide +kernel⟩, List.mem_of_getElem? (i := 569) (by decide +kernel), List.mem_of_getElem? (i := 800) (by decide +kernel), List.mem_of_getElem? (i := 801) (by decide +kernel)⟩
theorem lw_p38 : lw_okq (⟨"CutListDeskModel", "orders", "(I)V"⟩, 21) := ⟨⟨by decide +kernel, by decide +kernel⟩, List.mem_of_getElem? (i := 569) (by decide +kernel), List.mem_of_getElem? (i := 804) (by decide +kernel), List.mem_of_getElem? (i := 805) (by decide +kernel)⟩
theorem lw_p39 : lw_okq (⟨"CutListDeskModel", "isAhead", "(II)Z"⟩, 21) := ⟨⟨by decide +kernel, by decide +kernel⟩, List.mem_of_getElem? (i := 569) (by decide +kernel), List.mem_of_getElem? (i := 808) (by decide +kernel), List.mem_of_getElem? (i := 809) (by decide +kernel)⟩
theorem lw_p40 : lw_okq (⟨"CutListDeskModel", "pullFor", "(III)I"⟩, 21) := ⟨⟨by decide +kernel, by decide +kernel⟩, List.mem_of_getElem? (i := 569) (by decide +kernel), List.mem_of_getElem? (i := 816) (by decide +kernel), List.mem_of_getElem? (i := 817) (by decide +kernel)⟩
theorem lw_p41 : lw_okq (⟨"CutListDeskModel", "lacking", "(I)I"⟩, 21) := ⟨⟨by decide +kernel, by decide +kernel⟩, List.mem_of_getElem? (i := 569) (by decide +kernel), List.mem_of_getElem? (i := 820) (by decide +kernel), List.mem_of_getElem? (i := 821) (by decide +kernel)⟩
theorem lw_p42 : lw_okq (⟨"CutListDeskModel", "wasteOf", "(I)I"⟩, 21) := ⟨⟨by decide +kernel, by decide +kernel⟩, List.mem_of_getElem? (i := 569) (by decide +kernel), List.mem_of_getElem? (i := 828) (by decide +kernel), List.mem_of_getElem? (i := 829) (by decide +kernel)⟩
theorem lw_p43 : lw_okq (⟨"CutListDeskModel", "framesNow", "(I)I"⟩, 21) := ⟨⟨by decide +kernel, by decide +kernel⟩, List.mem_of_getElem? (i := 569) (by decide +kernel), List.mem_of_getElem? (i := 832) (by decide +kernel), List.mem_of_getElem? (i := 833) (by decide +kernel)⟩
theorem lw_p44 : lw_okq (⟨"CutListDeskModel", "freshOf", "(II)I"⟩, 21) := ⟨⟨by decide +kernel, by decide +kernel⟩, List.mem_of_getElem? (i := 569) (by decide +kernel), List.mem_of_getElem? (i := 836) (by decide +kernel), List.mem_of_getElem? (i := 837) (by decide +kernel)⟩
theorem lw_p45 : lw_okq (⟨"CutListDeskModel", "isShown", "(III)Z"⟩, 21) := ⟨⟨by decide +kernel, by decide +kernel⟩, List.mem_of_getElem? (i := 569) (by decide +kernel), List.mem_of_getElem? (i := 840) (by decide +kernel), List.mem_of_getElem? (i := 841) (by decide +kernel)⟩
theorem lw_p46 : lw_okq (⟨"CutListDeskModel", "totalOf", "(II)I"⟩, 21) := ⟨⟨by decide +kernel, by decide +kernel⟩, List.mem_of_getElem? (i := 569) (by decide +kernel), List.mem_of_getElem? (i := 848) (by decide +kernel), List.mem_of_getElem? (i := 849) (by decide +kernel)⟩
theorem lw_p47 : lw_okq (⟨"CutListDeskModel", "compareOf", "(II)I"⟩, 21) := ⟨⟨by decide +kernel, by decide +kernel⟩, List.mem_of_getElem? (i := 569) (by decide +kernel), List.mem_of_getElem? (i := 856) (by decide +kernel), List.mem_of_getElem? (i := 857) (by decide +kernel)⟩
def lw_privs_3 : List (MethodName × Nat) := [(⟨"CutListDeskModel", "numberOf", "(IIII)I"⟩, 21), (⟨"CutListDeskModel", "manyPulls", "(I)I"⟩, 21), (⟨"CutListDeskModel", "pullsOf", "(II)V"⟩, 21), (⟨"CutListDeskModel", "joins", "(I)Z"⟩, 21), (⟨"CutListDeskModel", "areNear", "(II)Z"⟩, 21), (⟨"CutListDeskModel", "copies", "(II)V"⟩, 21), (⟨"CutListDeskModel", "orders", "(I)V"⟩, 21), (⟨"CutListDeskModel", "isAhead", "(II)Z"⟩, 21), (⟨"CutListDeskModel", "pullFor", "(III)I"⟩, 21), (⟨"CutListDeskModel", "lacking", "(I)I"⟩, 21), (⟨"CutListDeskModel", "wasteOf", "(I)I"⟩, 21), (⟨"CutListDeskModel", "framesNow", "(I)I"⟩, 21), (⟨"CutListDeskModel", "freshOf", "(II)I"⟩, 21), (⟨"CutListDeskModel", "isShown", "(III)Z"⟩, 21), (⟨"CutListDeskModel", "totalOf", "(II)I"⟩, 21), (⟨"CutListDeskModel", "compareOf", "(II)I"⟩, 21)]
theorem lw_r3 : ∀ q ∈ lw_privs_3, lw_okq q := List.forall_mem_cons.mpr ⟨lw_p32, List.forall_mem_cons.mpr ⟨lw_p33, List.forall_mem_cons.mpr ⟨lw_p34, List.forall_mem_cons.mpr ⟨lw_p35, List.forall_mem_cons.mpr ⟨lw_p36, List.forall_mem_cons.mpr ⟨lw_p37, List.forall_mem_cons.mpr ⟨lw_p38, List.forall_mem_cons.mpr ⟨lw_p39, List.forall_mem_cons.mpr ⟨lw_p40, List.forall_mem_cons.mpr ⟨lw_p41, List.forall_mem_cons.mpr ⟨lw_p42, List.forall_mem_cons.mpr ⟨lw_p43, List.forall_mem_cons.mpr ⟨lw_p44, List.forall_mem_cons.mpr ⟨lw_p45, List.forall_mem_cons.mpr ⟨lw_p46, List.forall_mem_cons.mpr ⟨lw_p47, fun _ h => absurd h List.not_mem_nil⟩⟩⟩⟩⟩⟩⟩⟩⟩⟩⟩⟩⟩⟩⟩⟩
theorem lw_p48 : lw_okq (⟨"CutListDeskModel", "compares", "()V"⟩, 21) := ⟨⟨by decide +kernel, by decide +kernel⟩, List.mem_of_getElem? (i := 569) (by decide +kernel), List.mem_of_getElem? (i := 860) (by decide +kernel), List.mem_of_getElem? (i := 861) (by decide +kernel)⟩
theorem lw_p49 : lw_okq (⟨"CutListDeskModel", "isLike", "(II)Z"⟩, 21) := ⟨⟨by decide +kernel, by decide +kernel⟩, List.mem_of_getElem? (i := 569) (by decide +kernel), List.mem_of_getElem? (i := 867) (by decide +kernel), List.mem_of_getElem? (i := 868) (by decide +kernel)⟩
theorem lw_p50 : lw_okq (⟨"CutListDeskModel", "kindOf", "(I)I"⟩, 21) := ⟨⟨by decide +kernel, by decide +kernel⟩, List.mem_of_getElem? (i := 569) (by decide +kernel), List.mem_of_getElem? (i := 871) (by decide +kernel), List.mem_of_getElem? (i := 872) (by decide +kernel)⟩
theorem lw_p51 : lw_okq (⟨"CutListDeskModel", "goneOf", "()I"⟩, 21) := ⟨⟨by decide +kernel, by decide +kernel⟩, List.mem_of_getElem? (i := 569) (by decide +kernel), List.mem_of_getElem? (i := 879) (by decide +kernel), List.mem_of_getElem? (i := 880) (by decide +kernel)⟩
theorem lw_p52 : lw_okq (⟨"CutListDeskModel", "anewOf", "(I)I"⟩, 21) := ⟨⟨by decide +kernel, by decide +kernel⟩, List.mem_of_getElem? (i := 569) (by decide +kernel), List.mem_of_getElem? (i := 887) (by decide +kernel), List.mem_of_getElem? (i := 888) (by decide +kernel)⟩
theorem lw_p53 : lw_okq (⟨"CutListDeskModel", "isPulled", "(II)Z"⟩, 21) := ⟨⟨by decide +kernel, by decide +kernel⟩, List.mem_of_getElem? (i := 569) (by decide +kernel), List.mem_of_getElem? (i := 891) (by decide +kernel), List.mem_of_getElem? (i := 892) (by decide +kernel)⟩
theorem lw_p54 : lw_okq (⟨"CutListDeskModel", "savingOf", "(I)I"⟩, 21) := ⟨⟨by decide +kernel, by decide +kernel⟩, List.mem_of_getElem? (i := 569) (by decide +kernel), List.mem_of_getElem? (i := 900) (by decide +kernel), List.mem_of_getElem? (i := 901) (by decide +kernel)⟩
theorem lw_p55 : lw_okq (⟨"CutListDeskModel", "lacks", "(III)I"⟩, 21) := ⟨⟨by decide +kernel, by decide +kernel⟩, List.mem_of_getElem? (i := 569) (by decide +kernel), List.mem_of_getElem? (i := 916) (by decide +kernel), List.mem_of_getElem? (i := 917) (by decide +kernel)⟩
theorem lw_p56 : lw_okq (⟨"CutListDeskModel", "keep", "(III)V"⟩, 21) := ⟨⟨by decide +kernel, by decide +kernel⟩, List.mem_of_getElem? (i := 569) (by decide +kernel), List.mem_of_getElem? (i := 920) (by decide +kernel), List.mem_of_getElem? (i := 921) (by decide +kernel)⟩
theorem lw_p57 : lw_okq (⟨"CutListDeskModel", "keptOf", "()I"⟩, 21) := ⟨⟨by decide +kernel, by decide +kernel⟩, List.mem_of_getElem? (i := 569) (by decide +kernel), List.mem_of_getElem? (i := 941) (by decide +kernel), List.mem_of_getElem? (i := 942) (by decide +kernel)⟩
theorem lw_p58 : lw_okq (⟨"CutListDeskModel", "listDigest", "(JI)J"⟩, 21) := ⟨⟨by decide +kernel, by decide +kernel⟩, List.mem_of_getElem? (i := 569) (by decide +kernel), List.mem_of_getElem? (i := 952) (by decide +kernel), List.mem_of_getElem? (i := 953) (by decide +kernel)⟩
theorem lw_p59 : lw_okq (⟨"CutListDeskModel", "toldDigest", "(JI)J"⟩, 21) := ⟨⟨by decide +kernel, by decide +kernel⟩, List.mem_of_getElem? (i := 569) (by decide +kernel), List.mem_of_getElem? (i := 956) (by decide +kernel), List.mem_of_getElem? (i := 957) (by decide +kernel)⟩
def lw_privs_4 : List (MethodName × Nat) := [(⟨"CutListDeskModel", "compares", "()V"⟩, 21), (⟨"CutListDeskModel", "isLike", "(II)Z"⟩, 21), (⟨"CutListDeskModel", "kindOf", "(I)I"⟩, 21), (⟨"CutListDeskModel", "goneOf", "()I"⟩, 21), (⟨"CutListDeskModel", "anewOf", "(I)I"⟩, 21), (⟨"CutListDeskModel", "isPulled", "(II)Z"⟩, 21), (⟨"CutListDeskModel", "savingOf", "(I)I"⟩, 21), (⟨"CutListDeskModel", "lacks", "(III)I"⟩, 21), (⟨"CutListDeskModel", "keep", "(III)V"⟩, 21), (⟨"CutListDeskModel", "keptOf", "()I"⟩, 21), (⟨"CutListDeskModel", "listDigest", "(JI)J"⟩, 21), (⟨"CutListDeskModel", "toldDigest", "(JI)J"⟩, 21)]
theorem lw_r4 : ∀ q ∈ lw_privs_4, lw_okq q := List.forall_mem_cons.mpr ⟨lw_p48, List.forall_mem_cons.mpr ⟨lw_p49, List.forall_mem_cons.mpr ⟨lw_p50, List.forall_mem_cons.mpr ⟨lw_p51, List.forall_mem_cons.mpr ⟨lw_p52, List.forall_mem_cons.mpr ⟨lw_p53, List.forall_mem_cons.mpr ⟨lw_p54, List.forall_mem_cons.mpr ⟨lw_p55, List.forall_mem_cons.mpr ⟨lw_p56, List.forall_mem_cons.mpr ⟨lw_p57, List.forall_mem_cons.mpr ⟨lw_p58, List.forall_mem_cons.mpr ⟨lw_p59, fun _ h => absurd h List.not_mem_nil⟩⟩⟩⟩⟩⟩⟩⟩⟩⟩⟩⟩
def lw_privs : List (MethodName × Nat) := lw_privs_1 ++ (lw_privs_2 ++ (lw_privs_3 ++ (lw_privs_4)))
def lw_tbl : List Cond := k2_sels lw_privs ++ tables_1
theorem lw_privs_ok : ∀ q ∈ lw_privs, lw_okq q := by
  show ∀ q ∈ lw_privs_1 ++ (lw_privs_2 ++ (lw_privs_3 ++ (lw_privs_4))), lw_okq q
  exact List.forall_mem_append.mpr ⟨lw_r1, List.forall_mem_append.mpr ⟨lw_r2, List.forall_mem_append.mpr ⟨lw_r3, lw_r4⟩⟩⟩
end
section
def RX0 : String := "CutListDesk$Clock"
def TX0 : u_T := fun k => match k with
  | _ => ("", "", "", false)
def tyX0 : Nat → FieldType := fun k => match k with
  | _ => .int
theorem nmX0 : ∀ a, a < 0 → ∀ b, b < 0 → a ≠ b → (TX0 a).2.1 ≠ (TX0 b).2.1 := by decide +kernel
theorem tyX0_ok : ∀ k, k < 0 → parseFieldDescriptor (TX0 k).2.2.1 = some (tyX0 k) := by decide +kernel
abbrev cX0_rate : ByteArray := prog_2_method_2_code
def yX0_rate : MethodName := ⟨RX0, "rate", "(I)I"⟩
abbrev cX0_part : ByteArray := prog_2_method_3_code
def yX0_part : MethodName := ⟨RX0, "part", "(III)I"⟩
abbrev cX0_leftOutBefore : ByteArray := prog_2_method_4_code
def yX0_leftOutBefore : MethodName := ⟨RX0, "leftOutBefore", "(I)I"⟩
abbrev cX0_isLeftOut : ByteArray := prog_2_method_5_code
def yX0_isLeftOut : MethodName := ⟨RX0, "isLeftOut", "(III)Z"⟩
abbrev cX0_frame : ByteArray := prog_2_method_6_code
def yX0_frame : MethodName := ⟨RX0, "frame", "(IIII)I"⟩
def RX1 : String := "CutListDesk$Cut"
def TX1 : u_T := fun k => match k with
  | 0 => ("CutListDesk$Cut", "edits", "[LCutListDesk$Edit;", true)
  | _ => ("CutListDesk$Cut", "size", "I", false)
def tyX1 : Nat → FieldType := fun k => match k with
  | 0 => .array (.object "CutListDesk$Edit")
  | _ => .int
theorem nmX1 : ∀ a, a < 2 → ∀ b, b < 2 → a ≠ b → (TX1 a).2.1 ≠ (TX1 b).2.1 := by decide +kernel
theorem tyX1_ok : ∀ k, k < 2 → parseFieldDescriptor (TX1 k).2.2.1 = some (tyX1 k) := by decide +kernel
abbrev cX1_init : ByteArray := prog_3_method_1_code
def yX1_init : MethodName := ⟨RX1, "<init>", "()V"⟩
abbrev cX1_isFull : ByteArray := prog_3_method_2_code
def yX1_isFull : MethodName := ⟨RX1, "isFull", "()Z"⟩
abbrev cX1_append : ByteArray := prog_3_method_3_code
def yX1_append : MethodName := ⟨RX1, "append", "(IIIII)V"⟩
abbrev cX1_begin : ByteArray := prog_3_method_4_code
def yX1_begin : MethodName := ⟨RX1, "begin", "(I)I"⟩
abbrev cX1_frames : ByteArray := prog_3_method_5_code
def yX1_frames : MethodName := ⟨RX1, "frames", "()I"⟩
abbrev cX1_holder : ByteArray := prog_3_method_6_code
def yX1_holder : MethodName := ⟨RX1, "holder", "(I)I"⟩
abbrev cX1_times : ByteArray := prog_3_method_7_code
def yX1_times : MethodName := ⟨RX1, "times", "(II)I"⟩
abbrev cX1_firstShowing : ByteArray := prog_3_method_8_code
def yX1_firstShowing : MethodName := ⟨RX1, "firstShowing", "(II)I"⟩
abbrev cX1_shownFrames : ByteArray := prog_3_method_9_code
def yX1_shownFrames : MethodName := ⟨RX1, "shownFrames", "()I"⟩
def RX2 : String := "CutListDesk$Edit"
def TX2 : u_T := fun k => match k with
  | 0 => ("CutListDesk$Edit", "reel", "I", false)
  | 1 => ("CutListDesk$Edit", "in", "I", false)
  | 2 => ("CutListDesk$Edit", "many", "I", false)
  | 3 => ("CutListDesk$Edit", "p", "I", false)
  | _ => ("CutListDesk$Edit", "q", "I", false)
def tyX2 : Nat → FieldType := fun k => match k with
  | 0 => .int
  | 1 => .int
  | 2 => .int
  | 3 => .int
  | _ => .int
theorem nmX2 : ∀ a, a < 5 → ∀ b, b < 5 → a ≠ b → (TX2 a).2.1 ≠ (TX2 b).2.1 := by decide +kernel
theorem tyX2_ok : ∀ k, k < 5 → parseFieldDescriptor (TX2 k).2.2.1 = some (tyX2 k) := by decide +kernel
abbrev cX2_init : ByteArray := prog_4_method_1_code
def yX2_init : MethodName := ⟨RX2, "<init>", "()V"⟩
abbrev cX2_part : ByteArray := prog_4_method_2_code
def yX2_part : MethodName := ⟨RX2, "part", "(I)I"⟩
abbrev cX2_become : ByteArray := prog_4_method_3_code
def yX2_become : MethodName := ⟨RX2, "become", "(II)V"⟩
abbrev cX2_frameAt : ByteArray := prog_4_method_4_code
def yX2_frameAt : MethodName := ⟨RX2, "frameAt", "(I)I"⟩
abbrev cX2_first : ByteArray := prog_4_method_5_code
def yX2_first : MethodName := ⟨RX2, "first", "()I"⟩
abbrev cX2_last : ByteArray := prog_4_method_6_code
def yX2_last : MethodName := ⟨RX2, "last", "()I"⟩
abbrev cX2_reach : ByteArray := prog_4_method_7_code
def yX2_reach : MethodName := ⟨RX2, "reach", "()I"⟩
abbrev cX2_different : ByteArray := prog_4_method_8_code
def yX2_different : MethodName := ⟨RX2, "different", "()I"⟩
abbrev cX2_firstAtLeast : ByteArray := prog_4_method_9_code
def yX2_firstAtLeast : MethodName := ⟨RX2, "firstAtLeast", "(I)I"⟩
abbrev cX2_firstShowing : ByteArray := prog_4_method_10_code
def yX2_firstShowing : MethodName := ⟨RX2, "firstShowing", "(I)I"⟩
abbrev cX2_times : ByteArray := prog_4_method_11_code
def yX2_times : MethodName := ⟨RX2, "times", "(I)I"⟩
abbrev cX2_isLike : ByteArray := prog_4_method_12_code
def yX2_isLike : MethodName := ⟨RX2, "isLike", "(LCutListDesk$Edit;)Z"⟩
def RX3 : String := "CutListDesk$Match"
def TX3 : u_T := fun k => match k with
  | 0 => ("CutListDesk$Match", "partners", "[I", true)
  | _ => ("CutListDesk$Match", "taken", "I", false)
def tyX3 : Nat → FieldType := fun k => match k with
  | 0 => .array .int
  | _ => .int
theorem nmX3 : ∀ a, a < 2 → ∀ b, b < 2 → a ≠ b → (TX3 a).2.1 ≠ (TX3 b).2.1 := by decide +kernel
theorem tyX3_ok : ∀ k, k < 2 → parseFieldDescriptor (TX3 k).2.2.1 = some (tyX3 k) := by decide +kernel
abbrev cX3_init : ByteArray := prog_5_method_1_code
def yX3_init : MethodName := ⟨RX3, "<init>", "()V"⟩
abbrev cX3_pair : ByteArray := prog_5_method_2_code
def yX3_pair : MethodName := ⟨RX3, "pair", "(LCutListDesk$Cut;LCutListDesk$Cut;)V"⟩
abbrev cX3_takeEach : ByteArray := prog_5_method_3_code
def yX3_takeEach : MethodName := ⟨RX3, "takeEach", "(LCutListDesk$Cut;LCutListDesk$Cut;Z)V"⟩
abbrev cX3_takeFor : ByteArray := prog_5_method_4_code
def yX3_takeFor : MethodName := ⟨RX3, "takeFor", "(ILCutListDesk$Cut;LCutListDesk$Edit;Z)V"⟩
abbrev cX3_partner : ByteArray := prog_5_method_5_code
def yX3_partner : MethodName := ⟨RX3, "partner", "(I)I"⟩
abbrev cX3_kind : ByteArray := prog_5_method_6_code
def yX3_kind : MethodName := ⟨RX3, "kind", "(ILCutListDesk$Cut;LCutListDesk$Cut;)I"⟩
abbrev cX3_later : ByteArray := prog_5_method_7_code
def yX3_later : MethodName := ⟨RX3, "later", "(ILCutListDesk$Cut;LCutListDesk$Cut;)I"⟩
def RX4 : String := "CutListDesk$Sheet"
def TX4 : u_T := fun k => match k with
  | 0 => ("CutListDesk$Sheet", "items", "[I", true)
  | 1 => ("CutListDesk$Sheet", "lost", "Z", false)
  | 2 => ("CutListDesk$Sheet", "form", "I", false)
  | _ => ("CutListDesk$Sheet", "size", "I", false)
def tyX4 : Nat → FieldType := fun k => match k with
  | 0 => .array .int
  | 1 => .boolean
  | 2 => .int
  | _ => .int
theorem nmX4 : ∀ a, a < 4 → ∀ b, b < 4 → a ≠ b → (TX4 a).2.1 ≠ (TX4 b).2.1 := by decide +kernel
theorem tyX4_ok : ∀ k, k < 4 → parseFieldDescriptor (TX4 k).2.2.1 = some (tyX4 k) := by decide +kernel
abbrev cX4_init : ByteArray := prog_6_method_1_code
def yX4_init : MethodName := ⟨RX4, "<init>", "()V"⟩
abbrev cX4_begin : ByteArray := prog_6_method_2_code
def yX4_begin : MethodName := ⟨RX4, "begin", "(II)V"⟩
abbrev cX4_fault : ByteArray := prog_6_method_3_code
def yX4_fault : MethodName := ⟨RX4, "fault", "(II)I"⟩
abbrev cX4_hasItems : ByteArray := prog_6_method_4_code
def yX4_hasItems : MethodName := ⟨RX4, "hasItems", "(II)Z"⟩
abbrev cX4_item : ByteArray := prog_6_method_5_code
def yX4_item : MethodName := ⟨RX4, "item", "(I)I"⟩
abbrev cX4_store : ByteArray := prog_6_method_6_code
def yX4_store : MethodName := ⟨RX4, "store", "(II)V"⟩
def RX5 : String := "CutListDesk$Spans"
def TX5 : u_T := fun k => match k with
  | 0 => ("CutListDesk$Spans", "reels", "[I", true)
  | 1 => ("CutListDesk$Spans", "firsts", "[I", true)
  | 2 => ("CutListDesk$Spans", "lasts", "[I", true)
  | 3 => ("CutListDesk$Spans", "bits", "[I", true)
  | _ => ("CutListDesk$Spans", "size", "I", false)
def tyX5 : Nat → FieldType := fun k => match k with
  | 0 => .array .int
  | 1 => .array .int
  | 2 => .array .int
  | 3 => .array .int
  | _ => .int
theorem nmX5 : ∀ a, a < 5 → ∀ b, b < 5 → a ≠ b → (TX5 a).2.1 ≠ (TX5 b).2.1 := by decide +kernel
theorem tyX5_ok : ∀ k, k < 5 → parseFieldDescriptor (TX5 k).2.2.1 = some (tyX5 k) := by decide +kernel
abbrev cX5_init : ByteArray := prog_7_method_1_code
def yX5_init : MethodName := ⟨RX5, "<init>", "(I)V"⟩
abbrev cX5_isFull : ByteArray := prog_7_method_2_code
def yX5_isFull : MethodName := ⟨RX5, "isFull", "()Z"⟩
abbrev cX5_insert : ByteArray := prog_7_method_3_code
def yX5_insert : MethodName := ⟨RX5, "insert", "(IIII)V"⟩
abbrev cX5_append : ByteArray := prog_7_method_4_code
def yX5_append : MethodName := ⟨RX5, "append", "(III)V"⟩
abbrev cX5_isBehind : ByteArray := prog_7_method_5_code
def yX5_isBehind : MethodName := ⟨RX5, "isBehind", "(III)Z"⟩
abbrev cX5_move : ByteArray := prog_7_method_6_code
def yX5_move : MethodName := ⟨RX5, "move", "(II)V"⟩
abbrev cX5_fill : ByteArray := prog_7_method_7_code
def yX5_fill : MethodName := ⟨RX5, "fill", "(IIIII)V"⟩
abbrev cX5_join : ByteArray := prog_7_method_8_code
def yX5_join : MethodName := ⟨RX5, "join", "(I)V"⟩
abbrev cX5_frames : ByteArray := prog_7_method_9_code
def yX5_frames : MethodName := ⟨RX5, "frames", "()I"⟩
abbrev cX5_nth : ByteArray := prog_7_method_10_code
def yX5_nth : MethodName := ⟨RX5, "nth", "(I)I"⟩
def RX6 : String := "CutListDesk"
def TX6 : u_T := fun k => match k with
  | 0 => ("CutListDesk", "cuts", "[LCutListDesk$Cut;", true)
  | 1 => ("CutListDesk", "lengths", "[I", true)
  | 2 => ("CutListDesk", "settings", "[I", true)
  | 3 => ("CutListDesk", "sheets", "[LCutListDesk$Sheet;", true)
  | 4 => ("CutListDesk", "pulled", "[LCutListDesk$Spans;", true)
  | 5 => ("CutListDesk", "fresh", "LCutListDesk$Spans;", true)
  | 6 => ("CutListDesk", "match", "LCutListDesk$Match;", true)
  | _ => ("CutListDesk", "finding", "I", false)
def tyX6 : Nat → FieldType := fun k => match k with
  | 0 => .array (.object "CutListDesk$Cut")
  | 1 => .array .int
  | 2 => .array .int
  | 3 => .array (.object "CutListDesk$Sheet")
  | 4 => .array (.object "CutListDesk$Spans")
  | 5 => .object "CutListDesk$Spans"
  | 6 => .object "CutListDesk$Match"
  | _ => .int
theorem nmX6 : ∀ a, a < 8 → ∀ b, b < 8 → a ≠ b → (TX6 a).2.1 ≠ (TX6 b).2.1 := by decide +kernel
theorem tyX6_ok : ∀ k, k < 8 → parseFieldDescriptor (TX6 k).2.2.1 = some (tyX6 k) := by decide +kernel
abbrev cX6_init : ByteArray := prog_1_method_1_code
def yX6_init : MethodName := ⟨RX6, "<init>", "()V"⟩
abbrev cX6_edit : ByteArray := prog_1_method_2_code
def yX6_edit : MethodName := ⟨RX6, "edit", "(IIIIII)I"⟩
abbrev cX6_back : ByteArray := prog_1_method_3_code
def yX6_back : MethodName := ⟨RX6, "back", "(I)I"⟩
abbrev cX6_trim : ByteArray := prog_1_method_4_code
def yX6_trim : MethodName := ⟨RX6, "trim", "(IIII)I"⟩
abbrev cX6_set : ByteArray := prog_1_method_5_code
def yX6_set : MethodName := ⟨RX6, "set", "(II)I"⟩
abbrev cX6_reel : ByteArray := prog_1_method_6_code
def yX6_reel : MethodName := ⟨RX6, "reel", "(II)I"⟩
abbrev cX6_swap : ByteArray := prog_1_method_7_code
def yX6_swap : MethodName := ⟨RX6, "swap", "()I"⟩
abbrev cX6_read : ByteArray := prog_1_method_8_code
def yX6_read : MethodName := ⟨RX6, "read", "(II)I"⟩
abbrev cX6_appendFrom : ByteArray := prog_1_method_9_code
def yX6_appendFrom : MethodName := ⟨RX6, "appendFrom", "(LCutListDesk$Cut;LCutListDesk$Sheet;I)Z"⟩
abbrev cX6_mayBeEdit : ByteArray := prog_1_method_10_code
def yX6_mayBeEdit : MethodName := ⟨RX6, "mayBeEdit", "(IIIII)Z"⟩
abbrev cX6_mayBePart : ByteArray := prog_1_method_11_code
def yX6_mayBePart : MethodName := ⟨RX6, "mayBePart", "(II)Z"⟩
abbrev cX6_isBelow : ByteArray := prog_1_method_12_code
def yX6_isBelow : MethodName := ⟨RX6, "isBelow", "(II)Z"⟩
abbrev cX6_isEdit : ByteArray := prog_1_method_13_code
def yX6_isEdit : MethodName := ⟨RX6, "isEdit", "(II)Z"⟩
abbrev cX6_found : ByteArray := prog_1_method_14_code
def yX6_found : MethodName := ⟨RX6, "found", "(I)I"⟩
abbrev cX6_info : ByteArray := prog_1_method_15_code
def yX6_info : MethodName := ⟨RX6, "info", "(III)I"⟩
abbrev cX6_shows : ByteArray := prog_1_method_16_code
def yX6_shows : MethodName := ⟨RX6, "shows", "(III)I"⟩
abbrev cX6_seen : ByteArray := prog_1_method_17_code
def yX6_seen : MethodName := ⟨RX6, "seen", "(IIII)I"⟩
abbrev cX6_still : ByteArray := prog_1_method_18_code
def yX6_still : MethodName := ⟨RX6, "still", "(III)I"⟩
abbrev cX6_lengthOf : ByteArray := prog_1_method_19_code
def yX6_lengthOf : MethodName := ⟨RX6, "lengthOf", "(I)I"⟩
abbrev cX6_told : ByteArray := prog_1_method_20_code
def yX6_told : MethodName := ⟨RX6, "told", "(II)I"⟩
abbrev cX6_number : ByteArray := prog_1_method_21_code
def yX6_number : MethodName := ⟨RX6, "number", "(IIII)I"⟩
abbrev cX6_pulls : ByteArray := prog_1_method_22_code
def yX6_pulls : MethodName := ⟨RX6, "pulls", "(I)I"⟩
abbrev cX6_pull : ByteArray := prog_1_method_23_code
def yX6_pull : MethodName := ⟨RX6, "pull", "(III)I"⟩
abbrev cX6_waste : ByteArray := prog_1_method_24_code
def yX6_waste : MethodName := ⟨RX6, "waste", "(I)I"⟩
abbrev cX6_total : ByteArray := prog_1_method_25_code
def yX6_total : MethodName := ⟨RX6, "total", "(II)I"⟩
abbrev cX6_lackingOfAll : ByteArray := prog_1_method_26_code
def yX6_lackingOfAll : MethodName := ⟨RX6, "lackingOfAll", "(LCutListDesk$Spans;)I"⟩
abbrev cX6_lacking : ByteArray := prog_1_method_27_code
def yX6_lacking : MethodName := ⟨RX6, "lacking", "(LCutListDesk$Spans;I)I"⟩
abbrev cX6_gather : ByteArray := prog_1_method_28_code
def yX6_gather : MethodName := ⟨RX6, "gather", "(II)LCutListDesk$Spans;"⟩
abbrev cX6_compare : ByteArray := prog_1_method_29_code
def yX6_compare : MethodName := ⟨RX6, "compare", "(II)I"⟩
abbrev cX6_gone : ByteArray := prog_1_method_30_code
def yX6_gone : MethodName := ⟨RX6, "gone", "()I"⟩
abbrev cX6_anew : ByteArray := prog_1_method_31_code
def yX6_anew : MethodName := ⟨RX6, "anew", "(I)I"⟩
abbrev cX6_saving : ByteArray := prog_1_method_32_code
def yX6_saving : MethodName := ⟨RX6, "saving", "(I)I"⟩
abbrev cX6_keptEdits : ByteArray := prog_1_method_33_code
def yX6_keptEdits : MethodName := ⟨RX6, "keptEdits", "()I"⟩
abbrev cX6_gatherFresh : ByteArray := prog_1_method_34_code
def yX6_gatherFresh : MethodName := ⟨RX6, "gatherFresh", "()V"⟩
abbrev cX6_addWithout : ByteArray := prog_1_method_35_code
def yX6_addWithout : MethodName := ⟨RX6, "addWithout", "(LCutListDesk$Spans;III)V"⟩
abbrev cX6_sheet : ByteArray := prog_1_method_36_code
def yX6_sheet : MethodName := ⟨RX6, "sheet", "(III)I"⟩
abbrev cX6_lose : ByteArray := prog_1_method_37_code
def yX6_lose : MethodName := ⟨RX6, "lose", "(I)I"⟩
abbrev cX6_put : ByteArray := prog_1_method_38_code
def yX6_put : MethodName := ⟨RX6, "put", "(IIII)I"⟩
abbrev cX6_get : ByteArray := prog_1_method_39_code
def yX6_get : MethodName := ⟨RX6, "get", "(III)I"⟩
abbrev cX6_copy : ByteArray := prog_1_method_40_code
def yX6_copy : MethodName := ⟨RX6, "copy", "(IIIII)I"⟩
abbrev cX6_write : ByteArray := prog_1_method_41_code
def yX6_write : MethodName := ⟨RX6, "write", "(II)I"⟩
abbrev cX6_count : ByteArray := prog_1_method_42_code
def yX6_count : MethodName := ⟨RX6, "count", "(I)I"⟩
abbrev cX6_digest : ByteArray := prog_1_method_43_code
def yX6_digest : MethodName := ⟨RX6, "digest", "()J"⟩
abbrev cX6_digestOfEdits : ByteArray := prog_1_method_44_code
def yX6_digestOfEdits : MethodName := ⟨RX6, "digestOfEdits", "(JI)J"⟩
abbrev cX6_digestOfList : ByteArray := prog_1_method_45_code
def yX6_digestOfList : MethodName := ⟨RX6, "digestOfList", "(JI)J"⟩
abbrev cX6_digestOfTold : ByteArray := prog_1_method_46_code
def yX6_digestOfTold : MethodName := ⟨RX6, "digestOfTold", "(JI)J"⟩
def RX7 : String := "CutListDeskModel"
def TX7 : u_T := fun k => match k with
  | 0 => ("CutListDeskModel", "many", "[I", true)
  | 1 => ("CutListDeskModel", "reels", "[I", true)
  | 2 => ("CutListDeskModel", "ins", "[I", true)
  | 3 => ("CutListDeskModel", "longs", "[I", true)
  | 4 => ("CutListDeskModel", "ps", "[I", true)
  | 5 => ("CutListDeskModel", "qs", "[I", true)
  | 6 => ("CutListDeskModel", "settings", "[I", true)
  | 7 => ("CutListDeskModel", "lengths", "[I", true)
  | 8 => ("CutListDeskModel", "pullMany", "[I", true)
  | 9 => ("CutListDeskModel", "pullReel", "[I", true)
  | 10 => ("CutListDeskModel", "pullFrom", "[I", true)
  | 11 => ("CutListDeskModel", "pullTo", "[I", true)
  | 12 => ("CutListDeskModel", "pullOf", "[I", true)
  | 13 => ("CutListDeskModel", "taken", "[I", true)
  | 14 => ("CutListDeskModel", "takenBits", "I", false)
  | 15 => ("CutListDeskModel", "isThere", "[Z", true)
  | 16 => ("CutListDeskModel", "forms", "[I", true)
  | 17 => ("CutListDeskModel", "sizes", "[I", true)
  | 18 => ("CutListDeskModel", "items", "[I", true)
  | 19 => ("CutListDeskModel", "moved", "[I", true)
  | _ => ("CutListDeskModel", "finding", "I", false)
def tyX7 : Nat → FieldType := fun k => match k with
  | 0 => .array .int
  | 1 => .array .int
  | 2 => .array .int
  | 3 => .array .int
  | 4 => .array .int
  | 5 => .array .int
  | 6 => .array .int
  | 7 => .array .int
  | 8 => .array .int
  | 9 => .array .int
  | 10 => .array .int
  | 11 => .array .int
  | 12 => .array .int
  | 13 => .array .int
  | 14 => .int
  | 15 => .array .boolean
  | 16 => .array .int
  | 17 => .array .int
  | 18 => .array .int
  | 19 => .array .int
  | _ => .int
theorem nmX7 : ∀ a, a < 21 → ∀ b, b < 21 → a ≠ b → (TX7 a).2.1 ≠ (TX7 b).2.1 := by decide +kernel
theorem tyX7_ok : ∀ k, k < 21 → parseFieldDescriptor (TX7 k).2.2.1 = some (tyX7 k) := by decide +kernel
abbrev cX7_init : ByteArray := prog_9_method_1_code
def yX7_init : MethodName := ⟨RX7, "<init>", "()V"⟩
abbrev cX7_in : ByteArray := prog_9_method_3_code
def yX7_in : MethodName := ⟨RX7, "in", "(III)Z"⟩
abbrev cX7_isIn : ByteArray := prog_9_method_4_code
def yX7_isIn : MethodName := ⟨RX7, "isIn", "(II)Z"⟩
abbrev cX7_max : ByteArray := prog_9_method_5_code
def yX7_max : MethodName := ⟨RX7, "max", "(II)I"⟩
abbrev cX7_min : ByteArray := prog_9_method_6_code
def yX7_min : MethodName := ⟨RX7, "min", "(II)I"⟩
abbrev cX7_isList : ByteArray := prog_9_method_7_code
def yX7_isList : MethodName := ⟨RX7, "isList", "(I)Z"⟩
abbrev cX7_isReel : ByteArray := prog_9_method_8_code
def yX7_isReel : MethodName := ⟨RX7, "isReel", "(I)Z"⟩
abbrev cX7_isWell : ByteArray := prog_9_method_9_code
def yX7_isWell : MethodName := ⟨RX7, "isWell", "(II)Z"⟩
abbrev cX7_adds : ByteArray := prog_9_method_10_code
def yX7_adds : MethodName := ⟨RX7, "adds", "(IIIIII)I"⟩
abbrev cX7_edit : ByteArray := prog_9_method_11_code
def yX7_edit : MethodName := ⟨RX7, "edit", "(IIIIII)I"⟩
abbrev cX7_back : ByteArray := prog_9_method_12_code
def yX7_back : MethodName := ⟨RX7, "back", "(I)I"⟩
abbrev cX7_isEdit : ByteArray := prog_9_method_13_code
def yX7_isEdit : MethodName := ⟨RX7, "isEdit", "(II)Z"⟩
abbrev cX7_trim : ByteArray := prog_9_method_14_code
def yX7_trim : MethodName := ⟨RX7, "trim", "(IIII)I"⟩
abbrev cX7_isSetting : ByteArray := prog_9_method_15_code
def yX7_isSetting : MethodName := ⟨RX7, "isSetting", "(II)Z"⟩
abbrev cX7_set : ByteArray := prog_9_method_16_code
def yX7_set : MethodName := ⟨RX7, "set", "(II)I"⟩
abbrev cX7_reel : ByteArray := prog_9_method_17_code
def yX7_reel : MethodName := ⟨RX7, "reel", "(II)I"⟩
abbrev cX7_swaps : ByteArray := prog_9_method_18_code
def yX7_swaps : MethodName := ⟨RX7, "swaps", "([I)V"⟩
abbrev cX7_swap : ByteArray := prog_9_method_19_code
def yX7_swap : MethodName := ⟨RX7, "swap", "()I"⟩
abbrev cX7_read : ByteArray := prog_9_method_20_code
def yX7_read : MethodName := ⟨RX7, "read", "(II)I"⟩
abbrev cX7_frameOf : ByteArray := prog_9_method_21_code
def yX7_frameOf : MethodName := ⟨RX7, "frameOf", "(II)I"⟩
abbrev cX7_lastOf : ByteArray := prog_9_method_22_code
def yX7_lastOf : MethodName := ⟨RX7, "lastOf", "(I)I"⟩
abbrev cX7_beginOf : ByteArray := prog_9_method_23_code
def yX7_beginOf : MethodName := ⟨RX7, "beginOf", "(II)I"⟩
abbrev cX7_infoOf : ByteArray := prog_9_method_24_code
def yX7_infoOf : MethodName := ⟨RX7, "infoOf", "(III)I"⟩
abbrev cX7_info : ByteArray := prog_9_method_25_code
def yX7_info : MethodName := ⟨RX7, "info", "(III)I"⟩
abbrev cX7_showsOf : ByteArray := prog_9_method_26_code
def yX7_showsOf : MethodName := ⟨RX7, "showsOf", "(III)I"⟩
abbrev cX7_shows : ByteArray := prog_9_method_27_code
def yX7_shows : MethodName := ⟨RX7, "shows", "(III)I"⟩
abbrev cX7_seenOf : ByteArray := prog_9_method_28_code
def yX7_seenOf : MethodName := ⟨RX7, "seenOf", "(IIII)I"⟩
abbrev cX7_seen : ByteArray := prog_9_method_29_code
def yX7_seen : MethodName := ⟨RX7, "seen", "(IIII)I"⟩
abbrev cX7_stillOf : ByteArray := prog_9_method_30_code
def yX7_stillOf : MethodName := ⟨RX7, "stillOf", "(II)I"⟩
abbrev cX7_still : ByteArray := prog_9_method_31_code
def yX7_still : MethodName := ⟨RX7, "still", "(III)I"⟩
abbrev cX7_aSecond : ByteArray := prog_9_method_32_code
def yX7_aSecond : MethodName := ⟨RX7, "aSecond", "()I"⟩
abbrev cX7_numbered : ByteArray := prog_9_method_33_code
def yX7_numbered : MethodName := ⟨RX7, "numbered", "(I)I"⟩
abbrev cX7_toldOf : ByteArray := prog_9_method_34_code
def yX7_toldOf : MethodName := ⟨RX7, "toldOf", "(II)I"⟩
abbrev cX7_told : ByteArray := prog_9_method_35_code
def yX7_told : MethodName := ⟨RX7, "told", "(II)I"⟩
abbrev cX7_numberOf : ByteArray := prog_9_method_36_code
def yX7_numberOf : MethodName := ⟨RX7, "numberOf", "(IIII)I"⟩
abbrev cX7_number : ByteArray := prog_9_method_37_code
def yX7_number : MethodName := ⟨RX7, "number", "(IIII)I"⟩
abbrev cX7_copies : ByteArray := prog_9_method_38_code
def yX7_copies : MethodName := ⟨RX7, "copies", "(II)V"⟩
abbrev cX7_areNear : ByteArray := prog_9_method_39_code
def yX7_areNear : MethodName := ⟨RX7, "areNear", "(II)Z"⟩
abbrev cX7_joins : ByteArray := prog_9_method_40_code
def yX7_joins : MethodName := ⟨RX7, "joins", "(I)Z"⟩
abbrev cX7_isAhead : ByteArray := prog_9_method_41_code
def yX7_isAhead : MethodName := ⟨RX7, "isAhead", "(II)Z"⟩
abbrev cX7_orders : ByteArray := prog_9_method_42_code
def yX7_orders : MethodName := ⟨RX7, "orders", "(I)V"⟩
abbrev cX7_pullsOf : ByteArray := prog_9_method_43_code
def yX7_pullsOf : MethodName := ⟨RX7, "pullsOf", "(II)V"⟩
abbrev cX7_manyPulls : ByteArray := prog_9_method_44_code
def yX7_manyPulls : MethodName := ⟨RX7, "manyPulls", "(I)I"⟩
abbrev cX7_pulls : ByteArray := prog_9_method_45_code
def yX7_pulls : MethodName := ⟨RX7, "pulls", "(I)I"⟩
abbrev cX7_lacking : ByteArray := prog_9_method_46_code
def yX7_lacking : MethodName := ⟨RX7, "lacking", "(I)I"⟩
abbrev cX7_pullFor : ByteArray := prog_9_method_47_code
def yX7_pullFor : MethodName := ⟨RX7, "pullFor", "(III)I"⟩
abbrev cX7_pull : ByteArray := prog_9_method_48_code
def yX7_pull : MethodName := ⟨RX7, "pull", "(III)I"⟩
abbrev cX7_framesNow : ByteArray := prog_9_method_49_code
def yX7_framesNow : MethodName := ⟨RX7, "framesNow", "(I)I"⟩
abbrev cX7_isShown : ByteArray := prog_9_method_50_code
def yX7_isShown : MethodName := ⟨RX7, "isShown", "(III)Z"⟩
abbrev cX7_freshOf : ByteArray := prog_9_method_51_code
def yX7_freshOf : MethodName := ⟨RX7, "freshOf", "(II)I"⟩
abbrev cX7_wasteOf : ByteArray := prog_9_method_52_code
def yX7_wasteOf : MethodName := ⟨RX7, "wasteOf", "(I)I"⟩
abbrev cX7_waste : ByteArray := prog_9_method_53_code
def yX7_waste : MethodName := ⟨RX7, "waste", "(I)I"⟩
abbrev cX7_totalOf : ByteArray := prog_9_method_54_code
def yX7_totalOf : MethodName := ⟨RX7, "totalOf", "(II)I"⟩
abbrev cX7_total : ByteArray := prog_9_method_55_code
def yX7_total : MethodName := ⟨RX7, "total", "(II)I"⟩
abbrev cX7_isLike : ByteArray := prog_9_method_56_code
def yX7_isLike : MethodName := ⟨RX7, "isLike", "(II)Z"⟩
abbrev cX7_compares : ByteArray := prog_9_method_57_code
def yX7_compares : MethodName := ⟨RX7, "compares", "()V"⟩
abbrev cX7_kindOf : ByteArray := prog_9_method_58_code
def yX7_kindOf : MethodName := ⟨RX7, "kindOf", "(I)I"⟩
abbrev cX7_compareOf : ByteArray := prog_9_method_59_code
def yX7_compareOf : MethodName := ⟨RX7, "compareOf", "(II)I"⟩
abbrev cX7_compare : ByteArray := prog_9_method_60_code
def yX7_compare : MethodName := ⟨RX7, "compare", "(II)I"⟩
abbrev cX7_goneOf : ByteArray := prog_9_method_61_code
def yX7_goneOf : MethodName := ⟨RX7, "goneOf", "()I"⟩
abbrev cX7_gone : ByteArray := prog_9_method_62_code
def yX7_gone : MethodName := ⟨RX7, "gone", "()I"⟩
abbrev cX7_isPulled : ByteArray := prog_9_method_63_code
def yX7_isPulled : MethodName := ⟨RX7, "isPulled", "(II)Z"⟩
abbrev cX7_anewOf : ByteArray := prog_9_method_64_code
def yX7_anewOf : MethodName := ⟨RX7, "anewOf", "(I)I"⟩
abbrev cX7_anew : ByteArray := prog_9_method_65_code
def yX7_anew : MethodName := ⟨RX7, "anew", "(I)I"⟩
abbrev cX7_savingOf : ByteArray := prog_9_method_66_code
def yX7_savingOf : MethodName := ⟨RX7, "savingOf", "(I)I"⟩
abbrev cX7_saving : ByteArray := prog_9_method_67_code
def yX7_saving : MethodName := ⟨RX7, "saving", "(I)I"⟩
abbrev cX7_meets : ByteArray := prog_9_method_68_code
def yX7_meets : MethodName := ⟨RX7, "meets", "(I)I"⟩
abbrev cX7_isSheet : ByteArray := prog_9_method_69_code
def yX7_isSheet : MethodName := ⟨RX7, "isSheet", "(I)Z"⟩
abbrev cX7_sheet : ByteArray := prog_9_method_70_code
def yX7_sheet : MethodName := ⟨RX7, "sheet", "(III)I"⟩
abbrev cX7_lose : ByteArray := prog_9_method_71_code
def yX7_lose : MethodName := ⟨RX7, "lose", "(I)I"⟩
abbrev cX7_lacks : ByteArray := prog_9_method_72_code
def yX7_lacks : MethodName := ⟨RX7, "lacks", "(III)I"⟩
abbrev cX7_keep : ByteArray := prog_9_method_73_code
def yX7_keep : MethodName := ⟨RX7, "keep", "(III)V"⟩
abbrev cX7_put : ByteArray := prog_9_method_74_code
def yX7_put : MethodName := ⟨RX7, "put", "(IIII)I"⟩
abbrev cX7_get : ByteArray := prog_9_method_75_code
def yX7_get : MethodName := ⟨RX7, "get", "(III)I"⟩
abbrev cX7_copy : ByteArray := prog_9_method_76_code
def yX7_copy : MethodName := ⟨RX7, "copy", "(IIIII)I"⟩
abbrev cX7_write : ByteArray := prog_9_method_77_code
def yX7_write : MethodName := ⟨RX7, "write", "(II)I"⟩
abbrev cX7_keptOf : ByteArray := prog_9_method_78_code
def yX7_keptOf : MethodName := ⟨RX7, "keptOf", "()I"⟩
abbrev cX7_count : ByteArray := prog_9_method_79_code
def yX7_count : MethodName := ⟨RX7, "count", "(I)I"⟩
abbrev cX7_listDigest : ByteArray := prog_9_method_80_code
def yX7_listDigest : MethodName := ⟨RX7, "listDigest", "(JI)J"⟩
abbrev cX7_toldDigest : ByteArray := prog_9_method_81_code
def yX7_toldDigest : MethodName := ⟨RX7, "toldDigest", "(JI)J"⟩
abbrev cX7_digest : ByteArray := prog_9_method_82_code
def yX7_digest : MethodName := ⟨RX7, "digest", "()J"⟩
def RJ9 : String := "java/lang/Math"
def TJ9 : u_T := fun k => match k with
  | _ => ("", "", "", false)
def tyJ9 : Nat → FieldType := fun k => match k with
  | _ => .int
theorem nmJ9 : ∀ a, a < 0 → ∀ b, b < 0 → a ≠ b → (TJ9 a).2.1 ≠ (TJ9 b).2.1 := by decide +kernel
theorem tyJ9_ok : ∀ k, k < 0 → parseFieldDescriptor (TJ9 k).2.2.1 = some (tyJ9 k) := by decide +kernel
abbrev cJ9_max_7cf53 : ByteArray := prog_10_method_65_code
def yJ9_max_7cf53 : MethodName := ⟨RJ9, "max", "(II)I"⟩
abbrev cJ9_min_7cf53 : ByteArray := prog_10_method_69_code
def yJ9_min_7cf53 : MethodName := ⟨RJ9, "min", "(II)I"⟩
def RJ10 : String := "java/lang/System"
def TJ10 : u_T := fun k => match k with
  | _ => ("", "", "", false)
def tyJ10 : Nat → FieldType := fun k => match k with
  | _ => .int
theorem nmJ10 : ∀ a, a < 0 → ∀ b, b < 0 → a ≠ b → (TJ10 a).2.1 ≠ (TJ10 b).2.1 := by decide +kernel
theorem tyJ10_ok : ∀ k, k < 0 → parseFieldDescriptor (TJ10 k).2.2.1 = some (tyJ10 k) := by decide +kernel
def RJ7 : String := "java/util/Arrays"
def TJ7 : u_T := fun k => match k with
  | _ => ("", "", "", false)
def tyJ7 : Nat → FieldType := fun k => match k with
  | _ => .int
theorem nmJ7 : ∀ a, a < 0 → ∀ b, b < 0 → a ≠ b → (TJ7 a).2.1 ≠ (TJ7 b).2.1 := by decide +kernel
theorem tyJ7_ok : ∀ k, k < 0 → parseFieldDescriptor (TJ7 k).2.2.1 = some (tyJ7 k) := by decide +kernel
abbrev cJ7_fill_53178 : ByteArray := prog_12_method_103_code
def yJ7_fill_53178 : MethodName := ⟨RJ7, "fill", "([II)V"⟩
def RL : String := "CutListDeskLaw"
abbrev cL_law : ByteArray := code
def yL_law : MethodName := ⟨RL, "law", "([I)Z"⟩
end
section
theorem dX0_rate_0 : decode cX0_rate 0 = .ok (.iload_n 0, 1) := by decide +kernel
theorem dX0_rate_1 : decode cX0_rate 1 = .ok (.iconst 2, 1) := by decide +kernel
theorem dX0_rate_2 : decode cX0_rate 2 = .ok (.if_icmp .ne 8, 3) := by decide +kernel
theorem dX0_rate_5 : decode cX0_rate 5 = .ok (.bipush 25, 2) := by decide +kernel
theorem dX0_rate_7 : decode cX0_rate 7 = .ok (.goto 5, 3) := by decide +kernel
theorem dX0_rate_10 : decode cX0_rate 10 = .ok (.bipush 30, 2) := by decide +kernel
theorem dX0_rate_12 : decode cX0_rate 12 = .ok (.ireturn, 1) := by decide +kernel
theorem dX0_part_0 : decode cX0_part 0 = .ok (.iload_n 1, 1) := by decide +kernel
theorem dX0_part_1 : decode cX0_part 1 = .ok (.invokestatic 9, 3) := by decide +kernel
theorem dX0_part_4 : decode cX0_part 4 = .ok (.istore_n 3, 1) := by decide +kernel
theorem dX0_part_5 : decode cX0_part 5 = .ok (.iload_n 1, 1) := by decide +kernel
theorem dX0_part_6 : decode cX0_part 6 = .ok (.ifCond .ne 12, 3) := by decide +kernel
theorem dX0_part_9 : decode cX0_part 9 = .ok (.iload_n 0, 1) := by decide +kernel
theorem dX0_part_10 : decode cX0_part 10 = .ok (.iload_n 0, 1) := by decide +kernel
theorem dX0_part_11 : decode cX0_part 11 = .ok (.invokestatic 13, 3) := by decide +kernel
theorem dX0_part_14 : decode cX0_part 14 = .ok (.iadd, 1) := by decide +kernel
theorem dX0_part_15 : decode cX0_part 15 = .ok (.goto 4, 3) := by decide +kernel
theorem dX0_part_18 : decode cX0_part 18 = .ok (.iload_n 0, 1) := by decide +kernel
theorem dX0_part_19 : decode cX0_part 19 = .ok (.istore 4, 2) := by decide +kernel
theorem dX0_part_21 : decode cX0_part 21 = .ok (.iload_n 3, 1) := by decide +kernel
theorem dX0_part_22 : decode cX0_part 22 = .ok (.ifCond .ne 7, 3) := by decide +kernel
theorem dX0_part_25 : decode cX0_part 25 = .ok (.iconst 0, 1) := by decide +kernel
theorem dX0_part_26 : decode cX0_part 26 = .ok (.goto 7, 3) := by decide +kernel
theorem dX0_part_29 : decode cX0_part 29 = .ok (.iload 4, 2) := by decide +kernel
theorem dX0_part_31 : decode cX0_part 31 = .ok (.iload_n 3, 1) := by decide +kernel
theorem dX0_part_32 : decode cX0_part 32 = .ok (.idiv, 1) := by decide +kernel
theorem dX0_part_33 : decode cX0_part 33 = .ok (.istore 5, 2) := by decide +kernel
theorem dX0_part_35 : decode cX0_part 35 = .ok (.iload_n 2, 1) := by decide +kernel
theorem dX0_part_36 : decode cX0_part 36 = .ok (.tableswitch 50 0 2 #[28, 35, 44], 28) := by decide +kernel
theorem dX0_part_64 : decode cX0_part 64 = .ok (.iload 5, 2) := by decide +kernel
theorem dX0_part_66 : decode cX0_part 66 = .ok (.sipush 3600, 3) := by decide +kernel
theorem dX0_part_69 : decode cX0_part 69 = .ok (.idiv, 1) := by decide +kernel
theorem dX0_part_70 : decode cX0_part 70 = .ok (.ireturn, 1) := by decide +kernel
theorem dX0_part_71 : decode cX0_part 71 = .ok (.iload 5, 2) := by decide +kernel
theorem dX0_part_73 : decode cX0_part 73 = .ok (.bipush 60, 2) := by decide +kernel
theorem dX0_part_75 : decode cX0_part 75 = .ok (.idiv, 1) := by decide +kernel
theorem dX0_part_76 : decode cX0_part 76 = .ok (.bipush 60, 2) := by decide +kernel
theorem dX0_part_78 : decode cX0_part 78 = .ok (.irem, 1) := by decide +kernel
theorem dX0_part_79 : decode cX0_part 79 = .ok (.ireturn, 1) := by decide +kernel
theorem dX0_part_80 : decode cX0_part 80 = .ok (.iload 5, 2) := by decide +kernel
theorem dX0_part_82 : decode cX0_part 82 = .ok (.bipush 60, 2) := by decide +kernel
theorem dX0_part_84 : decode cX0_part 84 = .ok (.irem, 1) := by decide +kernel
theorem dX0_part_85 : decode cX0_part 85 = .ok (.ireturn, 1) := by decide +kernel
theorem dX0_part_86 : decode cX0_part 86 = .ok (.iload 4, 2) := by decide +kernel
theorem dX0_part_88 : decode cX0_part 88 = .ok (.iload 5, 2) := by decide +kernel
theorem dX0_part_90 : decode cX0_part 90 = .ok (.iload_n 3, 1) := by decide +kernel
theorem dX0_part_91 : decode cX0_part 91 = .ok (.imul, 1) := by decide +kernel
theorem dX0_part_92 : decode cX0_part 92 = .ok (.isub, 1) := by decide +kernel
theorem dX0_part_93 : decode cX0_part 93 = .ok (.ireturn, 1) := by decide +kernel
theorem dX0_leftOutBefore_0 : decode cX0_leftOutBefore 0 = .ok (.iload_n 0, 1) := by decide +kernel
theorem dX0_leftOutBefore_1 : decode cX0_leftOutBefore 1 = .ok (.sipush 17982, 3) := by decide +kernel
theorem dX0_leftOutBefore_4 : decode cX0_leftOutBefore 4 = .ok (.irem, 1) := by decide +kernel
theorem dX0_leftOutBefore_5 : decode cX0_leftOutBefore 5 = .ok (.istore_n 1, 1) := by decide +kernel
theorem dX0_leftOutBefore_6 : decode cX0_leftOutBefore 6 = .ok (.iload_n 1, 1) := by decide +kernel
theorem dX0_leftOutBefore_7 : decode cX0_leftOutBefore 7 = .ok (.sipush 1800, 3) := by decide +kernel
theorem dX0_leftOutBefore_10 : decode cX0_leftOutBefore 10 = .ok (.if_icmp .ge 7, 3) := by decide +kernel
theorem dX0_leftOutBefore_13 : decode cX0_leftOutBefore 13 = .ok (.iconst 0, 1) := by decide +kernel
theorem dX0_leftOutBefore_14 : decode cX0_leftOutBefore 14 = .ok (.goto 14, 3) := by decide +kernel
theorem dX0_leftOutBefore_17 : decode cX0_leftOutBefore 17 = .ok (.iconst 1, 1) := by decide +kernel
theorem dX0_leftOutBefore_18 : decode cX0_leftOutBefore 18 = .ok (.iload_n 1, 1) := by decide +kernel
theorem dX0_leftOutBefore_19 : decode cX0_leftOutBefore 19 = .ok (.sipush 1800, 3) := by decide +kernel
theorem dX0_leftOutBefore_22 : decode cX0_leftOutBefore 22 = .ok (.isub, 1) := by decide +kernel
theorem dX0_leftOutBefore_23 : decode cX0_leftOutBefore 23 = .ok (.sipush 1798, 3) := by decide +kernel
theorem dX0_leftOutBefore_26 : decode cX0_leftOutBefore 26 = .ok (.idiv, 1) := by decide +kernel
theorem dX0_leftOutBefore_27 : decode cX0_leftOutBefore 27 = .ok (.iadd, 1) := by decide +kernel
theorem dX0_leftOutBefore_28 : decode cX0_leftOutBefore 28 = .ok (.istore_n 2, 1) := by decide +kernel
theorem dX0_leftOutBefore_29 : decode cX0_leftOutBefore 29 = .ok (.iconst 2, 1) := by decide +kernel
theorem dX0_leftOutBefore_30 : decode cX0_leftOutBefore 30 = .ok (.iload_n 0, 1) := by decide +kernel
theorem dX0_leftOutBefore_31 : decode cX0_leftOutBefore 31 = .ok (.sipush 17982, 3) := by decide +kernel
theorem dX0_leftOutBefore_34 : decode cX0_leftOutBefore 34 = .ok (.idiv, 1) := by decide +kernel
theorem dX0_leftOutBefore_35 : decode cX0_leftOutBefore 35 = .ok (.bipush 9, 2) := by decide +kernel
theorem dX0_leftOutBefore_37 : decode cX0_leftOutBefore 37 = .ok (.imul, 1) := by decide +kernel
theorem dX0_leftOutBefore_38 : decode cX0_leftOutBefore 38 = .ok (.iload_n 2, 1) := by decide +kernel
theorem dX0_leftOutBefore_39 : decode cX0_leftOutBefore 39 = .ok (.iadd, 1) := by decide +kernel
theorem dX0_leftOutBefore_40 : decode cX0_leftOutBefore 40 = .ok (.imul, 1) := by decide +kernel
theorem dX0_leftOutBefore_41 : decode cX0_leftOutBefore 41 = .ok (.ireturn, 1) := by decide +kernel
theorem dX0_isLeftOut_0 : decode cX0_isLeftOut 0 = .ok (.iload_n 0, 1) := by decide +kernel
theorem dX0_isLeftOut_1 : decode cX0_isLeftOut 1 = .ok (.bipush 10, 2) := by decide +kernel
theorem dX0_isLeftOut_3 : decode cX0_isLeftOut 3 = .ok (.irem, 1) := by decide +kernel
theorem dX0_isLeftOut_4 : decode cX0_isLeftOut 4 = .ok (.ifCond .eq 16, 3) := by decide +kernel
theorem dX0_isLeftOut_7 : decode cX0_isLeftOut 7 = .ok (.iload_n 1, 1) := by decide +kernel
theorem dX0_isLeftOut_8 : decode cX0_isLeftOut 8 = .ok (.ifCond .ne 12, 3) := by decide +kernel
theorem dX0_isLeftOut_11 : decode cX0_isLeftOut 11 = .ok (.iload_n 2, 1) := by decide +kernel
theorem dX0_isLeftOut_12 : decode cX0_isLeftOut 12 = .ok (.iconst 2, 1) := by decide +kernel
theorem dX0_isLeftOut_13 : decode cX0_isLeftOut 13 = .ok (.if_icmp .ge 7, 3) := by decide +kernel
theorem dX0_isLeftOut_16 : decode cX0_isLeftOut 16 = .ok (.iconst 1, 1) := by decide +kernel
theorem dX0_isLeftOut_17 : decode cX0_isLeftOut 17 = .ok (.goto 4, 3) := by decide +kernel
theorem dX0_isLeftOut_20 : decode cX0_isLeftOut 20 = .ok (.iconst 0, 1) := by decide +kernel
theorem dX0_isLeftOut_21 : decode cX0_isLeftOut 21 = .ok (.ireturn, 1) := by decide +kernel
theorem dX0_frame_0 : decode cX0_frame 0 = .ok (.iload_n 0, 1) := by decide +kernel
theorem dX0_frame_1 : decode cX0_frame 1 = .ok (.bipush 60, 2) := by decide +kernel
theorem dX0_frame_3 : decode cX0_frame 3 = .ok (.imul, 1) := by decide +kernel
theorem dX0_frame_4 : decode cX0_frame 4 = .ok (.iload_n 1, 1) := by decide +kernel
theorem dX0_frame_5 : decode cX0_frame 5 = .ok (.iadd, 1) := by decide +kernel
theorem dX0_frame_6 : decode cX0_frame 6 = .ok (.iload_n 3, 1) := by decide +kernel
theorem dX0_frame_7 : decode cX0_frame 7 = .ok (.invokestatic 9, 3) := by decide +kernel
theorem dX0_frame_10 : decode cX0_frame 10 = .ok (.imul, 1) := by decide +kernel
theorem dX0_frame_11 : decode cX0_frame 11 = .ok (.iload_n 2, 1) := by decide +kernel
theorem dX0_frame_12 : decode cX0_frame 12 = .ok (.iadd, 1) := by decide +kernel
theorem dX0_frame_13 : decode cX0_frame 13 = .ok (.istore 4, 2) := by decide +kernel
theorem dX0_frame_15 : decode cX0_frame 15 = .ok (.iload_n 3, 1) := by decide +kernel
theorem dX0_frame_16 : decode cX0_frame 16 = .ok (.ifCond .ne 17, 3) := by decide +kernel
theorem dX0_frame_19 : decode cX0_frame 19 = .ok (.iload 4, 2) := by decide +kernel
theorem dX0_frame_21 : decode cX0_frame 21 = .ok (.iconst 2, 1) := by decide +kernel
theorem dX0_frame_22 : decode cX0_frame 22 = .ok (.iload_n 0, 1) := by decide +kernel
theorem dX0_frame_23 : decode cX0_frame 23 = .ok (.iload_n 0, 1) := by decide +kernel
theorem dX0_frame_24 : decode cX0_frame 24 = .ok (.bipush 10, 2) := by decide +kernel
theorem dX0_frame_26 : decode cX0_frame 26 = .ok (.idiv, 1) := by decide +kernel
theorem dX0_frame_27 : decode cX0_frame 27 = .ok (.isub, 1) := by decide +kernel
theorem dX0_frame_28 : decode cX0_frame 28 = .ok (.imul, 1) := by decide +kernel
theorem dX0_frame_29 : decode cX0_frame 29 = .ok (.isub, 1) := by decide +kernel
theorem dX0_frame_30 : decode cX0_frame 30 = .ok (.goto 5, 3) := by decide +kernel
theorem dX0_frame_33 : decode cX0_frame 33 = .ok (.iload 4, 2) := by decide +kernel
theorem dX0_frame_35 : decode cX0_frame 35 = .ok (.ireturn, 1) := by decide +kernel
theorem dX1_init_0 : decode cX1_init 0 = .ok (.aload_n 0, 1) := by decide +kernel
theorem dX1_init_1 : decode cX1_init 1 = .ok (.invokespecial 3, 3) := by decide +kernel
theorem dX1_init_4 : decode cX1_init 4 = .ok (.aload_n 0, 1) := by decide +kernel
theorem dX1_init_5 : decode cX1_init 5 = .ok (.bipush 8, 2) := by decide +kernel
theorem dX1_init_7 : decode cX1_init 7 = .ok (.anewarray 9, 3) := by decide +kernel
theorem dX1_init_10 : decode cX1_init 10 = .ok (.putfield 11, 3) := by decide +kernel
theorem dX1_init_13 : decode cX1_init 13 = .ok (.iconst 0, 1) := by decide +kernel
theorem dX1_init_14 : decode cX1_init 14 = .ok (.istore_n 1, 1) := by decide +kernel
theorem dX1_init_15 : decode cX1_init 15 = .ok (.iload_n 1, 1) := by decide +kernel
theorem dX1_init_16 : decode cX1_init 16 = .ok (.bipush 8, 2) := by decide +kernel
theorem dX1_init_18 : decode cX1_init 18 = .ok (.if_icmp .ge 22, 3) := by decide +kernel
theorem dX1_init_21 : decode cX1_init 21 = .ok (.aload_n 0, 1) := by decide +kernel
theorem dX1_init_22 : decode cX1_init 22 = .ok (.getfield 11, 3) := by decide +kernel
theorem dX1_init_25 : decode cX1_init 25 = .ok (.iload_n 1, 1) := by decide +kernel
theorem dX1_init_26 : decode cX1_init 26 = .ok (.new 9, 3) := by decide +kernel
theorem dX1_init_29 : decode cX1_init 29 = .ok (.dup, 1) := by decide +kernel
theorem dX1_init_30 : decode cX1_init 30 = .ok (.invokespecial 17, 3) := by decide +kernel
theorem dX1_init_33 : decode cX1_init 33 = .ok (.aastore, 1) := by decide +kernel
theorem dX1_init_34 : decode cX1_init 34 = .ok (.iinc 1 1, 3) := by decide +kernel
theorem dX1_init_37 : decode cX1_init 37 = .ok (.goto (-22), 3) := by decide +kernel
theorem dX1_init_40 : decode cX1_init 40 = .ok (.return_, 1) := by decide +kernel
theorem dX1_isFull_0 : decode cX1_isFull 0 = .ok (.aload_n 0, 1) := by decide +kernel
theorem dX1_isFull_1 : decode cX1_isFull 1 = .ok (.getfield 18, 3) := by decide +kernel
theorem dX1_isFull_4 : decode cX1_isFull 4 = .ok (.bipush 8, 2) := by decide +kernel
theorem dX1_isFull_6 : decode cX1_isFull 6 = .ok (.if_icmp .lt 7, 3) := by decide +kernel
theorem dX1_isFull_9 : decode cX1_isFull 9 = .ok (.iconst 1, 1) := by decide +kernel
theorem dX1_isFull_10 : decode cX1_isFull 10 = .ok (.goto 4, 3) := by decide +kernel
theorem dX1_isFull_13 : decode cX1_isFull 13 = .ok (.iconst 0, 1) := by decide +kernel
theorem dX1_isFull_14 : decode cX1_isFull 14 = .ok (.ireturn, 1) := by decide +kernel
theorem dX1_append_0 : decode cX1_append 0 = .ok (.aload_n 0, 1) := by decide +kernel
theorem dX1_append_1 : decode cX1_append 1 = .ok (.invokevirtual 22, 3) := by decide +kernel
theorem dX1_append_4 : decode cX1_append 4 = .ok (.ifCond .eq 4, 3) := by decide +kernel
theorem dX1_append_7 : decode cX1_append 7 = .ok (.return_, 1) := by decide +kernel
theorem dX1_append_8 : decode cX1_append 8 = .ok (.aload_n 0, 1) := by decide +kernel
theorem dX1_append_9 : decode cX1_append 9 = .ok (.getfield 11, 3) := by decide +kernel
theorem dX1_append_12 : decode cX1_append 12 = .ok (.aload_n 0, 1) := by decide +kernel
theorem dX1_append_13 : decode cX1_append 13 = .ok (.getfield 18, 3) := by decide +kernel
theorem dX1_append_16 : decode cX1_append 16 = .ok (.aaload, 1) := by decide +kernel
theorem dX1_append_17 : decode cX1_append 17 = .ok (.astore 6, 2) := by decide +kernel
theorem dX1_append_19 : decode cX1_append 19 = .ok (.aload 6, 2) := by decide +kernel
theorem dX1_append_21 : decode cX1_append 21 = .ok (.iload_n 1, 1) := by decide +kernel
theorem dX1_append_22 : decode cX1_append 22 = .ok (.putfield 26, 3) := by decide +kernel
theorem dX1_append_25 : decode cX1_append 25 = .ok (.aload 6, 2) := by decide +kernel
theorem dX1_append_27 : decode cX1_append 27 = .ok (.iload_n 2, 1) := by decide +kernel
theorem dX1_append_28 : decode cX1_append 28 = .ok (.putfield 29, 3) := by decide +kernel
theorem dX1_append_31 : decode cX1_append 31 = .ok (.aload 6, 2) := by decide +kernel
theorem dX1_append_33 : decode cX1_append 33 = .ok (.iload_n 3, 1) := by decide +kernel
theorem dX1_append_34 : decode cX1_append 34 = .ok (.putfield 32, 3) := by decide +kernel
theorem dX1_append_37 : decode cX1_append 37 = .ok (.aload 6, 2) := by decide +kernel
theorem dX1_append_39 : decode cX1_append 39 = .ok (.iload 4, 2) := by decide +kernel
theorem dX1_append_41 : decode cX1_append 41 = .ok (.putfield 35, 3) := by decide +kernel
theorem dX1_append_44 : decode cX1_append 44 = .ok (.aload 6, 2) := by decide +kernel
theorem dX1_append_46 : decode cX1_append 46 = .ok (.iload 5, 2) := by decide +kernel
theorem dX1_append_48 : decode cX1_append 48 = .ok (.putfield 38, 3) := by decide +kernel
theorem dX1_append_51 : decode cX1_append 51 = .ok (.aload_n 0, 1) := by decide +kernel
theorem dX1_append_52 : decode cX1_append 52 = .ok (.dup, 1) := by decide +kernel
theorem dX1_append_53 : decode cX1_append 53 = .ok (.getfield 18, 3) := by decide +kernel
theorem dX1_append_56 : decode cX1_append 56 = .ok (.iconst 1, 1) := by decide +kernel
theorem dX1_append_57 : decode cX1_append 57 = .ok (.iadd, 1) := by decide +kernel
theorem dX1_append_58 : decode cX1_append 58 = .ok (.putfield 18, 3) := by decide +kernel
theorem dX1_append_61 : decode cX1_append 61 = .ok (.return_, 1) := by decide +kernel
theorem dX1_begin_0 : decode cX1_begin 0 = .ok (.iconst 0, 1) := by decide +kernel
theorem dX1_begin_1 : decode cX1_begin 1 = .ok (.istore_n 2, 1) := by decide +kernel
theorem dX1_begin_2 : decode cX1_begin 2 = .ok (.iconst 0, 1) := by decide +kernel
theorem dX1_begin_3 : decode cX1_begin 3 = .ok (.istore_n 3, 1) := by decide +kernel
theorem dX1_begin_4 : decode cX1_begin 4 = .ok (.iload_n 3, 1) := by decide +kernel
theorem dX1_begin_5 : decode cX1_begin 5 = .ok (.iload_n 1, 1) := by decide +kernel
theorem dX1_begin_6 : decode cX1_begin 6 = .ok (.if_icmp .ge 29, 3) := by decide +kernel
theorem dX1_begin_9 : decode cX1_begin 9 = .ok (.iload_n 3, 1) := by decide +kernel
theorem dX1_begin_10 : decode cX1_begin 10 = .ok (.aload_n 0, 1) := by decide +kernel
theorem dX1_begin_11 : decode cX1_begin 11 = .ok (.getfield 18, 3) := by decide +kernel
theorem dX1_begin_14 : decode cX1_begin 14 = .ok (.if_icmp .ge 21, 3) := by decide +kernel
theorem dX1_begin_17 : decode cX1_begin 17 = .ok (.iload_n 2, 1) := by decide +kernel
theorem dX1_begin_18 : decode cX1_begin 18 = .ok (.aload_n 0, 1) := by decide +kernel
theorem dX1_begin_19 : decode cX1_begin 19 = .ok (.getfield 11, 3) := by decide +kernel
theorem dX1_begin_22 : decode cX1_begin 22 = .ok (.iload_n 3, 1) := by decide +kernel
theorem dX1_begin_23 : decode cX1_begin 23 = .ok (.aaload, 1) := by decide +kernel
theorem dX1_begin_24 : decode cX1_begin 24 = .ok (.getfield 32, 3) := by decide +kernel
theorem dX1_begin_27 : decode cX1_begin 27 = .ok (.iadd, 1) := by decide +kernel
theorem dX1_begin_28 : decode cX1_begin 28 = .ok (.istore_n 2, 1) := by decide +kernel
theorem dX1_begin_29 : decode cX1_begin 29 = .ok (.iinc 3 1, 3) := by decide +kernel
theorem dX1_begin_32 : decode cX1_begin 32 = .ok (.goto (-28), 3) := by decide +kernel
theorem dX1_begin_35 : decode cX1_begin 35 = .ok (.iload_n 2, 1) := by decide +kernel
theorem dX1_begin_36 : decode cX1_begin 36 = .ok (.ireturn, 1) := by decide +kernel
theorem dX1_frames_0 : decode cX1_frames 0 = .ok (.aload_n 0, 1) := by decide +kernel
theorem dX1_frames_1 : decode cX1_frames 1 = .ok (.aload_n 0, 1) := by decide +kernel
theorem dX1_frames_2 : decode cX1_frames 2 = .ok (.getfield 18, 3) := by decide +kernel
theorem dX1_frames_5 : decode cX1_frames 5 = .ok (.invokevirtual 41, 3) := by decide +kernel
theorem dX1_frames_8 : decode cX1_frames 8 = .ok (.ireturn, 1) := by decide +kernel
theorem dX1_holder_0 : decode cX1_holder 0 = .ok (.iconst 0, 1) := by decide +kernel
theorem dX1_holder_1 : decode cX1_holder 1 = .ok (.istore_n 2, 1) := by decide +kernel
theorem dX1_holder_2 : decode cX1_holder 2 = .ok (.iconst 0, 1) := by decide +kernel
theorem dX1_holder_3 : decode cX1_holder 3 = .ok (.istore_n 3, 1) := by decide +kernel
theorem dX1_holder_4 : decode cX1_holder 4 = .ok (.iload_n 3, 1) := by decide +kernel
theorem dX1_holder_5 : decode cX1_holder 5 = .ok (.aload_n 0, 1) := by decide +kernel
theorem dX1_holder_6 : decode cX1_holder 6 = .ok (.getfield 18, 3) := by decide +kernel
theorem dX1_holder_9 : decode cX1_holder 9 = .ok (.if_icmp .ge 28, 3) := by decide +kernel
theorem dX1_holder_12 : decode cX1_holder 12 = .ok (.iload_n 2, 1) := by decide +kernel
theorem dX1_holder_13 : decode cX1_holder 13 = .ok (.aload_n 0, 1) := by decide +kernel
theorem dX1_holder_14 : decode cX1_holder 14 = .ok (.getfield 11, 3) := by decide +kernel
theorem dX1_holder_17 : decode cX1_holder 17 = .ok (.iload_n 3, 1) := by decide +kernel
theorem dX1_holder_18 : decode cX1_holder 18 = .ok (.aaload, 1) := by decide +kernel
theorem dX1_holder_19 : decode cX1_holder 19 = .ok (.getfield 32, 3) := by decide +kernel
theorem dX1_holder_22 : decode cX1_holder 22 = .ok (.iadd, 1) := by decide +kernel
theorem dX1_holder_23 : decode cX1_holder 23 = .ok (.istore_n 2, 1) := by decide +kernel
theorem dX1_holder_24 : decode cX1_holder 24 = .ok (.iload_n 1, 1) := by decide +kernel
theorem dX1_holder_25 : decode cX1_holder 25 = .ok (.iload_n 2, 1) := by decide +kernel
theorem dX1_holder_26 : decode cX1_holder 26 = .ok (.if_icmp .ge 5, 3) := by decide +kernel
theorem dX1_holder_29 : decode cX1_holder 29 = .ok (.iload_n 3, 1) := by decide +kernel
theorem dX1_holder_30 : decode cX1_holder 30 = .ok (.ireturn, 1) := by decide +kernel
theorem dX1_holder_31 : decode cX1_holder 31 = .ok (.iinc 3 1, 3) := by decide +kernel
theorem dX1_holder_34 : decode cX1_holder 34 = .ok (.goto (-30), 3) := by decide +kernel
theorem dX1_holder_37 : decode cX1_holder 37 = .ok (.iconst (-1), 1) := by decide +kernel
theorem dX1_holder_38 : decode cX1_holder 38 = .ok (.ireturn, 1) := by decide +kernel
theorem dX1_times_0 : decode cX1_times 0 = .ok (.iconst 0, 1) := by decide +kernel
theorem dX1_times_1 : decode cX1_times 1 = .ok (.istore_n 3, 1) := by decide +kernel
theorem dX1_times_2 : decode cX1_times 2 = .ok (.iconst 0, 1) := by decide +kernel
theorem dX1_times_3 : decode cX1_times 3 = .ok (.istore 4, 2) := by decide +kernel
theorem dX1_times_5 : decode cX1_times 5 = .ok (.iload 4, 2) := by decide +kernel
theorem dX1_times_7 : decode cX1_times 7 = .ok (.aload_n 0, 1) := by decide +kernel
theorem dX1_times_8 : decode cX1_times 8 = .ok (.getfield 18, 3) := by decide +kernel
theorem dX1_times_11 : decode cX1_times 11 = .ok (.if_icmp .ge 37, 3) := by decide +kernel
theorem dX1_times_14 : decode cX1_times 14 = .ok (.aload_n 0, 1) := by decide +kernel
theorem dX1_times_15 : decode cX1_times 15 = .ok (.getfield 11, 3) := by decide +kernel
theorem dX1_times_18 : decode cX1_times 18 = .ok (.iload 4, 2) := by decide +kernel
theorem dX1_times_20 : decode cX1_times 20 = .ok (.aaload, 1) := by decide +kernel
theorem dX1_times_21 : decode cX1_times 21 = .ok (.getfield 26, 3) := by decide +kernel
theorem dX1_times_24 : decode cX1_times 24 = .ok (.iload_n 1, 1) := by decide +kernel
theorem dX1_times_25 : decode cX1_times 25 = .ok (.if_icmp .ne 17, 3) := by decide +kernel
theorem dX1_times_28 : decode cX1_times 28 = .ok (.iload_n 3, 1) := by decide +kernel
theorem dX1_times_29 : decode cX1_times 29 = .ok (.aload_n 0, 1) := by decide +kernel
theorem dX1_times_30 : decode cX1_times 30 = .ok (.getfield 11, 3) := by decide +kernel
theorem dX1_times_33 : decode cX1_times 33 = .ok (.iload 4, 2) := by decide +kernel
theorem dX1_times_35 : decode cX1_times 35 = .ok (.aaload, 1) := by decide +kernel
theorem dX1_times_36 : decode cX1_times 36 = .ok (.iload_n 2, 1) := by decide +kernel
theorem dX1_times_37 : decode cX1_times 37 = .ok (.invokevirtual 45, 3) := by decide +kernel
theorem dX1_times_40 : decode cX1_times 40 = .ok (.iadd, 1) := by decide +kernel
theorem dX1_times_41 : decode cX1_times 41 = .ok (.istore_n 3, 1) := by decide +kernel
theorem dX1_times_42 : decode cX1_times 42 = .ok (.iinc 4 1, 3) := by decide +kernel
theorem dX1_times_45 : decode cX1_times 45 = .ok (.goto (-40), 3) := by decide +kernel
theorem dX1_times_48 : decode cX1_times 48 = .ok (.iload_n 3, 1) := by decide +kernel
theorem dX1_times_49 : decode cX1_times 49 = .ok (.ireturn, 1) := by decide +kernel
theorem dX1_firstShowing_0 : decode cX1_firstShowing 0 = .ok (.iconst 0, 1) := by decide +kernel
theorem dX1_firstShowing_1 : decode cX1_firstShowing 1 = .ok (.istore_n 3, 1) := by decide +kernel
theorem dX1_firstShowing_2 : decode cX1_firstShowing 2 = .ok (.iload_n 3, 1) := by decide +kernel
theorem dX1_firstShowing_3 : decode cX1_firstShowing 3 = .ok (.aload_n 0, 1) := by decide +kernel
theorem dX1_firstShowing_4 : decode cX1_firstShowing 4 = .ok (.getfield 18, 3) := by decide +kernel
theorem dX1_firstShowing_7 : decode cX1_firstShowing 7 = .ok (.if_icmp .ge 53, 3) := by decide +kernel
theorem dX1_firstShowing_10 : decode cX1_firstShowing 10 = .ok (.aload_n 0, 1) := by decide +kernel
theorem dX1_firstShowing_11 : decode cX1_firstShowing 11 = .ok (.getfield 11, 3) := by decide +kernel
theorem dX1_firstShowing_14 : decode cX1_firstShowing 14 = .ok (.iload_n 3, 1) := by decide +kernel
theorem dX1_firstShowing_15 : decode cX1_firstShowing 15 = .ok (.aaload, 1) := by decide +kernel
theorem dX1_firstShowing_16 : decode cX1_firstShowing 16 = .ok (.getfield 26, 3) := by decide +kernel
theorem dX1_firstShowing_19 : decode cX1_firstShowing 19 = .ok (.iload_n 1, 1) := by decide +kernel
theorem dX1_firstShowing_20 : decode cX1_firstShowing 20 = .ok (.if_icmp .ne 16, 3) := by decide +kernel
theorem dX1_firstShowing_23 : decode cX1_firstShowing 23 = .ok (.aload_n 0, 1) := by decide +kernel
theorem dX1_firstShowing_24 : decode cX1_firstShowing 24 = .ok (.getfield 11, 3) := by decide +kernel
theorem dX1_firstShowing_27 : decode cX1_firstShowing 27 = .ok (.iload_n 3, 1) := by decide +kernel
theorem dX1_firstShowing_28 : decode cX1_firstShowing 28 = .ok (.aaload, 1) := by decide +kernel
theorem dX1_firstShowing_29 : decode cX1_firstShowing 29 = .ok (.iload_n 2, 1) := by decide +kernel
theorem dX1_firstShowing_30 : decode cX1_firstShowing 30 = .ok (.invokevirtual 48, 3) := by decide +kernel
theorem dX1_firstShowing_33 : decode cX1_firstShowing 33 = .ok (.goto 4, 3) := by decide +kernel
theorem dX1_firstShowing_36 : decode cX1_firstShowing 36 = .ok (.iconst (-1), 1) := by decide +kernel
theorem dX1_firstShowing_37 : decode cX1_firstShowing 37 = .ok (.istore 4, 2) := by decide +kernel
theorem dX1_firstShowing_39 : decode cX1_firstShowing 39 = .ok (.iload 4, 2) := by decide +kernel
theorem dX1_firstShowing_41 : decode cX1_firstShowing 41 = .ok (.iconst (-1), 1) := by decide +kernel
theorem dX1_firstShowing_42 : decode cX1_firstShowing 42 = .ok (.if_icmp .eq 12, 3) := by decide +kernel
theorem dX1_firstShowing_45 : decode cX1_firstShowing 45 = .ok (.aload_n 0, 1) := by decide +kernel
theorem dX1_firstShowing_46 : decode cX1_firstShowing 46 = .ok (.iload_n 3, 1) := by decide +kernel
theorem dX1_firstShowing_47 : decode cX1_firstShowing 47 = .ok (.invokevirtual 41, 3) := by decide +kernel
theorem dX1_firstShowing_50 : decode cX1_firstShowing 50 = .ok (.iload 4, 2) := by decide +kernel
theorem dX1_firstShowing_52 : decode cX1_firstShowing 52 = .ok (.iadd, 1) := by decide +kernel
theorem dX1_firstShowing_53 : decode cX1_firstShowing 53 = .ok (.ireturn, 1) := by decide +kernel
theorem dX1_firstShowing_54 : decode cX1_firstShowing 54 = .ok (.iinc 3 1, 3) := by decide +kernel
theorem dX1_firstShowing_57 : decode cX1_firstShowing 57 = .ok (.goto (-55), 3) := by decide +kernel
theorem dX1_firstShowing_60 : decode cX1_firstShowing 60 = .ok (.iconst (-1), 1) := by decide +kernel
theorem dX1_firstShowing_61 : decode cX1_firstShowing 61 = .ok (.ireturn, 1) := by decide +kernel
theorem dX1_shownFrames_0 : decode cX1_shownFrames 0 = .ok (.iconst 0, 1) := by decide +kernel
theorem dX1_shownFrames_1 : decode cX1_shownFrames 1 = .ok (.istore_n 1, 1) := by decide +kernel
theorem dX1_shownFrames_2 : decode cX1_shownFrames 2 = .ok (.iconst 0, 1) := by decide +kernel
theorem dX1_shownFrames_3 : decode cX1_shownFrames 3 = .ok (.istore_n 2, 1) := by decide +kernel
theorem dX1_shownFrames_4 : decode cX1_shownFrames 4 = .ok (.iload_n 2, 1) := by decide +kernel
theorem dX1_shownFrames_5 : decode cX1_shownFrames 5 = .ok (.aload_n 0, 1) := by decide +kernel
theorem dX1_shownFrames_6 : decode cX1_shownFrames 6 = .ok (.getfield 18, 3) := by decide +kernel
theorem dX1_shownFrames_9 : decode cX1_shownFrames 9 = .ok (.if_icmp .ge 66, 3) := by decide +kernel
theorem dX1_shownFrames_12 : decode cX1_shownFrames 12 = .ok (.aload_n 0, 1) := by decide +kernel
theorem dX1_shownFrames_13 : decode cX1_shownFrames 13 = .ok (.getfield 11, 3) := by decide +kernel
theorem dX1_shownFrames_16 : decode cX1_shownFrames 16 = .ok (.iload_n 2, 1) := by decide +kernel
theorem dX1_shownFrames_17 : decode cX1_shownFrames 17 = .ok (.aaload, 1) := by decide +kernel
theorem dX1_shownFrames_18 : decode cX1_shownFrames 18 = .ok (.astore_n 3, 1) := by decide +kernel
theorem dX1_shownFrames_19 : decode cX1_shownFrames 19 = .ok (.aload_n 0, 1) := by decide +kernel
theorem dX1_shownFrames_20 : decode cX1_shownFrames 20 = .ok (.iload_n 2, 1) := by decide +kernel
theorem dX1_shownFrames_21 : decode cX1_shownFrames 21 = .ok (.invokevirtual 41, 3) := by decide +kernel
theorem dX1_shownFrames_24 : decode cX1_shownFrames 24 = .ok (.istore 4, 2) := by decide +kernel
theorem dX1_shownFrames_26 : decode cX1_shownFrames 26 = .ok (.iconst 0, 1) := by decide +kernel
theorem dX1_shownFrames_27 : decode cX1_shownFrames 27 = .ok (.istore 5, 2) := by decide +kernel
theorem dX1_shownFrames_29 : decode cX1_shownFrames 29 = .ok (.iload 5, 2) := by decide +kernel
theorem dX1_shownFrames_31 : decode cX1_shownFrames 31 = .ok (.aload_n 3, 1) := by decide +kernel
theorem dX1_shownFrames_32 : decode cX1_shownFrames 32 = .ok (.getfield 32, 3) := by decide +kernel
theorem dX1_shownFrames_35 : decode cX1_shownFrames 35 = .ok (.if_icmp .ge 34, 3) := by decide +kernel
theorem dX1_shownFrames_38 : decode cX1_shownFrames 38 = .ok (.aload_n 0, 1) := by decide +kernel
theorem dX1_shownFrames_39 : decode cX1_shownFrames 39 = .ok (.aload_n 3, 1) := by decide +kernel
theorem dX1_shownFrames_40 : decode cX1_shownFrames 40 = .ok (.getfield 26, 3) := by decide +kernel
theorem dX1_shownFrames_43 : decode cX1_shownFrames 43 = .ok (.aload_n 3, 1) := by decide +kernel
theorem dX1_shownFrames_44 : decode cX1_shownFrames 44 = .ok (.iload 5, 2) := by decide +kernel
theorem dX1_shownFrames_46 : decode cX1_shownFrames 46 = .ok (.invokevirtual 51, 3) := by decide +kernel
theorem dX1_shownFrames_49 : decode cX1_shownFrames 49 = .ok (.invokevirtual 54, 3) := by decide +kernel
theorem dX1_shownFrames_52 : decode cX1_shownFrames 52 = .ok (.iload 4, 2) := by decide +kernel
theorem dX1_shownFrames_54 : decode cX1_shownFrames 54 = .ok (.iload 5, 2) := by decide +kernel
theorem dX1_shownFrames_56 : decode cX1_shownFrames 56 = .ok (.iadd, 1) := by decide +kernel
theorem dX1_shownFrames_57 : decode cX1_shownFrames 57 = .ok (.if_icmp .ne 6, 3) := by decide +kernel
theorem dX1_shownFrames_60 : decode cX1_shownFrames 60 = .ok (.iinc 1 1, 3) := by decide +kernel
theorem dX1_shownFrames_63 : decode cX1_shownFrames 63 = .ok (.iinc 5 1, 3) := by decide +kernel
theorem dX1_shownFrames_66 : decode cX1_shownFrames 66 = .ok (.goto (-37), 3) := by decide +kernel
theorem dX1_shownFrames_69 : decode cX1_shownFrames 69 = .ok (.iinc 2 1, 3) := by decide +kernel
theorem dX1_shownFrames_72 : decode cX1_shownFrames 72 = .ok (.goto (-68), 3) := by decide +kernel
theorem dX1_shownFrames_75 : decode cX1_shownFrames 75 = .ok (.iload_n 1, 1) := by decide +kernel
theorem dX1_shownFrames_76 : decode cX1_shownFrames 76 = .ok (.ireturn, 1) := by decide +kernel
theorem dX2_init_0 : decode cX2_init 0 = .ok (.aload_n 0, 1) := by decide +kernel
theorem dX2_init_1 : decode cX2_init 1 = .ok (.invokespecial 3, 3) := by decide +kernel
theorem dX2_init_4 : decode cX2_init 4 = .ok (.aload_n 0, 1) := by decide +kernel
theorem dX2_init_5 : decode cX2_init 5 = .ok (.iconst 1, 1) := by decide +kernel
theorem dX2_init_6 : decode cX2_init 6 = .ok (.putfield 9, 3) := by decide +kernel
theorem dX2_init_9 : decode cX2_init 9 = .ok (.aload_n 0, 1) := by decide +kernel
theorem dX2_init_10 : decode cX2_init 10 = .ok (.iconst 1, 1) := by decide +kernel
theorem dX2_init_11 : decode cX2_init 11 = .ok (.putfield 15, 3) := by decide +kernel
theorem dX2_init_14 : decode cX2_init 14 = .ok (.return_, 1) := by decide +kernel
theorem dX2_part_0 : decode cX2_part 0 = .ok (.iload_n 1, 1) := by decide +kernel
theorem dX2_part_1 : decode cX2_part 1 = .ok (.tableswitch 42 0 2 #[27, 32, 37], 27) := by decide +kernel
theorem dX2_part_28 : decode cX2_part 28 = .ok (.aload_n 0, 1) := by decide +kernel
theorem dX2_part_29 : decode cX2_part 29 = .ok (.getfield 18, 3) := by decide +kernel
theorem dX2_part_32 : decode cX2_part 32 = .ok (.ireturn, 1) := by decide +kernel
theorem dX2_part_33 : decode cX2_part 33 = .ok (.aload_n 0, 1) := by decide +kernel
theorem dX2_part_34 : decode cX2_part 34 = .ok (.getfield 9, 3) := by decide +kernel
theorem dX2_part_37 : decode cX2_part 37 = .ok (.ireturn, 1) := by decide +kernel
theorem dX2_part_38 : decode cX2_part 38 = .ok (.aload_n 0, 1) := by decide +kernel
theorem dX2_part_39 : decode cX2_part 39 = .ok (.getfield 21, 3) := by decide +kernel
theorem dX2_part_42 : decode cX2_part 42 = .ok (.ireturn, 1) := by decide +kernel
theorem dX2_part_43 : decode cX2_part 43 = .ok (.aload_n 0, 1) := by decide +kernel
theorem dX2_part_44 : decode cX2_part 44 = .ok (.getfield 15, 3) := by decide +kernel
theorem dX2_part_47 : decode cX2_part 47 = .ok (.ireturn, 1) := by decide +kernel
theorem dX2_become_0 : decode cX2_become 0 = .ok (.iload_n 1, 1) := by decide +kernel
theorem dX2_become_1 : decode cX2_become 1 = .ok (.tableswitch 51 0 2 #[27, 35, 43], 27) := by decide +kernel
theorem dX2_become_28 : decode cX2_become 28 = .ok (.aload_n 0, 1) := by decide +kernel
theorem dX2_become_29 : decode cX2_become 29 = .ok (.iload_n 2, 1) := by decide +kernel
theorem dX2_become_30 : decode cX2_become 30 = .ok (.putfield 18, 3) := by decide +kernel
theorem dX2_become_33 : decode cX2_become 33 = .ok (.goto 24, 3) := by decide +kernel
theorem dX2_become_36 : decode cX2_become 36 = .ok (.aload_n 0, 1) := by decide +kernel
theorem dX2_become_37 : decode cX2_become 37 = .ok (.iload_n 2, 1) := by decide +kernel
theorem dX2_become_38 : decode cX2_become 38 = .ok (.putfield 9, 3) := by decide +kernel
theorem dX2_become_41 : decode cX2_become 41 = .ok (.goto 16, 3) := by decide +kernel
theorem dX2_become_44 : decode cX2_become 44 = .ok (.aload_n 0, 1) := by decide +kernel
theorem dX2_become_45 : decode cX2_become 45 = .ok (.iload_n 2, 1) := by decide +kernel
theorem dX2_become_46 : decode cX2_become 46 = .ok (.putfield 21, 3) := by decide +kernel
theorem dX2_become_49 : decode cX2_become 49 = .ok (.goto 8, 3) := by decide +kernel
theorem dX2_become_52 : decode cX2_become 52 = .ok (.aload_n 0, 1) := by decide +kernel
theorem dX2_become_53 : decode cX2_become 53 = .ok (.iload_n 2, 1) := by decide +kernel
theorem dX2_become_54 : decode cX2_become 54 = .ok (.putfield 15, 3) := by decide +kernel
theorem dX2_become_57 : decode cX2_become 57 = .ok (.return_, 1) := by decide +kernel
theorem dX2_frameAt_0 : decode cX2_frameAt 0 = .ok (.aload_n 0, 1) := by decide +kernel
theorem dX2_frameAt_1 : decode cX2_frameAt 1 = .ok (.getfield 15, 3) := by decide +kernel
theorem dX2_frameAt_4 : decode cX2_frameAt 4 = .ok (.ifCond .ne 10, 3) := by decide +kernel
theorem dX2_frameAt_7 : decode cX2_frameAt 7 = .ok (.aload_n 0, 1) := by decide +kernel
theorem dX2_frameAt_8 : decode cX2_frameAt 8 = .ok (.getfield 18, 3) := by decide +kernel
theorem dX2_frameAt_11 : decode cX2_frameAt 11 = .ok (.goto 19, 3) := by decide +kernel
theorem dX2_frameAt_14 : decode cX2_frameAt 14 = .ok (.aload_n 0, 1) := by decide +kernel
theorem dX2_frameAt_15 : decode cX2_frameAt 15 = .ok (.getfield 18, 3) := by decide +kernel
theorem dX2_frameAt_18 : decode cX2_frameAt 18 = .ok (.iload_n 1, 1) := by decide +kernel
theorem dX2_frameAt_19 : decode cX2_frameAt 19 = .ok (.aload_n 0, 1) := by decide +kernel
theorem dX2_frameAt_20 : decode cX2_frameAt 20 = .ok (.getfield 21, 3) := by decide +kernel
theorem dX2_frameAt_23 : decode cX2_frameAt 23 = .ok (.imul, 1) := by decide +kernel
theorem dX2_frameAt_24 : decode cX2_frameAt 24 = .ok (.aload_n 0, 1) := by decide +kernel
theorem dX2_frameAt_25 : decode cX2_frameAt 25 = .ok (.getfield 15, 3) := by decide +kernel
theorem dX2_frameAt_28 : decode cX2_frameAt 28 = .ok (.idiv, 1) := by decide +kernel
theorem dX2_frameAt_29 : decode cX2_frameAt 29 = .ok (.iadd, 1) := by decide +kernel
theorem dX2_frameAt_30 : decode cX2_frameAt 30 = .ok (.ireturn, 1) := by decide +kernel
theorem dX2_first_0 : decode cX2_first 0 = .ok (.aload_n 0, 1) := by decide +kernel
theorem dX2_first_1 : decode cX2_first 1 = .ok (.iconst 0, 1) := by decide +kernel
theorem dX2_first_2 : decode cX2_first 2 = .ok (.invokevirtual 24, 3) := by decide +kernel
theorem dX2_first_5 : decode cX2_first 5 = .ok (.ireturn, 1) := by decide +kernel
theorem dX2_last_0 : decode cX2_last 0 = .ok (.aload_n 0, 1) := by decide +kernel
theorem dX2_last_1 : decode cX2_last 1 = .ok (.aload_n 0, 1) := by decide +kernel
theorem dX2_last_2 : decode cX2_last 2 = .ok (.getfield 9, 3) := by decide +kernel
theorem dX2_last_5 : decode cX2_last 5 = .ok (.iconst 1, 1) := by decide +kernel
theorem dX2_last_6 : decode cX2_last 6 = .ok (.isub, 1) := by decide +kernel
theorem dX2_last_7 : decode cX2_last 7 = .ok (.invokevirtual 24, 3) := by decide +kernel
theorem dX2_last_10 : decode cX2_last 10 = .ok (.ireturn, 1) := by decide +kernel
theorem dX2_reach_0 : decode cX2_reach 0 = .ok (.aload_n 0, 1) := by decide +kernel
theorem dX2_reach_1 : decode cX2_reach 1 = .ok (.invokevirtual 28, 3) := by decide +kernel
theorem dX2_reach_4 : decode cX2_reach 4 = .ok (.aload_n 0, 1) := by decide +kernel
theorem dX2_reach_5 : decode cX2_reach 5 = .ok (.invokevirtual 32, 3) := by decide +kernel
theorem dX2_reach_8 : decode cX2_reach 8 = .ok (.isub, 1) := by decide +kernel
theorem dX2_reach_9 : decode cX2_reach 9 = .ok (.iconst 1, 1) := by decide +kernel
theorem dX2_reach_10 : decode cX2_reach 10 = .ok (.iadd, 1) := by decide +kernel
theorem dX2_reach_11 : decode cX2_reach 11 = .ok (.ireturn, 1) := by decide +kernel
theorem dX2_different_0 : decode cX2_different 0 = .ok (.aload_n 0, 1) := by decide +kernel
theorem dX2_different_1 : decode cX2_different 1 = .ok (.getfield 21, 3) := by decide +kernel
theorem dX2_different_4 : decode cX2_different 4 = .ok (.aload_n 0, 1) := by decide +kernel
theorem dX2_different_5 : decode cX2_different 5 = .ok (.getfield 15, 3) := by decide +kernel
theorem dX2_different_8 : decode cX2_different 8 = .ok (.if_icmp .gt 10, 3) := by decide +kernel
theorem dX2_different_11 : decode cX2_different 11 = .ok (.aload_n 0, 1) := by decide +kernel
theorem dX2_different_12 : decode cX2_different 12 = .ok (.invokevirtual 35, 3) := by decide +kernel
theorem dX2_different_15 : decode cX2_different 15 = .ok (.goto 7, 3) := by decide +kernel
theorem dX2_different_18 : decode cX2_different 18 = .ok (.aload_n 0, 1) := by decide +kernel
theorem dX2_different_19 : decode cX2_different 19 = .ok (.getfield 9, 3) := by decide +kernel
theorem dX2_different_22 : decode cX2_different 22 = .ok (.ireturn, 1) := by decide +kernel
theorem dX2_firstAtLeast_0 : decode cX2_firstAtLeast 0 = .ok (.iload_n 1, 1) := by decide +kernel
theorem dX2_firstAtLeast_1 : decode cX2_firstAtLeast 1 = .ok (.ifCond .gt 5, 3) := by decide +kernel
theorem dX2_firstAtLeast_4 : decode cX2_firstAtLeast 4 = .ok (.iconst 0, 1) := by decide +kernel
theorem dX2_firstAtLeast_5 : decode cX2_firstAtLeast 5 = .ok (.ireturn, 1) := by decide +kernel
theorem dX2_firstAtLeast_6 : decode cX2_firstAtLeast 6 = .ok (.aload_n 0, 1) := by decide +kernel
theorem dX2_firstAtLeast_7 : decode cX2_firstAtLeast 7 = .ok (.getfield 21, 3) := by decide +kernel
theorem dX2_firstAtLeast_10 : decode cX2_firstAtLeast 10 = .ok (.ifCond .ne 10, 3) := by decide +kernel
theorem dX2_firstAtLeast_13 : decode cX2_firstAtLeast 13 = .ok (.aload_n 0, 1) := by decide +kernel
theorem dX2_firstAtLeast_14 : decode cX2_firstAtLeast 14 = .ok (.getfield 9, 3) := by decide +kernel
theorem dX2_firstAtLeast_17 : decode cX2_firstAtLeast 17 = .ok (.goto 21, 3) := by decide +kernel
theorem dX2_firstAtLeast_20 : decode cX2_firstAtLeast 20 = .ok (.iload_n 1, 1) := by decide +kernel
theorem dX2_firstAtLeast_21 : decode cX2_firstAtLeast 21 = .ok (.aload_n 0, 1) := by decide +kernel
theorem dX2_firstAtLeast_22 : decode cX2_firstAtLeast 22 = .ok (.getfield 15, 3) := by decide +kernel
theorem dX2_firstAtLeast_25 : decode cX2_firstAtLeast 25 = .ok (.imul, 1) := by decide +kernel
theorem dX2_firstAtLeast_26 : decode cX2_firstAtLeast 26 = .ok (.aload_n 0, 1) := by decide +kernel
theorem dX2_firstAtLeast_27 : decode cX2_firstAtLeast 27 = .ok (.getfield 21, 3) := by decide +kernel
theorem dX2_firstAtLeast_30 : decode cX2_firstAtLeast 30 = .ok (.iadd, 1) := by decide +kernel
theorem dX2_firstAtLeast_31 : decode cX2_firstAtLeast 31 = .ok (.iconst 1, 1) := by decide +kernel
theorem dX2_firstAtLeast_32 : decode cX2_firstAtLeast 32 = .ok (.isub, 1) := by decide +kernel
theorem dX2_firstAtLeast_33 : decode cX2_firstAtLeast 33 = .ok (.aload_n 0, 1) := by decide +kernel
theorem dX2_firstAtLeast_34 : decode cX2_firstAtLeast 34 = .ok (.getfield 21, 3) := by decide +kernel
theorem dX2_firstAtLeast_37 : decode cX2_firstAtLeast 37 = .ok (.idiv, 1) := by decide +kernel
theorem dX2_firstAtLeast_38 : decode cX2_firstAtLeast 38 = .ok (.istore_n 2, 1) := by decide +kernel
theorem dX2_firstAtLeast_39 : decode cX2_firstAtLeast 39 = .ok (.iload_n 2, 1) := by decide +kernel
theorem dX2_firstAtLeast_40 : decode cX2_firstAtLeast 40 = .ok (.aload_n 0, 1) := by decide +kernel
theorem dX2_firstAtLeast_41 : decode cX2_firstAtLeast 41 = .ok (.getfield 9, 3) := by decide +kernel
theorem dX2_firstAtLeast_44 : decode cX2_firstAtLeast 44 = .ok (.if_icmp .ge 7, 3) := by decide +kernel
theorem dX2_firstAtLeast_47 : decode cX2_firstAtLeast 47 = .ok (.iload_n 2, 1) := by decide +kernel
theorem dX2_firstAtLeast_48 : decode cX2_firstAtLeast 48 = .ok (.goto 7, 3) := by decide +kernel
theorem dX2_firstAtLeast_51 : decode cX2_firstAtLeast 51 = .ok (.aload_n 0, 1) := by decide +kernel
theorem dX2_firstAtLeast_52 : decode cX2_firstAtLeast 52 = .ok (.getfield 9, 3) := by decide +kernel
theorem dX2_firstAtLeast_55 : decode cX2_firstAtLeast 55 = .ok (.ireturn, 1) := by decide +kernel
theorem dX2_firstShowing_0 : decode cX2_firstShowing 0 = .ok (.aload_n 0, 1) := by decide +kernel
theorem dX2_firstShowing_1 : decode cX2_firstShowing 1 = .ok (.iload_n 1, 1) := by decide +kernel
theorem dX2_firstShowing_2 : decode cX2_firstShowing 2 = .ok (.aload_n 0, 1) := by decide +kernel
theorem dX2_firstShowing_3 : decode cX2_firstShowing 3 = .ok (.getfield 18, 3) := by decide +kernel
theorem dX2_firstShowing_6 : decode cX2_firstShowing 6 = .ok (.isub, 1) := by decide +kernel
theorem dX2_firstShowing_7 : decode cX2_firstShowing 7 = .ok (.invokevirtual 38, 3) := by decide +kernel
theorem dX2_firstShowing_10 : decode cX2_firstShowing 10 = .ok (.istore_n 2, 1) := by decide +kernel
theorem dX2_firstShowing_11 : decode cX2_firstShowing 11 = .ok (.iload_n 2, 1) := by decide +kernel
theorem dX2_firstShowing_12 : decode cX2_firstShowing 12 = .ok (.aload_n 0, 1) := by decide +kernel
theorem dX2_firstShowing_13 : decode cX2_firstShowing 13 = .ok (.getfield 9, 3) := by decide +kernel
theorem dX2_firstShowing_16 : decode cX2_firstShowing 16 = .ok (.if_icmp .ge 16, 3) := by decide +kernel
theorem dX2_firstShowing_19 : decode cX2_firstShowing 19 = .ok (.aload_n 0, 1) := by decide +kernel
theorem dX2_firstShowing_20 : decode cX2_firstShowing 20 = .ok (.iload_n 2, 1) := by decide +kernel
theorem dX2_firstShowing_21 : decode cX2_firstShowing 21 = .ok (.invokevirtual 24, 3) := by decide +kernel
theorem dX2_firstShowing_24 : decode cX2_firstShowing 24 = .ok (.iload_n 1, 1) := by decide +kernel
theorem dX2_firstShowing_25 : decode cX2_firstShowing 25 = .ok (.if_icmp .ne 7, 3) := by decide +kernel
theorem dX2_firstShowing_28 : decode cX2_firstShowing 28 = .ok (.iload_n 2, 1) := by decide +kernel
theorem dX2_firstShowing_29 : decode cX2_firstShowing 29 = .ok (.goto 4, 3) := by decide +kernel
theorem dX2_firstShowing_32 : decode cX2_firstShowing 32 = .ok (.iconst (-1), 1) := by decide +kernel
theorem dX2_firstShowing_33 : decode cX2_firstShowing 33 = .ok (.ireturn, 1) := by decide +kernel
theorem dX2_times_0 : decode cX2_times 0 = .ok (.iload_n 1, 1) := by decide +kernel
theorem dX2_times_1 : decode cX2_times 1 = .ok (.aload_n 0, 1) := by decide +kernel
theorem dX2_times_2 : decode cX2_times 2 = .ok (.getfield 18, 3) := by decide +kernel
theorem dX2_times_5 : decode cX2_times 5 = .ok (.if_icmp .ge 7, 3) := by decide +kernel
theorem dX2_times_8 : decode cX2_times 8 = .ok (.iconst 0, 1) := by decide +kernel
theorem dX2_times_9 : decode cX2_times 9 = .ok (.goto 26, 3) := by decide +kernel
theorem dX2_times_12 : decode cX2_times 12 = .ok (.aload_n 0, 1) := by decide +kernel
theorem dX2_times_13 : decode cX2_times 13 = .ok (.iload_n 1, 1) := by decide +kernel
theorem dX2_times_14 : decode cX2_times 14 = .ok (.aload_n 0, 1) := by decide +kernel
theorem dX2_times_15 : decode cX2_times 15 = .ok (.getfield 18, 3) := by decide +kernel
theorem dX2_times_18 : decode cX2_times 18 = .ok (.isub, 1) := by decide +kernel
theorem dX2_times_19 : decode cX2_times 19 = .ok (.iconst 1, 1) := by decide +kernel
theorem dX2_times_20 : decode cX2_times 20 = .ok (.iadd, 1) := by decide +kernel
theorem dX2_times_21 : decode cX2_times 21 = .ok (.invokevirtual 38, 3) := by decide +kernel
theorem dX2_times_24 : decode cX2_times 24 = .ok (.aload_n 0, 1) := by decide +kernel
theorem dX2_times_25 : decode cX2_times 25 = .ok (.iload_n 1, 1) := by decide +kernel
theorem dX2_times_26 : decode cX2_times 26 = .ok (.aload_n 0, 1) := by decide +kernel
theorem dX2_times_27 : decode cX2_times 27 = .ok (.getfield 18, 3) := by decide +kernel
theorem dX2_times_30 : decode cX2_times 30 = .ok (.isub, 1) := by decide +kernel
theorem dX2_times_31 : decode cX2_times 31 = .ok (.invokevirtual 38, 3) := by decide +kernel
theorem dX2_times_34 : decode cX2_times 34 = .ok (.isub, 1) := by decide +kernel
theorem dX2_times_35 : decode cX2_times 35 = .ok (.ireturn, 1) := by decide +kernel
theorem dX2_isLike_0 : decode cX2_isLike 0 = .ok (.aload_n 0, 1) := by decide +kernel
theorem dX2_isLike_1 : decode cX2_isLike 1 = .ok (.getfield 41, 3) := by decide +kernel
theorem dX2_isLike_4 : decode cX2_isLike 4 = .ok (.aload_n 1, 1) := by decide +kernel
theorem dX2_isLike_5 : decode cX2_isLike 5 = .ok (.getfield 41, 3) := by decide +kernel
theorem dX2_isLike_8 : decode cX2_isLike 8 = .ok (.if_icmp .ne 39, 3) := by decide +kernel
theorem dX2_isLike_11 : decode cX2_isLike 11 = .ok (.aload_n 0, 1) := by decide +kernel
theorem dX2_isLike_12 : decode cX2_isLike 12 = .ok (.getfield 18, 3) := by decide +kernel
theorem dX2_isLike_15 : decode cX2_isLike 15 = .ok (.aload_n 1, 1) := by decide +kernel
theorem dX2_isLike_16 : decode cX2_isLike 16 = .ok (.getfield 18, 3) := by decide +kernel
theorem dX2_isLike_19 : decode cX2_isLike 19 = .ok (.if_icmp .ne 28, 3) := by decide +kernel
theorem dX2_isLike_22 : decode cX2_isLike 22 = .ok (.aload_n 0, 1) := by decide +kernel
theorem dX2_isLike_23 : decode cX2_isLike 23 = .ok (.getfield 21, 3) := by decide +kernel
theorem dX2_isLike_26 : decode cX2_isLike 26 = .ok (.aload_n 1, 1) := by decide +kernel
theorem dX2_isLike_27 : decode cX2_isLike 27 = .ok (.getfield 15, 3) := by decide +kernel
theorem dX2_isLike_30 : decode cX2_isLike 30 = .ok (.imul, 1) := by decide +kernel
theorem dX2_isLike_31 : decode cX2_isLike 31 = .ok (.aload_n 1, 1) := by decide +kernel
theorem dX2_isLike_32 : decode cX2_isLike 32 = .ok (.getfield 21, 3) := by decide +kernel
theorem dX2_isLike_35 : decode cX2_isLike 35 = .ok (.aload_n 0, 1) := by decide +kernel
theorem dX2_isLike_36 : decode cX2_isLike 36 = .ok (.getfield 15, 3) := by decide +kernel
theorem dX2_isLike_39 : decode cX2_isLike 39 = .ok (.imul, 1) := by decide +kernel
theorem dX2_isLike_40 : decode cX2_isLike 40 = .ok (.if_icmp .ne 7, 3) := by decide +kernel
theorem dX2_isLike_43 : decode cX2_isLike 43 = .ok (.iconst 1, 1) := by decide +kernel
theorem dX2_isLike_44 : decode cX2_isLike 44 = .ok (.goto 4, 3) := by decide +kernel
theorem dX2_isLike_47 : decode cX2_isLike 47 = .ok (.iconst 0, 1) := by decide +kernel
theorem dX2_isLike_48 : decode cX2_isLike 48 = .ok (.ireturn, 1) := by decide +kernel
theorem dX3_init_0 : decode cX3_init 0 = .ok (.aload_n 0, 1) := by decide +kernel
theorem dX3_init_1 : decode cX3_init 1 = .ok (.invokespecial 3, 3) := by decide +kernel
theorem dX3_init_4 : decode cX3_init 4 = .ok (.aload_n 0, 1) := by decide +kernel
theorem dX3_init_5 : decode cX3_init 5 = .ok (.bipush 8, 2) := by decide +kernel
theorem dX3_init_7 : decode cX3_init 7 = .ok (.newarray .int, 2) := by decide +kernel
theorem dX3_init_9 : decode cX3_init 9 = .ok (.putfield 9, 3) := by decide +kernel
theorem dX3_init_12 : decode cX3_init 12 = .ok (.return_, 1) := by decide +kernel
theorem dX3_pair_0 : decode cX3_pair 0 = .ok (.aload_n 0, 1) := by decide +kernel
theorem dX3_pair_1 : decode cX3_pair 1 = .ok (.getfield 9, 3) := by decide +kernel
theorem dX3_pair_4 : decode cX3_pair 4 = .ok (.iconst (-1), 1) := by decide +kernel
theorem dX3_pair_5 : decode cX3_pair 5 = .ok (.invokestatic 15, 3) := by decide +kernel
theorem dX3_pair_8 : decode cX3_pair 8 = .ok (.aload_n 0, 1) := by decide +kernel
theorem dX3_pair_9 : decode cX3_pair 9 = .ok (.iconst 0, 1) := by decide +kernel
theorem dX3_pair_10 : decode cX3_pair 10 = .ok (.putfield 21, 3) := by decide +kernel
theorem dX3_pair_13 : decode cX3_pair 13 = .ok (.aload_n 0, 1) := by decide +kernel
theorem dX3_pair_14 : decode cX3_pair 14 = .ok (.aload_n 1, 1) := by decide +kernel
theorem dX3_pair_15 : decode cX3_pair 15 = .ok (.aload_n 2, 1) := by decide +kernel
theorem dX3_pair_16 : decode cX3_pair 16 = .ok (.iconst 1, 1) := by decide +kernel
theorem dX3_pair_17 : decode cX3_pair 17 = .ok (.invokevirtual 25, 3) := by decide +kernel
theorem dX3_pair_20 : decode cX3_pair 20 = .ok (.aload_n 0, 1) := by decide +kernel
theorem dX3_pair_21 : decode cX3_pair 21 = .ok (.aload_n 1, 1) := by decide +kernel
theorem dX3_pair_22 : decode cX3_pair 22 = .ok (.aload_n 2, 1) := by decide +kernel
theorem dX3_pair_23 : decode cX3_pair 23 = .ok (.iconst 0, 1) := by decide +kernel
theorem dX3_pair_24 : decode cX3_pair 24 = .ok (.invokevirtual 25, 3) := by decide +kernel
theorem dX3_pair_27 : decode cX3_pair 27 = .ok (.return_, 1) := by decide +kernel
theorem dX3_takeEach_0 : decode cX3_takeEach 0 = .ok (.iconst 0, 1) := by decide +kernel
theorem dX3_takeEach_1 : decode cX3_takeEach 1 = .ok (.istore 4, 2) := by decide +kernel
theorem dX3_takeEach_3 : decode cX3_takeEach 3 = .ok (.iload 4, 2) := by decide +kernel
theorem dX3_takeEach_5 : decode cX3_takeEach 5 = .ok (.aload_n 2, 1) := by decide +kernel
theorem dX3_takeEach_6 : decode cX3_takeEach 6 = .ok (.getfield 29, 3) := by decide +kernel
theorem dX3_takeEach_9 : decode cX3_takeEach 9 = .ok (.if_icmp .ge 35, 3) := by decide +kernel
theorem dX3_takeEach_12 : decode cX3_takeEach 12 = .ok (.aload_n 0, 1) := by decide +kernel
theorem dX3_takeEach_13 : decode cX3_takeEach 13 = .ok (.getfield 9, 3) := by decide +kernel
theorem dX3_takeEach_16 : decode cX3_takeEach 16 = .ok (.iload 4, 2) := by decide +kernel
theorem dX3_takeEach_18 : decode cX3_takeEach 18 = .ok (.iaload, 1) := by decide +kernel
theorem dX3_takeEach_19 : decode cX3_takeEach 19 = .ok (.iconst (-1), 1) := by decide +kernel
theorem dX3_takeEach_20 : decode cX3_takeEach 20 = .ok (.if_icmp .ne 18, 3) := by decide +kernel
theorem dX3_takeEach_23 : decode cX3_takeEach 23 = .ok (.aload_n 0, 1) := by decide +kernel
theorem dX3_takeEach_24 : decode cX3_takeEach 24 = .ok (.iload 4, 2) := by decide +kernel
theorem dX3_takeEach_26 : decode cX3_takeEach 26 = .ok (.aload_n 1, 1) := by decide +kernel
theorem dX3_takeEach_27 : decode cX3_takeEach 27 = .ok (.aload_n 2, 1) := by decide +kernel
theorem dX3_takeEach_28 : decode cX3_takeEach 28 = .ok (.getfield 34, 3) := by decide +kernel
theorem dX3_takeEach_31 : decode cX3_takeEach 31 = .ok (.iload 4, 2) := by decide +kernel
theorem dX3_takeEach_33 : decode cX3_takeEach 33 = .ok (.aaload, 1) := by decide +kernel
theorem dX3_takeEach_34 : decode cX3_takeEach 34 = .ok (.iload_n 3, 1) := by decide +kernel
theorem dX3_takeEach_35 : decode cX3_takeEach 35 = .ok (.invokevirtual 38, 3) := by decide +kernel
theorem dX3_takeEach_38 : decode cX3_takeEach 38 = .ok (.iinc 4 1, 3) := by decide +kernel
theorem dX3_takeEach_41 : decode cX3_takeEach 41 = .ok (.goto (-38), 3) := by decide +kernel
theorem dX3_takeEach_44 : decode cX3_takeEach 44 = .ok (.return_, 1) := by decide +kernel
theorem dX3_takeFor_0 : decode cX3_takeFor 0 = .ok (.iconst 0, 1) := by decide +kernel
theorem dX3_takeFor_1 : decode cX3_takeFor 1 = .ok (.istore 5, 2) := by decide +kernel
theorem dX3_takeFor_3 : decode cX3_takeFor 3 = .ok (.iload 5, 2) := by decide +kernel
theorem dX3_takeFor_5 : decode cX3_takeFor 5 = .ok (.aload_n 2, 1) := by decide +kernel
theorem dX3_takeFor_6 : decode cX3_takeFor 6 = .ok (.getfield 29, 3) := by decide +kernel
theorem dX3_takeFor_9 : decode cX3_takeFor 9 = .ok (.if_icmp .ge 90, 3) := by decide +kernel
theorem dX3_takeFor_12 : decode cX3_takeFor 12 = .ok (.aload_n 2, 1) := by decide +kernel
theorem dX3_takeFor_13 : decode cX3_takeFor 13 = .ok (.getfield 34, 3) := by decide +kernel
theorem dX3_takeFor_16 : decode cX3_takeFor 16 = .ok (.iload 5, 2) := by decide +kernel
theorem dX3_takeFor_18 : decode cX3_takeFor 18 = .ok (.aaload, 1) := by decide +kernel
theorem dX3_takeFor_19 : decode cX3_takeFor 19 = .ok (.astore 6, 2) := by decide +kernel
theorem dX3_takeFor_21 : decode cX3_takeFor 21 = .ok (.aload_n 0, 1) := by decide +kernel
theorem dX3_takeFor_22 : decode cX3_takeFor 22 = .ok (.getfield 21, 3) := by decide +kernel
theorem dX3_takeFor_25 : decode cX3_takeFor 25 = .ok (.iload 5, 2) := by decide +kernel
theorem dX3_takeFor_27 : decode cX3_takeFor 27 = .ok (.ishr, 1) := by decide +kernel
theorem dX3_takeFor_28 : decode cX3_takeFor 28 = .ok (.iconst 1, 1) := by decide +kernel
theorem dX3_takeFor_29 : decode cX3_takeFor 29 = .ok (.iand, 1) := by decide +kernel
theorem dX3_takeFor_30 : decode cX3_takeFor 30 = .ok (.ifCond .ne 7, 3) := by decide +kernel
theorem dX3_takeFor_33 : decode cX3_takeFor 33 = .ok (.iconst 1, 1) := by decide +kernel
theorem dX3_takeFor_34 : decode cX3_takeFor 34 = .ok (.goto 4, 3) := by decide +kernel
theorem dX3_takeFor_37 : decode cX3_takeFor 37 = .ok (.iconst 0, 1) := by decide +kernel
theorem dX3_takeFor_38 : decode cX3_takeFor 38 = .ok (.istore 7, 2) := by decide +kernel
theorem dX3_takeFor_40 : decode cX3_takeFor 40 = .ok (.iload 7, 2) := by decide +kernel
theorem dX3_takeFor_42 : decode cX3_takeFor 42 = .ok (.ifCond .eq 51, 3) := by decide +kernel
theorem dX3_takeFor_45 : decode cX3_takeFor 45 = .ok (.aload_n 3, 1) := by decide +kernel
theorem dX3_takeFor_46 : decode cX3_takeFor 46 = .ok (.aload 6, 2) := by decide +kernel
theorem dX3_takeFor_48 : decode cX3_takeFor 48 = .ok (.invokevirtual 42, 3) := by decide +kernel
theorem dX3_takeFor_51 : decode cX3_takeFor 51 = .ok (.ifCond .eq 42, 3) := by decide +kernel
theorem dX3_takeFor_54 : decode cX3_takeFor 54 = .ok (.iload 4, 2) := by decide +kernel
theorem dX3_takeFor_56 : decode cX3_takeFor 56 = .ok (.ifCond .eq 15, 3) := by decide +kernel
theorem dX3_takeFor_59 : decode cX3_takeFor 59 = .ok (.aload_n 3, 1) := by decide +kernel
theorem dX3_takeFor_60 : decode cX3_takeFor 60 = .ok (.getfield 48, 3) := by decide +kernel
theorem dX3_takeFor_63 : decode cX3_takeFor 63 = .ok (.aload 6, 2) := by decide +kernel
theorem dX3_takeFor_65 : decode cX3_takeFor 65 = .ok (.getfield 48, 3) := by decide +kernel
theorem dX3_takeFor_68 : decode cX3_takeFor 68 = .ok (.if_icmp .ne 25, 3) := by decide +kernel
theorem dX3_takeFor_71 : decode cX3_takeFor 71 = .ok (.aload_n 0, 1) := by decide +kernel
theorem dX3_takeFor_72 : decode cX3_takeFor 72 = .ok (.getfield 9, 3) := by decide +kernel
theorem dX3_takeFor_75 : decode cX3_takeFor 75 = .ok (.iload_n 1, 1) := by decide +kernel
theorem dX3_takeFor_76 : decode cX3_takeFor 76 = .ok (.iload 5, 2) := by decide +kernel
theorem dX3_takeFor_78 : decode cX3_takeFor 78 = .ok (.iastore, 1) := by decide +kernel
theorem dX3_takeFor_79 : decode cX3_takeFor 79 = .ok (.aload_n 0, 1) := by decide +kernel
theorem dX3_takeFor_80 : decode cX3_takeFor 80 = .ok (.dup, 1) := by decide +kernel
theorem dX3_takeFor_81 : decode cX3_takeFor 81 = .ok (.getfield 21, 3) := by decide +kernel
theorem dX3_takeFor_84 : decode cX3_takeFor 84 = .ok (.iconst 1, 1) := by decide +kernel
theorem dX3_takeFor_85 : decode cX3_takeFor 85 = .ok (.iload 5, 2) := by decide +kernel
theorem dX3_takeFor_87 : decode cX3_takeFor 87 = .ok (.ishl, 1) := by decide +kernel
theorem dX3_takeFor_88 : decode cX3_takeFor 88 = .ok (.ior, 1) := by decide +kernel
theorem dX3_takeFor_89 : decode cX3_takeFor 89 = .ok (.putfield 21, 3) := by decide +kernel
theorem dX3_takeFor_92 : decode cX3_takeFor 92 = .ok (.return_, 1) := by decide +kernel
theorem dX3_takeFor_93 : decode cX3_takeFor 93 = .ok (.iinc 5 1, 3) := by decide +kernel
theorem dX3_takeFor_96 : decode cX3_takeFor 96 = .ok (.goto (-93), 3) := by decide +kernel
theorem dX3_takeFor_99 : decode cX3_takeFor 99 = .ok (.return_, 1) := by decide +kernel
theorem dX3_partner_0 : decode cX3_partner 0 = .ok (.iload_n 1, 1) := by decide +kernel
theorem dX3_partner_1 : decode cX3_partner 1 = .ok (.bipush 8, 2) := by decide +kernel
theorem dX3_partner_3 : decode cX3_partner 3 = .ok (.invokestatic 51, 3) := by decide +kernel
theorem dX3_partner_6 : decode cX3_partner 6 = .ok (.ifCond .eq 12, 3) := by decide +kernel
theorem dX3_partner_9 : decode cX3_partner 9 = .ok (.aload_n 0, 1) := by decide +kernel
theorem dX3_partner_10 : decode cX3_partner 10 = .ok (.getfield 9, 3) := by decide +kernel
theorem dX3_partner_13 : decode cX3_partner 13 = .ok (.iload_n 1, 1) := by decide +kernel
theorem dX3_partner_14 : decode cX3_partner 14 = .ok (.iaload, 1) := by decide +kernel
theorem dX3_partner_15 : decode cX3_partner 15 = .ok (.goto 4, 3) := by decide +kernel
theorem dX3_partner_18 : decode cX3_partner 18 = .ok (.iconst (-1), 1) := by decide +kernel
theorem dX3_partner_19 : decode cX3_partner 19 = .ok (.ireturn, 1) := by decide +kernel
theorem dX3_kind_0 : decode cX3_kind 0 = .ok (.aload_n 0, 1) := by decide +kernel
theorem dX3_kind_1 : decode cX3_kind 1 = .ok (.iload_n 1, 1) := by decide +kernel
theorem dX3_kind_2 : decode cX3_kind 2 = .ok (.invokevirtual 55, 3) := by decide +kernel
theorem dX3_kind_5 : decode cX3_kind 5 = .ok (.istore 4, 2) := by decide +kernel
theorem dX3_kind_7 : decode cX3_kind 7 = .ok (.iload 4, 2) := by decide +kernel
theorem dX3_kind_9 : decode cX3_kind 9 = .ok (.aload_n 2, 1) := by decide +kernel
theorem dX3_kind_10 : decode cX3_kind 10 = .ok (.getfield 29, 3) := by decide +kernel
theorem dX3_kind_13 : decode cX3_kind 13 = .ok (.invokestatic 51, 3) := by decide +kernel
theorem dX3_kind_16 : decode cX3_kind 16 = .ok (.ifCond .eq 14, 3) := by decide +kernel
theorem dX3_kind_19 : decode cX3_kind 19 = .ok (.iload_n 1, 1) := by decide +kernel
theorem dX3_kind_20 : decode cX3_kind 20 = .ok (.aload_n 3, 1) := by decide +kernel
theorem dX3_kind_21 : decode cX3_kind 21 = .ok (.getfield 29, 3) := by decide +kernel
theorem dX3_kind_24 : decode cX3_kind 24 = .ok (.invokestatic 51, 3) := by decide +kernel
theorem dX3_kind_27 : decode cX3_kind 27 = .ok (.ifCond .ne 5, 3) := by decide +kernel
theorem dX3_kind_30 : decode cX3_kind 30 = .ok (.iconst 0, 1) := by decide +kernel
theorem dX3_kind_31 : decode cX3_kind 31 = .ok (.ireturn, 1) := by decide +kernel
theorem dX3_kind_32 : decode cX3_kind 32 = .ok (.aload_n 3, 1) := by decide +kernel
theorem dX3_kind_33 : decode cX3_kind 33 = .ok (.getfield 34, 3) := by decide +kernel
theorem dX3_kind_36 : decode cX3_kind 36 = .ok (.iload_n 1, 1) := by decide +kernel
theorem dX3_kind_37 : decode cX3_kind 37 = .ok (.aaload, 1) := by decide +kernel
theorem dX3_kind_38 : decode cX3_kind 38 = .ok (.getfield 48, 3) := by decide +kernel
theorem dX3_kind_41 : decode cX3_kind 41 = .ok (.aload_n 2, 1) := by decide +kernel
theorem dX3_kind_42 : decode cX3_kind 42 = .ok (.getfield 34, 3) := by decide +kernel
theorem dX3_kind_45 : decode cX3_kind 45 = .ok (.iload 4, 2) := by decide +kernel
theorem dX3_kind_47 : decode cX3_kind 47 = .ok (.aaload, 1) := by decide +kernel
theorem dX3_kind_48 : decode cX3_kind 48 = .ok (.getfield 48, 3) := by decide +kernel
theorem dX3_kind_51 : decode cX3_kind 51 = .ok (.if_icmp .eq 5, 3) := by decide +kernel
theorem dX3_kind_54 : decode cX3_kind 54 = .ok (.iconst 3, 1) := by decide +kernel
theorem dX3_kind_55 : decode cX3_kind 55 = .ok (.ireturn, 1) := by decide +kernel
theorem dX3_kind_56 : decode cX3_kind 56 = .ok (.aload_n 3, 1) := by decide +kernel
theorem dX3_kind_57 : decode cX3_kind 57 = .ok (.iload_n 1, 1) := by decide +kernel
theorem dX3_kind_58 : decode cX3_kind 58 = .ok (.invokevirtual 59, 3) := by decide +kernel
theorem dX3_kind_61 : decode cX3_kind 61 = .ok (.aload_n 2, 1) := by decide +kernel
theorem dX3_kind_62 : decode cX3_kind 62 = .ok (.iload 4, 2) := by decide +kernel
theorem dX3_kind_64 : decode cX3_kind 64 = .ok (.invokevirtual 59, 3) := by decide +kernel
theorem dX3_kind_67 : decode cX3_kind 67 = .ok (.if_icmp .ne 7, 3) := by decide +kernel
theorem dX3_kind_70 : decode cX3_kind 70 = .ok (.iconst 1, 1) := by decide +kernel
theorem dX3_kind_71 : decode cX3_kind 71 = .ok (.goto 4, 3) := by decide +kernel
theorem dX3_kind_74 : decode cX3_kind 74 = .ok (.iconst 2, 1) := by decide +kernel
theorem dX3_kind_75 : decode cX3_kind 75 = .ok (.ireturn, 1) := by decide +kernel
theorem dX3_later_0 : decode cX3_later 0 = .ok (.aload_n 0, 1) := by decide +kernel
theorem dX3_later_1 : decode cX3_later 1 = .ok (.iload_n 1, 1) := by decide +kernel
theorem dX3_later_2 : decode cX3_later 2 = .ok (.invokevirtual 55, 3) := by decide +kernel
theorem dX3_later_5 : decode cX3_later 5 = .ok (.istore 4, 2) := by decide +kernel
theorem dX3_later_7 : decode cX3_later 7 = .ok (.iload 4, 2) := by decide +kernel
theorem dX3_later_9 : decode cX3_later 9 = .ok (.iconst (-1), 1) := by decide +kernel
theorem dX3_later_10 : decode cX3_later 10 = .ok (.if_icmp .ne 7, 3) := by decide +kernel
theorem dX3_later_13 : decode cX3_later 13 = .ok (.iconst 0, 1) := by decide +kernel
theorem dX3_later_14 : decode cX3_later 14 = .ok (.goto 15, 3) := by decide +kernel
theorem dX3_later_17 : decode cX3_later 17 = .ok (.aload_n 3, 1) := by decide +kernel
theorem dX3_later_18 : decode cX3_later 18 = .ok (.iload_n 1, 1) := by decide +kernel
theorem dX3_later_19 : decode cX3_later 19 = .ok (.invokevirtual 59, 3) := by decide +kernel
theorem dX3_later_22 : decode cX3_later 22 = .ok (.aload_n 2, 1) := by decide +kernel
theorem dX3_later_23 : decode cX3_later 23 = .ok (.iload 4, 2) := by decide +kernel
theorem dX3_later_25 : decode cX3_later 25 = .ok (.invokevirtual 59, 3) := by decide +kernel
theorem dX3_later_28 : decode cX3_later 28 = .ok (.isub, 1) := by decide +kernel
theorem dX3_later_29 : decode cX3_later 29 = .ok (.ireturn, 1) := by decide +kernel
theorem dX4_init_0 : decode cX4_init 0 = .ok (.aload_n 0, 1) := by decide +kernel
theorem dX4_init_1 : decode cX4_init 1 = .ok (.invokespecial 3, 3) := by decide +kernel
theorem dX4_init_4 : decode cX4_init 4 = .ok (.aload_n 0, 1) := by decide +kernel
theorem dX4_init_5 : decode cX4_init 5 = .ok (.bipush 60, 2) := by decide +kernel
theorem dX4_init_7 : decode cX4_init 7 = .ok (.newarray .int, 2) := by decide +kernel
theorem dX4_init_9 : decode cX4_init 9 = .ok (.putfield 9, 3) := by decide +kernel
theorem dX4_init_12 : decode cX4_init 12 = .ok (.aload_n 0, 1) := by decide +kernel
theorem dX4_init_13 : decode cX4_init 13 = .ok (.iconst 1, 1) := by decide +kernel
theorem dX4_init_14 : decode cX4_init 14 = .ok (.putfield 15, 3) := by decide +kernel
theorem dX4_init_17 : decode cX4_init 17 = .ok (.return_, 1) := by decide +kernel
theorem dX4_begin_0 : decode cX4_begin 0 = .ok (.aload_n 0, 1) := by decide +kernel
theorem dX4_begin_1 : decode cX4_begin 1 = .ok (.iconst 0, 1) := by decide +kernel
theorem dX4_begin_2 : decode cX4_begin 2 = .ok (.putfield 15, 3) := by decide +kernel
theorem dX4_begin_5 : decode cX4_begin 5 = .ok (.aload_n 0, 1) := by decide +kernel
theorem dX4_begin_6 : decode cX4_begin 6 = .ok (.iload_n 1, 1) := by decide +kernel
theorem dX4_begin_7 : decode cX4_begin 7 = .ok (.putfield 19, 3) := by decide +kernel
theorem dX4_begin_10 : decode cX4_begin 10 = .ok (.aload_n 0, 1) := by decide +kernel
theorem dX4_begin_11 : decode cX4_begin 11 = .ok (.iload_n 2, 1) := by decide +kernel
theorem dX4_begin_12 : decode cX4_begin 12 = .ok (.putfield 23, 3) := by decide +kernel
theorem dX4_begin_15 : decode cX4_begin 15 = .ok (.aload_n 0, 1) := by decide +kernel
theorem dX4_begin_16 : decode cX4_begin 16 = .ok (.getfield 9, 3) := by decide +kernel
theorem dX4_begin_19 : decode cX4_begin 19 = .ok (.iconst 0, 1) := by decide +kernel
theorem dX4_begin_20 : decode cX4_begin 20 = .ok (.invokestatic 26, 3) := by decide +kernel
theorem dX4_begin_23 : decode cX4_begin 23 = .ok (.return_, 1) := by decide +kernel
theorem dX4_fault_0 : decode cX4_fault 0 = .ok (.aload_n 0, 1) := by decide +kernel
theorem dX4_fault_1 : decode cX4_fault 1 = .ok (.getfield 15, 3) := by decide +kernel
theorem dX4_fault_4 : decode cX4_fault 4 = .ok (.ifCond .eq 5, 3) := by decide +kernel
theorem dX4_fault_7 : decode cX4_fault 7 = .ok (.iconst 1, 1) := by decide +kernel
theorem dX4_fault_8 : decode cX4_fault 8 = .ok (.ireturn, 1) := by decide +kernel
theorem dX4_fault_9 : decode cX4_fault 9 = .ok (.aload_n 0, 1) := by decide +kernel
theorem dX4_fault_10 : decode cX4_fault 10 = .ok (.getfield 19, 3) := by decide +kernel
theorem dX4_fault_13 : decode cX4_fault 13 = .ok (.iload_n 1, 1) := by decide +kernel
theorem dX4_fault_14 : decode cX4_fault 14 = .ok (.if_icmp .eq 5, 3) := by decide +kernel
theorem dX4_fault_17 : decode cX4_fault 17 = .ok (.iconst 3, 1) := by decide +kernel
theorem dX4_fault_18 : decode cX4_fault 18 = .ok (.ireturn, 1) := by decide +kernel
theorem dX4_fault_19 : decode cX4_fault 19 = .ok (.iload_n 2, 1) := by decide +kernel
theorem dX4_fault_20 : decode cX4_fault 20 = .ok (.aload_n 0, 1) := by decide +kernel
theorem dX4_fault_21 : decode cX4_fault 21 = .ok (.getfield 23, 3) := by decide +kernel
theorem dX4_fault_24 : decode cX4_fault 24 = .ok (.invokestatic 32, 3) := by decide +kernel
theorem dX4_fault_27 : decode cX4_fault 27 = .ok (.ifCond .eq 7, 3) := by decide +kernel
theorem dX4_fault_30 : decode cX4_fault 30 = .ok (.iconst 0, 1) := by decide +kernel
theorem dX4_fault_31 : decode cX4_fault 31 = .ok (.goto 4, 3) := by decide +kernel
theorem dX4_fault_34 : decode cX4_fault 34 = .ok (.iconst 2, 1) := by decide +kernel
theorem dX4_fault_35 : decode cX4_fault 35 = .ok (.ireturn, 1) := by decide +kernel
theorem dX4_hasItems_0 : decode cX4_hasItems 0 = .ok (.iload_n 1, 1) := by decide +kernel
theorem dX4_hasItems_1 : decode cX4_hasItems 1 = .ok (.ifCond .lt 29, 3) := by decide +kernel
theorem dX4_hasItems_4 : decode cX4_hasItems 4 = .ok (.iload_n 2, 1) := by decide +kernel
theorem dX4_hasItems_5 : decode cX4_hasItems 5 = .ok (.ifCond .lt 25, 3) := by decide +kernel
theorem dX4_hasItems_8 : decode cX4_hasItems 8 = .ok (.iload_n 1, 1) := by decide +kernel
theorem dX4_hasItems_9 : decode cX4_hasItems 9 = .ok (.aload_n 0, 1) := by decide +kernel
theorem dX4_hasItems_10 : decode cX4_hasItems 10 = .ok (.getfield 23, 3) := by decide +kernel
theorem dX4_hasItems_13 : decode cX4_hasItems 13 = .ok (.if_icmp .gt 17, 3) := by decide +kernel
theorem dX4_hasItems_16 : decode cX4_hasItems 16 = .ok (.iload_n 2, 1) := by decide +kernel
theorem dX4_hasItems_17 : decode cX4_hasItems 17 = .ok (.aload_n 0, 1) := by decide +kernel
theorem dX4_hasItems_18 : decode cX4_hasItems 18 = .ok (.getfield 23, 3) := by decide +kernel
theorem dX4_hasItems_21 : decode cX4_hasItems 21 = .ok (.iload_n 1, 1) := by decide +kernel
theorem dX4_hasItems_22 : decode cX4_hasItems 22 = .ok (.isub, 1) := by decide +kernel
theorem dX4_hasItems_23 : decode cX4_hasItems 23 = .ok (.if_icmp .gt 7, 3) := by decide +kernel
theorem dX4_hasItems_26 : decode cX4_hasItems 26 = .ok (.iconst 1, 1) := by decide +kernel
theorem dX4_hasItems_27 : decode cX4_hasItems 27 = .ok (.goto 4, 3) := by decide +kernel
theorem dX4_hasItems_30 : decode cX4_hasItems 30 = .ok (.iconst 0, 1) := by decide +kernel
theorem dX4_hasItems_31 : decode cX4_hasItems 31 = .ok (.ireturn, 1) := by decide +kernel
theorem dX4_item_0 : decode cX4_item 0 = .ok (.iload_n 1, 1) := by decide +kernel
theorem dX4_item_1 : decode cX4_item 1 = .ok (.aload_n 0, 1) := by decide +kernel
theorem dX4_item_2 : decode cX4_item 2 = .ok (.getfield 23, 3) := by decide +kernel
theorem dX4_item_5 : decode cX4_item 5 = .ok (.invokestatic 32, 3) := by decide +kernel
theorem dX4_item_8 : decode cX4_item 8 = .ok (.ifCond .eq 12, 3) := by decide +kernel
theorem dX4_item_11 : decode cX4_item 11 = .ok (.aload_n 0, 1) := by decide +kernel
theorem dX4_item_12 : decode cX4_item 12 = .ok (.getfield 9, 3) := by decide +kernel
theorem dX4_item_15 : decode cX4_item 15 = .ok (.iload_n 1, 1) := by decide +kernel
theorem dX4_item_16 : decode cX4_item 16 = .ok (.iaload, 1) := by decide +kernel
theorem dX4_item_17 : decode cX4_item 17 = .ok (.goto 4, 3) := by decide +kernel
theorem dX4_item_20 : decode cX4_item 20 = .ok (.iconst 0, 1) := by decide +kernel
theorem dX4_item_21 : decode cX4_item 21 = .ok (.ireturn, 1) := by decide +kernel
theorem dX4_store_0 : decode cX4_store 0 = .ok (.iload_n 1, 1) := by decide +kernel
theorem dX4_store_1 : decode cX4_store 1 = .ok (.aload_n 0, 1) := by decide +kernel
theorem dX4_store_2 : decode cX4_store 2 = .ok (.getfield 23, 3) := by decide +kernel
theorem dX4_store_5 : decode cX4_store 5 = .ok (.invokestatic 32, 3) := by decide +kernel
theorem dX4_store_8 : decode cX4_store 8 = .ok (.ifCond .eq 35, 3) := by decide +kernel
theorem dX4_store_11 : decode cX4_store 11 = .ok (.aload_n 0, 1) := by decide +kernel
theorem dX4_store_12 : decode cX4_store 12 = .ok (.getfield 9, 3) := by decide +kernel
theorem dX4_store_15 : decode cX4_store 15 = .ok (.iload_n 1, 1) := by decide +kernel
theorem dX4_store_16 : decode cX4_store 16 = .ok (.aload_n 0, 1) := by decide +kernel
theorem dX4_store_17 : decode cX4_store 17 = .ok (.getfield 19, 3) := by decide +kernel
theorem dX4_store_20 : decode cX4_store 20 = .ok (.ifCond .ne 8, 3) := by decide +kernel
theorem dX4_store_23 : decode cX4_store 23 = .ok (.iload_n 2, 1) := by decide +kernel
theorem dX4_store_24 : decode cX4_store 24 = .ok (.i2b, 1) := by decide +kernel
theorem dX4_store_25 : decode cX4_store 25 = .ok (.goto 17, 3) := by decide +kernel
theorem dX4_store_28 : decode cX4_store 28 = .ok (.aload_n 0, 1) := by decide +kernel
theorem dX4_store_29 : decode cX4_store 29 = .ok (.getfield 19, 3) := by decide +kernel
theorem dX4_store_32 : decode cX4_store 32 = .ok (.iconst 1, 1) := by decide +kernel
theorem dX4_store_33 : decode cX4_store 33 = .ok (.if_icmp .ne 8, 3) := by decide +kernel
theorem dX4_store_36 : decode cX4_store 36 = .ok (.iload_n 2, 1) := by decide +kernel
theorem dX4_store_37 : decode cX4_store 37 = .ok (.i2s, 1) := by decide +kernel
theorem dX4_store_38 : decode cX4_store 38 = .ok (.goto 4, 3) := by decide +kernel
theorem dX4_store_41 : decode cX4_store 41 = .ok (.iload_n 2, 1) := by decide +kernel
theorem dX4_store_42 : decode cX4_store 42 = .ok (.iastore, 1) := by decide +kernel
theorem dX4_store_43 : decode cX4_store 43 = .ok (.return_, 1) := by decide +kernel
theorem dX5_init_0 : decode cX5_init 0 = .ok (.aload_n 0, 1) := by decide +kernel
theorem dX5_init_1 : decode cX5_init 1 = .ok (.invokespecial 3, 3) := by decide +kernel
theorem dX5_init_4 : decode cX5_init 4 = .ok (.aload_n 0, 1) := by decide +kernel
theorem dX5_init_5 : decode cX5_init 5 = .ok (.iload_n 1, 1) := by decide +kernel
theorem dX5_init_6 : decode cX5_init 6 = .ok (.newarray .int, 2) := by decide +kernel
theorem dX5_init_8 : decode cX5_init 8 = .ok (.putfield 9, 3) := by decide +kernel
theorem dX5_init_11 : decode cX5_init 11 = .ok (.aload_n 0, 1) := by decide +kernel
theorem dX5_init_12 : decode cX5_init 12 = .ok (.iload_n 1, 1) := by decide +kernel
theorem dX5_init_13 : decode cX5_init 13 = .ok (.newarray .int, 2) := by decide +kernel
theorem dX5_init_15 : decode cX5_init 15 = .ok (.putfield 15, 3) := by decide +kernel
theorem dX5_init_18 : decode cX5_init 18 = .ok (.aload_n 0, 1) := by decide +kernel
theorem dX5_init_19 : decode cX5_init 19 = .ok (.iload_n 1, 1) := by decide +kernel
theorem dX5_init_20 : decode cX5_init 20 = .ok (.newarray .int, 2) := by decide +kernel
theorem dX5_init_22 : decode cX5_init 22 = .ok (.putfield 18, 3) := by decide +kernel
theorem dX5_init_25 : decode cX5_init 25 = .ok (.aload_n 0, 1) := by decide +kernel
theorem dX5_init_26 : decode cX5_init 26 = .ok (.iload_n 1, 1) := by decide +kernel
theorem dX5_init_27 : decode cX5_init 27 = .ok (.newarray .int, 2) := by decide +kernel
theorem dX5_init_29 : decode cX5_init 29 = .ok (.putfield 21, 3) := by decide +kernel
theorem dX5_init_32 : decode cX5_init 32 = .ok (.return_, 1) := by decide +kernel
theorem dX5_isFull_0 : decode cX5_isFull 0 = .ok (.aload_n 0, 1) := by decide +kernel
theorem dX5_isFull_1 : decode cX5_isFull 1 = .ok (.getfield 24, 3) := by decide +kernel
theorem dX5_isFull_4 : decode cX5_isFull 4 = .ok (.aload_n 0, 1) := by decide +kernel
theorem dX5_isFull_5 : decode cX5_isFull 5 = .ok (.getfield 9, 3) := by decide +kernel
theorem dX5_isFull_8 : decode cX5_isFull 8 = .ok (.arraylength, 1) := by decide +kernel
theorem dX5_isFull_9 : decode cX5_isFull 9 = .ok (.if_icmp .lt 7, 3) := by decide +kernel
theorem dX5_isFull_12 : decode cX5_isFull 12 = .ok (.iconst 1, 1) := by decide +kernel
theorem dX5_isFull_13 : decode cX5_isFull 13 = .ok (.goto 4, 3) := by decide +kernel
theorem dX5_isFull_16 : decode cX5_isFull 16 = .ok (.iconst 0, 1) := by decide +kernel
theorem dX5_isFull_17 : decode cX5_isFull 17 = .ok (.ireturn, 1) := by decide +kernel
theorem dX5_insert_0 : decode cX5_insert 0 = .ok (.aload_n 0, 1) := by decide +kernel
theorem dX5_insert_1 : decode cX5_insert 1 = .ok (.invokevirtual 28, 3) := by decide +kernel
theorem dX5_insert_4 : decode cX5_insert 4 = .ok (.ifCond .eq 4, 3) := by decide +kernel
theorem dX5_insert_7 : decode cX5_insert 7 = .ok (.return_, 1) := by decide +kernel
theorem dX5_insert_8 : decode cX5_insert 8 = .ok (.aload_n 0, 1) := by decide +kernel
theorem dX5_insert_9 : decode cX5_insert 9 = .ok (.getfield 24, 3) := by decide +kernel
theorem dX5_insert_12 : decode cX5_insert 12 = .ok (.istore 5, 2) := by decide +kernel
theorem dX5_insert_14 : decode cX5_insert 14 = .ok (.iload 5, 2) := by decide +kernel
theorem dX5_insert_16 : decode cX5_insert 16 = .ok (.ifCond .le 32, 3) := by decide +kernel
theorem dX5_insert_19 : decode cX5_insert 19 = .ok (.aload_n 0, 1) := by decide +kernel
theorem dX5_insert_20 : decode cX5_insert 20 = .ok (.iload 5, 2) := by decide +kernel
theorem dX5_insert_22 : decode cX5_insert 22 = .ok (.iconst 1, 1) := by decide +kernel
theorem dX5_insert_23 : decode cX5_insert 23 = .ok (.isub, 1) := by decide +kernel
theorem dX5_insert_24 : decode cX5_insert 24 = .ok (.iload_n 1, 1) := by decide +kernel
theorem dX5_insert_25 : decode cX5_insert 25 = .ok (.iload_n 2, 1) := by decide +kernel
theorem dX5_insert_26 : decode cX5_insert 26 = .ok (.invokevirtual 32, 3) := by decide +kernel
theorem dX5_insert_29 : decode cX5_insert 29 = .ok (.ifCond .eq 19, 3) := by decide +kernel
theorem dX5_insert_32 : decode cX5_insert 32 = .ok (.aload_n 0, 1) := by decide +kernel
theorem dX5_insert_33 : decode cX5_insert 33 = .ok (.iload 5, 2) := by decide +kernel
theorem dX5_insert_35 : decode cX5_insert 35 = .ok (.iconst 1, 1) := by decide +kernel
theorem dX5_insert_36 : decode cX5_insert 36 = .ok (.isub, 1) := by decide +kernel
theorem dX5_insert_37 : decode cX5_insert 37 = .ok (.iload 5, 2) := by decide +kernel
theorem dX5_insert_39 : decode cX5_insert 39 = .ok (.invokevirtual 36, 3) := by decide +kernel
theorem dX5_insert_42 : decode cX5_insert 42 = .ok (.iinc 5 (-1), 3) := by decide +kernel
theorem dX5_insert_45 : decode cX5_insert 45 = .ok (.goto (-31), 3) := by decide +kernel
theorem dX5_insert_48 : decode cX5_insert 48 = .ok (.aload_n 0, 1) := by decide +kernel
theorem dX5_insert_49 : decode cX5_insert 49 = .ok (.iload 5, 2) := by decide +kernel
theorem dX5_insert_51 : decode cX5_insert 51 = .ok (.iload_n 1, 1) := by decide +kernel
theorem dX5_insert_52 : decode cX5_insert 52 = .ok (.iload_n 2, 1) := by decide +kernel
theorem dX5_insert_53 : decode cX5_insert 53 = .ok (.iload_n 3, 1) := by decide +kernel
theorem dX5_insert_54 : decode cX5_insert 54 = .ok (.iload 4, 2) := by decide +kernel
theorem dX5_insert_56 : decode cX5_insert 56 = .ok (.invokevirtual 40, 3) := by decide +kernel
theorem dX5_insert_59 : decode cX5_insert 59 = .ok (.aload_n 0, 1) := by decide +kernel
theorem dX5_insert_60 : decode cX5_insert 60 = .ok (.dup, 1) := by decide +kernel
theorem dX5_insert_61 : decode cX5_insert 61 = .ok (.getfield 24, 3) := by decide +kernel
theorem dX5_insert_64 : decode cX5_insert 64 = .ok (.iconst 1, 1) := by decide +kernel
theorem dX5_insert_65 : decode cX5_insert 65 = .ok (.iadd, 1) := by decide +kernel
theorem dX5_insert_66 : decode cX5_insert 66 = .ok (.putfield 24, 3) := by decide +kernel
theorem dX5_insert_69 : decode cX5_insert 69 = .ok (.return_, 1) := by decide +kernel
theorem dX5_append_0 : decode cX5_append 0 = .ok (.iload_n 2, 1) := by decide +kernel
theorem dX5_append_1 : decode cX5_append 1 = .ok (.iload_n 3, 1) := by decide +kernel
theorem dX5_append_2 : decode cX5_append 2 = .ok (.if_icmp .gt 32, 3) := by decide +kernel
theorem dX5_append_5 : decode cX5_append 5 = .ok (.aload_n 0, 1) := by decide +kernel
theorem dX5_append_6 : decode cX5_append 6 = .ok (.invokevirtual 28, 3) := by decide +kernel
theorem dX5_append_9 : decode cX5_append 9 = .ok (.ifCond .ne 25, 3) := by decide +kernel
theorem dX5_append_12 : decode cX5_append 12 = .ok (.aload_n 0, 1) := by decide +kernel
theorem dX5_append_13 : decode cX5_append 13 = .ok (.aload_n 0, 1) := by decide +kernel
theorem dX5_append_14 : decode cX5_append 14 = .ok (.getfield 24, 3) := by decide +kernel
theorem dX5_append_17 : decode cX5_append 17 = .ok (.iload_n 1, 1) := by decide +kernel
theorem dX5_append_18 : decode cX5_append 18 = .ok (.iload_n 2, 1) := by decide +kernel
theorem dX5_append_19 : decode cX5_append 19 = .ok (.iload_n 3, 1) := by decide +kernel
theorem dX5_append_20 : decode cX5_append 20 = .ok (.iconst 0, 1) := by decide +kernel
theorem dX5_append_21 : decode cX5_append 21 = .ok (.invokevirtual 40, 3) := by decide +kernel
theorem dX5_append_24 : decode cX5_append 24 = .ok (.aload_n 0, 1) := by decide +kernel
theorem dX5_append_25 : decode cX5_append 25 = .ok (.dup, 1) := by decide +kernel
theorem dX5_append_26 : decode cX5_append 26 = .ok (.getfield 24, 3) := by decide +kernel
theorem dX5_append_29 : decode cX5_append 29 = .ok (.iconst 1, 1) := by decide +kernel
theorem dX5_append_30 : decode cX5_append 30 = .ok (.iadd, 1) := by decide +kernel
theorem dX5_append_31 : decode cX5_append 31 = .ok (.putfield 24, 3) := by decide +kernel
theorem dX5_append_34 : decode cX5_append 34 = .ok (.return_, 1) := by decide +kernel
theorem dX5_isBehind_0 : decode cX5_isBehind 0 = .ok (.aload_n 0, 1) := by decide +kernel
theorem dX5_isBehind_1 : decode cX5_isBehind 1 = .ok (.getfield 9, 3) := by decide +kernel
theorem dX5_isBehind_4 : decode cX5_isBehind 4 = .ok (.iload_n 1, 1) := by decide +kernel
theorem dX5_isBehind_5 : decode cX5_isBehind 5 = .ok (.iaload, 1) := by decide +kernel
theorem dX5_isBehind_6 : decode cX5_isBehind 6 = .ok (.iload_n 2, 1) := by decide +kernel
theorem dX5_isBehind_7 : decode cX5_isBehind 7 = .ok (.if_icmp .gt 23, 3) := by decide +kernel
theorem dX5_isBehind_10 : decode cX5_isBehind 10 = .ok (.aload_n 0, 1) := by decide +kernel
theorem dX5_isBehind_11 : decode cX5_isBehind 11 = .ok (.getfield 9, 3) := by decide +kernel
theorem dX5_isBehind_14 : decode cX5_isBehind 14 = .ok (.iload_n 1, 1) := by decide +kernel
theorem dX5_isBehind_15 : decode cX5_isBehind 15 = .ok (.iaload, 1) := by decide +kernel
theorem dX5_isBehind_16 : decode cX5_isBehind 16 = .ok (.iload_n 2, 1) := by decide +kernel
theorem dX5_isBehind_17 : decode cX5_isBehind 17 = .ok (.if_icmp .ne 17, 3) := by decide +kernel
theorem dX5_isBehind_20 : decode cX5_isBehind 20 = .ok (.aload_n 0, 1) := by decide +kernel
theorem dX5_isBehind_21 : decode cX5_isBehind 21 = .ok (.getfield 15, 3) := by decide +kernel
theorem dX5_isBehind_24 : decode cX5_isBehind 24 = .ok (.iload_n 1, 1) := by decide +kernel
theorem dX5_isBehind_25 : decode cX5_isBehind 25 = .ok (.iaload, 1) := by decide +kernel
theorem dX5_isBehind_26 : decode cX5_isBehind 26 = .ok (.iload_n 3, 1) := by decide +kernel
theorem dX5_isBehind_27 : decode cX5_isBehind 27 = .ok (.if_icmp .le 7, 3) := by decide +kernel
theorem dX5_isBehind_30 : decode cX5_isBehind 30 = .ok (.iconst 1, 1) := by decide +kernel
theorem dX5_isBehind_31 : decode cX5_isBehind 31 = .ok (.goto 4, 3) := by decide +kernel
theorem dX5_isBehind_34 : decode cX5_isBehind 34 = .ok (.iconst 0, 1) := by decide +kernel
theorem dX5_isBehind_35 : decode cX5_isBehind 35 = .ok (.ireturn, 1) := by decide +kernel
theorem dX5_move_0 : decode cX5_move 0 = .ok (.aload_n 0, 1) := by decide +kernel
theorem dX5_move_1 : decode cX5_move 1 = .ok (.getfield 9, 3) := by decide +kernel
theorem dX5_move_4 : decode cX5_move 4 = .ok (.iload_n 2, 1) := by decide +kernel
theorem dX5_move_5 : decode cX5_move 5 = .ok (.aload_n 0, 1) := by decide +kernel
theorem dX5_move_6 : decode cX5_move 6 = .ok (.getfield 9, 3) := by decide +kernel
theorem dX5_move_9 : decode cX5_move 9 = .ok (.iload_n 1, 1) := by decide +kernel
theorem dX5_move_10 : decode cX5_move 10 = .ok (.iaload, 1) := by decide +kernel
theorem dX5_move_11 : decode cX5_move 11 = .ok (.iastore, 1) := by decide +kernel
theorem dX5_move_12 : decode cX5_move 12 = .ok (.aload_n 0, 1) := by decide +kernel
theorem dX5_move_13 : decode cX5_move 13 = .ok (.getfield 15, 3) := by decide +kernel
theorem dX5_move_16 : decode cX5_move 16 = .ok (.iload_n 2, 1) := by decide +kernel
theorem dX5_move_17 : decode cX5_move 17 = .ok (.aload_n 0, 1) := by decide +kernel
theorem dX5_move_18 : decode cX5_move 18 = .ok (.getfield 15, 3) := by decide +kernel
theorem dX5_move_21 : decode cX5_move 21 = .ok (.iload_n 1, 1) := by decide +kernel
theorem dX5_move_22 : decode cX5_move 22 = .ok (.iaload, 1) := by decide +kernel
theorem dX5_move_23 : decode cX5_move 23 = .ok (.iastore, 1) := by decide +kernel
theorem dX5_move_24 : decode cX5_move 24 = .ok (.aload_n 0, 1) := by decide +kernel
theorem dX5_move_25 : decode cX5_move 25 = .ok (.getfield 18, 3) := by decide +kernel
theorem dX5_move_28 : decode cX5_move 28 = .ok (.iload_n 2, 1) := by decide +kernel
theorem dX5_move_29 : decode cX5_move 29 = .ok (.aload_n 0, 1) := by decide +kernel
theorem dX5_move_30 : decode cX5_move 30 = .ok (.getfield 18, 3) := by decide +kernel
theorem dX5_move_33 : decode cX5_move 33 = .ok (.iload_n 1, 1) := by decide +kernel
theorem dX5_move_34 : decode cX5_move 34 = .ok (.iaload, 1) := by decide +kernel
theorem dX5_move_35 : decode cX5_move 35 = .ok (.iastore, 1) := by decide +kernel
theorem dX5_move_36 : decode cX5_move 36 = .ok (.aload_n 0, 1) := by decide +kernel
theorem dX5_move_37 : decode cX5_move 37 = .ok (.getfield 21, 3) := by decide +kernel
theorem dX5_move_40 : decode cX5_move 40 = .ok (.iload_n 2, 1) := by decide +kernel
theorem dX5_move_41 : decode cX5_move 41 = .ok (.aload_n 0, 1) := by decide +kernel
theorem dX5_move_42 : decode cX5_move 42 = .ok (.getfield 21, 3) := by decide +kernel
theorem dX5_move_45 : decode cX5_move 45 = .ok (.iload_n 1, 1) := by decide +kernel
theorem dX5_move_46 : decode cX5_move 46 = .ok (.iaload, 1) := by decide +kernel
theorem dX5_move_47 : decode cX5_move 47 = .ok (.iastore, 1) := by decide +kernel
theorem dX5_move_48 : decode cX5_move 48 = .ok (.return_, 1) := by decide +kernel
theorem dX5_fill_0 : decode cX5_fill 0 = .ok (.aload_n 0, 1) := by decide +kernel
theorem dX5_fill_1 : decode cX5_fill 1 = .ok (.getfield 9, 3) := by decide +kernel
theorem dX5_fill_4 : decode cX5_fill 4 = .ok (.iload_n 1, 1) := by decide +kernel
theorem dX5_fill_5 : decode cX5_fill 5 = .ok (.iload_n 2, 1) := by decide +kernel
theorem dX5_fill_6 : decode cX5_fill 6 = .ok (.iastore, 1) := by decide +kernel
theorem dX5_fill_7 : decode cX5_fill 7 = .ok (.aload_n 0, 1) := by decide +kernel
theorem dX5_fill_8 : decode cX5_fill 8 = .ok (.getfield 15, 3) := by decide +kernel
theorem dX5_fill_11 : decode cX5_fill 11 = .ok (.iload_n 1, 1) := by decide +kernel
theorem dX5_fill_12 : decode cX5_fill 12 = .ok (.iload_n 3, 1) := by decide +kernel
theorem dX5_fill_13 : decode cX5_fill 13 = .ok (.iastore, 1) := by decide +kernel
theorem dX5_fill_14 : decode cX5_fill 14 = .ok (.aload_n 0, 1) := by decide +kernel
theorem dX5_fill_15 : decode cX5_fill 15 = .ok (.getfield 18, 3) := by decide +kernel
theorem dX5_fill_18 : decode cX5_fill 18 = .ok (.iload_n 1, 1) := by decide +kernel
theorem dX5_fill_19 : decode cX5_fill 19 = .ok (.iload 4, 2) := by decide +kernel
theorem dX5_fill_21 : decode cX5_fill 21 = .ok (.iastore, 1) := by decide +kernel
theorem dX5_fill_22 : decode cX5_fill 22 = .ok (.aload_n 0, 1) := by decide +kernel
theorem dX5_fill_23 : decode cX5_fill 23 = .ok (.getfield 21, 3) := by decide +kernel
theorem dX5_fill_26 : decode cX5_fill 26 = .ok (.iload_n 1, 1) := by decide +kernel
theorem dX5_fill_27 : decode cX5_fill 27 = .ok (.iload 5, 2) := by decide +kernel
theorem dX5_fill_29 : decode cX5_fill 29 = .ok (.iastore, 1) := by decide +kernel
theorem dX5_fill_30 : decode cX5_fill 30 = .ok (.return_, 1) := by decide +kernel
theorem dX5_join_0 : decode cX5_join 0 = .ok (.iconst 0, 1) := by decide +kernel
theorem dX5_join_1 : decode cX5_join 1 = .ok (.istore_n 2, 1) := by decide +kernel
theorem dX5_join_2 : decode cX5_join 2 = .ok (.iconst 0, 1) := by decide +kernel
theorem dX5_join_3 : decode cX5_join 3 = .ok (.istore_n 3, 1) := by decide +kernel
theorem dX5_join_4 : decode cX5_join 4 = .ok (.iload_n 3, 1) := by decide +kernel
theorem dX5_join_5 : decode cX5_join 5 = .ok (.aload_n 0, 1) := by decide +kernel
theorem dX5_join_6 : decode cX5_join 6 = .ok (.getfield 24, 3) := by decide +kernel
theorem dX5_join_9 : decode cX5_join 9 = .ok (.if_icmp .ge 105, 3) := by decide +kernel
theorem dX5_join_12 : decode cX5_join 12 = .ok (.iload_n 2, 1) := by decide +kernel
theorem dX5_join_13 : decode cX5_join 13 = .ok (.ifCond .le 86, 3) := by decide +kernel
theorem dX5_join_16 : decode cX5_join 16 = .ok (.aload_n 0, 1) := by decide +kernel
theorem dX5_join_17 : decode cX5_join 17 = .ok (.getfield 9, 3) := by decide +kernel
theorem dX5_join_20 : decode cX5_join 20 = .ok (.iload_n 2, 1) := by decide +kernel
theorem dX5_join_21 : decode cX5_join 21 = .ok (.iconst 1, 1) := by decide +kernel
theorem dX5_join_22 : decode cX5_join 22 = .ok (.isub, 1) := by decide +kernel
theorem dX5_join_23 : decode cX5_join 23 = .ok (.iaload, 1) := by decide +kernel
theorem dX5_join_24 : decode cX5_join 24 = .ok (.aload_n 0, 1) := by decide +kernel
theorem dX5_join_25 : decode cX5_join 25 = .ok (.getfield 9, 3) := by decide +kernel
theorem dX5_join_28 : decode cX5_join 28 = .ok (.iload_n 3, 1) := by decide +kernel
theorem dX5_join_29 : decode cX5_join 29 = .ok (.iaload, 1) := by decide +kernel
theorem dX5_join_30 : decode cX5_join 30 = .ok (.if_icmp .ne 69, 3) := by decide +kernel
theorem dX5_join_33 : decode cX5_join 33 = .ok (.aload_n 0, 1) := by decide +kernel
theorem dX5_join_34 : decode cX5_join 34 = .ok (.getfield 15, 3) := by decide +kernel
theorem dX5_join_37 : decode cX5_join 37 = .ok (.iload_n 3, 1) := by decide +kernel
theorem dX5_join_38 : decode cX5_join 38 = .ok (.iaload, 1) := by decide +kernel
theorem dX5_join_39 : decode cX5_join 39 = .ok (.aload_n 0, 1) := by decide +kernel
theorem dX5_join_40 : decode cX5_join 40 = .ok (.getfield 18, 3) := by decide +kernel
theorem dX5_join_43 : decode cX5_join 43 = .ok (.iload_n 2, 1) := by decide +kernel
theorem dX5_join_44 : decode cX5_join 44 = .ok (.iconst 1, 1) := by decide +kernel
theorem dX5_join_45 : decode cX5_join 45 = .ok (.isub, 1) := by decide +kernel
theorem dX5_join_46 : decode cX5_join 46 = .ok (.iaload, 1) := by decide +kernel
theorem dX5_join_47 : decode cX5_join 47 = .ok (.isub, 1) := by decide +kernel
theorem dX5_join_48 : decode cX5_join 48 = .ok (.iconst 1, 1) := by decide +kernel
theorem dX5_join_49 : decode cX5_join 49 = .ok (.isub, 1) := by decide +kernel
theorem dX5_join_50 : decode cX5_join 50 = .ok (.iload_n 1, 1) := by decide +kernel
theorem dX5_join_51 : decode cX5_join 51 = .ok (.if_icmp .gt 48, 3) := by decide +kernel
theorem dX5_join_54 : decode cX5_join 54 = .ok (.aload_n 0, 1) := by decide +kernel
theorem dX5_join_55 : decode cX5_join 55 = .ok (.getfield 18, 3) := by decide +kernel
theorem dX5_join_58 : decode cX5_join 58 = .ok (.iload_n 2, 1) := by decide +kernel
theorem dX5_join_59 : decode cX5_join 59 = .ok (.iconst 1, 1) := by decide +kernel
theorem dX5_join_60 : decode cX5_join 60 = .ok (.isub, 1) := by decide +kernel
theorem dX5_join_61 : decode cX5_join 61 = .ok (.aload_n 0, 1) := by decide +kernel
theorem dX5_join_62 : decode cX5_join 62 = .ok (.getfield 18, 3) := by decide +kernel
theorem dX5_join_65 : decode cX5_join 65 = .ok (.iload_n 2, 1) := by decide +kernel
theorem dX5_join_66 : decode cX5_join 66 = .ok (.iconst 1, 1) := by decide +kernel
theorem dX5_join_67 : decode cX5_join 67 = .ok (.isub, 1) := by decide +kernel
theorem dX5_join_68 : decode cX5_join 68 = .ok (.iaload, 1) := by decide +kernel
theorem dX5_join_69 : decode cX5_join 69 = .ok (.aload_n 0, 1) := by decide +kernel
theorem dX5_join_70 : decode cX5_join 70 = .ok (.getfield 18, 3) := by decide +kernel
theorem dX5_join_73 : decode cX5_join 73 = .ok (.iload_n 3, 1) := by decide +kernel
theorem dX5_join_74 : decode cX5_join 74 = .ok (.iaload, 1) := by decide +kernel
theorem dX5_join_75 : decode cX5_join 75 = .ok (.invokestatic 44, 3) := by decide +kernel
theorem dX5_join_78 : decode cX5_join 78 = .ok (.iastore, 1) := by decide +kernel
theorem dX5_join_79 : decode cX5_join 79 = .ok (.aload_n 0, 1) := by decide +kernel
theorem dX5_join_80 : decode cX5_join 80 = .ok (.getfield 21, 3) := by decide +kernel
theorem dX5_join_83 : decode cX5_join 83 = .ok (.iload_n 2, 1) := by decide +kernel
theorem dX5_join_84 : decode cX5_join 84 = .ok (.iconst 1, 1) := by decide +kernel
theorem dX5_join_85 : decode cX5_join 85 = .ok (.isub, 1) := by decide +kernel
theorem dX5_join_86 : decode cX5_join 86 = .ok (.dup2, 1) := by decide +kernel
theorem dX5_join_87 : decode cX5_join 87 = .ok (.iaload, 1) := by decide +kernel
theorem dX5_join_88 : decode cX5_join 88 = .ok (.aload_n 0, 1) := by decide +kernel
theorem dX5_join_89 : decode cX5_join 89 = .ok (.getfield 21, 3) := by decide +kernel
theorem dX5_join_92 : decode cX5_join 92 = .ok (.iload_n 3, 1) := by decide +kernel
theorem dX5_join_93 : decode cX5_join 93 = .ok (.iaload, 1) := by decide +kernel
theorem dX5_join_94 : decode cX5_join 94 = .ok (.ior, 1) := by decide +kernel
theorem dX5_join_95 : decode cX5_join 95 = .ok (.iastore, 1) := by decide +kernel
theorem dX5_join_96 : decode cX5_join 96 = .ok (.goto 12, 3) := by decide +kernel
theorem dX5_join_99 : decode cX5_join 99 = .ok (.aload_n 0, 1) := by decide +kernel
theorem dX5_join_100 : decode cX5_join 100 = .ok (.iload_n 3, 1) := by decide +kernel
theorem dX5_join_101 : decode cX5_join 101 = .ok (.iload_n 2, 1) := by decide +kernel
theorem dX5_join_102 : decode cX5_join 102 = .ok (.invokevirtual 36, 3) := by decide +kernel
theorem dX5_join_105 : decode cX5_join 105 = .ok (.iinc 2 1, 3) := by decide +kernel
theorem dX5_join_108 : decode cX5_join 108 = .ok (.iinc 3 1, 3) := by decide +kernel
theorem dX5_join_111 : decode cX5_join 111 = .ok (.goto (-107), 3) := by decide +kernel
theorem dX5_join_114 : decode cX5_join 114 = .ok (.aload_n 0, 1) := by decide +kernel
theorem dX5_join_115 : decode cX5_join 115 = .ok (.iload_n 2, 1) := by decide +kernel
theorem dX5_join_116 : decode cX5_join 116 = .ok (.putfield 24, 3) := by decide +kernel
theorem dX5_join_119 : decode cX5_join 119 = .ok (.return_, 1) := by decide +kernel
theorem dX5_frames_0 : decode cX5_frames 0 = .ok (.iconst 0, 1) := by decide +kernel
theorem dX5_frames_1 : decode cX5_frames 1 = .ok (.istore_n 1, 1) := by decide +kernel
theorem dX5_frames_2 : decode cX5_frames 2 = .ok (.iconst 0, 1) := by decide +kernel
theorem dX5_frames_3 : decode cX5_frames 3 = .ok (.istore_n 2, 1) := by decide +kernel
theorem dX5_frames_4 : decode cX5_frames 4 = .ok (.iload_n 2, 1) := by decide +kernel
theorem dX5_frames_5 : decode cX5_frames 5 = .ok (.aload_n 0, 1) := by decide +kernel
theorem dX5_frames_6 : decode cX5_frames 6 = .ok (.getfield 24, 3) := by decide +kernel
theorem dX5_frames_9 : decode cX5_frames 9 = .ok (.if_icmp .ge 27, 3) := by decide +kernel
theorem dX5_frames_12 : decode cX5_frames 12 = .ok (.iload_n 1, 1) := by decide +kernel
theorem dX5_frames_13 : decode cX5_frames 13 = .ok (.aload_n 0, 1) := by decide +kernel
theorem dX5_frames_14 : decode cX5_frames 14 = .ok (.getfield 18, 3) := by decide +kernel
theorem dX5_frames_17 : decode cX5_frames 17 = .ok (.iload_n 2, 1) := by decide +kernel
theorem dX5_frames_18 : decode cX5_frames 18 = .ok (.iaload, 1) := by decide +kernel
theorem dX5_frames_19 : decode cX5_frames 19 = .ok (.aload_n 0, 1) := by decide +kernel
theorem dX5_frames_20 : decode cX5_frames 20 = .ok (.getfield 15, 3) := by decide +kernel
theorem dX5_frames_23 : decode cX5_frames 23 = .ok (.iload_n 2, 1) := by decide +kernel
theorem dX5_frames_24 : decode cX5_frames 24 = .ok (.iaload, 1) := by decide +kernel
theorem dX5_frames_25 : decode cX5_frames 25 = .ok (.isub, 1) := by decide +kernel
theorem dX5_frames_26 : decode cX5_frames 26 = .ok (.iconst 1, 1) := by decide +kernel
theorem dX5_frames_27 : decode cX5_frames 27 = .ok (.iadd, 1) := by decide +kernel
theorem dX5_frames_28 : decode cX5_frames 28 = .ok (.iadd, 1) := by decide +kernel
theorem dX5_frames_29 : decode cX5_frames 29 = .ok (.istore_n 1, 1) := by decide +kernel
theorem dX5_frames_30 : decode cX5_frames 30 = .ok (.iinc 2 1, 3) := by decide +kernel
theorem dX5_frames_33 : decode cX5_frames 33 = .ok (.goto (-29), 3) := by decide +kernel
theorem dX5_frames_36 : decode cX5_frames 36 = .ok (.iload_n 1, 1) := by decide +kernel
theorem dX5_frames_37 : decode cX5_frames 37 = .ok (.ireturn, 1) := by decide +kernel
theorem dX5_nth_0 : decode cX5_nth 0 = .ok (.iload_n 1, 1) := by decide +kernel
theorem dX5_nth_1 : decode cX5_nth 1 = .ok (.istore_n 2, 1) := by decide +kernel
theorem dX5_nth_2 : decode cX5_nth 2 = .ok (.iconst 0, 1) := by decide +kernel
theorem dX5_nth_3 : decode cX5_nth 3 = .ok (.istore_n 3, 1) := by decide +kernel
theorem dX5_nth_4 : decode cX5_nth 4 = .ok (.iload_n 3, 1) := by decide +kernel
theorem dX5_nth_5 : decode cX5_nth 5 = .ok (.aload_n 0, 1) := by decide +kernel
theorem dX5_nth_6 : decode cX5_nth 6 = .ok (.getfield 24, 3) := by decide +kernel
theorem dX5_nth_9 : decode cX5_nth 9 = .ok (.if_icmp .ge 56, 3) := by decide +kernel
theorem dX5_nth_12 : decode cX5_nth 12 = .ok (.aload_n 0, 1) := by decide +kernel
theorem dX5_nth_13 : decode cX5_nth 13 = .ok (.getfield 18, 3) := by decide +kernel
theorem dX5_nth_16 : decode cX5_nth 16 = .ok (.iload_n 3, 1) := by decide +kernel
theorem dX5_nth_17 : decode cX5_nth 17 = .ok (.iaload, 1) := by decide +kernel
theorem dX5_nth_18 : decode cX5_nth 18 = .ok (.aload_n 0, 1) := by decide +kernel
theorem dX5_nth_19 : decode cX5_nth 19 = .ok (.getfield 15, 3) := by decide +kernel
theorem dX5_nth_22 : decode cX5_nth 22 = .ok (.iload_n 3, 1) := by decide +kernel
theorem dX5_nth_23 : decode cX5_nth 23 = .ok (.iaload, 1) := by decide +kernel
theorem dX5_nth_24 : decode cX5_nth 24 = .ok (.isub, 1) := by decide +kernel
theorem dX5_nth_25 : decode cX5_nth 25 = .ok (.iconst 1, 1) := by decide +kernel
theorem dX5_nth_26 : decode cX5_nth 26 = .ok (.iadd, 1) := by decide +kernel
theorem dX5_nth_27 : decode cX5_nth 27 = .ok (.istore 4, 2) := by decide +kernel
theorem dX5_nth_29 : decode cX5_nth 29 = .ok (.iload_n 2, 1) := by decide +kernel
theorem dX5_nth_30 : decode cX5_nth 30 = .ok (.iload 4, 2) := by decide +kernel
theorem dX5_nth_32 : decode cX5_nth 32 = .ok (.if_icmp .ge 22, 3) := by decide +kernel
theorem dX5_nth_35 : decode cX5_nth 35 = .ok (.ldc 50, 2) := by decide +kernel
theorem dX5_nth_37 : decode cX5_nth 37 = .ok (.aload_n 0, 1) := by decide +kernel
theorem dX5_nth_38 : decode cX5_nth 38 = .ok (.getfield 9, 3) := by decide +kernel
theorem dX5_nth_41 : decode cX5_nth 41 = .ok (.iload_n 3, 1) := by decide +kernel
theorem dX5_nth_42 : decode cX5_nth 42 = .ok (.iaload, 1) := by decide +kernel
theorem dX5_nth_43 : decode cX5_nth 43 = .ok (.imul, 1) := by decide +kernel
theorem dX5_nth_44 : decode cX5_nth 44 = .ok (.aload_n 0, 1) := by decide +kernel
theorem dX5_nth_45 : decode cX5_nth 45 = .ok (.getfield 15, 3) := by decide +kernel
theorem dX5_nth_48 : decode cX5_nth 48 = .ok (.iload_n 3, 1) := by decide +kernel
theorem dX5_nth_49 : decode cX5_nth 49 = .ok (.iaload, 1) := by decide +kernel
theorem dX5_nth_50 : decode cX5_nth 50 = .ok (.iadd, 1) := by decide +kernel
theorem dX5_nth_51 : decode cX5_nth 51 = .ok (.iload_n 2, 1) := by decide +kernel
theorem dX5_nth_52 : decode cX5_nth 52 = .ok (.iadd, 1) := by decide +kernel
theorem dX5_nth_53 : decode cX5_nth 53 = .ok (.ireturn, 1) := by decide +kernel
theorem dX5_nth_54 : decode cX5_nth 54 = .ok (.iload_n 2, 1) := by decide +kernel
theorem dX5_nth_55 : decode cX5_nth 55 = .ok (.iload 4, 2) := by decide +kernel
theorem dX5_nth_57 : decode cX5_nth 57 = .ok (.isub, 1) := by decide +kernel
theorem dX5_nth_58 : decode cX5_nth 58 = .ok (.istore_n 2, 1) := by decide +kernel
theorem dX5_nth_59 : decode cX5_nth 59 = .ok (.iinc 3 1, 3) := by decide +kernel
theorem dX5_nth_62 : decode cX5_nth 62 = .ok (.goto (-58), 3) := by decide +kernel
theorem dX5_nth_65 : decode cX5_nth 65 = .ok (.iconst (-1), 1) := by decide +kernel
theorem dX5_nth_66 : decode cX5_nth 66 = .ok (.ireturn, 1) := by decide +kernel
theorem dJ9_max_7cf53_0 : decode cJ9_max_7cf53 0 = .ok (.iload_n 0, 1) := by decide +kernel
theorem dJ9_max_7cf53_1 : decode cJ9_max_7cf53 1 = .ok (.iload_n 1, 1) := by decide +kernel
theorem dJ9_max_7cf53_2 : decode cJ9_max_7cf53 2 = .ok (.if_icmp .lt 7, 3) := by decide +kernel
theorem dJ9_max_7cf53_5 : decode cJ9_max_7cf53 5 = .ok (.iload_n 0, 1) := by decide +kernel
theorem dJ9_max_7cf53_6 : decode cJ9_max_7cf53 6 = .ok (.goto 4, 3) := by decide +kernel
theorem dJ9_max_7cf53_9 : decode cJ9_max_7cf53 9 = .ok (.iload_n 1, 1) := by decide +kernel
theorem dJ9_max_7cf53_10 : decode cJ9_max_7cf53 10 = .ok (.ireturn, 1) := by decide +kernel
theorem dJ9_min_7cf53_0 : decode cJ9_min_7cf53 0 = .ok (.iload_n 0, 1) := by decide +kernel
theorem dJ9_min_7cf53_1 : decode cJ9_min_7cf53 1 = .ok (.iload_n 1, 1) := by decide +kernel
theorem dJ9_min_7cf53_2 : decode cJ9_min_7cf53 2 = .ok (.if_icmp .gt 7, 3) := by decide +kernel
theorem dJ9_min_7cf53_5 : decode cJ9_min_7cf53 5 = .ok (.iload_n 0, 1) := by decide +kernel
theorem dJ9_min_7cf53_6 : decode cJ9_min_7cf53 6 = .ok (.goto 4, 3) := by decide +kernel
theorem dJ9_min_7cf53_9 : decode cJ9_min_7cf53 9 = .ok (.iload_n 1, 1) := by decide +kernel
theorem dJ9_min_7cf53_10 : decode cJ9_min_7cf53 10 = .ok (.ireturn, 1) := by decide +kernel
theorem dJ7_fill_53178_0 : decode cJ7_fill_53178 0 = .ok (.iconst 0, 1) := by decide +kernel
theorem dJ7_fill_53178_1 : decode cJ7_fill_53178 1 = .ok (.istore_n 2, 1) := by decide +kernel
theorem dJ7_fill_53178_2 : decode cJ7_fill_53178 2 = .ok (.aload_n 0, 1) := by decide +kernel
theorem dJ7_fill_53178_3 : decode cJ7_fill_53178 3 = .ok (.arraylength, 1) := by decide +kernel
theorem dJ7_fill_53178_4 : decode cJ7_fill_53178 4 = .ok (.istore_n 3, 1) := by decide +kernel
theorem dJ7_fill_53178_5 : decode cJ7_fill_53178 5 = .ok (.iload_n 2, 1) := by decide +kernel
theorem dJ7_fill_53178_6 : decode cJ7_fill_53178 6 = .ok (.iload_n 3, 1) := by decide +kernel
theorem dJ7_fill_53178_7 : decode cJ7_fill_53178 7 = .ok (.if_icmp .ge 13, 3) := by decide +kernel
theorem dJ7_fill_53178_10 : decode cJ7_fill_53178 10 = .ok (.aload_n 0, 1) := by decide +kernel
theorem dJ7_fill_53178_11 : decode cJ7_fill_53178 11 = .ok (.iload_n 2, 1) := by decide +kernel
theorem dJ7_fill_53178_12 : decode cJ7_fill_53178 12 = .ok (.iload_n 1, 1) := by decide +kernel
theorem dJ7_fill_53178_13 : decode cJ7_fill_53178 13 = .ok (.iastore, 1) := by decide +kernel
theorem dJ7_fill_53178_14 : decode cJ7_fill_53178 14 = .ok (.iinc 2 1, 3) := by decide +kernel
theorem dJ7_fill_53178_17 : decode cJ7_fill_53178 17 = .ok (.goto (-12), 3) := by decide +kernel
theorem dJ7_fill_53178_20 : decode cJ7_fill_53178 20 = .ok (.return_, 1) := by decide +kernel
end
section
theorem dX6_init_0 : decode cX6_init 0 = .ok (.aload_n 0, 1) := by decide +kernel
theorem dX6_init_1 : decode cX6_init 1 = .ok (.invokespecial 1, 3) := by decide +kernel
theorem dX6_init_4 : decode cX6_init 4 = .ok (.aload_n 0, 1) := by decide +kernel
theorem dX6_init_5 : decode cX6_init 5 = .ok (.iconst 2, 1) := by decide +kernel
theorem dX6_init_6 : decode cX6_init 6 = .ok (.anewarray 9, 3) := by decide +kernel
theorem dX6_init_9 : decode cX6_init 9 = .ok (.putfield 11, 3) := by decide +kernel
theorem dX6_init_12 : decode cX6_init 12 = .ok (.aload_n 0, 1) := by decide +kernel
theorem dX6_init_13 : decode cX6_init 13 = .ok (.bipush 6, 2) := by decide +kernel
theorem dX6_init_15 : decode cX6_init 15 = .ok (.newarray .int, 2) := by decide +kernel
theorem dX6_init_17 : decode cX6_init 17 = .ok (.putfield 15, 3) := by decide +kernel
theorem dX6_init_20 : decode cX6_init 20 = .ok (.aload_n 0, 1) := by decide +kernel
theorem dX6_init_21 : decode cX6_init 21 = .ok (.getstatic 19, 3) := by decide +kernel
theorem dX6_init_24 : decode cX6_init 24 = .ok (.arraylength, 1) := by decide +kernel
theorem dX6_init_25 : decode cX6_init 25 = .ok (.newarray .int, 2) := by decide +kernel
theorem dX6_init_27 : decode cX6_init 27 = .ok (.putfield 22, 3) := by decide +kernel
theorem dX6_init_30 : decode cX6_init 30 = .ok (.aload_n 0, 1) := by decide +kernel
theorem dX6_init_31 : decode cX6_init 31 = .ok (.iconst 4, 1) := by decide +kernel
theorem dX6_init_32 : decode cX6_init 32 = .ok (.anewarray 25, 3) := by decide +kernel
theorem dX6_init_35 : decode cX6_init 35 = .ok (.putfield 27, 3) := by decide +kernel
theorem dX6_init_38 : decode cX6_init 38 = .ok (.aload_n 0, 1) := by decide +kernel
theorem dX6_init_39 : decode cX6_init 39 = .ok (.iconst 2, 1) := by decide +kernel
theorem dX6_init_40 : decode cX6_init 40 = .ok (.anewarray 31, 3) := by decide +kernel
theorem dX6_init_43 : decode cX6_init 43 = .ok (.putfield 33, 3) := by decide +kernel
theorem dX6_init_46 : decode cX6_init 46 = .ok (.aload_n 0, 1) := by decide +kernel
theorem dX6_init_47 : decode cX6_init 47 = .ok (.new 31, 3) := by decide +kernel
theorem dX6_init_50 : decode cX6_init 50 = .ok (.dup, 1) := by decide +kernel
theorem dX6_init_51 : decode cX6_init 51 = .ok (.bipush 16, 2) := by decide +kernel
theorem dX6_init_53 : decode cX6_init 53 = .ok (.invokespecial 37, 3) := by decide +kernel
theorem dX6_init_56 : decode cX6_init 56 = .ok (.putfield 40, 3) := by decide +kernel
theorem dX6_init_59 : decode cX6_init 59 = .ok (.aload_n 0, 1) := by decide +kernel
theorem dX6_init_60 : decode cX6_init 60 = .ok (.new 44, 3) := by decide +kernel
theorem dX6_init_63 : decode cX6_init 63 = .ok (.dup, 1) := by decide +kernel
theorem dX6_init_64 : decode cX6_init 64 = .ok (.invokespecial 46, 3) := by decide +kernel
theorem dX6_init_67 : decode cX6_init 67 = .ok (.putfield 47, 3) := by decide +kernel
theorem dX6_init_70 : decode cX6_init 70 = .ok (.iconst 0, 1) := by decide +kernel
theorem dX6_init_71 : decode cX6_init 71 = .ok (.istore_n 1, 1) := by decide +kernel
theorem dX6_init_72 : decode cX6_init 72 = .ok (.iload_n 1, 1) := by decide +kernel
theorem dX6_init_73 : decode cX6_init 73 = .ok (.iconst 2, 1) := by decide +kernel
theorem dX6_init_74 : decode cX6_init 74 = .ok (.if_icmp .ge 37, 3) := by decide +kernel
theorem dX6_init_77 : decode cX6_init 77 = .ok (.aload_n 0, 1) := by decide +kernel
theorem dX6_init_78 : decode cX6_init 78 = .ok (.getfield 11, 3) := by decide +kernel
theorem dX6_init_81 : decode cX6_init 81 = .ok (.iload_n 1, 1) := by decide +kernel
theorem dX6_init_82 : decode cX6_init 82 = .ok (.new 9, 3) := by decide +kernel
theorem dX6_init_85 : decode cX6_init 85 = .ok (.dup, 1) := by decide +kernel
theorem dX6_init_86 : decode cX6_init 86 = .ok (.invokespecial 51, 3) := by decide +kernel
theorem dX6_init_89 : decode cX6_init 89 = .ok (.aastore, 1) := by decide +kernel
theorem dX6_init_90 : decode cX6_init 90 = .ok (.aload_n 0, 1) := by decide +kernel
theorem dX6_init_91 : decode cX6_init 91 = .ok (.getfield 33, 3) := by decide +kernel
theorem dX6_init_94 : decode cX6_init 94 = .ok (.iload_n 1, 1) := by decide +kernel
theorem dX6_init_95 : decode cX6_init 95 = .ok (.new 31, 3) := by decide +kernel
theorem dX6_init_98 : decode cX6_init 98 = .ok (.dup, 1) := by decide +kernel
theorem dX6_init_99 : decode cX6_init 99 = .ok (.bipush 8, 2) := by decide +kernel
theorem dX6_init_101 : decode cX6_init 101 = .ok (.invokespecial 37, 3) := by decide +kernel
theorem dX6_init_104 : decode cX6_init 104 = .ok (.aastore, 1) := by decide +kernel
theorem dX6_init_105 : decode cX6_init 105 = .ok (.iinc 1 1, 3) := by decide +kernel
theorem dX6_init_108 : decode cX6_init 108 = .ok (.goto (-36), 3) := by decide +kernel
theorem dX6_init_111 : decode cX6_init 111 = .ok (.iconst 0, 1) := by decide +kernel
theorem dX6_init_112 : decode cX6_init 112 = .ok (.istore_n 1, 1) := by decide +kernel
theorem dX6_init_113 : decode cX6_init 113 = .ok (.iload_n 1, 1) := by decide +kernel
theorem dX6_init_114 : decode cX6_init 114 = .ok (.iconst 4, 1) := by decide +kernel
theorem dX6_init_115 : decode cX6_init 115 = .ok (.if_icmp .ge 22, 3) := by decide +kernel
theorem dX6_init_118 : decode cX6_init 118 = .ok (.aload_n 0, 1) := by decide +kernel
theorem dX6_init_119 : decode cX6_init 119 = .ok (.getfield 27, 3) := by decide +kernel
theorem dX6_init_122 : decode cX6_init 122 = .ok (.iload_n 1, 1) := by decide +kernel
theorem dX6_init_123 : decode cX6_init 123 = .ok (.new 25, 3) := by decide +kernel
theorem dX6_init_126 : decode cX6_init 126 = .ok (.dup, 1) := by decide +kernel
theorem dX6_init_127 : decode cX6_init 127 = .ok (.invokespecial 52, 3) := by decide +kernel
theorem dX6_init_130 : decode cX6_init 130 = .ok (.aastore, 1) := by decide +kernel
theorem dX6_init_131 : decode cX6_init 131 = .ok (.iinc 1 1, 3) := by decide +kernel
theorem dX6_init_134 : decode cX6_init 134 = .ok (.goto (-21), 3) := by decide +kernel
theorem dX6_init_137 : decode cX6_init 137 = .ok (.aload_n 0, 1) := by decide +kernel
theorem dX6_init_138 : decode cX6_init 138 = .ok (.getfield 15, 3) := by decide +kernel
theorem dX6_init_141 : decode cX6_init 141 = .ok (.ldc 53, 2) := by decide +kernel
theorem dX6_init_143 : decode cX6_init 143 = .ok (.invokestatic 54, 3) := by decide +kernel
theorem dX6_init_146 : decode cX6_init 146 = .ok (.aload_n 0, 1) := by decide +kernel
theorem dX6_init_147 : decode cX6_init 147 = .ok (.getfield 22, 3) := by decide +kernel
theorem dX6_init_150 : decode cX6_init 150 = .ok (.iconst 1, 1) := by decide +kernel
theorem dX6_init_151 : decode cX6_init 151 = .ok (.bipush 10, 2) := by decide +kernel
theorem dX6_init_153 : decode cX6_init 153 = .ok (.iastore, 1) := by decide +kernel
theorem dX6_init_154 : decode cX6_init 154 = .ok (.return_, 1) := by decide +kernel
theorem dX6_edit_0 : decode cX6_edit 0 = .ok (.iload_n 1, 1) := by decide +kernel
theorem dX6_edit_1 : decode cX6_edit 1 = .ok (.iconst 2, 1) := by decide +kernel
theorem dX6_edit_2 : decode cX6_edit 2 = .ok (.invokestatic 60, 3) := by decide +kernel
theorem dX6_edit_5 : decode cX6_edit 5 = .ok (.ifCond .eq 17, 3) := by decide +kernel
theorem dX6_edit_8 : decode cX6_edit 8 = .ok (.iload_n 2, 1) := by decide +kernel
theorem dX6_edit_9 : decode cX6_edit 9 = .ok (.iload_n 3, 1) := by decide +kernel
theorem dX6_edit_10 : decode cX6_edit 10 = .ok (.iload 4, 2) := by decide +kernel
theorem dX6_edit_12 : decode cX6_edit 12 = .ok (.iload 5, 2) := by decide +kernel
theorem dX6_edit_14 : decode cX6_edit 14 = .ok (.iload 6, 2) := by decide +kernel
theorem dX6_edit_16 : decode cX6_edit 16 = .ok (.invokestatic 64, 3) := by decide +kernel
theorem dX6_edit_19 : decode cX6_edit 19 = .ok (.ifCond .ne 6, 3) := by decide +kernel
theorem dX6_edit_22 : decode cX6_edit 22 = .ok (.bipush (-2), 2) := by decide +kernel
theorem dX6_edit_24 : decode cX6_edit 24 = .ok (.ireturn, 1) := by decide +kernel
theorem dX6_edit_25 : decode cX6_edit 25 = .ok (.aload_n 0, 1) := by decide +kernel
theorem dX6_edit_26 : decode cX6_edit 26 = .ok (.getfield 11, 3) := by decide +kernel
theorem dX6_edit_29 : decode cX6_edit 29 = .ok (.iload_n 1, 1) := by decide +kernel
theorem dX6_edit_30 : decode cX6_edit 30 = .ok (.aaload, 1) := by decide +kernel
theorem dX6_edit_31 : decode cX6_edit 31 = .ok (.astore 7, 2) := by decide +kernel
theorem dX6_edit_33 : decode cX6_edit 33 = .ok (.aload 7, 2) := by decide +kernel
theorem dX6_edit_35 : decode cX6_edit 35 = .ok (.invokevirtual 68, 3) := by decide +kernel
theorem dX6_edit_38 : decode cX6_edit 38 = .ok (.ifCond .eq 6, 3) := by decide +kernel
theorem dX6_edit_41 : decode cX6_edit 41 = .ok (.bipush (-4), 2) := by decide +kernel
theorem dX6_edit_43 : decode cX6_edit 43 = .ok (.ireturn, 1) := by decide +kernel
theorem dX6_edit_44 : decode cX6_edit 44 = .ok (.aload 7, 2) := by decide +kernel
theorem dX6_edit_46 : decode cX6_edit 46 = .ok (.iload_n 2, 1) := by decide +kernel
theorem dX6_edit_47 : decode cX6_edit 47 = .ok (.iload_n 3, 1) := by decide +kernel
theorem dX6_edit_48 : decode cX6_edit 48 = .ok (.iload 4, 2) := by decide +kernel
theorem dX6_edit_50 : decode cX6_edit 50 = .ok (.iload 5, 2) := by decide +kernel
theorem dX6_edit_52 : decode cX6_edit 52 = .ok (.iload 6, 2) := by decide +kernel
theorem dX6_edit_54 : decode cX6_edit 54 = .ok (.invokevirtual 72, 3) := by decide +kernel
theorem dX6_edit_57 : decode cX6_edit 57 = .ok (.aload 7, 2) := by decide +kernel
theorem dX6_edit_59 : decode cX6_edit 59 = .ok (.getfield 76, 3) := by decide +kernel
theorem dX6_edit_62 : decode cX6_edit 62 = .ok (.ireturn, 1) := by decide +kernel
theorem dX6_back_0 : decode cX6_back 0 = .ok (.iload_n 1, 1) := by decide +kernel
theorem dX6_back_1 : decode cX6_back 1 = .ok (.iconst 2, 1) := by decide +kernel
theorem dX6_back_2 : decode cX6_back 2 = .ok (.invokestatic 60, 3) := by decide +kernel
theorem dX6_back_5 : decode cX6_back 5 = .ok (.ifCond .ne 6, 3) := by decide +kernel
theorem dX6_back_8 : decode cX6_back 8 = .ok (.bipush (-2), 2) := by decide +kernel
theorem dX6_back_10 : decode cX6_back 10 = .ok (.ireturn, 1) := by decide +kernel
theorem dX6_back_11 : decode cX6_back 11 = .ok (.aload_n 0, 1) := by decide +kernel
theorem dX6_back_12 : decode cX6_back 12 = .ok (.getfield 11, 3) := by decide +kernel
theorem dX6_back_15 : decode cX6_back 15 = .ok (.iload_n 1, 1) := by decide +kernel
theorem dX6_back_16 : decode cX6_back 16 = .ok (.aaload, 1) := by decide +kernel
theorem dX6_back_17 : decode cX6_back 17 = .ok (.astore_n 2, 1) := by decide +kernel
theorem dX6_back_18 : decode cX6_back 18 = .ok (.aload_n 2, 1) := by decide +kernel
theorem dX6_back_19 : decode cX6_back 19 = .ok (.getfield 76, 3) := by decide +kernel
theorem dX6_back_22 : decode cX6_back 22 = .ok (.ifCond .ne 6, 3) := by decide +kernel
theorem dX6_back_25 : decode cX6_back 25 = .ok (.bipush (-3), 2) := by decide +kernel
theorem dX6_back_27 : decode cX6_back 27 = .ok (.ireturn, 1) := by decide +kernel
theorem dX6_back_28 : decode cX6_back 28 = .ok (.aload_n 2, 1) := by decide +kernel
theorem dX6_back_29 : decode cX6_back 29 = .ok (.dup, 1) := by decide +kernel
theorem dX6_back_30 : decode cX6_back 30 = .ok (.getfield 76, 3) := by decide +kernel
theorem dX6_back_33 : decode cX6_back 33 = .ok (.iconst 1, 1) := by decide +kernel
theorem dX6_back_34 : decode cX6_back 34 = .ok (.isub, 1) := by decide +kernel
theorem dX6_back_35 : decode cX6_back 35 = .ok (.putfield 76, 3) := by decide +kernel
theorem dX6_back_38 : decode cX6_back 38 = .ok (.aload_n 2, 1) := by decide +kernel
theorem dX6_back_39 : decode cX6_back 39 = .ok (.getfield 76, 3) := by decide +kernel
theorem dX6_back_42 : decode cX6_back 42 = .ok (.ireturn, 1) := by decide +kernel
theorem dX6_trim_0 : decode cX6_trim 0 = .ok (.aload_n 0, 1) := by decide +kernel
theorem dX6_trim_1 : decode cX6_trim 1 = .ok (.iload_n 1, 1) := by decide +kernel
theorem dX6_trim_2 : decode cX6_trim 2 = .ok (.iload_n 2, 1) := by decide +kernel
theorem dX6_trim_3 : decode cX6_trim 3 = .ok (.invokevirtual 80, 3) := by decide +kernel
theorem dX6_trim_6 : decode cX6_trim 6 = .ok (.ifCond .eq 12, 3) := by decide +kernel
theorem dX6_trim_9 : decode cX6_trim 9 = .ok (.iload_n 3, 1) := by decide +kernel
theorem dX6_trim_10 : decode cX6_trim 10 = .ok (.iload 4, 2) := by decide +kernel
theorem dX6_trim_12 : decode cX6_trim 12 = .ok (.invokestatic 83, 3) := by decide +kernel
theorem dX6_trim_15 : decode cX6_trim 15 = .ok (.ifCond .ne 6, 3) := by decide +kernel
theorem dX6_trim_18 : decode cX6_trim 18 = .ok (.bipush (-2), 2) := by decide +kernel
theorem dX6_trim_20 : decode cX6_trim 20 = .ok (.ireturn, 1) := by decide +kernel
theorem dX6_trim_21 : decode cX6_trim 21 = .ok (.aload_n 0, 1) := by decide +kernel
theorem dX6_trim_22 : decode cX6_trim 22 = .ok (.getfield 11, 3) := by decide +kernel
theorem dX6_trim_25 : decode cX6_trim 25 = .ok (.iload_n 1, 1) := by decide +kernel
theorem dX6_trim_26 : decode cX6_trim 26 = .ok (.aaload, 1) := by decide +kernel
theorem dX6_trim_27 : decode cX6_trim 27 = .ok (.getfield 86, 3) := by decide +kernel
theorem dX6_trim_30 : decode cX6_trim 30 = .ok (.iload_n 2, 1) := by decide +kernel
theorem dX6_trim_31 : decode cX6_trim 31 = .ok (.aaload, 1) := by decide +kernel
theorem dX6_trim_32 : decode cX6_trim 32 = .ok (.astore 5, 2) := by decide +kernel
theorem dX6_trim_34 : decode cX6_trim 34 = .ok (.aload 5, 2) := by decide +kernel
theorem dX6_trim_36 : decode cX6_trim 36 = .ok (.iload_n 3, 1) := by decide +kernel
theorem dX6_trim_37 : decode cX6_trim 37 = .ok (.invokevirtual 90, 3) := by decide +kernel
theorem dX6_trim_40 : decode cX6_trim 40 = .ok (.istore 6, 2) := by decide +kernel
theorem dX6_trim_42 : decode cX6_trim 42 = .ok (.aload 5, 2) := by decide +kernel
theorem dX6_trim_44 : decode cX6_trim 44 = .ok (.iload_n 3, 1) := by decide +kernel
theorem dX6_trim_45 : decode cX6_trim 45 = .ok (.iload 4, 2) := by decide +kernel
theorem dX6_trim_47 : decode cX6_trim 47 = .ok (.invokevirtual 96, 3) := by decide +kernel
theorem dX6_trim_50 : decode cX6_trim 50 = .ok (.iload 6, 2) := by decide +kernel
theorem dX6_trim_52 : decode cX6_trim 52 = .ok (.ireturn, 1) := by decide +kernel
theorem dX6_set_0 : decode cX6_set 0 = .ok (.iload_n 1, 1) := by decide +kernel
theorem dX6_set_1 : decode cX6_set 1 = .ok (.getstatic 19, 3) := by decide +kernel
theorem dX6_set_4 : decode cX6_set 4 = .ok (.arraylength, 1) := by decide +kernel
theorem dX6_set_5 : decode cX6_set 5 = .ok (.invokestatic 60, 3) := by decide +kernel
theorem dX6_set_8 : decode cX6_set 8 = .ok (.ifCond .eq 16, 3) := by decide +kernel
theorem dX6_set_11 : decode cX6_set 11 = .ok (.iload_n 2, 1) := by decide +kernel
theorem dX6_set_12 : decode cX6_set 12 = .ok (.ifCond .lt 12, 3) := by decide +kernel
theorem dX6_set_15 : decode cX6_set 15 = .ok (.iload_n 2, 1) := by decide +kernel
theorem dX6_set_16 : decode cX6_set 16 = .ok (.getstatic 19, 3) := by decide +kernel
theorem dX6_set_19 : decode cX6_set 19 = .ok (.iload_n 1, 1) := by decide +kernel
theorem dX6_set_20 : decode cX6_set 20 = .ok (.iaload, 1) := by decide +kernel
theorem dX6_set_21 : decode cX6_set 21 = .ok (.if_icmp .le 6, 3) := by decide +kernel
theorem dX6_set_24 : decode cX6_set 24 = .ok (.bipush (-2), 2) := by decide +kernel
theorem dX6_set_26 : decode cX6_set 26 = .ok (.ireturn, 1) := by decide +kernel
theorem dX6_set_27 : decode cX6_set 27 = .ok (.aload_n 0, 1) := by decide +kernel
theorem dX6_set_28 : decode cX6_set 28 = .ok (.getfield 22, 3) := by decide +kernel
theorem dX6_set_31 : decode cX6_set 31 = .ok (.iload_n 1, 1) := by decide +kernel
theorem dX6_set_32 : decode cX6_set 32 = .ok (.iaload, 1) := by decide +kernel
theorem dX6_set_33 : decode cX6_set 33 = .ok (.istore_n 3, 1) := by decide +kernel
theorem dX6_set_34 : decode cX6_set 34 = .ok (.aload_n 0, 1) := by decide +kernel
theorem dX6_set_35 : decode cX6_set 35 = .ok (.getfield 22, 3) := by decide +kernel
theorem dX6_set_38 : decode cX6_set 38 = .ok (.iload_n 1, 1) := by decide +kernel
theorem dX6_set_39 : decode cX6_set 39 = .ok (.iload_n 2, 1) := by decide +kernel
theorem dX6_set_40 : decode cX6_set 40 = .ok (.iastore, 1) := by decide +kernel
theorem dX6_set_41 : decode cX6_set 41 = .ok (.iload_n 3, 1) := by decide +kernel
theorem dX6_set_42 : decode cX6_set 42 = .ok (.ireturn, 1) := by decide +kernel
theorem dX6_reel_0 : decode cX6_reel 0 = .ok (.iload_n 1, 1) := by decide +kernel
theorem dX6_reel_1 : decode cX6_reel 1 = .ok (.bipush 6, 2) := by decide +kernel
theorem dX6_reel_3 : decode cX6_reel 3 = .ok (.invokestatic 60, 3) := by decide +kernel
theorem dX6_reel_6 : decode cX6_reel 6 = .ok (.ifCond .eq 14, 3) := by decide +kernel
theorem dX6_reel_9 : decode cX6_reel 9 = .ok (.iload_n 2, 1) := by decide +kernel
theorem dX6_reel_10 : decode cX6_reel 10 = .ok (.iconst 1, 1) := by decide +kernel
theorem dX6_reel_11 : decode cX6_reel 11 = .ok (.if_icmp .lt 9, 3) := by decide +kernel
theorem dX6_reel_14 : decode cX6_reel 14 = .ok (.iload_n 2, 1) := by decide +kernel
theorem dX6_reel_15 : decode cX6_reel 15 = .ok (.ldc 100, 2) := by decide +kernel
theorem dX6_reel_17 : decode cX6_reel 17 = .ok (.if_icmp .le 6, 3) := by decide +kernel
theorem dX6_reel_20 : decode cX6_reel 20 = .ok (.bipush (-2), 2) := by decide +kernel
theorem dX6_reel_22 : decode cX6_reel 22 = .ok (.ireturn, 1) := by decide +kernel
theorem dX6_reel_23 : decode cX6_reel 23 = .ok (.aload_n 0, 1) := by decide +kernel
theorem dX6_reel_24 : decode cX6_reel 24 = .ok (.getfield 15, 3) := by decide +kernel
theorem dX6_reel_27 : decode cX6_reel 27 = .ok (.iload_n 1, 1) := by decide +kernel
theorem dX6_reel_28 : decode cX6_reel 28 = .ok (.iaload, 1) := by decide +kernel
theorem dX6_reel_29 : decode cX6_reel 29 = .ok (.istore_n 3, 1) := by decide +kernel
theorem dX6_reel_30 : decode cX6_reel 30 = .ok (.aload_n 0, 1) := by decide +kernel
theorem dX6_reel_31 : decode cX6_reel 31 = .ok (.getfield 15, 3) := by decide +kernel
theorem dX6_reel_34 : decode cX6_reel 34 = .ok (.iload_n 1, 1) := by decide +kernel
theorem dX6_reel_35 : decode cX6_reel 35 = .ok (.iload_n 2, 1) := by decide +kernel
theorem dX6_reel_36 : decode cX6_reel 36 = .ok (.iastore, 1) := by decide +kernel
theorem dX6_reel_37 : decode cX6_reel 37 = .ok (.iload_n 3, 1) := by decide +kernel
theorem dX6_reel_38 : decode cX6_reel 38 = .ok (.ireturn, 1) := by decide +kernel
theorem dX6_swap_0 : decode cX6_swap 0 = .ok (.aload_n 0, 1) := by decide +kernel
theorem dX6_swap_1 : decode cX6_swap 1 = .ok (.getfield 11, 3) := by decide +kernel
theorem dX6_swap_4 : decode cX6_swap 4 = .ok (.iconst 0, 1) := by decide +kernel
theorem dX6_swap_5 : decode cX6_swap 5 = .ok (.aaload, 1) := by decide +kernel
theorem dX6_swap_6 : decode cX6_swap 6 = .ok (.astore_n 1, 1) := by decide +kernel
theorem dX6_swap_7 : decode cX6_swap 7 = .ok (.aload_n 0, 1) := by decide +kernel
theorem dX6_swap_8 : decode cX6_swap 8 = .ok (.getfield 11, 3) := by decide +kernel
theorem dX6_swap_11 : decode cX6_swap 11 = .ok (.iconst 0, 1) := by decide +kernel
theorem dX6_swap_12 : decode cX6_swap 12 = .ok (.aload_n 0, 1) := by decide +kernel
theorem dX6_swap_13 : decode cX6_swap 13 = .ok (.getfield 11, 3) := by decide +kernel
theorem dX6_swap_16 : decode cX6_swap 16 = .ok (.iconst 1, 1) := by decide +kernel
theorem dX6_swap_17 : decode cX6_swap 17 = .ok (.aaload, 1) := by decide +kernel
theorem dX6_swap_18 : decode cX6_swap 18 = .ok (.aastore, 1) := by decide +kernel
theorem dX6_swap_19 : decode cX6_swap 19 = .ok (.aload_n 0, 1) := by decide +kernel
theorem dX6_swap_20 : decode cX6_swap 20 = .ok (.getfield 11, 3) := by decide +kernel
theorem dX6_swap_23 : decode cX6_swap 23 = .ok (.iconst 1, 1) := by decide +kernel
theorem dX6_swap_24 : decode cX6_swap 24 = .ok (.aload_n 1, 1) := by decide +kernel
theorem dX6_swap_25 : decode cX6_swap 25 = .ok (.aastore, 1) := by decide +kernel
theorem dX6_swap_26 : decode cX6_swap 26 = .ok (.aload_n 0, 1) := by decide +kernel
theorem dX6_swap_27 : decode cX6_swap 27 = .ok (.getfield 11, 3) := by decide +kernel
theorem dX6_swap_30 : decode cX6_swap 30 = .ok (.iconst 0, 1) := by decide +kernel
theorem dX6_swap_31 : decode cX6_swap 31 = .ok (.aaload, 1) := by decide +kernel
theorem dX6_swap_32 : decode cX6_swap 32 = .ok (.getfield 76, 3) := by decide +kernel
theorem dX6_swap_35 : decode cX6_swap 35 = .ok (.aload_n 0, 1) := by decide +kernel
theorem dX6_swap_36 : decode cX6_swap 36 = .ok (.getfield 11, 3) := by decide +kernel
theorem dX6_swap_39 : decode cX6_swap 39 = .ok (.iconst 1, 1) := by decide +kernel
theorem dX6_swap_40 : decode cX6_swap 40 = .ok (.aaload, 1) := by decide +kernel
theorem dX6_swap_41 : decode cX6_swap 41 = .ok (.getfield 76, 3) := by decide +kernel
theorem dX6_swap_44 : decode cX6_swap 44 = .ok (.iadd, 1) := by decide +kernel
theorem dX6_swap_45 : decode cX6_swap 45 = .ok (.ireturn, 1) := by decide +kernel
theorem dX6_read_0 : decode cX6_read 0 = .ok (.iload_n 1, 1) := by decide +kernel
theorem dX6_read_1 : decode cX6_read 1 = .ok (.iconst 2, 1) := by decide +kernel
theorem dX6_read_2 : decode cX6_read 2 = .ok (.invokestatic 60, 3) := by decide +kernel
theorem dX6_read_5 : decode cX6_read 5 = .ok (.ifCond .eq 11, 3) := by decide +kernel
theorem dX6_read_8 : decode cX6_read 8 = .ok (.iload_n 2, 1) := by decide +kernel
theorem dX6_read_9 : decode cX6_read 9 = .ok (.iconst 4, 1) := by decide +kernel
theorem dX6_read_10 : decode cX6_read 10 = .ok (.invokestatic 60, 3) := by decide +kernel
theorem dX6_read_13 : decode cX6_read 13 = .ok (.ifCond .ne 6, 3) := by decide +kernel
theorem dX6_read_16 : decode cX6_read 16 = .ok (.bipush (-2), 2) := by decide +kernel
theorem dX6_read_18 : decode cX6_read 18 = .ok (.ireturn, 1) := by decide +kernel
theorem dX6_read_19 : decode cX6_read 19 = .ok (.aload_n 0, 1) := by decide +kernel
theorem dX6_read_20 : decode cX6_read 20 = .ok (.getfield 27, 3) := by decide +kernel
theorem dX6_read_23 : decode cX6_read 23 = .ok (.iload_n 2, 1) := by decide +kernel
theorem dX6_read_24 : decode cX6_read 24 = .ok (.aaload, 1) := by decide +kernel
theorem dX6_read_25 : decode cX6_read 25 = .ok (.astore_n 3, 1) := by decide +kernel
theorem dX6_read_26 : decode cX6_read 26 = .ok (.aload_n 3, 1) := by decide +kernel
theorem dX6_read_27 : decode cX6_read 27 = .ok (.getfield 101, 3) := by decide +kernel
theorem dX6_read_30 : decode cX6_read 30 = .ok (.ifCond .eq 9, 3) := by decide +kernel
theorem dX6_read_33 : decode cX6_read 33 = .ok (.aload_n 0, 1) := by decide +kernel
theorem dX6_read_34 : decode cX6_read 34 = .ok (.iconst 1, 1) := by decide +kernel
theorem dX6_read_35 : decode cX6_read 35 = .ok (.invokevirtual 105, 3) := by decide +kernel
theorem dX6_read_38 : decode cX6_read 38 = .ok (.ireturn, 1) := by decide +kernel
theorem dX6_read_39 : decode cX6_read 39 = .ok (.aload_n 0, 1) := by decide +kernel
theorem dX6_read_40 : decode cX6_read 40 = .ok (.getfield 11, 3) := by decide +kernel
theorem dX6_read_43 : decode cX6_read 43 = .ok (.iload_n 1, 1) := by decide +kernel
theorem dX6_read_44 : decode cX6_read 44 = .ok (.aaload, 1) := by decide +kernel
theorem dX6_read_45 : decode cX6_read 45 = .ok (.astore 4, 2) := by decide +kernel
theorem dX6_read_47 : decode cX6_read 47 = .ok (.iconst 0, 1) := by decide +kernel
theorem dX6_read_48 : decode cX6_read 48 = .ok (.istore 5, 2) := by decide +kernel
theorem dX6_read_50 : decode cX6_read 50 = .ok (.iconst 0, 1) := by decide +kernel
theorem dX6_read_51 : decode cX6_read 51 = .ok (.istore 6, 2) := by decide +kernel
theorem dX6_read_53 : decode cX6_read 53 = .ok (.iload 6, 2) := by decide +kernel
theorem dX6_read_55 : decode cX6_read 55 = .ok (.iconst 5, 1) := by decide +kernel
theorem dX6_read_56 : decode cX6_read 56 = .ok (.iadd, 1) := by decide +kernel
theorem dX6_read_57 : decode cX6_read 57 = .ok (.aload_n 3, 1) := by decide +kernel
theorem dX6_read_58 : decode cX6_read 58 = .ok (.getfield 108, 3) := by decide +kernel
theorem dX6_read_61 : decode cX6_read 61 = .ok (.if_icmp .gt 34, 3) := by decide +kernel
theorem dX6_read_64 : decode cX6_read 64 = .ok (.aload 4, 2) := by decide +kernel
theorem dX6_read_66 : decode cX6_read 66 = .ok (.invokevirtual 68, 3) := by decide +kernel
theorem dX6_read_69 : decode cX6_read 69 = .ok (.ifCond .ne 26, 3) := by decide +kernel
theorem dX6_read_72 : decode cX6_read 72 = .ok (.aload 4, 2) := by decide +kernel
theorem dX6_read_74 : decode cX6_read 74 = .ok (.aload_n 3, 1) := by decide +kernel
theorem dX6_read_75 : decode cX6_read 75 = .ok (.iload 6, 2) := by decide +kernel
theorem dX6_read_77 : decode cX6_read 77 = .ok (.invokestatic 109, 3) := by decide +kernel
theorem dX6_read_80 : decode cX6_read 80 = .ok (.ifCond .ne 6, 3) := by decide +kernel
theorem dX6_read_83 : decode cX6_read 83 = .ok (.goto 12, 3) := by decide +kernel
theorem dX6_read_86 : decode cX6_read 86 = .ok (.iinc 5 1, 3) := by decide +kernel
theorem dX6_read_89 : decode cX6_read 89 = .ok (.iinc 6 5, 3) := by decide +kernel
theorem dX6_read_92 : decode cX6_read 92 = .ok (.goto (-39), 3) := by decide +kernel
theorem dX6_read_95 : decode cX6_read 95 = .ok (.iload 5, 2) := by decide +kernel
theorem dX6_read_97 : decode cX6_read 97 = .ok (.ireturn, 1) := by decide +kernel
theorem dX6_appendFrom_0 : decode cX6_appendFrom 0 = .ok (.aload_n 1, 1) := by decide +kernel
theorem dX6_appendFrom_1 : decode cX6_appendFrom 1 = .ok (.iload_n 2, 1) := by decide +kernel
theorem dX6_appendFrom_2 : decode cX6_appendFrom 2 = .ok (.invokevirtual 113, 3) := by decide +kernel
theorem dX6_appendFrom_5 : decode cX6_appendFrom 5 = .ok (.istore_n 3, 1) := by decide +kernel
theorem dX6_appendFrom_6 : decode cX6_appendFrom 6 = .ok (.aload_n 1, 1) := by decide +kernel
theorem dX6_appendFrom_7 : decode cX6_appendFrom 7 = .ok (.iload_n 2, 1) := by decide +kernel
theorem dX6_appendFrom_8 : decode cX6_appendFrom 8 = .ok (.iconst 1, 1) := by decide +kernel
theorem dX6_appendFrom_9 : decode cX6_appendFrom 9 = .ok (.iadd, 1) := by decide +kernel
theorem dX6_appendFrom_10 : decode cX6_appendFrom 10 = .ok (.invokevirtual 113, 3) := by decide +kernel
theorem dX6_appendFrom_13 : decode cX6_appendFrom 13 = .ok (.istore 4, 2) := by decide +kernel
theorem dX6_appendFrom_15 : decode cX6_appendFrom 15 = .ok (.aload_n 1, 1) := by decide +kernel
theorem dX6_appendFrom_16 : decode cX6_appendFrom 16 = .ok (.iload_n 2, 1) := by decide +kernel
theorem dX6_appendFrom_17 : decode cX6_appendFrom 17 = .ok (.iconst 2, 1) := by decide +kernel
theorem dX6_appendFrom_18 : decode cX6_appendFrom 18 = .ok (.iadd, 1) := by decide +kernel
theorem dX6_appendFrom_19 : decode cX6_appendFrom 19 = .ok (.invokevirtual 113, 3) := by decide +kernel
theorem dX6_appendFrom_22 : decode cX6_appendFrom 22 = .ok (.istore 5, 2) := by decide +kernel
theorem dX6_appendFrom_24 : decode cX6_appendFrom 24 = .ok (.aload_n 1, 1) := by decide +kernel
theorem dX6_appendFrom_25 : decode cX6_appendFrom 25 = .ok (.iload_n 2, 1) := by decide +kernel
theorem dX6_appendFrom_26 : decode cX6_appendFrom 26 = .ok (.iconst 3, 1) := by decide +kernel
theorem dX6_appendFrom_27 : decode cX6_appendFrom 27 = .ok (.iadd, 1) := by decide +kernel
theorem dX6_appendFrom_28 : decode cX6_appendFrom 28 = .ok (.invokevirtual 113, 3) := by decide +kernel
theorem dX6_appendFrom_31 : decode cX6_appendFrom 31 = .ok (.istore 6, 2) := by decide +kernel
theorem dX6_appendFrom_33 : decode cX6_appendFrom 33 = .ok (.aload_n 1, 1) := by decide +kernel
theorem dX6_appendFrom_34 : decode cX6_appendFrom 34 = .ok (.iload_n 2, 1) := by decide +kernel
theorem dX6_appendFrom_35 : decode cX6_appendFrom 35 = .ok (.iconst 4, 1) := by decide +kernel
theorem dX6_appendFrom_36 : decode cX6_appendFrom 36 = .ok (.iadd, 1) := by decide +kernel
theorem dX6_appendFrom_37 : decode cX6_appendFrom 37 = .ok (.invokevirtual 113, 3) := by decide +kernel
theorem dX6_appendFrom_40 : decode cX6_appendFrom 40 = .ok (.istore 7, 2) := by decide +kernel
theorem dX6_appendFrom_42 : decode cX6_appendFrom 42 = .ok (.iload_n 3, 1) := by decide +kernel
theorem dX6_appendFrom_43 : decode cX6_appendFrom 43 = .ok (.iload 4, 2) := by decide +kernel
theorem dX6_appendFrom_45 : decode cX6_appendFrom 45 = .ok (.iload 5, 2) := by decide +kernel
theorem dX6_appendFrom_47 : decode cX6_appendFrom 47 = .ok (.iload 6, 2) := by decide +kernel
theorem dX6_appendFrom_49 : decode cX6_appendFrom 49 = .ok (.iload 7, 2) := by decide +kernel
theorem dX6_appendFrom_51 : decode cX6_appendFrom 51 = .ok (.invokestatic 64, 3) := by decide +kernel
theorem dX6_appendFrom_54 : decode cX6_appendFrom 54 = .ok (.ifCond .ne 5, 3) := by decide +kernel
theorem dX6_appendFrom_57 : decode cX6_appendFrom 57 = .ok (.iconst 0, 1) := by decide +kernel
theorem dX6_appendFrom_58 : decode cX6_appendFrom 58 = .ok (.ireturn, 1) := by decide +kernel
theorem dX6_appendFrom_59 : decode cX6_appendFrom 59 = .ok (.aload_n 0, 1) := by decide +kernel
theorem dX6_appendFrom_60 : decode cX6_appendFrom 60 = .ok (.iload_n 3, 1) := by decide +kernel
theorem dX6_appendFrom_61 : decode cX6_appendFrom 61 = .ok (.iload 4, 2) := by decide +kernel
theorem dX6_appendFrom_63 : decode cX6_appendFrom 63 = .ok (.iload 5, 2) := by decide +kernel
theorem dX6_appendFrom_65 : decode cX6_appendFrom 65 = .ok (.iload 6, 2) := by decide +kernel
theorem dX6_appendFrom_67 : decode cX6_appendFrom 67 = .ok (.iload 7, 2) := by decide +kernel
theorem dX6_appendFrom_69 : decode cX6_appendFrom 69 = .ok (.invokevirtual 72, 3) := by decide +kernel
theorem dX6_appendFrom_72 : decode cX6_appendFrom 72 = .ok (.iconst 1, 1) := by decide +kernel
theorem dX6_appendFrom_73 : decode cX6_appendFrom 73 = .ok (.ireturn, 1) := by decide +kernel
theorem dX6_mayBeEdit_0 : decode cX6_mayBeEdit 0 = .ok (.iload_n 0, 1) := by decide +kernel
theorem dX6_mayBeEdit_1 : decode cX6_mayBeEdit 1 = .ok (.bipush 6, 2) := by decide +kernel
theorem dX6_mayBeEdit_3 : decode cX6_mayBeEdit 3 = .ok (.invokestatic 60, 3) := by decide +kernel
theorem dX6_mayBeEdit_6 : decode cX6_mayBeEdit 6 = .ok (.ifCond .eq 40, 3) := by decide +kernel
theorem dX6_mayBeEdit_9 : decode cX6_mayBeEdit 9 = .ok (.iconst 0, 1) := by decide +kernel
theorem dX6_mayBeEdit_10 : decode cX6_mayBeEdit 10 = .ok (.iload_n 1, 1) := by decide +kernel
theorem dX6_mayBeEdit_11 : decode cX6_mayBeEdit 11 = .ok (.invokestatic 83, 3) := by decide +kernel
theorem dX6_mayBeEdit_14 : decode cX6_mayBeEdit 14 = .ok (.ifCond .eq 32, 3) := by decide +kernel
theorem dX6_mayBeEdit_17 : decode cX6_mayBeEdit 17 = .ok (.iconst 1, 1) := by decide +kernel
theorem dX6_mayBeEdit_18 : decode cX6_mayBeEdit 18 = .ok (.iload_n 2, 1) := by decide +kernel
theorem dX6_mayBeEdit_19 : decode cX6_mayBeEdit 19 = .ok (.invokestatic 83, 3) := by decide +kernel
theorem dX6_mayBeEdit_22 : decode cX6_mayBeEdit 22 = .ok (.ifCond .eq 24, 3) := by decide +kernel
theorem dX6_mayBeEdit_25 : decode cX6_mayBeEdit 25 = .ok (.iconst 2, 1) := by decide +kernel
theorem dX6_mayBeEdit_26 : decode cX6_mayBeEdit 26 = .ok (.iload_n 3, 1) := by decide +kernel
theorem dX6_mayBeEdit_27 : decode cX6_mayBeEdit 27 = .ok (.invokestatic 83, 3) := by decide +kernel
theorem dX6_mayBeEdit_30 : decode cX6_mayBeEdit 30 = .ok (.ifCond .eq 16, 3) := by decide +kernel
theorem dX6_mayBeEdit_33 : decode cX6_mayBeEdit 33 = .ok (.iconst 3, 1) := by decide +kernel
theorem dX6_mayBeEdit_34 : decode cX6_mayBeEdit 34 = .ok (.iload 4, 2) := by decide +kernel
theorem dX6_mayBeEdit_36 : decode cX6_mayBeEdit 36 = .ok (.invokestatic 83, 3) := by decide +kernel
theorem dX6_mayBeEdit_39 : decode cX6_mayBeEdit 39 = .ok (.ifCond .eq 7, 3) := by decide +kernel
theorem dX6_mayBeEdit_42 : decode cX6_mayBeEdit 42 = .ok (.iconst 1, 1) := by decide +kernel
theorem dX6_mayBeEdit_43 : decode cX6_mayBeEdit 43 = .ok (.goto 4, 3) := by decide +kernel
theorem dX6_mayBeEdit_46 : decode cX6_mayBeEdit 46 = .ok (.iconst 0, 1) := by decide +kernel
theorem dX6_mayBeEdit_47 : decode cX6_mayBeEdit 47 = .ok (.ireturn, 1) := by decide +kernel
theorem dX6_mayBePart_0 : decode cX6_mayBePart 0 = .ok (.iload_n 0, 1) := by decide +kernel
theorem dX6_mayBePart_1 : decode cX6_mayBePart 1 = .ok (.getstatic 116, 3) := by decide +kernel
theorem dX6_mayBePart_4 : decode cX6_mayBePart 4 = .ok (.arraylength, 1) := by decide +kernel
theorem dX6_mayBePart_5 : decode cX6_mayBePart 5 = .ok (.invokestatic 60, 3) := by decide +kernel
theorem dX6_mayBePart_8 : decode cX6_mayBePart 8 = .ok (.ifCond .eq 36, 3) := by decide +kernel
theorem dX6_mayBePart_11 : decode cX6_mayBePart 11 = .ok (.iload_n 0, 1) := by decide +kernel
theorem dX6_mayBePart_12 : decode cX6_mayBePart 12 = .ok (.getstatic 119, 3) := by decide +kernel
theorem dX6_mayBePart_15 : decode cX6_mayBePart 15 = .ok (.arraylength, 1) := by decide +kernel
theorem dX6_mayBePart_16 : decode cX6_mayBePart 16 = .ok (.invokestatic 60, 3) := by decide +kernel
theorem dX6_mayBePart_19 : decode cX6_mayBePart 19 = .ok (.ifCond .eq 25, 3) := by decide +kernel
theorem dX6_mayBePart_22 : decode cX6_mayBePart 22 = .ok (.iload_n 1, 1) := by decide +kernel
theorem dX6_mayBePart_23 : decode cX6_mayBePart 23 = .ok (.getstatic 119, 3) := by decide +kernel
theorem dX6_mayBePart_26 : decode cX6_mayBePart 26 = .ok (.iload_n 0, 1) := by decide +kernel
theorem dX6_mayBePart_27 : decode cX6_mayBePart 27 = .ok (.iaload, 1) := by decide +kernel
theorem dX6_mayBePart_28 : decode cX6_mayBePart 28 = .ok (.if_icmp .lt 16, 3) := by decide +kernel
theorem dX6_mayBePart_31 : decode cX6_mayBePart 31 = .ok (.iload_n 1, 1) := by decide +kernel
theorem dX6_mayBePart_32 : decode cX6_mayBePart 32 = .ok (.getstatic 116, 3) := by decide +kernel
theorem dX6_mayBePart_35 : decode cX6_mayBePart 35 = .ok (.iload_n 0, 1) := by decide +kernel
theorem dX6_mayBePart_36 : decode cX6_mayBePart 36 = .ok (.iaload, 1) := by decide +kernel
theorem dX6_mayBePart_37 : decode cX6_mayBePart 37 = .ok (.if_icmp .gt 7, 3) := by decide +kernel
theorem dX6_mayBePart_40 : decode cX6_mayBePart 40 = .ok (.iconst 1, 1) := by decide +kernel
theorem dX6_mayBePart_41 : decode cX6_mayBePart 41 = .ok (.goto 4, 3) := by decide +kernel
theorem dX6_mayBePart_44 : decode cX6_mayBePart 44 = .ok (.iconst 0, 1) := by decide +kernel
theorem dX6_mayBePart_45 : decode cX6_mayBePart 45 = .ok (.ireturn, 1) := by decide +kernel
theorem dX6_isBelow_0 : decode cX6_isBelow 0 = .ok (.iload_n 0, 1) := by decide +kernel
theorem dX6_isBelow_1 : decode cX6_isBelow 1 = .ok (.ifCond .lt 12, 3) := by decide +kernel
theorem dX6_isBelow_4 : decode cX6_isBelow 4 = .ok (.iload_n 0, 1) := by decide +kernel
theorem dX6_isBelow_5 : decode cX6_isBelow 5 = .ok (.iload_n 1, 1) := by decide +kernel
theorem dX6_isBelow_6 : decode cX6_isBelow 6 = .ok (.if_icmp .ge 7, 3) := by decide +kernel
theorem dX6_isBelow_9 : decode cX6_isBelow 9 = .ok (.iconst 1, 1) := by decide +kernel
theorem dX6_isBelow_10 : decode cX6_isBelow 10 = .ok (.goto 4, 3) := by decide +kernel
theorem dX6_isBelow_13 : decode cX6_isBelow 13 = .ok (.iconst 0, 1) := by decide +kernel
theorem dX6_isBelow_14 : decode cX6_isBelow 14 = .ok (.ireturn, 1) := by decide +kernel
theorem dX6_isEdit_0 : decode cX6_isEdit 0 = .ok (.iload_n 1, 1) := by decide +kernel
theorem dX6_isEdit_1 : decode cX6_isEdit 1 = .ok (.iconst 2, 1) := by decide +kernel
theorem dX6_isEdit_2 : decode cX6_isEdit 2 = .ok (.invokestatic 60, 3) := by decide +kernel
theorem dX6_isEdit_5 : decode cX6_isEdit 5 = .ok (.ifCond .eq 23, 3) := by decide +kernel
theorem dX6_isEdit_8 : decode cX6_isEdit 8 = .ok (.iload_n 2, 1) := by decide +kernel
theorem dX6_isEdit_9 : decode cX6_isEdit 9 = .ok (.aload_n 0, 1) := by decide +kernel
theorem dX6_isEdit_10 : decode cX6_isEdit 10 = .ok (.getfield 11, 3) := by decide +kernel
theorem dX6_isEdit_13 : decode cX6_isEdit 13 = .ok (.iload_n 1, 1) := by decide +kernel
theorem dX6_isEdit_14 : decode cX6_isEdit 14 = .ok (.aaload, 1) := by decide +kernel
theorem dX6_isEdit_15 : decode cX6_isEdit 15 = .ok (.getfield 76, 3) := by decide +kernel
theorem dX6_isEdit_18 : decode cX6_isEdit 18 = .ok (.invokestatic 60, 3) := by decide +kernel
theorem dX6_isEdit_21 : decode cX6_isEdit 21 = .ok (.ifCond .eq 7, 3) := by decide +kernel
theorem dX6_isEdit_24 : decode cX6_isEdit 24 = .ok (.iconst 1, 1) := by decide +kernel
theorem dX6_isEdit_25 : decode cX6_isEdit 25 = .ok (.goto 4, 3) := by decide +kernel
theorem dX6_isEdit_28 : decode cX6_isEdit 28 = .ok (.iconst 0, 1) := by decide +kernel
theorem dX6_isEdit_29 : decode cX6_isEdit 29 = .ok (.ireturn, 1) := by decide +kernel
theorem dX6_found_0 : decode cX6_found 0 = .ok (.aload_n 0, 1) := by decide +kernel
theorem dX6_found_1 : decode cX6_found 1 = .ok (.iload_n 1, 1) := by decide +kernel
theorem dX6_found_2 : decode cX6_found 2 = .ok (.putfield 122, 3) := by decide +kernel
theorem dX6_found_5 : decode cX6_found 5 = .ok (.bipush (-10), 2) := by decide +kernel
theorem dX6_found_7 : decode cX6_found 7 = .ok (.iload_n 1, 1) := by decide +kernel
theorem dX6_found_8 : decode cX6_found 8 = .ok (.isub, 1) := by decide +kernel
theorem dX6_found_9 : decode cX6_found 9 = .ok (.ireturn, 1) := by decide +kernel
theorem dX6_info_0 : decode cX6_info 0 = .ok (.aload_n 0, 1) := by decide +kernel
theorem dX6_info_1 : decode cX6_info 1 = .ok (.iload_n 1, 1) := by decide +kernel
theorem dX6_info_2 : decode cX6_info 2 = .ok (.iload_n 2, 1) := by decide +kernel
theorem dX6_info_3 : decode cX6_info 3 = .ok (.invokevirtual 80, 3) := by decide +kernel
theorem dX6_info_6 : decode cX6_info 6 = .ok (.ifCond .ne 6, 3) := by decide +kernel
theorem dX6_info_9 : decode cX6_info 9 = .ok (.bipush (-2), 2) := by decide +kernel
theorem dX6_info_11 : decode cX6_info 11 = .ok (.ireturn, 1) := by decide +kernel
theorem dX6_info_12 : decode cX6_info 12 = .ok (.aload_n 0, 1) := by decide +kernel
theorem dX6_info_13 : decode cX6_info 13 = .ok (.getfield 11, 3) := by decide +kernel
theorem dX6_info_16 : decode cX6_info 16 = .ok (.iload_n 1, 1) := by decide +kernel
theorem dX6_info_17 : decode cX6_info 17 = .ok (.aaload, 1) := by decide +kernel
theorem dX6_info_18 : decode cX6_info 18 = .ok (.astore 4, 2) := by decide +kernel
theorem dX6_info_20 : decode cX6_info 20 = .ok (.aload 4, 2) := by decide +kernel
theorem dX6_info_22 : decode cX6_info 22 = .ok (.getfield 86, 3) := by decide +kernel
theorem dX6_info_25 : decode cX6_info 25 = .ok (.iload_n 2, 1) := by decide +kernel
theorem dX6_info_26 : decode cX6_info 26 = .ok (.aaload, 1) := by decide +kernel
theorem dX6_info_27 : decode cX6_info 27 = .ok (.astore 5, 2) := by decide +kernel
theorem dX6_info_29 : decode cX6_info 29 = .ok (.iload_n 3, 1) := by decide +kernel
theorem dX6_info_30 : decode cX6_info 30 = .ok (.tableswitch 95 0 7 #[46, 52, 58, 64, 70, 76, 83, 89], 46) := by decide +kernel
theorem dX6_info_76 : decode cX6_info 76 = .ok (.aload 5, 2) := by decide +kernel
theorem dX6_info_78 : decode cX6_info 78 = .ok (.getfield 125, 3) := by decide +kernel
theorem dX6_info_81 : decode cX6_info 81 = .ok (.ireturn, 1) := by decide +kernel
theorem dX6_info_82 : decode cX6_info 82 = .ok (.aload 5, 2) := by decide +kernel
theorem dX6_info_84 : decode cX6_info 84 = .ok (.getfield 128, 3) := by decide +kernel
theorem dX6_info_87 : decode cX6_info 87 = .ok (.ireturn, 1) := by decide +kernel
theorem dX6_info_88 : decode cX6_info 88 = .ok (.aload 5, 2) := by decide +kernel
theorem dX6_info_90 : decode cX6_info 90 = .ok (.getfield 131, 3) := by decide +kernel
theorem dX6_info_93 : decode cX6_info 93 = .ok (.ireturn, 1) := by decide +kernel
theorem dX6_info_94 : decode cX6_info 94 = .ok (.aload 5, 2) := by decide +kernel
theorem dX6_info_96 : decode cX6_info 96 = .ok (.getfield 134, 3) := by decide +kernel
theorem dX6_info_99 : decode cX6_info 99 = .ok (.ireturn, 1) := by decide +kernel
theorem dX6_info_100 : decode cX6_info 100 = .ok (.aload 5, 2) := by decide +kernel
theorem dX6_info_102 : decode cX6_info 102 = .ok (.getfield 137, 3) := by decide +kernel
theorem dX6_info_105 : decode cX6_info 105 = .ok (.ireturn, 1) := by decide +kernel
theorem dX6_info_106 : decode cX6_info 106 = .ok (.aload 4, 2) := by decide +kernel
theorem dX6_info_108 : decode cX6_info 108 = .ok (.iload_n 2, 1) := by decide +kernel
theorem dX6_info_109 : decode cX6_info 109 = .ok (.invokevirtual 140, 3) := by decide +kernel
theorem dX6_info_112 : decode cX6_info 112 = .ok (.ireturn, 1) := by decide +kernel
theorem dX6_info_113 : decode cX6_info 113 = .ok (.aload 5, 2) := by decide +kernel
theorem dX6_info_115 : decode cX6_info 115 = .ok (.invokevirtual 143, 3) := by decide +kernel
theorem dX6_info_118 : decode cX6_info 118 = .ok (.ireturn, 1) := by decide +kernel
theorem dX6_info_119 : decode cX6_info 119 = .ok (.aload 5, 2) := by decide +kernel
theorem dX6_info_121 : decode cX6_info 121 = .ok (.invokevirtual 147, 3) := by decide +kernel
theorem dX6_info_124 : decode cX6_info 124 = .ok (.ireturn, 1) := by decide +kernel
theorem dX6_info_125 : decode cX6_info 125 = .ok (.bipush (-2), 2) := by decide +kernel
theorem dX6_info_127 : decode cX6_info 127 = .ok (.ireturn, 1) := by decide +kernel
theorem dX6_shows_0 : decode cX6_shows 0 = .ok (.iload_n 1, 1) := by decide +kernel
theorem dX6_shows_1 : decode cX6_shows 1 = .ok (.iconst 2, 1) := by decide +kernel
theorem dX6_shows_2 : decode cX6_shows 2 = .ok (.invokestatic 60, 3) := by decide +kernel
theorem dX6_shows_5 : decode cX6_shows 5 = .ok (.ifCond .eq 21, 3) := by decide +kernel
theorem dX6_shows_8 : decode cX6_shows 8 = .ok (.iload_n 2, 1) := by decide +kernel
theorem dX6_shows_9 : decode cX6_shows 9 = .ok (.sipush 4000, 3) := by decide +kernel
theorem dX6_shows_12 : decode cX6_shows 12 = .ok (.invokestatic 60, 3) := by decide +kernel
theorem dX6_shows_15 : decode cX6_shows 15 = .ok (.ifCond .eq 11, 3) := by decide +kernel
theorem dX6_shows_18 : decode cX6_shows 18 = .ok (.iload_n 3, 1) := by decide +kernel
theorem dX6_shows_19 : decode cX6_shows 19 = .ok (.iconst 4, 1) := by decide +kernel
theorem dX6_shows_20 : decode cX6_shows 20 = .ok (.invokestatic 60, 3) := by decide +kernel
theorem dX6_shows_23 : decode cX6_shows 23 = .ok (.ifCond .ne 6, 3) := by decide +kernel
theorem dX6_shows_26 : decode cX6_shows 26 = .ok (.bipush (-2), 2) := by decide +kernel
theorem dX6_shows_28 : decode cX6_shows 28 = .ok (.ireturn, 1) := by decide +kernel
theorem dX6_shows_29 : decode cX6_shows 29 = .ok (.aload_n 0, 1) := by decide +kernel
theorem dX6_shows_30 : decode cX6_shows 30 = .ok (.getfield 11, 3) := by decide +kernel
theorem dX6_shows_33 : decode cX6_shows 33 = .ok (.iload_n 1, 1) := by decide +kernel
theorem dX6_shows_34 : decode cX6_shows 34 = .ok (.aaload, 1) := by decide +kernel
theorem dX6_shows_35 : decode cX6_shows 35 = .ok (.astore 4, 2) := by decide +kernel
theorem dX6_shows_37 : decode cX6_shows 37 = .ok (.aload 4, 2) := by decide +kernel
theorem dX6_shows_39 : decode cX6_shows 39 = .ok (.iload_n 2, 1) := by decide +kernel
theorem dX6_shows_40 : decode cX6_shows 40 = .ok (.invokevirtual 150, 3) := by decide +kernel
theorem dX6_shows_43 : decode cX6_shows 43 = .ok (.istore 5, 2) := by decide +kernel
theorem dX6_shows_45 : decode cX6_shows 45 = .ok (.iload 5, 2) := by decide +kernel
theorem dX6_shows_47 : decode cX6_shows 47 = .ok (.aload 4, 2) := by decide +kernel
theorem dX6_shows_49 : decode cX6_shows 49 = .ok (.getfield 76, 3) := by decide +kernel
theorem dX6_shows_52 : decode cX6_shows 52 = .ok (.invokestatic 60, 3) := by decide +kernel
theorem dX6_shows_55 : decode cX6_shows 55 = .ok (.ifCond .ne 5, 3) := by decide +kernel
theorem dX6_shows_58 : decode cX6_shows 58 = .ok (.iconst (-1), 1) := by decide +kernel
theorem dX6_shows_59 : decode cX6_shows 59 = .ok (.ireturn, 1) := by decide +kernel
theorem dX6_shows_60 : decode cX6_shows 60 = .ok (.aload 4, 2) := by decide +kernel
theorem dX6_shows_62 : decode cX6_shows 62 = .ok (.getfield 86, 3) := by decide +kernel
theorem dX6_shows_65 : decode cX6_shows 65 = .ok (.iload 5, 2) := by decide +kernel
theorem dX6_shows_67 : decode cX6_shows 67 = .ok (.aaload, 1) := by decide +kernel
theorem dX6_shows_68 : decode cX6_shows 68 = .ok (.astore 6, 2) := by decide +kernel
theorem dX6_shows_70 : decode cX6_shows 70 = .ok (.aload 6, 2) := by decide +kernel
theorem dX6_shows_72 : decode cX6_shows 72 = .ok (.iload_n 2, 1) := by decide +kernel
theorem dX6_shows_73 : decode cX6_shows 73 = .ok (.aload 4, 2) := by decide +kernel
theorem dX6_shows_75 : decode cX6_shows 75 = .ok (.iload 5, 2) := by decide +kernel
theorem dX6_shows_77 : decode cX6_shows 77 = .ok (.invokevirtual 140, 3) := by decide +kernel
theorem dX6_shows_80 : decode cX6_shows 80 = .ok (.isub, 1) := by decide +kernel
theorem dX6_shows_81 : decode cX6_shows 81 = .ok (.invokevirtual 153, 3) := by decide +kernel
theorem dX6_shows_84 : decode cX6_shows 84 = .ok (.istore 7, 2) := by decide +kernel
theorem dX6_shows_86 : decode cX6_shows 86 = .ok (.iload_n 3, 1) := by decide +kernel
theorem dX6_shows_87 : decode cX6_shows 87 = .ok (.tableswitch 37 0 2 #[25, 28, 34], 25) := by decide +kernel
theorem dX6_shows_112 : decode cX6_shows 112 = .ok (.iload 5, 2) := by decide +kernel
theorem dX6_shows_114 : decode cX6_shows 114 = .ok (.ireturn, 1) := by decide +kernel
theorem dX6_shows_115 : decode cX6_shows 115 = .ok (.aload 6, 2) := by decide +kernel
theorem dX6_shows_117 : decode cX6_shows 117 = .ok (.getfield 125, 3) := by decide +kernel
theorem dX6_shows_120 : decode cX6_shows 120 = .ok (.ireturn, 1) := by decide +kernel
theorem dX6_shows_121 : decode cX6_shows 121 = .ok (.iload 7, 2) := by decide +kernel
theorem dX6_shows_123 : decode cX6_shows 123 = .ok (.ireturn, 1) := by decide +kernel
theorem dX6_shows_124 : decode cX6_shows 124 = .ok (.iload 7, 2) := by decide +kernel
theorem dX6_shows_126 : decode cX6_shows 126 = .ok (.aload_n 0, 1) := by decide +kernel
theorem dX6_shows_127 : decode cX6_shows 127 = .ok (.aload 6, 2) := by decide +kernel
theorem dX6_shows_129 : decode cX6_shows 129 = .ok (.getfield 125, 3) := by decide +kernel
theorem dX6_shows_132 : decode cX6_shows 132 = .ok (.invokevirtual 156, 3) := by decide +kernel
theorem dX6_shows_135 : decode cX6_shows 135 = .ok (.if_icmp .ge 7, 3) := by decide +kernel
theorem dX6_shows_138 : decode cX6_shows 138 = .ok (.iconst 0, 1) := by decide +kernel
theorem dX6_shows_139 : decode cX6_shows 139 = .ok (.goto 4, 3) := by decide +kernel
theorem dX6_shows_142 : decode cX6_shows 142 = .ok (.iconst 1, 1) := by decide +kernel
theorem dX6_shows_143 : decode cX6_shows 143 = .ok (.ireturn, 1) := by decide +kernel
theorem dX6_seen_0 : decode cX6_seen 0 = .ok (.iload_n 1, 1) := by decide +kernel
theorem dX6_seen_1 : decode cX6_seen 1 = .ok (.iconst 2, 1) := by decide +kernel
theorem dX6_seen_2 : decode cX6_seen 2 = .ok (.invokestatic 60, 3) := by decide +kernel
theorem dX6_seen_5 : decode cX6_seen 5 = .ok (.ifCond .eq 30, 3) := by decide +kernel
theorem dX6_seen_8 : decode cX6_seen 8 = .ok (.iload_n 2, 1) := by decide +kernel
theorem dX6_seen_9 : decode cX6_seen 9 = .ok (.bipush 6, 2) := by decide +kernel
theorem dX6_seen_11 : decode cX6_seen 11 = .ok (.invokestatic 60, 3) := by decide +kernel
theorem dX6_seen_14 : decode cX6_seen 14 = .ok (.ifCond .eq 21, 3) := by decide +kernel
theorem dX6_seen_17 : decode cX6_seen 17 = .ok (.iload_n 3, 1) := by decide +kernel
theorem dX6_seen_18 : decode cX6_seen 18 = .ok (.ldc 159, 2) := by decide +kernel
theorem dX6_seen_20 : decode cX6_seen 20 = .ok (.invokestatic 60, 3) := by decide +kernel
theorem dX6_seen_23 : decode cX6_seen 23 = .ok (.ifCond .eq 12, 3) := by decide +kernel
theorem dX6_seen_26 : decode cX6_seen 26 = .ok (.iload 4, 2) := by decide +kernel
theorem dX6_seen_28 : decode cX6_seen 28 = .ok (.iconst 2, 1) := by decide +kernel
theorem dX6_seen_29 : decode cX6_seen 29 = .ok (.invokestatic 60, 3) := by decide +kernel
theorem dX6_seen_32 : decode cX6_seen 32 = .ok (.ifCond .ne 6, 3) := by decide +kernel
theorem dX6_seen_35 : decode cX6_seen 35 = .ok (.bipush (-2), 2) := by decide +kernel
theorem dX6_seen_37 : decode cX6_seen 37 = .ok (.ireturn, 1) := by decide +kernel
theorem dX6_seen_38 : decode cX6_seen 38 = .ok (.iload 4, 2) := by decide +kernel
theorem dX6_seen_40 : decode cX6_seen 40 = .ok (.ifCond .ne 17, 3) := by decide +kernel
theorem dX6_seen_43 : decode cX6_seen 43 = .ok (.aload_n 0, 1) := by decide +kernel
theorem dX6_seen_44 : decode cX6_seen 44 = .ok (.getfield 11, 3) := by decide +kernel
theorem dX6_seen_47 : decode cX6_seen 47 = .ok (.iload_n 1, 1) := by decide +kernel
theorem dX6_seen_48 : decode cX6_seen 48 = .ok (.aaload, 1) := by decide +kernel
theorem dX6_seen_49 : decode cX6_seen 49 = .ok (.iload_n 2, 1) := by decide +kernel
theorem dX6_seen_50 : decode cX6_seen 50 = .ok (.iload_n 3, 1) := by decide +kernel
theorem dX6_seen_51 : decode cX6_seen 51 = .ok (.invokevirtual 160, 3) := by decide +kernel
theorem dX6_seen_54 : decode cX6_seen 54 = .ok (.goto 14, 3) := by decide +kernel
theorem dX6_seen_57 : decode cX6_seen 57 = .ok (.aload_n 0, 1) := by decide +kernel
theorem dX6_seen_58 : decode cX6_seen 58 = .ok (.getfield 11, 3) := by decide +kernel
theorem dX6_seen_61 : decode cX6_seen 61 = .ok (.iload_n 1, 1) := by decide +kernel
theorem dX6_seen_62 : decode cX6_seen 62 = .ok (.aaload, 1) := by decide +kernel
theorem dX6_seen_63 : decode cX6_seen 63 = .ok (.iload_n 2, 1) := by decide +kernel
theorem dX6_seen_64 : decode cX6_seen 64 = .ok (.iload_n 3, 1) := by decide +kernel
theorem dX6_seen_65 : decode cX6_seen 65 = .ok (.invokevirtual 164, 3) := by decide +kernel
theorem dX6_seen_68 : decode cX6_seen 68 = .ok (.ireturn, 1) := by decide +kernel
theorem dX6_still_0 : decode cX6_still 0 = .ok (.aload_n 0, 1) := by decide +kernel
theorem dX6_still_1 : decode cX6_still 1 = .ok (.iload_n 1, 1) := by decide +kernel
theorem dX6_still_2 : decode cX6_still 2 = .ok (.iload_n 2, 1) := by decide +kernel
theorem dX6_still_3 : decode cX6_still 3 = .ok (.invokevirtual 80, 3) := by decide +kernel
theorem dX6_still_6 : decode cX6_still 6 = .ok (.ifCond .eq 11, 3) := by decide +kernel
theorem dX6_still_9 : decode cX6_still 9 = .ok (.iload_n 3, 1) := by decide +kernel
theorem dX6_still_10 : decode cX6_still 10 = .ok (.iconst 2, 1) := by decide +kernel
theorem dX6_still_11 : decode cX6_still 11 = .ok (.invokestatic 60, 3) := by decide +kernel
theorem dX6_still_14 : decode cX6_still 14 = .ok (.ifCond .ne 6, 3) := by decide +kernel
theorem dX6_still_17 : decode cX6_still 17 = .ok (.bipush (-2), 2) := by decide +kernel
theorem dX6_still_19 : decode cX6_still 19 = .ok (.ireturn, 1) := by decide +kernel
theorem dX6_still_20 : decode cX6_still 20 = .ok (.aload_n 0, 1) := by decide +kernel
theorem dX6_still_21 : decode cX6_still 21 = .ok (.getfield 11, 3) := by decide +kernel
theorem dX6_still_24 : decode cX6_still 24 = .ok (.iload_n 1, 1) := by decide +kernel
theorem dX6_still_25 : decode cX6_still 25 = .ok (.aaload, 1) := by decide +kernel
theorem dX6_still_26 : decode cX6_still 26 = .ok (.getfield 86, 3) := by decide +kernel
theorem dX6_still_29 : decode cX6_still 29 = .ok (.iload_n 2, 1) := by decide +kernel
theorem dX6_still_30 : decode cX6_still 30 = .ok (.aaload, 1) := by decide +kernel
theorem dX6_still_31 : decode cX6_still 31 = .ok (.astore 4, 2) := by decide +kernel
theorem dX6_still_33 : decode cX6_still 33 = .ok (.iload_n 3, 1) := by decide +kernel
theorem dX6_still_34 : decode cX6_still 34 = .ok (.ifCond .ne 11, 3) := by decide +kernel
theorem dX6_still_37 : decode cX6_still 37 = .ok (.aload 4, 2) := by decide +kernel
theorem dX6_still_39 : decode cX6_still 39 = .ok (.getfield 131, 3) := by decide +kernel
theorem dX6_still_42 : decode cX6_still 42 = .ok (.goto 8, 3) := by decide +kernel
theorem dX6_still_45 : decode cX6_still 45 = .ok (.aload 4, 2) := by decide +kernel
theorem dX6_still_47 : decode cX6_still 47 = .ok (.invokevirtual 167, 3) := by decide +kernel
theorem dX6_still_50 : decode cX6_still 50 = .ok (.aload 4, 2) := by decide +kernel
theorem dX6_still_52 : decode cX6_still 52 = .ok (.invokevirtual 170, 3) := by decide +kernel
theorem dX6_still_55 : decode cX6_still 55 = .ok (.isub, 1) := by decide +kernel
theorem dX6_still_56 : decode cX6_still 56 = .ok (.ireturn, 1) := by decide +kernel
theorem dX6_lengthOf_0 : decode cX6_lengthOf 0 = .ok (.iload_n 1, 1) := by decide +kernel
theorem dX6_lengthOf_1 : decode cX6_lengthOf 1 = .ok (.bipush 6, 2) := by decide +kernel
theorem dX6_lengthOf_3 : decode cX6_lengthOf 3 = .ok (.invokestatic 60, 3) := by decide +kernel
theorem dX6_lengthOf_6 : decode cX6_lengthOf 6 = .ok (.ifCond .eq 12, 3) := by decide +kernel
theorem dX6_lengthOf_9 : decode cX6_lengthOf 9 = .ok (.aload_n 0, 1) := by decide +kernel
theorem dX6_lengthOf_10 : decode cX6_lengthOf 10 = .ok (.getfield 15, 3) := by decide +kernel
theorem dX6_lengthOf_13 : decode cX6_lengthOf 13 = .ok (.iload_n 1, 1) := by decide +kernel
theorem dX6_lengthOf_14 : decode cX6_lengthOf 14 = .ok (.iaload, 1) := by decide +kernel
theorem dX6_lengthOf_15 : decode cX6_lengthOf 15 = .ok (.goto 4, 3) := by decide +kernel
theorem dX6_lengthOf_18 : decode cX6_lengthOf 18 = .ok (.iconst 0, 1) := by decide +kernel
theorem dX6_lengthOf_19 : decode cX6_lengthOf 19 = .ok (.ireturn, 1) := by decide +kernel
theorem dX6_told_0 : decode cX6_told 0 = .ok (.iload_n 1, 1) := by decide +kernel
theorem dX6_told_1 : decode cX6_told 1 = .ok (.ldc 173, 2) := by decide +kernel
theorem dX6_told_3 : decode cX6_told 3 = .ok (.invokestatic 60, 3) := by decide +kernel
theorem dX6_told_6 : decode cX6_told 6 = .ok (.ifCond .eq 11, 3) := by decide +kernel
theorem dX6_told_9 : decode cX6_told 9 = .ok (.iload_n 2, 1) := by decide +kernel
theorem dX6_told_10 : decode cX6_told 10 = .ok (.iconst 4, 1) := by decide +kernel
theorem dX6_told_11 : decode cX6_told 11 = .ok (.invokestatic 60, 3) := by decide +kernel
theorem dX6_told_14 : decode cX6_told 14 = .ok (.ifCond .ne 6, 3) := by decide +kernel
theorem dX6_told_17 : decode cX6_told 17 = .ok (.bipush (-2), 2) := by decide +kernel
theorem dX6_told_19 : decode cX6_told 19 = .ok (.ireturn, 1) := by decide +kernel
theorem dX6_told_20 : decode cX6_told 20 = .ok (.iload_n 1, 1) := by decide +kernel
theorem dX6_told_21 : decode cX6_told 21 = .ok (.aload_n 0, 1) := by decide +kernel
theorem dX6_told_22 : decode cX6_told 22 = .ok (.getfield 22, 3) := by decide +kernel
theorem dX6_told_25 : decode cX6_told 25 = .ok (.iconst 0, 1) := by decide +kernel
theorem dX6_told_26 : decode cX6_told 26 = .ok (.iaload, 1) := by decide +kernel
theorem dX6_told_27 : decode cX6_told 27 = .ok (.iload_n 2, 1) := by decide +kernel
theorem dX6_told_28 : decode cX6_told 28 = .ok (.invokestatic 174, 3) := by decide +kernel
theorem dX6_told_31 : decode cX6_told 31 = .ok (.ireturn, 1) := by decide +kernel
theorem dX6_number_0 : decode cX6_number 0 = .ok (.aload_n 0, 1) := by decide +kernel
theorem dX6_number_1 : decode cX6_number 1 = .ok (.getfield 22, 3) := by decide +kernel
theorem dX6_number_4 : decode cX6_number 4 = .ok (.iconst 0, 1) := by decide +kernel
theorem dX6_number_5 : decode cX6_number 5 = .ok (.iaload, 1) := by decide +kernel
theorem dX6_number_6 : decode cX6_number 6 = .ok (.istore 5, 2) := by decide +kernel
theorem dX6_number_8 : decode cX6_number 8 = .ok (.iload_n 1, 1) := by decide +kernel
theorem dX6_number_9 : decode cX6_number 9 = .ok (.bipush 100, 2) := by decide +kernel
theorem dX6_number_11 : decode cX6_number 11 = .ok (.invokestatic 60, 3) := by decide +kernel
theorem dX6_number_14 : decode cX6_number 14 = .ok (.ifCond .eq 34, 3) := by decide +kernel
theorem dX6_number_17 : decode cX6_number 17 = .ok (.iload_n 2, 1) := by decide +kernel
theorem dX6_number_18 : decode cX6_number 18 = .ok (.bipush 60, 2) := by decide +kernel
theorem dX6_number_20 : decode cX6_number 20 = .ok (.invokestatic 60, 3) := by decide +kernel
theorem dX6_number_23 : decode cX6_number 23 = .ok (.ifCond .eq 25, 3) := by decide +kernel
theorem dX6_number_26 : decode cX6_number 26 = .ok (.iload_n 3, 1) := by decide +kernel
theorem dX6_number_27 : decode cX6_number 27 = .ok (.bipush 60, 2) := by decide +kernel
theorem dX6_number_29 : decode cX6_number 29 = .ok (.invokestatic 60, 3) := by decide +kernel
theorem dX6_number_32 : decode cX6_number 32 = .ok (.ifCond .eq 16, 3) := by decide +kernel
theorem dX6_number_35 : decode cX6_number 35 = .ok (.iload 4, 2) := by decide +kernel
theorem dX6_number_37 : decode cX6_number 37 = .ok (.iload 5, 2) := by decide +kernel
theorem dX6_number_39 : decode cX6_number 39 = .ok (.invokestatic 179, 3) := by decide +kernel
theorem dX6_number_42 : decode cX6_number 42 = .ok (.invokestatic 60, 3) := by decide +kernel
theorem dX6_number_45 : decode cX6_number 45 = .ok (.ifCond .ne 6, 3) := by decide +kernel
theorem dX6_number_48 : decode cX6_number 48 = .ok (.bipush (-2), 2) := by decide +kernel
theorem dX6_number_50 : decode cX6_number 50 = .ok (.ireturn, 1) := by decide +kernel
theorem dX6_number_51 : decode cX6_number 51 = .ok (.iload 5, 2) := by decide +kernel
theorem dX6_number_53 : decode cX6_number 53 = .ok (.ifCond .ne 16, 3) := by decide +kernel
theorem dX6_number_56 : decode cX6_number 56 = .ok (.iload_n 2, 1) := by decide +kernel
theorem dX6_number_57 : decode cX6_number 57 = .ok (.iload_n 3, 1) := by decide +kernel
theorem dX6_number_58 : decode cX6_number 58 = .ok (.iload 4, 2) := by decide +kernel
theorem dX6_number_60 : decode cX6_number 60 = .ok (.invokestatic 182, 3) := by decide +kernel
theorem dX6_number_63 : decode cX6_number 63 = .ok (.ifCond .eq 6, 3) := by decide +kernel
theorem dX6_number_66 : decode cX6_number 66 = .ok (.bipush (-3), 2) := by decide +kernel
theorem dX6_number_68 : decode cX6_number 68 = .ok (.ireturn, 1) := by decide +kernel
theorem dX6_number_69 : decode cX6_number 69 = .ok (.iload_n 1, 1) := by decide +kernel
theorem dX6_number_70 : decode cX6_number 70 = .ok (.bipush 60, 2) := by decide +kernel
theorem dX6_number_72 : decode cX6_number 72 = .ok (.imul, 1) := by decide +kernel
theorem dX6_number_73 : decode cX6_number 73 = .ok (.iload_n 2, 1) := by decide +kernel
theorem dX6_number_74 : decode cX6_number 74 = .ok (.iadd, 1) := by decide +kernel
theorem dX6_number_75 : decode cX6_number 75 = .ok (.iload_n 3, 1) := by decide +kernel
theorem dX6_number_76 : decode cX6_number 76 = .ok (.iload 4, 2) := by decide +kernel
theorem dX6_number_78 : decode cX6_number 78 = .ok (.iload 5, 2) := by decide +kernel
theorem dX6_number_80 : decode cX6_number 80 = .ok (.invokestatic 186, 3) := by decide +kernel
theorem dX6_number_83 : decode cX6_number 83 = .ok (.ireturn, 1) := by decide +kernel
theorem dX6_pulls_0 : decode cX6_pulls 0 = .ok (.iload_n 1, 1) := by decide +kernel
theorem dX6_pulls_1 : decode cX6_pulls 1 = .ok (.iconst 2, 1) := by decide +kernel
theorem dX6_pulls_2 : decode cX6_pulls 2 = .ok (.invokestatic 60, 3) := by decide +kernel
theorem dX6_pulls_5 : decode cX6_pulls 5 = .ok (.ifCond .eq 15, 3) := by decide +kernel
theorem dX6_pulls_8 : decode cX6_pulls 8 = .ok (.aload_n 0, 1) := by decide +kernel
theorem dX6_pulls_9 : decode cX6_pulls 9 = .ok (.iload_n 1, 1) := by decide +kernel
theorem dX6_pulls_10 : decode cX6_pulls 10 = .ok (.iconst (-1), 1) := by decide +kernel
theorem dX6_pulls_11 : decode cX6_pulls 11 = .ok (.invokevirtual 190, 3) := by decide +kernel
theorem dX6_pulls_14 : decode cX6_pulls 14 = .ok (.getfield 194, 3) := by decide +kernel
theorem dX6_pulls_17 : decode cX6_pulls 17 = .ok (.goto 5, 3) := by decide +kernel
theorem dX6_pulls_20 : decode cX6_pulls 20 = .ok (.bipush (-2), 2) := by decide +kernel
theorem dX6_pulls_22 : decode cX6_pulls 22 = .ok (.ireturn, 1) := by decide +kernel
theorem dX6_pull_0 : decode cX6_pull 0 = .ok (.iload_n 1, 1) := by decide +kernel
theorem dX6_pull_1 : decode cX6_pull 1 = .ok (.iconst 2, 1) := by decide +kernel
theorem dX6_pull_2 : decode cX6_pull 2 = .ok (.invokestatic 60, 3) := by decide +kernel
theorem dX6_pull_5 : decode cX6_pull 5 = .ok (.ifCond .eq 20, 3) := by decide +kernel
theorem dX6_pull_8 : decode cX6_pull 8 = .ok (.iload_n 2, 1) := by decide +kernel
theorem dX6_pull_9 : decode cX6_pull 9 = .ok (.bipush 8, 2) := by decide +kernel
theorem dX6_pull_11 : decode cX6_pull 11 = .ok (.invokestatic 60, 3) := by decide +kernel
theorem dX6_pull_14 : decode cX6_pull 14 = .ok (.ifCond .eq 11, 3) := by decide +kernel
theorem dX6_pull_17 : decode cX6_pull 17 = .ok (.iload_n 3, 1) := by decide +kernel
theorem dX6_pull_18 : decode cX6_pull 18 = .ok (.iconst 5, 1) := by decide +kernel
theorem dX6_pull_19 : decode cX6_pull 19 = .ok (.invokestatic 60, 3) := by decide +kernel
theorem dX6_pull_22 : decode cX6_pull 22 = .ok (.ifCond .ne 6, 3) := by decide +kernel
theorem dX6_pull_25 : decode cX6_pull 25 = .ok (.bipush (-2), 2) := by decide +kernel
theorem dX6_pull_27 : decode cX6_pull 27 = .ok (.ireturn, 1) := by decide +kernel
theorem dX6_pull_28 : decode cX6_pull 28 = .ok (.aload_n 0, 1) := by decide +kernel
theorem dX6_pull_29 : decode cX6_pull 29 = .ok (.iload_n 1, 1) := by decide +kernel
theorem dX6_pull_30 : decode cX6_pull 30 = .ok (.iconst (-1), 1) := by decide +kernel
theorem dX6_pull_31 : decode cX6_pull 31 = .ok (.invokevirtual 190, 3) := by decide +kernel
theorem dX6_pull_34 : decode cX6_pull 34 = .ok (.astore 4, 2) := by decide +kernel
theorem dX6_pull_36 : decode cX6_pull 36 = .ok (.iload_n 2, 1) := by decide +kernel
theorem dX6_pull_37 : decode cX6_pull 37 = .ok (.aload 4, 2) := by decide +kernel
theorem dX6_pull_39 : decode cX6_pull 39 = .ok (.getfield 194, 3) := by decide +kernel
theorem dX6_pull_42 : decode cX6_pull 42 = .ok (.invokestatic 60, 3) := by decide +kernel
theorem dX6_pull_45 : decode cX6_pull 45 = .ok (.ifCond .ne 5, 3) := by decide +kernel
theorem dX6_pull_48 : decode cX6_pull 48 = .ok (.iconst (-1), 1) := by decide +kernel
theorem dX6_pull_49 : decode cX6_pull 49 = .ok (.ireturn, 1) := by decide +kernel
theorem dX6_pull_50 : decode cX6_pull 50 = .ok (.iload_n 3, 1) := by decide +kernel
theorem dX6_pull_51 : decode cX6_pull 51 = .ok (.tableswitch 61 0 3 #[29, 37, 45, 53], 29) := by decide +kernel
theorem dX6_pull_80 : decode cX6_pull 80 = .ok (.aload 4, 2) := by decide +kernel
theorem dX6_pull_82 : decode cX6_pull 82 = .ok (.getfield 195, 3) := by decide +kernel
theorem dX6_pull_85 : decode cX6_pull 85 = .ok (.iload_n 2, 1) := by decide +kernel
theorem dX6_pull_86 : decode cX6_pull 86 = .ok (.iaload, 1) := by decide +kernel
theorem dX6_pull_87 : decode cX6_pull 87 = .ok (.ireturn, 1) := by decide +kernel
theorem dX6_pull_88 : decode cX6_pull 88 = .ok (.aload 4, 2) := by decide +kernel
theorem dX6_pull_90 : decode cX6_pull 90 = .ok (.getfield 198, 3) := by decide +kernel
theorem dX6_pull_93 : decode cX6_pull 93 = .ok (.iload_n 2, 1) := by decide +kernel
theorem dX6_pull_94 : decode cX6_pull 94 = .ok (.iaload, 1) := by decide +kernel
theorem dX6_pull_95 : decode cX6_pull 95 = .ok (.ireturn, 1) := by decide +kernel
theorem dX6_pull_96 : decode cX6_pull 96 = .ok (.aload 4, 2) := by decide +kernel
theorem dX6_pull_98 : decode cX6_pull 98 = .ok (.getfield 201, 3) := by decide +kernel
theorem dX6_pull_101 : decode cX6_pull 101 = .ok (.iload_n 2, 1) := by decide +kernel
theorem dX6_pull_102 : decode cX6_pull 102 = .ok (.iaload, 1) := by decide +kernel
theorem dX6_pull_103 : decode cX6_pull 103 = .ok (.ireturn, 1) := by decide +kernel
theorem dX6_pull_104 : decode cX6_pull 104 = .ok (.aload 4, 2) := by decide +kernel
theorem dX6_pull_106 : decode cX6_pull 106 = .ok (.getfield 204, 3) := by decide +kernel
theorem dX6_pull_109 : decode cX6_pull 109 = .ok (.iload_n 2, 1) := by decide +kernel
theorem dX6_pull_110 : decode cX6_pull 110 = .ok (.iaload, 1) := by decide +kernel
theorem dX6_pull_111 : decode cX6_pull 111 = .ok (.ireturn, 1) := by decide +kernel
theorem dX6_pull_112 : decode cX6_pull 112 = .ok (.aload_n 0, 1) := by decide +kernel
theorem dX6_pull_113 : decode cX6_pull 113 = .ok (.aload 4, 2) := by decide +kernel
theorem dX6_pull_115 : decode cX6_pull 115 = .ok (.iload_n 2, 1) := by decide +kernel
theorem dX6_pull_116 : decode cX6_pull 116 = .ok (.invokevirtual 207, 3) := by decide +kernel
theorem dX6_pull_119 : decode cX6_pull 119 = .ok (.ireturn, 1) := by decide +kernel
theorem dX6_waste_0 : decode cX6_waste 0 = .ok (.iload_n 1, 1) := by decide +kernel
theorem dX6_waste_1 : decode cX6_waste 1 = .ok (.iconst 2, 1) := by decide +kernel
theorem dX6_waste_2 : decode cX6_waste 2 = .ok (.invokestatic 60, 3) := by decide +kernel
theorem dX6_waste_5 : decode cX6_waste 5 = .ok (.ifCond .eq 25, 3) := by decide +kernel
theorem dX6_waste_8 : decode cX6_waste 8 = .ok (.aload_n 0, 1) := by decide +kernel
theorem dX6_waste_9 : decode cX6_waste 9 = .ok (.iload_n 1, 1) := by decide +kernel
theorem dX6_waste_10 : decode cX6_waste 10 = .ok (.iconst (-1), 1) := by decide +kernel
theorem dX6_waste_11 : decode cX6_waste 11 = .ok (.invokevirtual 190, 3) := by decide +kernel
theorem dX6_waste_14 : decode cX6_waste 14 = .ok (.invokevirtual 211, 3) := by decide +kernel
theorem dX6_waste_17 : decode cX6_waste 17 = .ok (.aload_n 0, 1) := by decide +kernel
theorem dX6_waste_18 : decode cX6_waste 18 = .ok (.getfield 11, 3) := by decide +kernel
theorem dX6_waste_21 : decode cX6_waste 21 = .ok (.iload_n 1, 1) := by decide +kernel
theorem dX6_waste_22 : decode cX6_waste 22 = .ok (.aaload, 1) := by decide +kernel
theorem dX6_waste_23 : decode cX6_waste 23 = .ok (.invokevirtual 214, 3) := by decide +kernel
theorem dX6_waste_26 : decode cX6_waste 26 = .ok (.isub, 1) := by decide +kernel
theorem dX6_waste_27 : decode cX6_waste 27 = .ok (.goto 5, 3) := by decide +kernel
theorem dX6_waste_30 : decode cX6_waste 30 = .ok (.bipush (-2), 2) := by decide +kernel
theorem dX6_waste_32 : decode cX6_waste 32 = .ok (.ireturn, 1) := by decide +kernel
theorem dX6_total_0 : decode cX6_total 0 = .ok (.iload_n 1, 1) := by decide +kernel
theorem dX6_total_1 : decode cX6_total 1 = .ok (.iconst 2, 1) := by decide +kernel
theorem dX6_total_2 : decode cX6_total 2 = .ok (.invokestatic 60, 3) := by decide +kernel
theorem dX6_total_5 : decode cX6_total 5 = .ok (.ifCond .ne 6, 3) := by decide +kernel
theorem dX6_total_8 : decode cX6_total 8 = .ok (.bipush (-2), 2) := by decide +kernel
theorem dX6_total_10 : decode cX6_total 10 = .ok (.ireturn, 1) := by decide +kernel
theorem dX6_total_11 : decode cX6_total 11 = .ok (.iload_n 2, 1) := by decide +kernel
theorem dX6_total_12 : decode cX6_total 12 = .ok (.tableswitch 59 0 2 #[28, 38, 48], 28) := by decide +kernel
theorem dX6_total_40 : decode cX6_total 40 = .ok (.aload_n 0, 1) := by decide +kernel
theorem dX6_total_41 : decode cX6_total 41 = .ok (.iload_n 1, 1) := by decide +kernel
theorem dX6_total_42 : decode cX6_total 42 = .ok (.iconst (-1), 1) := by decide +kernel
theorem dX6_total_43 : decode cX6_total 43 = .ok (.invokevirtual 190, 3) := by decide +kernel
theorem dX6_total_46 : decode cX6_total 46 = .ok (.invokevirtual 211, 3) := by decide +kernel
theorem dX6_total_49 : decode cX6_total 49 = .ok (.ireturn, 1) := by decide +kernel
theorem dX6_total_50 : decode cX6_total 50 = .ok (.aload_n 0, 1) := by decide +kernel
theorem dX6_total_51 : decode cX6_total 51 = .ok (.getfield 11, 3) := by decide +kernel
theorem dX6_total_54 : decode cX6_total 54 = .ok (.iload_n 1, 1) := by decide +kernel
theorem dX6_total_55 : decode cX6_total 55 = .ok (.aaload, 1) := by decide +kernel
theorem dX6_total_56 : decode cX6_total 56 = .ok (.invokevirtual 217, 3) := by decide +kernel
theorem dX6_total_59 : decode cX6_total 59 = .ok (.ireturn, 1) := by decide +kernel
theorem dX6_total_60 : decode cX6_total 60 = .ok (.aload_n 0, 1) := by decide +kernel
theorem dX6_total_61 : decode cX6_total 61 = .ok (.aload_n 0, 1) := by decide +kernel
theorem dX6_total_62 : decode cX6_total 62 = .ok (.iload_n 1, 1) := by decide +kernel
theorem dX6_total_63 : decode cX6_total 63 = .ok (.iconst (-1), 1) := by decide +kernel
theorem dX6_total_64 : decode cX6_total 64 = .ok (.invokevirtual 190, 3) := by decide +kernel
theorem dX6_total_67 : decode cX6_total 67 = .ok (.invokevirtual 218, 3) := by decide +kernel
theorem dX6_total_70 : decode cX6_total 70 = .ok (.ireturn, 1) := by decide +kernel
theorem dX6_total_71 : decode cX6_total 71 = .ok (.bipush (-2), 2) := by decide +kernel
theorem dX6_total_73 : decode cX6_total 73 = .ok (.ireturn, 1) := by decide +kernel
theorem dX6_lackingOfAll_0 : decode cX6_lackingOfAll 0 = .ok (.iconst 0, 1) := by decide +kernel
theorem dX6_lackingOfAll_1 : decode cX6_lackingOfAll 1 = .ok (.istore_n 2, 1) := by decide +kernel
theorem dX6_lackingOfAll_2 : decode cX6_lackingOfAll 2 = .ok (.iconst 0, 1) := by decide +kernel
theorem dX6_lackingOfAll_3 : decode cX6_lackingOfAll 3 = .ok (.istore_n 3, 1) := by decide +kernel
theorem dX6_lackingOfAll_4 : decode cX6_lackingOfAll 4 = .ok (.iload_n 3, 1) := by decide +kernel
theorem dX6_lackingOfAll_5 : decode cX6_lackingOfAll 5 = .ok (.aload_n 1, 1) := by decide +kernel
theorem dX6_lackingOfAll_6 : decode cX6_lackingOfAll 6 = .ok (.getfield 194, 3) := by decide +kernel
theorem dX6_lackingOfAll_9 : decode cX6_lackingOfAll 9 = .ok (.if_icmp .ge 18, 3) := by decide +kernel
theorem dX6_lackingOfAll_12 : decode cX6_lackingOfAll 12 = .ok (.iload_n 2, 1) := by decide +kernel
theorem dX6_lackingOfAll_13 : decode cX6_lackingOfAll 13 = .ok (.aload_n 0, 1) := by decide +kernel
theorem dX6_lackingOfAll_14 : decode cX6_lackingOfAll 14 = .ok (.aload_n 1, 1) := by decide +kernel
theorem dX6_lackingOfAll_15 : decode cX6_lackingOfAll 15 = .ok (.iload_n 3, 1) := by decide +kernel
theorem dX6_lackingOfAll_16 : decode cX6_lackingOfAll 16 = .ok (.invokevirtual 207, 3) := by decide +kernel
theorem dX6_lackingOfAll_19 : decode cX6_lackingOfAll 19 = .ok (.iadd, 1) := by decide +kernel
theorem dX6_lackingOfAll_20 : decode cX6_lackingOfAll 20 = .ok (.istore_n 2, 1) := by decide +kernel
theorem dX6_lackingOfAll_21 : decode cX6_lackingOfAll 21 = .ok (.iinc 3 1, 3) := by decide +kernel
theorem dX6_lackingOfAll_24 : decode cX6_lackingOfAll 24 = .ok (.goto (-20), 3) := by decide +kernel
theorem dX6_lackingOfAll_27 : decode cX6_lackingOfAll 27 = .ok (.iload_n 2, 1) := by decide +kernel
theorem dX6_lackingOfAll_28 : decode cX6_lackingOfAll 28 = .ok (.ireturn, 1) := by decide +kernel
theorem dX6_lacking_0 : decode cX6_lacking 0 = .ok (.iload_n 2, 1) := by decide +kernel
theorem dX6_lacking_1 : decode cX6_lacking 1 = .ok (.aload_n 1, 1) := by decide +kernel
theorem dX6_lacking_2 : decode cX6_lacking 2 = .ok (.getfield 194, 3) := by decide +kernel
theorem dX6_lacking_5 : decode cX6_lacking 5 = .ok (.invokestatic 60, 3) := by decide +kernel
theorem dX6_lacking_8 : decode cX6_lacking 8 = .ok (.ifCond .ne 5, 3) := by decide +kernel
theorem dX6_lacking_11 : decode cX6_lacking 11 = .ok (.iconst 0, 1) := by decide +kernel
theorem dX6_lacking_12 : decode cX6_lacking 12 = .ok (.ireturn, 1) := by decide +kernel
theorem dX6_lacking_13 : decode cX6_lacking 13 = .ok (.aload_n 1, 1) := by decide +kernel
theorem dX6_lacking_14 : decode cX6_lacking 14 = .ok (.getfield 198, 3) := by decide +kernel
theorem dX6_lacking_17 : decode cX6_lacking 17 = .ok (.iload_n 2, 1) := by decide +kernel
theorem dX6_lacking_18 : decode cX6_lacking 18 = .ok (.iaload, 1) := by decide +kernel
theorem dX6_lacking_19 : decode cX6_lacking 19 = .ok (.aload_n 0, 1) := by decide +kernel
theorem dX6_lacking_20 : decode cX6_lacking 20 = .ok (.aload_n 1, 1) := by decide +kernel
theorem dX6_lacking_21 : decode cX6_lacking 21 = .ok (.getfield 195, 3) := by decide +kernel
theorem dX6_lacking_24 : decode cX6_lacking 24 = .ok (.iload_n 2, 1) := by decide +kernel
theorem dX6_lacking_25 : decode cX6_lacking 25 = .ok (.iaload, 1) := by decide +kernel
theorem dX6_lacking_26 : decode cX6_lacking 26 = .ok (.invokevirtual 156, 3) := by decide +kernel
theorem dX6_lacking_29 : decode cX6_lacking 29 = .ok (.invokestatic 222, 3) := by decide +kernel
theorem dX6_lacking_32 : decode cX6_lacking 32 = .ok (.istore_n 3, 1) := by decide +kernel
theorem dX6_lacking_33 : decode cX6_lacking 33 = .ok (.iconst 0, 1) := by decide +kernel
theorem dX6_lacking_34 : decode cX6_lacking 34 = .ok (.aload_n 1, 1) := by decide +kernel
theorem dX6_lacking_35 : decode cX6_lacking 35 = .ok (.getfield 201, 3) := by decide +kernel
theorem dX6_lacking_38 : decode cX6_lacking 38 = .ok (.iload_n 2, 1) := by decide +kernel
theorem dX6_lacking_39 : decode cX6_lacking 39 = .ok (.iaload, 1) := by decide +kernel
theorem dX6_lacking_40 : decode cX6_lacking 40 = .ok (.iload_n 3, 1) := by decide +kernel
theorem dX6_lacking_41 : decode cX6_lacking 41 = .ok (.isub, 1) := by decide +kernel
theorem dX6_lacking_42 : decode cX6_lacking 42 = .ok (.iconst 1, 1) := by decide +kernel
theorem dX6_lacking_43 : decode cX6_lacking 43 = .ok (.iadd, 1) := by decide +kernel
theorem dX6_lacking_44 : decode cX6_lacking 44 = .ok (.invokestatic 222, 3) := by decide +kernel
theorem dX6_lacking_47 : decode cX6_lacking 47 = .ok (.ireturn, 1) := by decide +kernel
theorem dX6_gather_0 : decode cX6_gather 0 = .ok (.aload_n 0, 1) := by decide +kernel
theorem dX6_gather_1 : decode cX6_gather 1 = .ok (.getfield 33, 3) := by decide +kernel
theorem dX6_gather_4 : decode cX6_gather 4 = .ok (.iload_n 1, 1) := by decide +kernel
theorem dX6_gather_5 : decode cX6_gather 5 = .ok (.aaload, 1) := by decide +kernel
theorem dX6_gather_6 : decode cX6_gather 6 = .ok (.astore_n 3, 1) := by decide +kernel
theorem dX6_gather_7 : decode cX6_gather 7 = .ok (.aload_n 0, 1) := by decide +kernel
theorem dX6_gather_8 : decode cX6_gather 8 = .ok (.getfield 11, 3) := by decide +kernel
theorem dX6_gather_11 : decode cX6_gather 11 = .ok (.iload_n 1, 1) := by decide +kernel
theorem dX6_gather_12 : decode cX6_gather 12 = .ok (.aaload, 1) := by decide +kernel
theorem dX6_gather_13 : decode cX6_gather 13 = .ok (.astore 4, 2) := by decide +kernel
theorem dX6_gather_15 : decode cX6_gather 15 = .ok (.aload_n 0, 1) := by decide +kernel
theorem dX6_gather_16 : decode cX6_gather 16 = .ok (.getfield 22, 3) := by decide +kernel
theorem dX6_gather_19 : decode cX6_gather 19 = .ok (.iconst 1, 1) := by decide +kernel
theorem dX6_gather_20 : decode cX6_gather 20 = .ok (.iaload, 1) := by decide +kernel
theorem dX6_gather_21 : decode cX6_gather 21 = .ok (.istore 5, 2) := by decide +kernel
theorem dX6_gather_23 : decode cX6_gather 23 = .ok (.aload_n 3, 1) := by decide +kernel
theorem dX6_gather_24 : decode cX6_gather 24 = .ok (.iconst 0, 1) := by decide +kernel
theorem dX6_gather_25 : decode cX6_gather 25 = .ok (.putfield 194, 3) := by decide +kernel
theorem dX6_gather_28 : decode cX6_gather 28 = .ok (.iconst 0, 1) := by decide +kernel
theorem dX6_gather_29 : decode cX6_gather 29 = .ok (.istore 6, 2) := by decide +kernel
theorem dX6_gather_31 : decode cX6_gather 31 = .ok (.iload 6, 2) := by decide +kernel
theorem dX6_gather_33 : decode cX6_gather 33 = .ok (.aload 4, 2) := by decide +kernel
theorem dX6_gather_35 : decode cX6_gather 35 = .ok (.getfield 76, 3) := by decide +kernel
theorem dX6_gather_38 : decode cX6_gather 38 = .ok (.if_icmp .ge 58, 3) := by decide +kernel
theorem dX6_gather_41 : decode cX6_gather 41 = .ok (.iload 6, 2) := by decide +kernel
theorem dX6_gather_43 : decode cX6_gather 43 = .ok (.iload_n 2, 1) := by decide +kernel
theorem dX6_gather_44 : decode cX6_gather 44 = .ok (.if_icmp .eq 46, 3) := by decide +kernel
theorem dX6_gather_47 : decode cX6_gather 47 = .ok (.aload 4, 2) := by decide +kernel
theorem dX6_gather_49 : decode cX6_gather 49 = .ok (.getfield 86, 3) := by decide +kernel
theorem dX6_gather_52 : decode cX6_gather 52 = .ok (.iload 6, 2) := by decide +kernel
theorem dX6_gather_54 : decode cX6_gather 54 = .ok (.aaload, 1) := by decide +kernel
theorem dX6_gather_55 : decode cX6_gather 55 = .ok (.astore 7, 2) := by decide +kernel
theorem dX6_gather_57 : decode cX6_gather 57 = .ok (.aload_n 3, 1) := by decide +kernel
theorem dX6_gather_58 : decode cX6_gather 58 = .ok (.aload 7, 2) := by decide +kernel
theorem dX6_gather_60 : decode cX6_gather 60 = .ok (.getfield 125, 3) := by decide +kernel
theorem dX6_gather_63 : decode cX6_gather 63 = .ok (.iconst 0, 1) := by decide +kernel
theorem dX6_gather_64 : decode cX6_gather 64 = .ok (.aload 7, 2) := by decide +kernel
theorem dX6_gather_66 : decode cX6_gather 66 = .ok (.invokevirtual 143, 3) := by decide +kernel
theorem dX6_gather_69 : decode cX6_gather 69 = .ok (.iload 5, 2) := by decide +kernel
theorem dX6_gather_71 : decode cX6_gather 71 = .ok (.isub, 1) := by decide +kernel
theorem dX6_gather_72 : decode cX6_gather 72 = .ok (.invokestatic 222, 3) := by decide +kernel
theorem dX6_gather_75 : decode cX6_gather 75 = .ok (.aload 7, 2) := by decide +kernel
theorem dX6_gather_77 : decode cX6_gather 77 = .ok (.invokevirtual 147, 3) := by decide +kernel
theorem dX6_gather_80 : decode cX6_gather 80 = .ok (.iload 5, 2) := by decide +kernel
theorem dX6_gather_82 : decode cX6_gather 82 = .ok (.iadd, 1) := by decide +kernel
theorem dX6_gather_83 : decode cX6_gather 83 = .ok (.iconst 1, 1) := by decide +kernel
theorem dX6_gather_84 : decode cX6_gather 84 = .ok (.iload 6, 2) := by decide +kernel
theorem dX6_gather_86 : decode cX6_gather 86 = .ok (.ishl, 1) := by decide +kernel
theorem dX6_gather_87 : decode cX6_gather 87 = .ok (.invokevirtual 227, 3) := by decide +kernel
theorem dX6_gather_90 : decode cX6_gather 90 = .ok (.iinc 6 1, 3) := by decide +kernel
theorem dX6_gather_93 : decode cX6_gather 93 = .ok (.goto (-62), 3) := by decide +kernel
theorem dX6_gather_96 : decode cX6_gather 96 = .ok (.aload_n 3, 1) := by decide +kernel
theorem dX6_gather_97 : decode cX6_gather 97 = .ok (.aload_n 0, 1) := by decide +kernel
theorem dX6_gather_98 : decode cX6_gather 98 = .ok (.getfield 22, 3) := by decide +kernel
theorem dX6_gather_101 : decode cX6_gather 101 = .ok (.iconst 2, 1) := by decide +kernel
theorem dX6_gather_102 : decode cX6_gather 102 = .ok (.iaload, 1) := by decide +kernel
theorem dX6_gather_103 : decode cX6_gather 103 = .ok (.invokevirtual 231, 3) := by decide +kernel
theorem dX6_gather_106 : decode cX6_gather 106 = .ok (.aload_n 3, 1) := by decide +kernel
theorem dX6_gather_107 : decode cX6_gather 107 = .ok (.areturn, 1) := by decide +kernel
theorem dX6_compare_0 : decode cX6_compare 0 = .ok (.aload_n 0, 1) := by decide +kernel
theorem dX6_compare_1 : decode cX6_compare 1 = .ok (.iconst 1, 1) := by decide +kernel
theorem dX6_compare_2 : decode cX6_compare 2 = .ok (.iload_n 1, 1) := by decide +kernel
theorem dX6_compare_3 : decode cX6_compare 3 = .ok (.invokevirtual 80, 3) := by decide +kernel
theorem dX6_compare_6 : decode cX6_compare 6 = .ok (.ifCond .eq 11, 3) := by decide +kernel
theorem dX6_compare_9 : decode cX6_compare 9 = .ok (.iload_n 2, 1) := by decide +kernel
theorem dX6_compare_10 : decode cX6_compare 10 = .ok (.iconst 3, 1) := by decide +kernel
theorem dX6_compare_11 : decode cX6_compare 11 = .ok (.invokestatic 60, 3) := by decide +kernel
theorem dX6_compare_14 : decode cX6_compare 14 = .ok (.ifCond .ne 6, 3) := by decide +kernel
theorem dX6_compare_17 : decode cX6_compare 17 = .ok (.bipush (-2), 2) := by decide +kernel
theorem dX6_compare_19 : decode cX6_compare 19 = .ok (.ireturn, 1) := by decide +kernel
theorem dX6_compare_20 : decode cX6_compare 20 = .ok (.aload_n 0, 1) := by decide +kernel
theorem dX6_compare_21 : decode cX6_compare 21 = .ok (.getfield 47, 3) := by decide +kernel
theorem dX6_compare_24 : decode cX6_compare 24 = .ok (.aload_n 0, 1) := by decide +kernel
theorem dX6_compare_25 : decode cX6_compare 25 = .ok (.getfield 11, 3) := by decide +kernel
theorem dX6_compare_28 : decode cX6_compare 28 = .ok (.iconst 0, 1) := by decide +kernel
theorem dX6_compare_29 : decode cX6_compare 29 = .ok (.aaload, 1) := by decide +kernel
theorem dX6_compare_30 : decode cX6_compare 30 = .ok (.aload_n 0, 1) := by decide +kernel
theorem dX6_compare_31 : decode cX6_compare 31 = .ok (.getfield 11, 3) := by decide +kernel
theorem dX6_compare_34 : decode cX6_compare 34 = .ok (.iconst 1, 1) := by decide +kernel
theorem dX6_compare_35 : decode cX6_compare 35 = .ok (.aaload, 1) := by decide +kernel
theorem dX6_compare_36 : decode cX6_compare 36 = .ok (.invokevirtual 234, 3) := by decide +kernel
theorem dX6_compare_39 : decode cX6_compare 39 = .ok (.iload_n 2, 1) := by decide +kernel
theorem dX6_compare_40 : decode cX6_compare 40 = .ok (.lookupswitch 58 #[(0, 28), (1, 49)], 28) := by decide +kernel
theorem dX6_compare_68 : decode cX6_compare 68 = .ok (.aload_n 0, 1) := by decide +kernel
theorem dX6_compare_69 : decode cX6_compare 69 = .ok (.getfield 47, 3) := by decide +kernel
theorem dX6_compare_72 : decode cX6_compare 72 = .ok (.iload_n 1, 1) := by decide +kernel
theorem dX6_compare_73 : decode cX6_compare 73 = .ok (.aload_n 0, 1) := by decide +kernel
theorem dX6_compare_74 : decode cX6_compare 74 = .ok (.getfield 11, 3) := by decide +kernel
theorem dX6_compare_77 : decode cX6_compare 77 = .ok (.iconst 0, 1) := by decide +kernel
theorem dX6_compare_78 : decode cX6_compare 78 = .ok (.aaload, 1) := by decide +kernel
theorem dX6_compare_79 : decode cX6_compare 79 = .ok (.aload_n 0, 1) := by decide +kernel
theorem dX6_compare_80 : decode cX6_compare 80 = .ok (.getfield 11, 3) := by decide +kernel
theorem dX6_compare_83 : decode cX6_compare 83 = .ok (.iconst 1, 1) := by decide +kernel
theorem dX6_compare_84 : decode cX6_compare 84 = .ok (.aaload, 1) := by decide +kernel
theorem dX6_compare_85 : decode cX6_compare 85 = .ok (.invokevirtual 238, 3) := by decide +kernel
theorem dX6_compare_88 : decode cX6_compare 88 = .ok (.ireturn, 1) := by decide +kernel
theorem dX6_compare_89 : decode cX6_compare 89 = .ok (.aload_n 0, 1) := by decide +kernel
theorem dX6_compare_90 : decode cX6_compare 90 = .ok (.getfield 47, 3) := by decide +kernel
theorem dX6_compare_93 : decode cX6_compare 93 = .ok (.iload_n 1, 1) := by decide +kernel
theorem dX6_compare_94 : decode cX6_compare 94 = .ok (.invokevirtual 242, 3) := by decide +kernel
theorem dX6_compare_97 : decode cX6_compare 97 = .ok (.ireturn, 1) := by decide +kernel
theorem dX6_compare_98 : decode cX6_compare 98 = .ok (.aload_n 0, 1) := by decide +kernel
theorem dX6_compare_99 : decode cX6_compare 99 = .ok (.getfield 47, 3) := by decide +kernel
theorem dX6_compare_102 : decode cX6_compare 102 = .ok (.iload_n 1, 1) := by decide +kernel
theorem dX6_compare_103 : decode cX6_compare 103 = .ok (.aload_n 0, 1) := by decide +kernel
theorem dX6_compare_104 : decode cX6_compare 104 = .ok (.getfield 11, 3) := by decide +kernel
theorem dX6_compare_107 : decode cX6_compare 107 = .ok (.iconst 0, 1) := by decide +kernel
theorem dX6_compare_108 : decode cX6_compare 108 = .ok (.aaload, 1) := by decide +kernel
theorem dX6_compare_109 : decode cX6_compare 109 = .ok (.aload_n 0, 1) := by decide +kernel
theorem dX6_compare_110 : decode cX6_compare 110 = .ok (.getfield 11, 3) := by decide +kernel
theorem dX6_compare_113 : decode cX6_compare 113 = .ok (.iconst 1, 1) := by decide +kernel
theorem dX6_compare_114 : decode cX6_compare 114 = .ok (.aaload, 1) := by decide +kernel
theorem dX6_compare_115 : decode cX6_compare 115 = .ok (.invokevirtual 245, 3) := by decide +kernel
theorem dX6_compare_118 : decode cX6_compare 118 = .ok (.ireturn, 1) := by decide +kernel
theorem dX6_gone_0 : decode cX6_gone 0 = .ok (.aload_n 0, 1) := by decide +kernel
theorem dX6_gone_1 : decode cX6_gone 1 = .ok (.getfield 47, 3) := by decide +kernel
theorem dX6_gone_4 : decode cX6_gone 4 = .ok (.aload_n 0, 1) := by decide +kernel
theorem dX6_gone_5 : decode cX6_gone 5 = .ok (.getfield 11, 3) := by decide +kernel
theorem dX6_gone_8 : decode cX6_gone 8 = .ok (.iconst 0, 1) := by decide +kernel
theorem dX6_gone_9 : decode cX6_gone 9 = .ok (.aaload, 1) := by decide +kernel
theorem dX6_gone_10 : decode cX6_gone 10 = .ok (.aload_n 0, 1) := by decide +kernel
theorem dX6_gone_11 : decode cX6_gone 11 = .ok (.getfield 11, 3) := by decide +kernel
theorem dX6_gone_14 : decode cX6_gone 14 = .ok (.iconst 1, 1) := by decide +kernel
theorem dX6_gone_15 : decode cX6_gone 15 = .ok (.aaload, 1) := by decide +kernel
theorem dX6_gone_16 : decode cX6_gone 16 = .ok (.invokevirtual 234, 3) := by decide +kernel
theorem dX6_gone_19 : decode cX6_gone 19 = .ok (.iconst 1, 1) := by decide +kernel
theorem dX6_gone_20 : decode cX6_gone 20 = .ok (.aload_n 0, 1) := by decide +kernel
theorem dX6_gone_21 : decode cX6_gone 21 = .ok (.getfield 11, 3) := by decide +kernel
theorem dX6_gone_24 : decode cX6_gone 24 = .ok (.iconst 0, 1) := by decide +kernel
theorem dX6_gone_25 : decode cX6_gone 25 = .ok (.aaload, 1) := by decide +kernel
theorem dX6_gone_26 : decode cX6_gone 26 = .ok (.getfield 76, 3) := by decide +kernel
theorem dX6_gone_29 : decode cX6_gone 29 = .ok (.ishl, 1) := by decide +kernel
theorem dX6_gone_30 : decode cX6_gone 30 = .ok (.iconst 1, 1) := by decide +kernel
theorem dX6_gone_31 : decode cX6_gone 31 = .ok (.isub, 1) := by decide +kernel
theorem dX6_gone_32 : decode cX6_gone 32 = .ok (.aload_n 0, 1) := by decide +kernel
theorem dX6_gone_33 : decode cX6_gone 33 = .ok (.getfield 47, 3) := by decide +kernel
theorem dX6_gone_36 : decode cX6_gone 36 = .ok (.getfield 248, 3) := by decide +kernel
theorem dX6_gone_39 : decode cX6_gone 39 = .ok (.iconst (-1), 1) := by decide +kernel
theorem dX6_gone_40 : decode cX6_gone 40 = .ok (.ixor, 1) := by decide +kernel
theorem dX6_gone_41 : decode cX6_gone 41 = .ok (.iand, 1) := by decide +kernel
theorem dX6_gone_42 : decode cX6_gone 42 = .ok (.ireturn, 1) := by decide +kernel
theorem dX6_anew_0 : decode cX6_anew 0 = .ok (.iload_n 1, 1) := by decide +kernel
theorem dX6_anew_1 : decode cX6_anew 1 = .ok (.iconst (-1), 1) := by decide +kernel
theorem dX6_anew_2 : decode cX6_anew 2 = .ok (.if_icmp .eq 16, 3) := by decide +kernel
theorem dX6_anew_5 : decode cX6_anew 5 = .ok (.iload_n 1, 1) := by decide +kernel
theorem dX6_anew_6 : decode cX6_anew 6 = .ok (.sipush 10000, 3) := by decide +kernel
theorem dX6_anew_9 : decode cX6_anew 9 = .ok (.invokestatic 60, 3) := by decide +kernel
theorem dX6_anew_12 : decode cX6_anew 12 = .ok (.ifCond .ne 6, 3) := by decide +kernel
theorem dX6_anew_15 : decode cX6_anew 15 = .ok (.bipush (-2), 2) := by decide +kernel
theorem dX6_anew_17 : decode cX6_anew 17 = .ok (.ireturn, 1) := by decide +kernel
theorem dX6_anew_18 : decode cX6_anew 18 = .ok (.aload_n 0, 1) := by decide +kernel
theorem dX6_anew_19 : decode cX6_anew 19 = .ok (.invokevirtual 251, 3) := by decide +kernel
theorem dX6_anew_22 : decode cX6_anew 22 = .ok (.iload_n 1, 1) := by decide +kernel
theorem dX6_anew_23 : decode cX6_anew 23 = .ok (.iconst (-1), 1) := by decide +kernel
theorem dX6_anew_24 : decode cX6_anew 24 = .ok (.if_icmp .ne 13, 3) := by decide +kernel
theorem dX6_anew_27 : decode cX6_anew 27 = .ok (.aload_n 0, 1) := by decide +kernel
theorem dX6_anew_28 : decode cX6_anew 28 = .ok (.getfield 40, 3) := by decide +kernel
theorem dX6_anew_31 : decode cX6_anew 31 = .ok (.invokevirtual 211, 3) := by decide +kernel
theorem dX6_anew_34 : decode cX6_anew 34 = .ok (.goto 11, 3) := by decide +kernel
theorem dX6_anew_37 : decode cX6_anew 37 = .ok (.aload_n 0, 1) := by decide +kernel
theorem dX6_anew_38 : decode cX6_anew 38 = .ok (.getfield 40, 3) := by decide +kernel
theorem dX6_anew_41 : decode cX6_anew 41 = .ok (.iload_n 1, 1) := by decide +kernel
theorem dX6_anew_42 : decode cX6_anew 42 = .ok (.invokevirtual 254, 3) := by decide +kernel
theorem dX6_anew_45 : decode cX6_anew 45 = .ok (.ireturn, 1) := by decide +kernel
theorem dX6_saving_0 : decode cX6_saving 0 = .ok (.iload_n 1, 1) := by decide +kernel
theorem dX6_saving_1 : decode cX6_saving 1 = .ok (.iconst 2, 1) := by decide +kernel
theorem dX6_saving_2 : decode cX6_saving 2 = .ok (.invokestatic 60, 3) := by decide +kernel
theorem dX6_saving_5 : decode cX6_saving 5 = .ok (.ifCond .ne 6, 3) := by decide +kernel
theorem dX6_saving_8 : decode cX6_saving 8 = .ok (.bipush (-2), 2) := by decide +kernel
theorem dX6_saving_10 : decode cX6_saving 10 = .ok (.ireturn, 1) := by decide +kernel
theorem dX6_saving_11 : decode cX6_saving 11 = .ok (.iconst (-1), 1) := by decide +kernel
theorem dX6_saving_12 : decode cX6_saving 12 = .ok (.istore_n 2, 1) := by decide +kernel
theorem dX6_saving_13 : decode cX6_saving 13 = .ok (.iconst (-1), 1) := by decide +kernel
theorem dX6_saving_14 : decode cX6_saving 14 = .ok (.istore_n 3, 1) := by decide +kernel
theorem dX6_saving_15 : decode cX6_saving 15 = .ok (.iconst 0, 1) := by decide +kernel
theorem dX6_saving_16 : decode cX6_saving 16 = .ok (.istore 4, 2) := by decide +kernel
theorem dX6_saving_18 : decode cX6_saving 18 = .ok (.iload 4, 2) := by decide +kernel
theorem dX6_saving_20 : decode cX6_saving 20 = .ok (.aload_n 0, 1) := by decide +kernel
theorem dX6_saving_21 : decode cX6_saving 21 = .ok (.getfield 11, 3) := by decide +kernel
theorem dX6_saving_24 : decode cX6_saving 24 = .ok (.iconst 1, 1) := by decide +kernel
theorem dX6_saving_25 : decode cX6_saving 25 = .ok (.aaload, 1) := by decide +kernel
theorem dX6_saving_26 : decode cX6_saving 26 = .ok (.getfield 76, 3) := by decide +kernel
theorem dX6_saving_29 : decode cX6_saving 29 = .ok (.if_icmp .ge 38, 3) := by decide +kernel
theorem dX6_saving_32 : decode cX6_saving 32 = .ok (.aload_n 0, 1) := by decide +kernel
theorem dX6_saving_33 : decode cX6_saving 33 = .ok (.iconst 1, 1) := by decide +kernel
theorem dX6_saving_34 : decode cX6_saving 34 = .ok (.iload 4, 2) := by decide +kernel
theorem dX6_saving_36 : decode cX6_saving 36 = .ok (.invokevirtual 190, 3) := by decide +kernel
theorem dX6_saving_39 : decode cX6_saving 39 = .ok (.invokevirtual 211, 3) := by decide +kernel
theorem dX6_saving_42 : decode cX6_saving 42 = .ok (.istore 5, 2) := by decide +kernel
theorem dX6_saving_44 : decode cX6_saving 44 = .ok (.iload_n 2, 1) := by decide +kernel
theorem dX6_saving_45 : decode cX6_saving 45 = .ok (.iconst (-1), 1) := by decide +kernel
theorem dX6_saving_46 : decode cX6_saving 46 = .ok (.if_icmp .eq 9, 3) := by decide +kernel
theorem dX6_saving_49 : decode cX6_saving 49 = .ok (.iload 5, 2) := by decide +kernel
theorem dX6_saving_51 : decode cX6_saving 51 = .ok (.iload_n 3, 1) := by decide +kernel
theorem dX6_saving_52 : decode cX6_saving 52 = .ok (.if_icmp .ge 9, 3) := by decide +kernel
theorem dX6_saving_55 : decode cX6_saving 55 = .ok (.iload 4, 2) := by decide +kernel
theorem dX6_saving_57 : decode cX6_saving 57 = .ok (.istore_n 2, 1) := by decide +kernel
theorem dX6_saving_58 : decode cX6_saving 58 = .ok (.iload 5, 2) := by decide +kernel
theorem dX6_saving_60 : decode cX6_saving 60 = .ok (.istore_n 3, 1) := by decide +kernel
theorem dX6_saving_61 : decode cX6_saving 61 = .ok (.iinc 4 1, 3) := by decide +kernel
theorem dX6_saving_64 : decode cX6_saving 64 = .ok (.goto (-46), 3) := by decide +kernel
theorem dX6_saving_67 : decode cX6_saving 67 = .ok (.iload_n 1, 1) := by decide +kernel
theorem dX6_saving_68 : decode cX6_saving 68 = .ok (.ifCond .ne 7, 3) := by decide +kernel
theorem dX6_saving_71 : decode cX6_saving 71 = .ok (.iload_n 2, 1) := by decide +kernel
theorem dX6_saving_72 : decode cX6_saving 72 = .ok (.goto 4, 3) := by decide +kernel
theorem dX6_saving_75 : decode cX6_saving 75 = .ok (.iload_n 3, 1) := by decide +kernel
theorem dX6_saving_76 : decode cX6_saving 76 = .ok (.ireturn, 1) := by decide +kernel
theorem dX6_keptEdits_0 : decode cX6_keptEdits 0 = .ok (.aload_n 0, 1) := by decide +kernel
theorem dX6_keptEdits_1 : decode cX6_keptEdits 1 = .ok (.getfield 47, 3) := by decide +kernel
theorem dX6_keptEdits_4 : decode cX6_keptEdits 4 = .ok (.aload_n 0, 1) := by decide +kernel
theorem dX6_keptEdits_5 : decode cX6_keptEdits 5 = .ok (.getfield 11, 3) := by decide +kernel
theorem dX6_keptEdits_8 : decode cX6_keptEdits 8 = .ok (.iconst 0, 1) := by decide +kernel
theorem dX6_keptEdits_9 : decode cX6_keptEdits 9 = .ok (.aaload, 1) := by decide +kernel
theorem dX6_keptEdits_10 : decode cX6_keptEdits 10 = .ok (.aload_n 0, 1) := by decide +kernel
theorem dX6_keptEdits_11 : decode cX6_keptEdits 11 = .ok (.getfield 11, 3) := by decide +kernel
theorem dX6_keptEdits_14 : decode cX6_keptEdits 14 = .ok (.iconst 1, 1) := by decide +kernel
theorem dX6_keptEdits_15 : decode cX6_keptEdits 15 = .ok (.aaload, 1) := by decide +kernel
theorem dX6_keptEdits_16 : decode cX6_keptEdits 16 = .ok (.invokevirtual 234, 3) := by decide +kernel
theorem dX6_keptEdits_19 : decode cX6_keptEdits 19 = .ok (.iconst 0, 1) := by decide +kernel
theorem dX6_keptEdits_20 : decode cX6_keptEdits 20 = .ok (.istore_n 1, 1) := by decide +kernel
theorem dX6_keptEdits_21 : decode cX6_keptEdits 21 = .ok (.iconst 0, 1) := by decide +kernel
theorem dX6_keptEdits_22 : decode cX6_keptEdits 22 = .ok (.istore_n 2, 1) := by decide +kernel
theorem dX6_keptEdits_23 : decode cX6_keptEdits 23 = .ok (.iload_n 2, 1) := by decide +kernel
theorem dX6_keptEdits_24 : decode cX6_keptEdits 24 = .ok (.aload_n 0, 1) := by decide +kernel
theorem dX6_keptEdits_25 : decode cX6_keptEdits 25 = .ok (.getfield 11, 3) := by decide +kernel
theorem dX6_keptEdits_28 : decode cX6_keptEdits 28 = .ok (.iconst 1, 1) := by decide +kernel
theorem dX6_keptEdits_29 : decode cX6_keptEdits 29 = .ok (.aaload, 1) := by decide +kernel
theorem dX6_keptEdits_30 : decode cX6_keptEdits 30 = .ok (.getfield 76, 3) := by decide +kernel
theorem dX6_keptEdits_33 : decode cX6_keptEdits 33 = .ok (.if_icmp .ge 36, 3) := by decide +kernel
theorem dX6_keptEdits_36 : decode cX6_keptEdits 36 = .ok (.aload_n 0, 1) := by decide +kernel
theorem dX6_keptEdits_37 : decode cX6_keptEdits 37 = .ok (.getfield 47, 3) := by decide +kernel
theorem dX6_keptEdits_40 : decode cX6_keptEdits 40 = .ok (.iload_n 2, 1) := by decide +kernel
theorem dX6_keptEdits_41 : decode cX6_keptEdits 41 = .ok (.aload_n 0, 1) := by decide +kernel
theorem dX6_keptEdits_42 : decode cX6_keptEdits 42 = .ok (.getfield 11, 3) := by decide +kernel
theorem dX6_keptEdits_45 : decode cX6_keptEdits 45 = .ok (.iconst 0, 1) := by decide +kernel
theorem dX6_keptEdits_46 : decode cX6_keptEdits 46 = .ok (.aaload, 1) := by decide +kernel
theorem dX6_keptEdits_47 : decode cX6_keptEdits 47 = .ok (.aload_n 0, 1) := by decide +kernel
theorem dX6_keptEdits_48 : decode cX6_keptEdits 48 = .ok (.getfield 11, 3) := by decide +kernel
theorem dX6_keptEdits_51 : decode cX6_keptEdits 51 = .ok (.iconst 1, 1) := by decide +kernel
theorem dX6_keptEdits_52 : decode cX6_keptEdits 52 = .ok (.aaload, 1) := by decide +kernel
theorem dX6_keptEdits_53 : decode cX6_keptEdits 53 = .ok (.invokevirtual 238, 3) := by decide +kernel
theorem dX6_keptEdits_56 : decode cX6_keptEdits 56 = .ok (.iconst 1, 1) := by decide +kernel
theorem dX6_keptEdits_57 : decode cX6_keptEdits 57 = .ok (.if_icmp .ne 6, 3) := by decide +kernel
theorem dX6_keptEdits_60 : decode cX6_keptEdits 60 = .ok (.iinc 1 1, 3) := by decide +kernel
theorem dX6_keptEdits_63 : decode cX6_keptEdits 63 = .ok (.iinc 2 1, 3) := by decide +kernel
theorem dX6_keptEdits_66 : decode cX6_keptEdits 66 = .ok (.goto (-43), 3) := by decide +kernel
theorem dX6_keptEdits_69 : decode cX6_keptEdits 69 = .ok (.iload_n 1, 1) := by decide +kernel
theorem dX6_keptEdits_70 : decode cX6_keptEdits 70 = .ok (.ireturn, 1) := by decide +kernel
theorem dX6_gatherFresh_0 : decode cX6_gatherFresh 0 = .ok (.aload_n 0, 1) := by decide +kernel
theorem dX6_gatherFresh_1 : decode cX6_gatherFresh 1 = .ok (.iconst 0, 1) := by decide +kernel
theorem dX6_gatherFresh_2 : decode cX6_gatherFresh 2 = .ok (.iconst (-1), 1) := by decide +kernel
theorem dX6_gatherFresh_3 : decode cX6_gatherFresh 3 = .ok (.invokevirtual 190, 3) := by decide +kernel
theorem dX6_gatherFresh_6 : decode cX6_gatherFresh 6 = .ok (.astore_n 1, 1) := by decide +kernel
theorem dX6_gatherFresh_7 : decode cX6_gatherFresh 7 = .ok (.aload_n 0, 1) := by decide +kernel
theorem dX6_gatherFresh_8 : decode cX6_gatherFresh 8 = .ok (.iconst 1, 1) := by decide +kernel
theorem dX6_gatherFresh_9 : decode cX6_gatherFresh 9 = .ok (.iconst (-1), 1) := by decide +kernel
theorem dX6_gatherFresh_10 : decode cX6_gatherFresh 10 = .ok (.invokevirtual 190, 3) := by decide +kernel
theorem dX6_gatherFresh_13 : decode cX6_gatherFresh 13 = .ok (.astore_n 2, 1) := by decide +kernel
theorem dX6_gatherFresh_14 : decode cX6_gatherFresh 14 = .ok (.aload_n 0, 1) := by decide +kernel
theorem dX6_gatherFresh_15 : decode cX6_gatherFresh 15 = .ok (.getfield 40, 3) := by decide +kernel
theorem dX6_gatherFresh_18 : decode cX6_gatherFresh 18 = .ok (.iconst 0, 1) := by decide +kernel
theorem dX6_gatherFresh_19 : decode cX6_gatherFresh 19 = .ok (.putfield 194, 3) := by decide +kernel
theorem dX6_gatherFresh_22 : decode cX6_gatherFresh 22 = .ok (.iconst 0, 1) := by decide +kernel
theorem dX6_gatherFresh_23 : decode cX6_gatherFresh 23 = .ok (.istore_n 3, 1) := by decide +kernel
theorem dX6_gatherFresh_24 : decode cX6_gatherFresh 24 = .ok (.iload_n 3, 1) := by decide +kernel
theorem dX6_gatherFresh_25 : decode cX6_gatherFresh 25 = .ok (.aload_n 2, 1) := by decide +kernel
theorem dX6_gatherFresh_26 : decode cX6_gatherFresh 26 = .ok (.getfield 194, 3) := by decide +kernel
theorem dX6_gatherFresh_29 : decode cX6_gatherFresh 29 = .ok (.if_icmp .ge 51, 3) := by decide +kernel
theorem dX6_gatherFresh_32 : decode cX6_gatherFresh 32 = .ok (.aload_n 2, 1) := by decide +kernel
theorem dX6_gatherFresh_33 : decode cX6_gatherFresh 33 = .ok (.getfield 195, 3) := by decide +kernel
theorem dX6_gatherFresh_36 : decode cX6_gatherFresh 36 = .ok (.iload_n 3, 1) := by decide +kernel
theorem dX6_gatherFresh_37 : decode cX6_gatherFresh 37 = .ok (.iaload, 1) := by decide +kernel
theorem dX6_gatherFresh_38 : decode cX6_gatherFresh 38 = .ok (.istore 4, 2) := by decide +kernel
theorem dX6_gatherFresh_40 : decode cX6_gatherFresh 40 = .ok (.aload_n 2, 1) := by decide +kernel
theorem dX6_gatherFresh_41 : decode cX6_gatherFresh 41 = .ok (.getfield 201, 3) := by decide +kernel
theorem dX6_gatherFresh_44 : decode cX6_gatherFresh 44 = .ok (.iload_n 3, 1) := by decide +kernel
theorem dX6_gatherFresh_45 : decode cX6_gatherFresh 45 = .ok (.iaload, 1) := by decide +kernel
theorem dX6_gatherFresh_46 : decode cX6_gatherFresh 46 = .ok (.aload_n 0, 1) := by decide +kernel
theorem dX6_gatherFresh_47 : decode cX6_gatherFresh 47 = .ok (.iload 4, 2) := by decide +kernel
theorem dX6_gatherFresh_49 : decode cX6_gatherFresh 49 = .ok (.invokevirtual 156, 3) := by decide +kernel
theorem dX6_gatherFresh_52 : decode cX6_gatherFresh 52 = .ok (.iconst 1, 1) := by decide +kernel
theorem dX6_gatherFresh_53 : decode cX6_gatherFresh 53 = .ok (.isub, 1) := by decide +kernel
theorem dX6_gatherFresh_54 : decode cX6_gatherFresh 54 = .ok (.invokestatic 257, 3) := by decide +kernel
theorem dX6_gatherFresh_57 : decode cX6_gatherFresh 57 = .ok (.istore 5, 2) := by decide +kernel
theorem dX6_gatherFresh_59 : decode cX6_gatherFresh 59 = .ok (.aload_n 0, 1) := by decide +kernel
theorem dX6_gatherFresh_60 : decode cX6_gatherFresh 60 = .ok (.aload_n 1, 1) := by decide +kernel
theorem dX6_gatherFresh_61 : decode cX6_gatherFresh 61 = .ok (.iload 4, 2) := by decide +kernel
theorem dX6_gatherFresh_63 : decode cX6_gatherFresh 63 = .ok (.aload_n 2, 1) := by decide +kernel
theorem dX6_gatherFresh_64 : decode cX6_gatherFresh 64 = .ok (.getfield 198, 3) := by decide +kernel
theorem dX6_gatherFresh_67 : decode cX6_gatherFresh 67 = .ok (.iload_n 3, 1) := by decide +kernel
theorem dX6_gatherFresh_68 : decode cX6_gatherFresh 68 = .ok (.iaload, 1) := by decide +kernel
theorem dX6_gatherFresh_69 : decode cX6_gatherFresh 69 = .ok (.iload 5, 2) := by decide +kernel
theorem dX6_gatherFresh_71 : decode cX6_gatherFresh 71 = .ok (.invokevirtual 260, 3) := by decide +kernel
theorem dX6_gatherFresh_74 : decode cX6_gatherFresh 74 = .ok (.iinc 3 1, 3) := by decide +kernel
theorem dX6_gatherFresh_77 : decode cX6_gatherFresh 77 = .ok (.goto (-53), 3) := by decide +kernel
theorem dX6_gatherFresh_80 : decode cX6_gatherFresh 80 = .ok (.return_, 1) := by decide +kernel
theorem dX6_addWithout_0 : decode cX6_addWithout 0 = .ok (.iload_n 3, 1) := by decide +kernel
theorem dX6_addWithout_1 : decode cX6_addWithout 1 = .ok (.istore 5, 2) := by decide +kernel
theorem dX6_addWithout_3 : decode cX6_addWithout 3 = .ok (.iconst 0, 1) := by decide +kernel
theorem dX6_addWithout_4 : decode cX6_addWithout 4 = .ok (.istore 6, 2) := by decide +kernel
theorem dX6_addWithout_6 : decode cX6_addWithout 6 = .ok (.iload 6, 2) := by decide +kernel
theorem dX6_addWithout_8 : decode cX6_addWithout 8 = .ok (.aload_n 1, 1) := by decide +kernel
theorem dX6_addWithout_9 : decode cX6_addWithout 9 = .ok (.getfield 194, 3) := by decide +kernel
theorem dX6_addWithout_12 : decode cX6_addWithout 12 = .ok (.if_icmp .ge 60, 3) := by decide +kernel
theorem dX6_addWithout_15 : decode cX6_addWithout 15 = .ok (.aload_n 1, 1) := by decide +kernel
theorem dX6_addWithout_16 : decode cX6_addWithout 16 = .ok (.getfield 195, 3) := by decide +kernel
theorem dX6_addWithout_19 : decode cX6_addWithout 19 = .ok (.iload 6, 2) := by decide +kernel
theorem dX6_addWithout_21 : decode cX6_addWithout 21 = .ok (.iaload, 1) := by decide +kernel
theorem dX6_addWithout_22 : decode cX6_addWithout 22 = .ok (.iload_n 2, 1) := by decide +kernel
theorem dX6_addWithout_23 : decode cX6_addWithout 23 = .ok (.if_icmp .ne 43, 3) := by decide +kernel
theorem dX6_addWithout_26 : decode cX6_addWithout 26 = .ok (.aload_n 0, 1) := by decide +kernel
theorem dX6_addWithout_27 : decode cX6_addWithout 27 = .ok (.getfield 40, 3) := by decide +kernel
theorem dX6_addWithout_30 : decode cX6_addWithout 30 = .ok (.iload_n 2, 1) := by decide +kernel
theorem dX6_addWithout_31 : decode cX6_addWithout 31 = .ok (.iload 5, 2) := by decide +kernel
theorem dX6_addWithout_33 : decode cX6_addWithout 33 = .ok (.iload 4, 2) := by decide +kernel
theorem dX6_addWithout_35 : decode cX6_addWithout 35 = .ok (.aload_n 1, 1) := by decide +kernel
theorem dX6_addWithout_36 : decode cX6_addWithout 36 = .ok (.getfield 198, 3) := by decide +kernel
theorem dX6_addWithout_39 : decode cX6_addWithout 39 = .ok (.iload 6, 2) := by decide +kernel
theorem dX6_addWithout_41 : decode cX6_addWithout 41 = .ok (.iaload, 1) := by decide +kernel
theorem dX6_addWithout_42 : decode cX6_addWithout 42 = .ok (.iconst 1, 1) := by decide +kernel
theorem dX6_addWithout_43 : decode cX6_addWithout 43 = .ok (.isub, 1) := by decide +kernel
theorem dX6_addWithout_44 : decode cX6_addWithout 44 = .ok (.invokestatic 257, 3) := by decide +kernel
theorem dX6_addWithout_47 : decode cX6_addWithout 47 = .ok (.invokevirtual 264, 3) := by decide +kernel
theorem dX6_addWithout_50 : decode cX6_addWithout 50 = .ok (.iload 5, 2) := by decide +kernel
theorem dX6_addWithout_52 : decode cX6_addWithout 52 = .ok (.aload_n 1, 1) := by decide +kernel
theorem dX6_addWithout_53 : decode cX6_addWithout 53 = .ok (.getfield 201, 3) := by decide +kernel
theorem dX6_addWithout_56 : decode cX6_addWithout 56 = .ok (.iload 6, 2) := by decide +kernel
theorem dX6_addWithout_58 : decode cX6_addWithout 58 = .ok (.iaload, 1) := by decide +kernel
theorem dX6_addWithout_59 : decode cX6_addWithout 59 = .ok (.iconst 1, 1) := by decide +kernel
theorem dX6_addWithout_60 : decode cX6_addWithout 60 = .ok (.iadd, 1) := by decide +kernel
theorem dX6_addWithout_61 : decode cX6_addWithout 61 = .ok (.invokestatic 222, 3) := by decide +kernel
theorem dX6_addWithout_64 : decode cX6_addWithout 64 = .ok (.istore 5, 2) := by decide +kernel
theorem dX6_addWithout_66 : decode cX6_addWithout 66 = .ok (.iinc 6 1, 3) := by decide +kernel
theorem dX6_addWithout_69 : decode cX6_addWithout 69 = .ok (.goto (-63), 3) := by decide +kernel
theorem dX6_addWithout_72 : decode cX6_addWithout 72 = .ok (.aload_n 0, 1) := by decide +kernel
theorem dX6_addWithout_73 : decode cX6_addWithout 73 = .ok (.getfield 40, 3) := by decide +kernel
theorem dX6_addWithout_76 : decode cX6_addWithout 76 = .ok (.iload_n 2, 1) := by decide +kernel
theorem dX6_addWithout_77 : decode cX6_addWithout 77 = .ok (.iload 5, 2) := by decide +kernel
theorem dX6_addWithout_79 : decode cX6_addWithout 79 = .ok (.iload 4, 2) := by decide +kernel
theorem dX6_addWithout_81 : decode cX6_addWithout 81 = .ok (.invokevirtual 264, 3) := by decide +kernel
theorem dX6_addWithout_84 : decode cX6_addWithout 84 = .ok (.return_, 1) := by decide +kernel
theorem dX6_sheet_0 : decode cX6_sheet 0 = .ok (.iload_n 1, 1) := by decide +kernel
theorem dX6_sheet_1 : decode cX6_sheet 1 = .ok (.iconst 4, 1) := by decide +kernel
theorem dX6_sheet_2 : decode cX6_sheet 2 = .ok (.invokestatic 60, 3) := by decide +kernel
theorem dX6_sheet_5 : decode cX6_sheet 5 = .ok (.ifCond .eq 17, 3) := by decide +kernel
theorem dX6_sheet_8 : decode cX6_sheet 8 = .ok (.iload_n 2, 1) := by decide +kernel
theorem dX6_sheet_9 : decode cX6_sheet 9 = .ok (.iconst 3, 1) := by decide +kernel
theorem dX6_sheet_10 : decode cX6_sheet 10 = .ok (.invokestatic 60, 3) := by decide +kernel
theorem dX6_sheet_13 : decode cX6_sheet 13 = .ok (.ifCond .eq 9, 3) := by decide +kernel
theorem dX6_sheet_16 : decode cX6_sheet 16 = .ok (.iload_n 3, 1) := by decide +kernel
theorem dX6_sheet_17 : decode cX6_sheet 17 = .ok (.bipush 60, 2) := by decide +kernel
theorem dX6_sheet_19 : decode cX6_sheet 19 = .ok (.if_icmp .le 6, 3) := by decide +kernel
theorem dX6_sheet_22 : decode cX6_sheet 22 = .ok (.bipush (-2), 2) := by decide +kernel
theorem dX6_sheet_24 : decode cX6_sheet 24 = .ok (.ireturn, 1) := by decide +kernel
theorem dX6_sheet_25 : decode cX6_sheet 25 = .ok (.iload_n 3, 1) := by decide +kernel
theorem dX6_sheet_26 : decode cX6_sheet 26 = .ok (.ifCond .ge 9, 3) := by decide +kernel
theorem dX6_sheet_29 : decode cX6_sheet 29 = .ok (.aload_n 0, 1) := by decide +kernel
theorem dX6_sheet_30 : decode cX6_sheet 30 = .ok (.iconst 5, 1) := by decide +kernel
theorem dX6_sheet_31 : decode cX6_sheet 31 = .ok (.invokevirtual 105, 3) := by decide +kernel
theorem dX6_sheet_34 : decode cX6_sheet 34 = .ok (.ireturn, 1) := by decide +kernel
theorem dX6_sheet_35 : decode cX6_sheet 35 = .ok (.aload_n 0, 1) := by decide +kernel
theorem dX6_sheet_36 : decode cX6_sheet 36 = .ok (.getfield 27, 3) := by decide +kernel
theorem dX6_sheet_39 : decode cX6_sheet 39 = .ok (.iload_n 1, 1) := by decide +kernel
theorem dX6_sheet_40 : decode cX6_sheet 40 = .ok (.aaload, 1) := by decide +kernel
theorem dX6_sheet_41 : decode cX6_sheet 41 = .ok (.iload_n 2, 1) := by decide +kernel
theorem dX6_sheet_42 : decode cX6_sheet 42 = .ok (.iload_n 3, 1) := by decide +kernel
theorem dX6_sheet_43 : decode cX6_sheet 43 = .ok (.invokevirtual 267, 3) := by decide +kernel
theorem dX6_sheet_46 : decode cX6_sheet 46 = .ok (.iload_n 3, 1) := by decide +kernel
theorem dX6_sheet_47 : decode cX6_sheet 47 = .ok (.ireturn, 1) := by decide +kernel
theorem dX6_lose_0 : decode cX6_lose 0 = .ok (.iload_n 1, 1) := by decide +kernel
theorem dX6_lose_1 : decode cX6_lose 1 = .ok (.iconst 4, 1) := by decide +kernel
theorem dX6_lose_2 : decode cX6_lose 2 = .ok (.invokestatic 60, 3) := by decide +kernel
theorem dX6_lose_5 : decode cX6_lose 5 = .ok (.ifCond .ne 6, 3) := by decide +kernel
theorem dX6_lose_8 : decode cX6_lose 8 = .ok (.bipush (-2), 2) := by decide +kernel
theorem dX6_lose_10 : decode cX6_lose 10 = .ok (.ireturn, 1) := by decide +kernel
theorem dX6_lose_11 : decode cX6_lose 11 = .ok (.aload_n 0, 1) := by decide +kernel
theorem dX6_lose_12 : decode cX6_lose 12 = .ok (.getfield 27, 3) := by decide +kernel
theorem dX6_lose_15 : decode cX6_lose 15 = .ok (.iload_n 1, 1) := by decide +kernel
theorem dX6_lose_16 : decode cX6_lose 16 = .ok (.aaload, 1) := by decide +kernel
theorem dX6_lose_17 : decode cX6_lose 17 = .ok (.astore_n 2, 1) := by decide +kernel
theorem dX6_lose_18 : decode cX6_lose 18 = .ok (.aload_n 2, 1) := by decide +kernel
theorem dX6_lose_19 : decode cX6_lose 19 = .ok (.getfield 101, 3) := by decide +kernel
theorem dX6_lose_22 : decode cX6_lose 22 = .ok (.ifCond .eq 9, 3) := by decide +kernel
theorem dX6_lose_25 : decode cX6_lose 25 = .ok (.aload_n 0, 1) := by decide +kernel
theorem dX6_lose_26 : decode cX6_lose 26 = .ok (.iconst 1, 1) := by decide +kernel
theorem dX6_lose_27 : decode cX6_lose 27 = .ok (.invokevirtual 105, 3) := by decide +kernel
theorem dX6_lose_30 : decode cX6_lose 30 = .ok (.ireturn, 1) := by decide +kernel
theorem dX6_lose_31 : decode cX6_lose 31 = .ok (.aload_n 2, 1) := by decide +kernel
theorem dX6_lose_32 : decode cX6_lose 32 = .ok (.iconst 1, 1) := by decide +kernel
theorem dX6_lose_33 : decode cX6_lose 33 = .ok (.putfield 101, 3) := by decide +kernel
theorem dX6_lose_36 : decode cX6_lose 36 = .ok (.aload_n 2, 1) := by decide +kernel
theorem dX6_lose_37 : decode cX6_lose 37 = .ok (.getfield 108, 3) := by decide +kernel
theorem dX6_lose_40 : decode cX6_lose 40 = .ok (.ireturn, 1) := by decide +kernel
theorem dX6_put_0 : decode cX6_put 0 = .ok (.iload_n 1, 1) := by decide +kernel
theorem dX6_put_1 : decode cX6_put 1 = .ok (.iconst 4, 1) := by decide +kernel
theorem dX6_put_2 : decode cX6_put 2 = .ok (.invokestatic 60, 3) := by decide +kernel
theorem dX6_put_5 : decode cX6_put 5 = .ok (.ifCond .eq 11, 3) := by decide +kernel
theorem dX6_put_8 : decode cX6_put 8 = .ok (.iload_n 2, 1) := by decide +kernel
theorem dX6_put_9 : decode cX6_put 9 = .ok (.iconst 3, 1) := by decide +kernel
theorem dX6_put_10 : decode cX6_put 10 = .ok (.invokestatic 60, 3) := by decide +kernel
theorem dX6_put_13 : decode cX6_put 13 = .ok (.ifCond .ne 6, 3) := by decide +kernel
theorem dX6_put_16 : decode cX6_put 16 = .ok (.bipush (-2), 2) := by decide +kernel
theorem dX6_put_18 : decode cX6_put 18 = .ok (.ireturn, 1) := by decide +kernel
theorem dX6_put_19 : decode cX6_put 19 = .ok (.aload_n 0, 1) := by decide +kernel
theorem dX6_put_20 : decode cX6_put 20 = .ok (.getfield 27, 3) := by decide +kernel
theorem dX6_put_23 : decode cX6_put 23 = .ok (.iload_n 1, 1) := by decide +kernel
theorem dX6_put_24 : decode cX6_put 24 = .ok (.aaload, 1) := by decide +kernel
theorem dX6_put_25 : decode cX6_put 25 = .ok (.iload_n 2, 1) := by decide +kernel
theorem dX6_put_26 : decode cX6_put 26 = .ok (.iload_n 3, 1) := by decide +kernel
theorem dX6_put_27 : decode cX6_put 27 = .ok (.invokevirtual 269, 3) := by decide +kernel
theorem dX6_put_30 : decode cX6_put 30 = .ok (.istore 5, 2) := by decide +kernel
theorem dX6_put_32 : decode cX6_put 32 = .ok (.iload 5, 2) := by decide +kernel
theorem dX6_put_34 : decode cX6_put 34 = .ok (.ifCond .eq 10, 3) := by decide +kernel
theorem dX6_put_37 : decode cX6_put 37 = .ok (.aload_n 0, 1) := by decide +kernel
theorem dX6_put_38 : decode cX6_put 38 = .ok (.iload 5, 2) := by decide +kernel
theorem dX6_put_40 : decode cX6_put 40 = .ok (.invokevirtual 105, 3) := by decide +kernel
theorem dX6_put_43 : decode cX6_put 43 = .ok (.ireturn, 1) := by decide +kernel
theorem dX6_put_44 : decode cX6_put 44 = .ok (.aload_n 0, 1) := by decide +kernel
theorem dX6_put_45 : decode cX6_put 45 = .ok (.getfield 27, 3) := by decide +kernel
theorem dX6_put_48 : decode cX6_put 48 = .ok (.iload_n 1, 1) := by decide +kernel
theorem dX6_put_49 : decode cX6_put 49 = .ok (.aaload, 1) := by decide +kernel
theorem dX6_put_50 : decode cX6_put 50 = .ok (.iload_n 3, 1) := by decide +kernel
theorem dX6_put_51 : decode cX6_put 51 = .ok (.iload 4, 2) := by decide +kernel
theorem dX6_put_53 : decode cX6_put 53 = .ok (.invokevirtual 272, 3) := by decide +kernel
theorem dX6_put_56 : decode cX6_put 56 = .ok (.iconst 1, 1) := by decide +kernel
theorem dX6_put_57 : decode cX6_put 57 = .ok (.ireturn, 1) := by decide +kernel
theorem dX6_get_0 : decode cX6_get 0 = .ok (.iload_n 1, 1) := by decide +kernel
theorem dX6_get_1 : decode cX6_get 1 = .ok (.iconst 4, 1) := by decide +kernel
theorem dX6_get_2 : decode cX6_get 2 = .ok (.invokestatic 60, 3) := by decide +kernel
theorem dX6_get_5 : decode cX6_get 5 = .ok (.ifCond .eq 11, 3) := by decide +kernel
theorem dX6_get_8 : decode cX6_get 8 = .ok (.iload_n 2, 1) := by decide +kernel
theorem dX6_get_9 : decode cX6_get 9 = .ok (.iconst 3, 1) := by decide +kernel
theorem dX6_get_10 : decode cX6_get 10 = .ok (.invokestatic 60, 3) := by decide +kernel
theorem dX6_get_13 : decode cX6_get 13 = .ok (.ifCond .ne 7, 3) := by decide +kernel
theorem dX6_get_16 : decode cX6_get 16 = .ok (.ldc_w 275, 3) := by decide +kernel
theorem dX6_get_19 : decode cX6_get 19 = .ok (.ireturn, 1) := by decide +kernel
theorem dX6_get_20 : decode cX6_get 20 = .ok (.aload_n 0, 1) := by decide +kernel
theorem dX6_get_21 : decode cX6_get 21 = .ok (.getfield 27, 3) := by decide +kernel
theorem dX6_get_24 : decode cX6_get 24 = .ok (.iload_n 1, 1) := by decide +kernel
theorem dX6_get_25 : decode cX6_get 25 = .ok (.aaload, 1) := by decide +kernel
theorem dX6_get_26 : decode cX6_get 26 = .ok (.iload_n 2, 1) := by decide +kernel
theorem dX6_get_27 : decode cX6_get 27 = .ok (.iload_n 3, 1) := by decide +kernel
theorem dX6_get_28 : decode cX6_get 28 = .ok (.invokevirtual 269, 3) := by decide +kernel
theorem dX6_get_31 : decode cX6_get 31 = .ok (.istore 4, 2) := by decide +kernel
theorem dX6_get_33 : decode cX6_get 33 = .ok (.iload 4, 2) := by decide +kernel
theorem dX6_get_35 : decode cX6_get 35 = .ok (.ifCond .eq 13, 3) := by decide +kernel
theorem dX6_get_38 : decode cX6_get 38 = .ok (.aload_n 0, 1) := by decide +kernel
theorem dX6_get_39 : decode cX6_get 39 = .ok (.iload 4, 2) := by decide +kernel
theorem dX6_get_41 : decode cX6_get 41 = .ok (.putfield 122, 3) := by decide +kernel
theorem dX6_get_44 : decode cX6_get 44 = .ok (.ldc_w 275, 3) := by decide +kernel
theorem dX6_get_47 : decode cX6_get 47 = .ok (.ireturn, 1) := by decide +kernel
theorem dX6_get_48 : decode cX6_get 48 = .ok (.aload_n 0, 1) := by decide +kernel
theorem dX6_get_49 : decode cX6_get 49 = .ok (.getfield 27, 3) := by decide +kernel
theorem dX6_get_52 : decode cX6_get 52 = .ok (.iload_n 1, 1) := by decide +kernel
theorem dX6_get_53 : decode cX6_get 53 = .ok (.aaload, 1) := by decide +kernel
theorem dX6_get_54 : decode cX6_get 54 = .ok (.iload_n 3, 1) := by decide +kernel
theorem dX6_get_55 : decode cX6_get 55 = .ok (.invokevirtual 113, 3) := by decide +kernel
theorem dX6_get_58 : decode cX6_get 58 = .ok (.ireturn, 1) := by decide +kernel
theorem dX6_copy_0 : decode cX6_copy 0 = .ok (.iload_n 1, 1) := by decide +kernel
theorem dX6_copy_1 : decode cX6_copy 1 = .ok (.iconst 4, 1) := by decide +kernel
theorem dX6_copy_2 : decode cX6_copy 2 = .ok (.invokestatic 60, 3) := by decide +kernel
theorem dX6_copy_5 : decode cX6_copy 5 = .ok (.ifCond .eq 11, 3) := by decide +kernel
theorem dX6_copy_8 : decode cX6_copy 8 = .ok (.iload_n 3, 1) := by decide +kernel
theorem dX6_copy_9 : decode cX6_copy 9 = .ok (.iconst 4, 1) := by decide +kernel
theorem dX6_copy_10 : decode cX6_copy 10 = .ok (.invokestatic 60, 3) := by decide +kernel
theorem dX6_copy_13 : decode cX6_copy 13 = .ok (.ifCond .ne 6, 3) := by decide +kernel
theorem dX6_copy_16 : decode cX6_copy 16 = .ok (.bipush (-2), 2) := by decide +kernel
theorem dX6_copy_18 : decode cX6_copy 18 = .ok (.ireturn, 1) := by decide +kernel
theorem dX6_copy_19 : decode cX6_copy 19 = .ok (.aload_n 0, 1) := by decide +kernel
theorem dX6_copy_20 : decode cX6_copy 20 = .ok (.getfield 27, 3) := by decide +kernel
theorem dX6_copy_23 : decode cX6_copy 23 = .ok (.iload_n 1, 1) := by decide +kernel
theorem dX6_copy_24 : decode cX6_copy 24 = .ok (.aaload, 1) := by decide +kernel
theorem dX6_copy_25 : decode cX6_copy 25 = .ok (.astore 6, 2) := by decide +kernel
theorem dX6_copy_27 : decode cX6_copy 27 = .ok (.aload_n 0, 1) := by decide +kernel
theorem dX6_copy_28 : decode cX6_copy 28 = .ok (.getfield 27, 3) := by decide +kernel
theorem dX6_copy_31 : decode cX6_copy 31 = .ok (.iload_n 3, 1) := by decide +kernel
theorem dX6_copy_32 : decode cX6_copy 32 = .ok (.aaload, 1) := by decide +kernel
theorem dX6_copy_33 : decode cX6_copy 33 = .ok (.astore 7, 2) := by decide +kernel
theorem dX6_copy_35 : decode cX6_copy 35 = .ok (.aload 6, 2) := by decide +kernel
theorem dX6_copy_37 : decode cX6_copy 37 = .ok (.getfield 101, 3) := by decide +kernel
theorem dX6_copy_40 : decode cX6_copy 40 = .ok (.ifCond .ne 11, 3) := by decide +kernel
theorem dX6_copy_43 : decode cX6_copy 43 = .ok (.aload 7, 2) := by decide +kernel
theorem dX6_copy_45 : decode cX6_copy 45 = .ok (.getfield 101, 3) := by decide +kernel
theorem dX6_copy_48 : decode cX6_copy 48 = .ok (.ifCond .eq 9, 3) := by decide +kernel
theorem dX6_copy_51 : decode cX6_copy 51 = .ok (.aload_n 0, 1) := by decide +kernel
theorem dX6_copy_52 : decode cX6_copy 52 = .ok (.iconst 1, 1) := by decide +kernel
theorem dX6_copy_53 : decode cX6_copy 53 = .ok (.invokevirtual 105, 3) := by decide +kernel
theorem dX6_copy_56 : decode cX6_copy 56 = .ok (.ireturn, 1) := by decide +kernel
theorem dX6_copy_57 : decode cX6_copy 57 = .ok (.aload 6, 2) := by decide +kernel
theorem dX6_copy_59 : decode cX6_copy 59 = .ok (.getfield 276, 3) := by decide +kernel
theorem dX6_copy_62 : decode cX6_copy 62 = .ok (.aload 7, 2) := by decide +kernel
theorem dX6_copy_64 : decode cX6_copy 64 = .ok (.getfield 276, 3) := by decide +kernel
theorem dX6_copy_67 : decode cX6_copy 67 = .ok (.if_icmp .eq 9, 3) := by decide +kernel
theorem dX6_copy_70 : decode cX6_copy 70 = .ok (.aload_n 0, 1) := by decide +kernel
theorem dX6_copy_71 : decode cX6_copy 71 = .ok (.iconst 4, 1) := by decide +kernel
theorem dX6_copy_72 : decode cX6_copy 72 = .ok (.invokevirtual 105, 3) := by decide +kernel
theorem dX6_copy_75 : decode cX6_copy 75 = .ok (.ireturn, 1) := by decide +kernel
theorem dX6_copy_76 : decode cX6_copy 76 = .ok (.aload 6, 2) := by decide +kernel
theorem dX6_copy_78 : decode cX6_copy 78 = .ok (.iload_n 2, 1) := by decide +kernel
theorem dX6_copy_79 : decode cX6_copy 79 = .ok (.iload 5, 2) := by decide +kernel
theorem dX6_copy_81 : decode cX6_copy 81 = .ok (.invokevirtual 279, 3) := by decide +kernel
theorem dX6_copy_84 : decode cX6_copy 84 = .ok (.ifCond .eq 15, 3) := by decide +kernel
theorem dX6_copy_87 : decode cX6_copy 87 = .ok (.aload 7, 2) := by decide +kernel
theorem dX6_copy_89 : decode cX6_copy 89 = .ok (.iload 4, 2) := by decide +kernel
theorem dX6_copy_91 : decode cX6_copy 91 = .ok (.iload 5, 2) := by decide +kernel
theorem dX6_copy_93 : decode cX6_copy 93 = .ok (.invokevirtual 279, 3) := by decide +kernel
theorem dX6_copy_96 : decode cX6_copy 96 = .ok (.ifCond .ne 9, 3) := by decide +kernel
theorem dX6_copy_99 : decode cX6_copy 99 = .ok (.aload_n 0, 1) := by decide +kernel
theorem dX6_copy_100 : decode cX6_copy 100 = .ok (.iconst 2, 1) := by decide +kernel
theorem dX6_copy_101 : decode cX6_copy 101 = .ok (.invokevirtual 105, 3) := by decide +kernel
theorem dX6_copy_104 : decode cX6_copy 104 = .ok (.ireturn, 1) := by decide +kernel
theorem dX6_copy_105 : decode cX6_copy 105 = .ok (.aload 6, 2) := by decide +kernel
theorem dX6_copy_107 : decode cX6_copy 107 = .ok (.getfield 282, 3) := by decide +kernel
theorem dX6_copy_110 : decode cX6_copy 110 = .ok (.iload_n 2, 1) := by decide +kernel
theorem dX6_copy_111 : decode cX6_copy 111 = .ok (.aload 7, 2) := by decide +kernel
theorem dX6_copy_113 : decode cX6_copy 113 = .ok (.getfield 282, 3) := by decide +kernel
theorem dX6_copy_116 : decode cX6_copy 116 = .ok (.iload 4, 2) := by decide +kernel
theorem dX6_copy_118 : decode cX6_copy 118 = .ok (.iload 5, 2) := by decide +kernel
theorem dX6_copy_120 : decode cX6_copy 120 = .ok (.invokestatic 285, 3) := by decide +kernel
theorem dX6_copy_123 : decode cX6_copy 123 = .ok (.iconst 1, 1) := by decide +kernel
theorem dX6_copy_124 : decode cX6_copy 124 = .ok (.ireturn, 1) := by decide +kernel
theorem dX6_write_0 : decode cX6_write 0 = .ok (.iload_n 1, 1) := by decide +kernel
theorem dX6_write_1 : decode cX6_write 1 = .ok (.iconst 2, 1) := by decide +kernel
theorem dX6_write_2 : decode cX6_write 2 = .ok (.invokestatic 60, 3) := by decide +kernel
theorem dX6_write_5 : decode cX6_write 5 = .ok (.ifCond .eq 11, 3) := by decide +kernel
theorem dX6_write_8 : decode cX6_write 8 = .ok (.iload_n 2, 1) := by decide +kernel
theorem dX6_write_9 : decode cX6_write 9 = .ok (.iconst 4, 1) := by decide +kernel
theorem dX6_write_10 : decode cX6_write 10 = .ok (.invokestatic 60, 3) := by decide +kernel
theorem dX6_write_13 : decode cX6_write 13 = .ok (.ifCond .ne 6, 3) := by decide +kernel
theorem dX6_write_16 : decode cX6_write 16 = .ok (.bipush (-2), 2) := by decide +kernel
theorem dX6_write_18 : decode cX6_write 18 = .ok (.ireturn, 1) := by decide +kernel
theorem dX6_write_19 : decode cX6_write 19 = .ok (.aload_n 0, 1) := by decide +kernel
theorem dX6_write_20 : decode cX6_write 20 = .ok (.getfield 27, 3) := by decide +kernel
theorem dX6_write_23 : decode cX6_write 23 = .ok (.iload_n 2, 1) := by decide +kernel
theorem dX6_write_24 : decode cX6_write 24 = .ok (.aaload, 1) := by decide +kernel
theorem dX6_write_25 : decode cX6_write 25 = .ok (.astore_n 3, 1) := by decide +kernel
theorem dX6_write_26 : decode cX6_write 26 = .ok (.aload_n 3, 1) := by decide +kernel
theorem dX6_write_27 : decode cX6_write 27 = .ok (.getfield 101, 3) := by decide +kernel
theorem dX6_write_30 : decode cX6_write 30 = .ok (.ifCond .eq 9, 3) := by decide +kernel
theorem dX6_write_33 : decode cX6_write 33 = .ok (.aload_n 0, 1) := by decide +kernel
theorem dX6_write_34 : decode cX6_write 34 = .ok (.iconst 1, 1) := by decide +kernel
theorem dX6_write_35 : decode cX6_write 35 = .ok (.invokevirtual 105, 3) := by decide +kernel
theorem dX6_write_38 : decode cX6_write 38 = .ok (.ireturn, 1) := by decide +kernel
theorem dX6_write_39 : decode cX6_write 39 = .ok (.aload_n 0, 1) := by decide +kernel
theorem dX6_write_40 : decode cX6_write 40 = .ok (.iload_n 1, 1) := by decide +kernel
theorem dX6_write_41 : decode cX6_write 41 = .ok (.iconst (-1), 1) := by decide +kernel
theorem dX6_write_42 : decode cX6_write 42 = .ok (.invokevirtual 190, 3) := by decide +kernel
theorem dX6_write_45 : decode cX6_write 45 = .ok (.astore 4, 2) := by decide +kernel
theorem dX6_write_47 : decode cX6_write 47 = .ok (.iconst 2, 1) := by decide +kernel
theorem dX6_write_48 : decode cX6_write 48 = .ok (.aload 4, 2) := by decide +kernel
theorem dX6_write_50 : decode cX6_write 50 = .ok (.getfield 194, 3) := by decide +kernel
theorem dX6_write_53 : decode cX6_write 53 = .ok (.imul, 1) := by decide +kernel
theorem dX6_write_54 : decode cX6_write 54 = .ok (.aload_n 3, 1) := by decide +kernel
theorem dX6_write_55 : decode cX6_write 55 = .ok (.getfield 108, 3) := by decide +kernel
theorem dX6_write_58 : decode cX6_write 58 = .ok (.invokestatic 257, 3) := by decide +kernel
theorem dX6_write_61 : decode cX6_write 61 = .ok (.istore 5, 2) := by decide +kernel
theorem dX6_write_63 : decode cX6_write 63 = .ok (.iconst 0, 1) := by decide +kernel
theorem dX6_write_64 : decode cX6_write 64 = .ok (.istore 6, 2) := by decide +kernel
theorem dX6_write_66 : decode cX6_write 66 = .ok (.iload 6, 2) := by decide +kernel
theorem dX6_write_68 : decode cX6_write 68 = .ok (.iload 5, 2) := by decide +kernel
theorem dX6_write_70 : decode cX6_write 70 = .ok (.if_icmp .ge 45, 3) := by decide +kernel
theorem dX6_write_73 : decode cX6_write 73 = .ok (.aload_n 3, 1) := by decide +kernel
theorem dX6_write_74 : decode cX6_write 74 = .ok (.iload 6, 2) := by decide +kernel
theorem dX6_write_76 : decode cX6_write 76 = .ok (.iload 6, 2) := by decide +kernel
theorem dX6_write_78 : decode cX6_write 78 = .ok (.iconst 2, 1) := by decide +kernel
theorem dX6_write_79 : decode cX6_write 79 = .ok (.irem, 1) := by decide +kernel
theorem dX6_write_80 : decode cX6_write 80 = .ok (.ifCond .ne 16, 3) := by decide +kernel
theorem dX6_write_83 : decode cX6_write 83 = .ok (.aload 4, 2) := by decide +kernel
theorem dX6_write_85 : decode cX6_write 85 = .ok (.getfield 198, 3) := by decide +kernel
theorem dX6_write_88 : decode cX6_write 88 = .ok (.iload 6, 2) := by decide +kernel
theorem dX6_write_90 : decode cX6_write 90 = .ok (.iconst 2, 1) := by decide +kernel
theorem dX6_write_91 : decode cX6_write 91 = .ok (.idiv, 1) := by decide +kernel
theorem dX6_write_92 : decode cX6_write 92 = .ok (.iaload, 1) := by decide +kernel
theorem dX6_write_93 : decode cX6_write 93 = .ok (.goto 13, 3) := by decide +kernel
theorem dX6_write_96 : decode cX6_write 96 = .ok (.aload 4, 2) := by decide +kernel
theorem dX6_write_98 : decode cX6_write 98 = .ok (.getfield 201, 3) := by decide +kernel
theorem dX6_write_101 : decode cX6_write 101 = .ok (.iload 6, 2) := by decide +kernel
theorem dX6_write_103 : decode cX6_write 103 = .ok (.iconst 2, 1) := by decide +kernel
theorem dX6_write_104 : decode cX6_write 104 = .ok (.idiv, 1) := by decide +kernel
theorem dX6_write_105 : decode cX6_write 105 = .ok (.iaload, 1) := by decide +kernel
theorem dX6_write_106 : decode cX6_write 106 = .ok (.invokevirtual 272, 3) := by decide +kernel
theorem dX6_write_109 : decode cX6_write 109 = .ok (.iinc 6 1, 3) := by decide +kernel
theorem dX6_write_112 : decode cX6_write 112 = .ok (.goto (-46), 3) := by decide +kernel
theorem dX6_write_115 : decode cX6_write 115 = .ok (.iload 5, 2) := by decide +kernel
theorem dX6_write_117 : decode cX6_write 117 = .ok (.ireturn, 1) := by decide +kernel
theorem dX6_count_0 : decode cX6_count 0 = .ok (.iload_n 1, 1) := by decide +kernel
theorem dX6_count_1 : decode cX6_count 1 = .ok (.tableswitch 120 0 8 #[51, 61, 71, 81, 91, 97, 102, 109, 115], 51) := by decide +kernel
theorem dX6_count_52 : decode cX6_count 52 = .ok (.aload_n 0, 1) := by decide +kernel
theorem dX6_count_53 : decode cX6_count 53 = .ok (.getfield 11, 3) := by decide +kernel
theorem dX6_count_56 : decode cX6_count 56 = .ok (.iconst 0, 1) := by decide +kernel
theorem dX6_count_57 : decode cX6_count 57 = .ok (.aaload, 1) := by decide +kernel
theorem dX6_count_58 : decode cX6_count 58 = .ok (.getfield 76, 3) := by decide +kernel
theorem dX6_count_61 : decode cX6_count 61 = .ok (.ireturn, 1) := by decide +kernel
theorem dX6_count_62 : decode cX6_count 62 = .ok (.aload_n 0, 1) := by decide +kernel
theorem dX6_count_63 : decode cX6_count 63 = .ok (.getfield 11, 3) := by decide +kernel
theorem dX6_count_66 : decode cX6_count 66 = .ok (.iconst 1, 1) := by decide +kernel
theorem dX6_count_67 : decode cX6_count 67 = .ok (.aaload, 1) := by decide +kernel
theorem dX6_count_68 : decode cX6_count 68 = .ok (.getfield 76, 3) := by decide +kernel
theorem dX6_count_71 : decode cX6_count 71 = .ok (.ireturn, 1) := by decide +kernel
theorem dX6_count_72 : decode cX6_count 72 = .ok (.aload_n 0, 1) := by decide +kernel
theorem dX6_count_73 : decode cX6_count 73 = .ok (.getfield 11, 3) := by decide +kernel
theorem dX6_count_76 : decode cX6_count 76 = .ok (.iconst 0, 1) := by decide +kernel
theorem dX6_count_77 : decode cX6_count 77 = .ok (.aaload, 1) := by decide +kernel
theorem dX6_count_78 : decode cX6_count 78 = .ok (.invokevirtual 217, 3) := by decide +kernel
theorem dX6_count_81 : decode cX6_count 81 = .ok (.ireturn, 1) := by decide +kernel
theorem dX6_count_82 : decode cX6_count 82 = .ok (.aload_n 0, 1) := by decide +kernel
theorem dX6_count_83 : decode cX6_count 83 = .ok (.getfield 11, 3) := by decide +kernel
theorem dX6_count_86 : decode cX6_count 86 = .ok (.iconst 1, 1) := by decide +kernel
theorem dX6_count_87 : decode cX6_count 87 = .ok (.aaload, 1) := by decide +kernel
theorem dX6_count_88 : decode cX6_count 88 = .ok (.invokevirtual 217, 3) := by decide +kernel
theorem dX6_count_91 : decode cX6_count 91 = .ok (.ireturn, 1) := by decide +kernel
theorem dX6_count_92 : decode cX6_count 92 = .ok (.aload_n 0, 1) := by decide +kernel
theorem dX6_count_93 : decode cX6_count 93 = .ok (.iconst 1, 1) := by decide +kernel
theorem dX6_count_94 : decode cX6_count 94 = .ok (.invokevirtual 291, 3) := by decide +kernel
theorem dX6_count_97 : decode cX6_count 97 = .ok (.ireturn, 1) := by decide +kernel
theorem dX6_count_98 : decode cX6_count 98 = .ok (.aload_n 0, 1) := by decide +kernel
theorem dX6_count_99 : decode cX6_count 99 = .ok (.invokevirtual 294, 3) := by decide +kernel
theorem dX6_count_102 : decode cX6_count 102 = .ok (.ireturn, 1) := by decide +kernel
theorem dX6_count_103 : decode cX6_count 103 = .ok (.aload_n 0, 1) := by decide +kernel
theorem dX6_count_104 : decode cX6_count 104 = .ok (.getfield 22, 3) := by decide +kernel
theorem dX6_count_107 : decode cX6_count 107 = .ok (.iconst 0, 1) := by decide +kernel
theorem dX6_count_108 : decode cX6_count 108 = .ok (.iaload, 1) := by decide +kernel
theorem dX6_count_109 : decode cX6_count 109 = .ok (.ireturn, 1) := by decide +kernel
theorem dX6_count_110 : decode cX6_count 110 = .ok (.aload_n 0, 1) := by decide +kernel
theorem dX6_count_111 : decode cX6_count 111 = .ok (.iconst (-1), 1) := by decide +kernel
theorem dX6_count_112 : decode cX6_count 112 = .ok (.invokevirtual 297, 3) := by decide +kernel
theorem dX6_count_115 : decode cX6_count 115 = .ok (.ireturn, 1) := by decide +kernel
theorem dX6_count_116 : decode cX6_count 116 = .ok (.aload_n 0, 1) := by decide +kernel
theorem dX6_count_117 : decode cX6_count 117 = .ok (.getfield 122, 3) := by decide +kernel
theorem dX6_count_120 : decode cX6_count 120 = .ok (.ireturn, 1) := by decide +kernel
theorem dX6_count_121 : decode cX6_count 121 = .ok (.bipush (-2), 2) := by decide +kernel
theorem dX6_count_123 : decode cX6_count 123 = .ok (.ireturn, 1) := by decide +kernel
theorem dX6_digest_0 : decode cX6_digest 0 = .ok (.ldc2_w 300, 3) := by decide +kernel
theorem dX6_digest_3 : decode cX6_digest 3 = .ok (.lstore_n 1, 1) := by decide +kernel
theorem dX6_digest_4 : decode cX6_digest 4 = .ok (.iconst 0, 1) := by decide +kernel
theorem dX6_digest_5 : decode cX6_digest 5 = .ok (.istore_n 3, 1) := by decide +kernel
theorem dX6_digest_6 : decode cX6_digest 6 = .ok (.iload_n 3, 1) := by decide +kernel
theorem dX6_digest_7 : decode cX6_digest 7 = .ok (.bipush 7, 2) := by decide +kernel
theorem dX6_digest_9 : decode cX6_digest 9 = .ok (.if_icmp .gt 22, 3) := by decide +kernel
theorem dX6_digest_12 : decode cX6_digest 12 = .ok (.ldc2_w 302, 3) := by decide +kernel
theorem dX6_digest_15 : decode cX6_digest 15 = .ok (.lload_n 1, 1) := by decide +kernel
theorem dX6_digest_16 : decode cX6_digest 16 = .ok (.lmul, 1) := by decide +kernel
theorem dX6_digest_17 : decode cX6_digest 17 = .ok (.aload_n 0, 1) := by decide +kernel
theorem dX6_digest_18 : decode cX6_digest 18 = .ok (.iload_n 3, 1) := by decide +kernel
theorem dX6_digest_19 : decode cX6_digest 19 = .ok (.invokevirtual 304, 3) := by decide +kernel
theorem dX6_digest_22 : decode cX6_digest 22 = .ok (.i2l, 1) := by decide +kernel
theorem dX6_digest_23 : decode cX6_digest 23 = .ok (.ladd, 1) := by decide +kernel
theorem dX6_digest_24 : decode cX6_digest 24 = .ok (.lstore_n 1, 1) := by decide +kernel
theorem dX6_digest_25 : decode cX6_digest 25 = .ok (.iinc 3 1, 3) := by decide +kernel
theorem dX6_digest_28 : decode cX6_digest 28 = .ok (.goto (-22), 3) := by decide +kernel
theorem dX6_digest_31 : decode cX6_digest 31 = .ok (.iconst 0, 1) := by decide +kernel
theorem dX6_digest_32 : decode cX6_digest 32 = .ok (.istore_n 3, 1) := by decide +kernel
theorem dX6_digest_33 : decode cX6_digest 33 = .ok (.iload_n 3, 1) := by decide +kernel
theorem dX6_digest_34 : decode cX6_digest 34 = .ok (.iconst 2, 1) := by decide +kernel
theorem dX6_digest_35 : decode cX6_digest 35 = .ok (.if_icmp .ge 21, 3) := by decide +kernel
theorem dX6_digest_38 : decode cX6_digest 38 = .ok (.aload_n 0, 1) := by decide +kernel
theorem dX6_digest_39 : decode cX6_digest 39 = .ok (.aload_n 0, 1) := by decide +kernel
theorem dX6_digest_40 : decode cX6_digest 40 = .ok (.lload_n 1, 1) := by decide +kernel
theorem dX6_digest_41 : decode cX6_digest 41 = .ok (.iload_n 3, 1) := by decide +kernel
theorem dX6_digest_42 : decode cX6_digest 42 = .ok (.invokevirtual 307, 3) := by decide +kernel
theorem dX6_digest_45 : decode cX6_digest 45 = .ok (.iload_n 3, 1) := by decide +kernel
theorem dX6_digest_46 : decode cX6_digest 46 = .ok (.invokevirtual 311, 3) := by decide +kernel
theorem dX6_digest_49 : decode cX6_digest 49 = .ok (.lstore_n 1, 1) := by decide +kernel
theorem dX6_digest_50 : decode cX6_digest 50 = .ok (.iinc 3 1, 3) := by decide +kernel
theorem dX6_digest_53 : decode cX6_digest 53 = .ok (.goto (-20), 3) := by decide +kernel
theorem dX6_digest_56 : decode cX6_digest 56 = .ok (.iconst 0, 1) := by decide +kernel
theorem dX6_digest_57 : decode cX6_digest 57 = .ok (.istore_n 3, 1) := by decide +kernel
theorem dX6_digest_58 : decode cX6_digest 58 = .ok (.iload_n 3, 1) := by decide +kernel
theorem dX6_digest_59 : decode cX6_digest 59 = .ok (.aload_n 0, 1) := by decide +kernel
theorem dX6_digest_60 : decode cX6_digest 60 = .ok (.getfield 11, 3) := by decide +kernel
theorem dX6_digest_63 : decode cX6_digest 63 = .ok (.iconst 1, 1) := by decide +kernel
theorem dX6_digest_64 : decode cX6_digest 64 = .ok (.aaload, 1) := by decide +kernel
theorem dX6_digest_65 : decode cX6_digest 65 = .ok (.getfield 76, 3) := by decide +kernel
theorem dX6_digest_68 : decode cX6_digest 68 = .ok (.if_icmp .ge 39, 3) := by decide +kernel
theorem dX6_digest_71 : decode cX6_digest 71 = .ok (.iconst 0, 1) := by decide +kernel
theorem dX6_digest_72 : decode cX6_digest 72 = .ok (.istore 4, 2) := by decide +kernel
theorem dX6_digest_74 : decode cX6_digest 74 = .ok (.iload 4, 2) := by decide +kernel
theorem dX6_digest_76 : decode cX6_digest 76 = .ok (.iconst 2, 1) := by decide +kernel
theorem dX6_digest_77 : decode cX6_digest 77 = .ok (.if_icmp .gt 24, 3) := by decide +kernel
theorem dX6_digest_80 : decode cX6_digest 80 = .ok (.ldc2_w 302, 3) := by decide +kernel
theorem dX6_digest_83 : decode cX6_digest 83 = .ok (.lload_n 1, 1) := by decide +kernel
theorem dX6_digest_84 : decode cX6_digest 84 = .ok (.lmul, 1) := by decide +kernel
theorem dX6_digest_85 : decode cX6_digest 85 = .ok (.aload_n 0, 1) := by decide +kernel
theorem dX6_digest_86 : decode cX6_digest 86 = .ok (.iload_n 3, 1) := by decide +kernel
theorem dX6_digest_87 : decode cX6_digest 87 = .ok (.iload 4, 2) := by decide +kernel
theorem dX6_digest_89 : decode cX6_digest 89 = .ok (.invokevirtual 314, 3) := by decide +kernel
theorem dX6_digest_92 : decode cX6_digest 92 = .ok (.i2l, 1) := by decide +kernel
theorem dX6_digest_93 : decode cX6_digest 93 = .ok (.ladd, 1) := by decide +kernel
theorem dX6_digest_94 : decode cX6_digest 94 = .ok (.lstore_n 1, 1) := by decide +kernel
theorem dX6_digest_95 : decode cX6_digest 95 = .ok (.iinc 4 1, 3) := by decide +kernel
theorem dX6_digest_98 : decode cX6_digest 98 = .ok (.goto (-24), 3) := by decide +kernel
theorem dX6_digest_101 : decode cX6_digest 101 = .ok (.iinc 3 1, 3) := by decide +kernel
theorem dX6_digest_104 : decode cX6_digest 104 = .ok (.goto (-46), 3) := by decide +kernel
theorem dX6_digest_107 : decode cX6_digest 107 = .ok (.ldc2_w 302, 3) := by decide +kernel
theorem dX6_digest_110 : decode cX6_digest 110 = .ok (.lload_n 1, 1) := by decide +kernel
theorem dX6_digest_111 : decode cX6_digest 111 = .ok (.lmul, 1) := by decide +kernel
theorem dX6_digest_112 : decode cX6_digest 112 = .ok (.aload_n 0, 1) := by decide +kernel
theorem dX6_digest_113 : decode cX6_digest 113 = .ok (.invokevirtual 317, 3) := by decide +kernel
theorem dX6_digest_116 : decode cX6_digest 116 = .ok (.i2l, 1) := by decide +kernel
theorem dX6_digest_117 : decode cX6_digest 117 = .ok (.ladd, 1) := by decide +kernel
theorem dX6_digest_118 : decode cX6_digest 118 = .ok (.lstore_n 1, 1) := by decide +kernel
theorem dX6_digest_119 : decode cX6_digest 119 = .ok (.ldc2_w 302, 3) := by decide +kernel
theorem dX6_digest_122 : decode cX6_digest 122 = .ok (.lload_n 1, 1) := by decide +kernel
theorem dX6_digest_123 : decode cX6_digest 123 = .ok (.lmul, 1) := by decide +kernel
theorem dX6_digest_124 : decode cX6_digest 124 = .ok (.aload_n 0, 1) := by decide +kernel
theorem dX6_digest_125 : decode cX6_digest 125 = .ok (.iconst (-1), 1) := by decide +kernel
theorem dX6_digest_126 : decode cX6_digest 126 = .ok (.invokevirtual 297, 3) := by decide +kernel
theorem dX6_digest_129 : decode cX6_digest 129 = .ok (.i2l, 1) := by decide +kernel
theorem dX6_digest_130 : decode cX6_digest 130 = .ok (.ladd, 1) := by decide +kernel
theorem dX6_digest_131 : decode cX6_digest 131 = .ok (.lstore_n 1, 1) := by decide +kernel
theorem dX6_digest_132 : decode cX6_digest 132 = .ok (.ldc2_w 302, 3) := by decide +kernel
theorem dX6_digest_135 : decode cX6_digest 135 = .ok (.lload_n 1, 1) := by decide +kernel
theorem dX6_digest_136 : decode cX6_digest 136 = .ok (.lmul, 1) := by decide +kernel
theorem dX6_digest_137 : decode cX6_digest 137 = .ok (.aload_n 0, 1) := by decide +kernel
theorem dX6_digest_138 : decode cX6_digest 138 = .ok (.iconst 0, 1) := by decide +kernel
theorem dX6_digest_139 : decode cX6_digest 139 = .ok (.invokevirtual 297, 3) := by decide +kernel
theorem dX6_digest_142 : decode cX6_digest 142 = .ok (.i2l, 1) := by decide +kernel
theorem dX6_digest_143 : decode cX6_digest 143 = .ok (.ladd, 1) := by decide +kernel
theorem dX6_digest_144 : decode cX6_digest 144 = .ok (.lstore_n 1, 1) := by decide +kernel
theorem dX6_digest_145 : decode cX6_digest 145 = .ok (.ldc2_w 302, 3) := by decide +kernel
theorem dX6_digest_148 : decode cX6_digest 148 = .ok (.lload_n 1, 1) := by decide +kernel
theorem dX6_digest_149 : decode cX6_digest 149 = .ok (.lmul, 1) := by decide +kernel
theorem dX6_digest_150 : decode cX6_digest 150 = .ok (.aload_n 0, 1) := by decide +kernel
theorem dX6_digest_151 : decode cX6_digest 151 = .ok (.bipush 25, 2) := by decide +kernel
theorem dX6_digest_153 : decode cX6_digest 153 = .ok (.invokevirtual 297, 3) := by decide +kernel
theorem dX6_digest_156 : decode cX6_digest 156 = .ok (.i2l, 1) := by decide +kernel
theorem dX6_digest_157 : decode cX6_digest 157 = .ok (.ladd, 1) := by decide +kernel
theorem dX6_digest_158 : decode cX6_digest 158 = .ok (.lstore_n 1, 1) := by decide +kernel
theorem dX6_digest_159 : decode cX6_digest 159 = .ok (.ldc2_w 302, 3) := by decide +kernel
theorem dX6_digest_162 : decode cX6_digest 162 = .ok (.lload_n 1, 1) := by decide +kernel
theorem dX6_digest_163 : decode cX6_digest 163 = .ok (.lmul, 1) := by decide +kernel
theorem dX6_digest_164 : decode cX6_digest 164 = .ok (.aload_n 0, 1) := by decide +kernel
theorem dX6_digest_165 : decode cX6_digest 165 = .ok (.iconst 0, 1) := by decide +kernel
theorem dX6_digest_166 : decode cX6_digest 166 = .ok (.invokevirtual 320, 3) := by decide +kernel
theorem dX6_digest_169 : decode cX6_digest 169 = .ok (.i2l, 1) := by decide +kernel
theorem dX6_digest_170 : decode cX6_digest 170 = .ok (.ladd, 1) := by decide +kernel
theorem dX6_digest_171 : decode cX6_digest 171 = .ok (.lstore_n 1, 1) := by decide +kernel
theorem dX6_digest_172 : decode cX6_digest 172 = .ok (.ldc2_w 302, 3) := by decide +kernel
theorem dX6_digest_175 : decode cX6_digest 175 = .ok (.lload_n 1, 1) := by decide +kernel
theorem dX6_digest_176 : decode cX6_digest 176 = .ok (.lmul, 1) := by decide +kernel
theorem dX6_digest_177 : decode cX6_digest 177 = .ok (.aload_n 0, 1) := by decide +kernel
theorem dX6_digest_178 : decode cX6_digest 178 = .ok (.iconst 1, 1) := by decide +kernel
theorem dX6_digest_179 : decode cX6_digest 179 = .ok (.invokevirtual 320, 3) := by decide +kernel
theorem dX6_digest_182 : decode cX6_digest 182 = .ok (.i2l, 1) := by decide +kernel
theorem dX6_digest_183 : decode cX6_digest 183 = .ok (.ladd, 1) := by decide +kernel
theorem dX6_digest_184 : decode cX6_digest 184 = .ok (.lstore_n 1, 1) := by decide +kernel
theorem dX6_digest_185 : decode cX6_digest 185 = .ok (.aload_n 0, 1) := by decide +kernel
theorem dX6_digest_186 : decode cX6_digest 186 = .ok (.aload_n 0, 1) := by decide +kernel
theorem dX6_digest_187 : decode cX6_digest 187 = .ok (.aload_n 0, 1) := by decide +kernel
theorem dX6_digest_188 : decode cX6_digest 188 = .ok (.lload_n 1, 1) := by decide +kernel
theorem dX6_digest_189 : decode cX6_digest 189 = .ok (.sipush 1799, 3) := by decide +kernel
theorem dX6_digest_192 : decode cX6_digest 192 = .ok (.invokevirtual 323, 3) := by decide +kernel
theorem dX6_digest_195 : decode cX6_digest 195 = .ok (.sipush 1800, 3) := by decide +kernel
theorem dX6_digest_198 : decode cX6_digest 198 = .ok (.invokevirtual 323, 3) := by decide +kernel
theorem dX6_digest_201 : decode cX6_digest 201 = .ok (.sipush 17982, 3) := by decide +kernel
theorem dX6_digest_204 : decode cX6_digest 204 = .ok (.invokevirtual 323, 3) := by decide +kernel
theorem dX6_digest_207 : decode cX6_digest 207 = .ok (.lstore_n 1, 1) := by decide +kernel
theorem dX6_digest_208 : decode cX6_digest 208 = .ok (.ldc2_w 302, 3) := by decide +kernel
theorem dX6_digest_211 : decode cX6_digest 211 = .ok (.lload_n 1, 1) := by decide +kernel
theorem dX6_digest_212 : decode cX6_digest 212 = .ok (.lmul, 1) := by decide +kernel
theorem dX6_digest_213 : decode cX6_digest 213 = .ok (.aload_n 0, 1) := by decide +kernel
theorem dX6_digest_214 : decode cX6_digest 214 = .ok (.iconst 0, 1) := by decide +kernel
theorem dX6_digest_215 : decode cX6_digest 215 = .ok (.iconst 1, 1) := by decide +kernel
theorem dX6_digest_216 : decode cX6_digest 216 = .ok (.iconst 0, 1) := by decide +kernel
theorem dX6_digest_217 : decode cX6_digest 217 = .ok (.iconst 0, 1) := by decide +kernel
theorem dX6_digest_218 : decode cX6_digest 218 = .ok (.invokevirtual 326, 3) := by decide +kernel
theorem dX6_digest_221 : decode cX6_digest 221 = .ok (.i2l, 1) := by decide +kernel
theorem dX6_digest_222 : decode cX6_digest 222 = .ok (.ladd, 1) := by decide +kernel
theorem dX6_digest_223 : decode cX6_digest 223 = .ok (.lstore_n 1, 1) := by decide +kernel
theorem dX6_digest_224 : decode cX6_digest 224 = .ok (.ldc2_w 302, 3) := by decide +kernel
theorem dX6_digest_227 : decode cX6_digest 227 = .ok (.lload_n 1, 1) := by decide +kernel
theorem dX6_digest_228 : decode cX6_digest 228 = .ok (.lmul, 1) := by decide +kernel
theorem dX6_digest_229 : decode cX6_digest 229 = .ok (.aload_n 0, 1) := by decide +kernel
theorem dX6_digest_230 : decode cX6_digest 230 = .ok (.iconst 0, 1) := by decide +kernel
theorem dX6_digest_231 : decode cX6_digest 231 = .ok (.bipush 10, 2) := by decide +kernel
theorem dX6_digest_233 : decode cX6_digest 233 = .ok (.iconst 0, 1) := by decide +kernel
theorem dX6_digest_234 : decode cX6_digest 234 = .ok (.iconst 0, 1) := by decide +kernel
theorem dX6_digest_235 : decode cX6_digest 235 = .ok (.invokevirtual 326, 3) := by decide +kernel
theorem dX6_digest_238 : decode cX6_digest 238 = .ok (.i2l, 1) := by decide +kernel
theorem dX6_digest_239 : decode cX6_digest 239 = .ok (.ladd, 1) := by decide +kernel
theorem dX6_digest_240 : decode cX6_digest 240 = .ok (.lstore_n 1, 1) := by decide +kernel
theorem dX6_digest_241 : decode cX6_digest 241 = .ok (.ldc2_w 302, 3) := by decide +kernel
theorem dX6_digest_244 : decode cX6_digest 244 = .ok (.lload_n 1, 1) := by decide +kernel
theorem dX6_digest_245 : decode cX6_digest 245 = .ok (.lmul, 1) := by decide +kernel
theorem dX6_digest_246 : decode cX6_digest 246 = .ok (.aload_n 0, 1) := by decide +kernel
theorem dX6_digest_247 : decode cX6_digest 247 = .ok (.iconst 1, 1) := by decide +kernel
theorem dX6_digest_248 : decode cX6_digest 248 = .ok (.iconst 2, 1) := by decide +kernel
theorem dX6_digest_249 : decode cX6_digest 249 = .ok (.iconst 3, 1) := by decide +kernel
theorem dX6_digest_250 : decode cX6_digest 250 = .ok (.iconst 4, 1) := by decide +kernel
theorem dX6_digest_251 : decode cX6_digest 251 = .ok (.invokevirtual 326, 3) := by decide +kernel
theorem dX6_digest_254 : decode cX6_digest 254 = .ok (.i2l, 1) := by decide +kernel
theorem dX6_digest_255 : decode cX6_digest 255 = .ok (.ladd, 1) := by decide +kernel
theorem dX6_digest_256 : decode cX6_digest 256 = .ok (.lreturn, 1) := by decide +kernel
theorem dX6_digestOfEdits_0 : decode cX6_digestOfEdits 0 = .ok (.lload_n 1, 1) := by decide +kernel
theorem dX6_digestOfEdits_1 : decode cX6_digestOfEdits 1 = .ok (.lstore 4, 2) := by decide +kernel
theorem dX6_digestOfEdits_3 : decode cX6_digestOfEdits 3 = .ok (.iconst 0, 1) := by decide +kernel
theorem dX6_digestOfEdits_4 : decode cX6_digestOfEdits 4 = .ok (.istore 6, 2) := by decide +kernel
theorem dX6_digestOfEdits_6 : decode cX6_digestOfEdits 6 = .ok (.iload 6, 2) := by decide +kernel
theorem dX6_digestOfEdits_8 : decode cX6_digestOfEdits 8 = .ok (.aload_n 0, 1) := by decide +kernel
theorem dX6_digestOfEdits_9 : decode cX6_digestOfEdits 9 = .ok (.getfield 11, 3) := by decide +kernel
theorem dX6_digestOfEdits_12 : decode cX6_digestOfEdits 12 = .ok (.iload_n 3, 1) := by decide +kernel
theorem dX6_digestOfEdits_13 : decode cX6_digestOfEdits 13 = .ok (.aaload, 1) := by decide +kernel
theorem dX6_digestOfEdits_14 : decode cX6_digestOfEdits 14 = .ok (.getfield 76, 3) := by decide +kernel
theorem dX6_digestOfEdits_17 : decode cX6_digestOfEdits 17 = .ok (.if_icmp .ge 80, 3) := by decide +kernel
theorem dX6_digestOfEdits_20 : decode cX6_digestOfEdits 20 = .ok (.iconst 0, 1) := by decide +kernel
theorem dX6_digestOfEdits_21 : decode cX6_digestOfEdits 21 = .ok (.istore 7, 2) := by decide +kernel
theorem dX6_digestOfEdits_23 : decode cX6_digestOfEdits 23 = .ok (.iload 7, 2) := by decide +kernel
theorem dX6_digestOfEdits_25 : decode cX6_digestOfEdits 25 = .ok (.bipush 7, 2) := by decide +kernel
theorem dX6_digestOfEdits_27 : decode cX6_digestOfEdits 27 = .ok (.if_icmp .gt 28, 3) := by decide +kernel
theorem dX6_digestOfEdits_30 : decode cX6_digestOfEdits 30 = .ok (.ldc2_w 302, 3) := by decide +kernel
theorem dX6_digestOfEdits_33 : decode cX6_digestOfEdits 33 = .ok (.lload 4, 2) := by decide +kernel
theorem dX6_digestOfEdits_35 : decode cX6_digestOfEdits 35 = .ok (.lmul, 1) := by decide +kernel
theorem dX6_digestOfEdits_36 : decode cX6_digestOfEdits 36 = .ok (.aload_n 0, 1) := by decide +kernel
theorem dX6_digestOfEdits_37 : decode cX6_digestOfEdits 37 = .ok (.iload_n 3, 1) := by decide +kernel
theorem dX6_digestOfEdits_38 : decode cX6_digestOfEdits 38 = .ok (.iload 6, 2) := by decide +kernel
theorem dX6_digestOfEdits_40 : decode cX6_digestOfEdits 40 = .ok (.iload 7, 2) := by decide +kernel
theorem dX6_digestOfEdits_42 : decode cX6_digestOfEdits 42 = .ok (.invokevirtual 329, 3) := by decide +kernel
theorem dX6_digestOfEdits_45 : decode cX6_digestOfEdits 45 = .ok (.i2l, 1) := by decide +kernel
theorem dX6_digestOfEdits_46 : decode cX6_digestOfEdits 46 = .ok (.ladd, 1) := by decide +kernel
theorem dX6_digestOfEdits_47 : decode cX6_digestOfEdits 47 = .ok (.lstore 4, 2) := by decide +kernel
theorem dX6_digestOfEdits_49 : decode cX6_digestOfEdits 49 = .ok (.iinc 7 1, 3) := by decide +kernel
theorem dX6_digestOfEdits_52 : decode cX6_digestOfEdits 52 = .ok (.goto (-29), 3) := by decide +kernel
theorem dX6_digestOfEdits_55 : decode cX6_digestOfEdits 55 = .ok (.ldc2_w 302, 3) := by decide +kernel
theorem dX6_digestOfEdits_58 : decode cX6_digestOfEdits 58 = .ok (.lload 4, 2) := by decide +kernel
theorem dX6_digestOfEdits_60 : decode cX6_digestOfEdits 60 = .ok (.lmul, 1) := by decide +kernel
theorem dX6_digestOfEdits_61 : decode cX6_digestOfEdits 61 = .ok (.aload_n 0, 1) := by decide +kernel
theorem dX6_digestOfEdits_62 : decode cX6_digestOfEdits 62 = .ok (.iload_n 3, 1) := by decide +kernel
theorem dX6_digestOfEdits_63 : decode cX6_digestOfEdits 63 = .ok (.iload 6, 2) := by decide +kernel
theorem dX6_digestOfEdits_65 : decode cX6_digestOfEdits 65 = .ok (.iconst 0, 1) := by decide +kernel
theorem dX6_digestOfEdits_66 : decode cX6_digestOfEdits 66 = .ok (.invokevirtual 332, 3) := by decide +kernel
theorem dX6_digestOfEdits_69 : decode cX6_digestOfEdits 69 = .ok (.i2l, 1) := by decide +kernel
theorem dX6_digestOfEdits_70 : decode cX6_digestOfEdits 70 = .ok (.ladd, 1) := by decide +kernel
theorem dX6_digestOfEdits_71 : decode cX6_digestOfEdits 71 = .ok (.lstore 4, 2) := by decide +kernel
theorem dX6_digestOfEdits_73 : decode cX6_digestOfEdits 73 = .ok (.ldc2_w 302, 3) := by decide +kernel
theorem dX6_digestOfEdits_76 : decode cX6_digestOfEdits 76 = .ok (.lload 4, 2) := by decide +kernel
theorem dX6_digestOfEdits_78 : decode cX6_digestOfEdits 78 = .ok (.lmul, 1) := by decide +kernel
theorem dX6_digestOfEdits_79 : decode cX6_digestOfEdits 79 = .ok (.aload_n 0, 1) := by decide +kernel
theorem dX6_digestOfEdits_80 : decode cX6_digestOfEdits 80 = .ok (.iload_n 3, 1) := by decide +kernel
theorem dX6_digestOfEdits_81 : decode cX6_digestOfEdits 81 = .ok (.iload 6, 2) := by decide +kernel
theorem dX6_digestOfEdits_83 : decode cX6_digestOfEdits 83 = .ok (.iconst 1, 1) := by decide +kernel
theorem dX6_digestOfEdits_84 : decode cX6_digestOfEdits 84 = .ok (.invokevirtual 332, 3) := by decide +kernel
theorem dX6_digestOfEdits_87 : decode cX6_digestOfEdits 87 = .ok (.i2l, 1) := by decide +kernel
theorem dX6_digestOfEdits_88 : decode cX6_digestOfEdits 88 = .ok (.ladd, 1) := by decide +kernel
theorem dX6_digestOfEdits_89 : decode cX6_digestOfEdits 89 = .ok (.lstore 4, 2) := by decide +kernel
theorem dX6_digestOfEdits_91 : decode cX6_digestOfEdits 91 = .ok (.iinc 6 1, 3) := by decide +kernel
theorem dX6_digestOfEdits_94 : decode cX6_digestOfEdits 94 = .ok (.goto (-88), 3) := by decide +kernel
theorem dX6_digestOfEdits_97 : decode cX6_digestOfEdits 97 = .ok (.lload 4, 2) := by decide +kernel
theorem dX6_digestOfEdits_99 : decode cX6_digestOfEdits 99 = .ok (.lreturn, 1) := by decide +kernel
theorem dX6_digestOfList_0 : decode cX6_digestOfList 0 = .ok (.lload_n 1, 1) := by decide +kernel
theorem dX6_digestOfList_1 : decode cX6_digestOfList 1 = .ok (.lstore 4, 2) := by decide +kernel
theorem dX6_digestOfList_3 : decode cX6_digestOfList 3 = .ok (.iconst 0, 1) := by decide +kernel
theorem dX6_digestOfList_4 : decode cX6_digestOfList 4 = .ok (.istore 6, 2) := by decide +kernel
theorem dX6_digestOfList_6 : decode cX6_digestOfList 6 = .ok (.iload 6, 2) := by decide +kernel
theorem dX6_digestOfList_8 : decode cX6_digestOfList 8 = .ok (.bipush 8, 2) := by decide +kernel
theorem dX6_digestOfList_10 : decode cX6_digestOfList 10 = .ok (.if_icmp .ge 43, 3) := by decide +kernel
theorem dX6_digestOfList_13 : decode cX6_digestOfList 13 = .ok (.iconst 0, 1) := by decide +kernel
theorem dX6_digestOfList_14 : decode cX6_digestOfList 14 = .ok (.istore 7, 2) := by decide +kernel
theorem dX6_digestOfList_16 : decode cX6_digestOfList 16 = .ok (.iload 7, 2) := by decide +kernel
theorem dX6_digestOfList_18 : decode cX6_digestOfList 18 = .ok (.iconst 4, 1) := by decide +kernel
theorem dX6_digestOfList_19 : decode cX6_digestOfList 19 = .ok (.if_icmp .gt 28, 3) := by decide +kernel
theorem dX6_digestOfList_22 : decode cX6_digestOfList 22 = .ok (.ldc2_w 302, 3) := by decide +kernel
theorem dX6_digestOfList_25 : decode cX6_digestOfList 25 = .ok (.lload 4, 2) := by decide +kernel
theorem dX6_digestOfList_27 : decode cX6_digestOfList 27 = .ok (.lmul, 1) := by decide +kernel
theorem dX6_digestOfList_28 : decode cX6_digestOfList 28 = .ok (.aload_n 0, 1) := by decide +kernel
theorem dX6_digestOfList_29 : decode cX6_digestOfList 29 = .ok (.iload_n 3, 1) := by decide +kernel
theorem dX6_digestOfList_30 : decode cX6_digestOfList 30 = .ok (.iload 6, 2) := by decide +kernel
theorem dX6_digestOfList_32 : decode cX6_digestOfList 32 = .ok (.iload 7, 2) := by decide +kernel
theorem dX6_digestOfList_34 : decode cX6_digestOfList 34 = .ok (.invokevirtual 335, 3) := by decide +kernel
theorem dX6_digestOfList_37 : decode cX6_digestOfList 37 = .ok (.i2l, 1) := by decide +kernel
theorem dX6_digestOfList_38 : decode cX6_digestOfList 38 = .ok (.ladd, 1) := by decide +kernel
theorem dX6_digestOfList_39 : decode cX6_digestOfList 39 = .ok (.lstore 4, 2) := by decide +kernel
theorem dX6_digestOfList_41 : decode cX6_digestOfList 41 = .ok (.iinc 7 1, 3) := by decide +kernel
theorem dX6_digestOfList_44 : decode cX6_digestOfList 44 = .ok (.goto (-28), 3) := by decide +kernel
theorem dX6_digestOfList_47 : decode cX6_digestOfList 47 = .ok (.iinc 6 1, 3) := by decide +kernel
theorem dX6_digestOfList_50 : decode cX6_digestOfList 50 = .ok (.goto (-44), 3) := by decide +kernel
theorem dX6_digestOfList_53 : decode cX6_digestOfList 53 = .ok (.ldc2_w 302, 3) := by decide +kernel
theorem dX6_digestOfList_56 : decode cX6_digestOfList 56 = .ok (.lload 4, 2) := by decide +kernel
theorem dX6_digestOfList_58 : decode cX6_digestOfList 58 = .ok (.lmul, 1) := by decide +kernel
theorem dX6_digestOfList_59 : decode cX6_digestOfList 59 = .ok (.aload_n 0, 1) := by decide +kernel
theorem dX6_digestOfList_60 : decode cX6_digestOfList 60 = .ok (.iload_n 3, 1) := by decide +kernel
theorem dX6_digestOfList_61 : decode cX6_digestOfList 61 = .ok (.invokevirtual 338, 3) := by decide +kernel
theorem dX6_digestOfList_64 : decode cX6_digestOfList 64 = .ok (.i2l, 1) := by decide +kernel
theorem dX6_digestOfList_65 : decode cX6_digestOfList 65 = .ok (.ladd, 1) := by decide +kernel
theorem dX6_digestOfList_66 : decode cX6_digestOfList 66 = .ok (.lstore 4, 2) := by decide +kernel
theorem dX6_digestOfList_68 : decode cX6_digestOfList 68 = .ok (.iconst 0, 1) := by decide +kernel
theorem dX6_digestOfList_69 : decode cX6_digestOfList 69 = .ok (.istore 6, 2) := by decide +kernel
theorem dX6_digestOfList_71 : decode cX6_digestOfList 71 = .ok (.iload 6, 2) := by decide +kernel
theorem dX6_digestOfList_73 : decode cX6_digestOfList 73 = .ok (.iconst 2, 1) := by decide +kernel
theorem dX6_digestOfList_74 : decode cX6_digestOfList 74 = .ok (.if_icmp .gt 26, 3) := by decide +kernel
theorem dX6_digestOfList_77 : decode cX6_digestOfList 77 = .ok (.ldc2_w 302, 3) := by decide +kernel
theorem dX6_digestOfList_80 : decode cX6_digestOfList 80 = .ok (.lload 4, 2) := by decide +kernel
theorem dX6_digestOfList_82 : decode cX6_digestOfList 82 = .ok (.lmul, 1) := by decide +kernel
theorem dX6_digestOfList_83 : decode cX6_digestOfList 83 = .ok (.aload_n 0, 1) := by decide +kernel
theorem dX6_digestOfList_84 : decode cX6_digestOfList 84 = .ok (.iload_n 3, 1) := by decide +kernel
theorem dX6_digestOfList_85 : decode cX6_digestOfList 85 = .ok (.iload 6, 2) := by decide +kernel
theorem dX6_digestOfList_87 : decode cX6_digestOfList 87 = .ok (.invokevirtual 341, 3) := by decide +kernel
theorem dX6_digestOfList_90 : decode cX6_digestOfList 90 = .ok (.i2l, 1) := by decide +kernel
theorem dX6_digestOfList_91 : decode cX6_digestOfList 91 = .ok (.ladd, 1) := by decide +kernel
theorem dX6_digestOfList_92 : decode cX6_digestOfList 92 = .ok (.lstore 4, 2) := by decide +kernel
theorem dX6_digestOfList_94 : decode cX6_digestOfList 94 = .ok (.iinc 6 1, 3) := by decide +kernel
theorem dX6_digestOfList_97 : decode cX6_digestOfList 97 = .ok (.goto (-26), 3) := by decide +kernel
theorem dX6_digestOfList_100 : decode cX6_digestOfList 100 = .ok (.iconst 0, 1) := by decide +kernel
theorem dX6_digestOfList_101 : decode cX6_digestOfList 101 = .ok (.istore 6, 2) := by decide +kernel
theorem dX6_digestOfList_103 : decode cX6_digestOfList 103 = .ok (.iload 6, 2) := by decide +kernel
theorem dX6_digestOfList_105 : decode cX6_digestOfList 105 = .ok (.iconst 3, 1) := by decide +kernel
theorem dX6_digestOfList_106 : decode cX6_digestOfList 106 = .ok (.if_icmp .gt 28, 3) := by decide +kernel
theorem dX6_digestOfList_109 : decode cX6_digestOfList 109 = .ok (.ldc2_w 302, 3) := by decide +kernel
theorem dX6_digestOfList_112 : decode cX6_digestOfList 112 = .ok (.lload 4, 2) := by decide +kernel
theorem dX6_digestOfList_114 : decode cX6_digestOfList 114 = .ok (.lmul, 1) := by decide +kernel
theorem dX6_digestOfList_115 : decode cX6_digestOfList 115 = .ok (.aload_n 0, 1) := by decide +kernel
theorem dX6_digestOfList_116 : decode cX6_digestOfList 116 = .ok (.iload_n 3, 1) := by decide +kernel
theorem dX6_digestOfList_117 : decode cX6_digestOfList 117 = .ok (.bipush 7, 2) := by decide +kernel
theorem dX6_digestOfList_119 : decode cX6_digestOfList 119 = .ok (.iload 6, 2) := by decide +kernel
theorem dX6_digestOfList_121 : decode cX6_digestOfList 121 = .ok (.invokevirtual 344, 3) := by decide +kernel
theorem dX6_digestOfList_124 : decode cX6_digestOfList 124 = .ok (.i2l, 1) := by decide +kernel
theorem dX6_digestOfList_125 : decode cX6_digestOfList 125 = .ok (.ladd, 1) := by decide +kernel
theorem dX6_digestOfList_126 : decode cX6_digestOfList 126 = .ok (.lstore 4, 2) := by decide +kernel
theorem dX6_digestOfList_128 : decode cX6_digestOfList 128 = .ok (.iinc 6 1, 3) := by decide +kernel
theorem dX6_digestOfList_131 : decode cX6_digestOfList 131 = .ok (.goto (-28), 3) := by decide +kernel
theorem dX6_digestOfList_134 : decode cX6_digestOfList 134 = .ok (.ldc2_w 302, 3) := by decide +kernel
theorem dX6_digestOfList_137 : decode cX6_digestOfList 137 = .ok (.lload 4, 2) := by decide +kernel
theorem dX6_digestOfList_139 : decode cX6_digestOfList 139 = .ok (.lmul, 1) := by decide +kernel
theorem dX6_digestOfList_140 : decode cX6_digestOfList 140 = .ok (.aload_n 0, 1) := by decide +kernel
theorem dX6_digestOfList_141 : decode cX6_digestOfList 141 = .ok (.iload_n 3, 1) := by decide +kernel
theorem dX6_digestOfList_142 : decode cX6_digestOfList 142 = .ok (.iconst 1, 1) := by decide +kernel
theorem dX6_digestOfList_143 : decode cX6_digestOfList 143 = .ok (.bipush 100, 2) := by decide +kernel
theorem dX6_digestOfList_145 : decode cX6_digestOfList 145 = .ok (.iconst 0, 1) := by decide +kernel
theorem dX6_digestOfList_146 : decode cX6_digestOfList 146 = .ok (.invokevirtual 347, 3) := by decide +kernel
theorem dX6_digestOfList_149 : decode cX6_digestOfList 149 = .ok (.i2l, 1) := by decide +kernel
theorem dX6_digestOfList_150 : decode cX6_digestOfList 150 = .ok (.ladd, 1) := by decide +kernel
theorem dX6_digestOfList_151 : decode cX6_digestOfList 151 = .ok (.lstore 4, 2) := by decide +kernel
theorem dX6_digestOfList_153 : decode cX6_digestOfList 153 = .ok (.ldc2_w 302, 3) := by decide +kernel
theorem dX6_digestOfList_156 : decode cX6_digestOfList 156 = .ok (.lload 4, 2) := by decide +kernel
theorem dX6_digestOfList_158 : decode cX6_digestOfList 158 = .ok (.lmul, 1) := by decide +kernel
theorem dX6_digestOfList_159 : decode cX6_digestOfList 159 = .ok (.aload_n 0, 1) := by decide +kernel
theorem dX6_digestOfList_160 : decode cX6_digestOfList 160 = .ok (.iload_n 3, 1) := by decide +kernel
theorem dX6_digestOfList_161 : decode cX6_digestOfList 161 = .ok (.iconst 1, 1) := by decide +kernel
theorem dX6_digestOfList_162 : decode cX6_digestOfList 162 = .ok (.bipush 100, 2) := by decide +kernel
theorem dX6_digestOfList_164 : decode cX6_digestOfList 164 = .ok (.iconst 1, 1) := by decide +kernel
theorem dX6_digestOfList_165 : decode cX6_digestOfList 165 = .ok (.invokevirtual 347, 3) := by decide +kernel
theorem dX6_digestOfList_168 : decode cX6_digestOfList 168 = .ok (.i2l, 1) := by decide +kernel
theorem dX6_digestOfList_169 : decode cX6_digestOfList 169 = .ok (.ladd, 1) := by decide +kernel
theorem dX6_digestOfList_170 : decode cX6_digestOfList 170 = .ok (.lreturn, 1) := by decide +kernel
theorem dX6_digestOfTold_0 : decode cX6_digestOfTold 0 = .ok (.lload_n 1, 1) := by decide +kernel
theorem dX6_digestOfTold_1 : decode cX6_digestOfTold 1 = .ok (.lstore 4, 2) := by decide +kernel
theorem dX6_digestOfTold_3 : decode cX6_digestOfTold 3 = .ok (.iconst 0, 1) := by decide +kernel
theorem dX6_digestOfTold_4 : decode cX6_digestOfTold 4 = .ok (.istore 6, 2) := by decide +kernel
theorem dX6_digestOfTold_6 : decode cX6_digestOfTold 6 = .ok (.iload 6, 2) := by decide +kernel
theorem dX6_digestOfTold_8 : decode cX6_digestOfTold 8 = .ok (.iconst 3, 1) := by decide +kernel
theorem dX6_digestOfTold_9 : decode cX6_digestOfTold 9 = .ok (.if_icmp .gt 26, 3) := by decide +kernel
theorem dX6_digestOfTold_12 : decode cX6_digestOfTold 12 = .ok (.ldc2_w 302, 3) := by decide +kernel
theorem dX6_digestOfTold_15 : decode cX6_digestOfTold 15 = .ok (.lload 4, 2) := by decide +kernel
theorem dX6_digestOfTold_17 : decode cX6_digestOfTold 17 = .ok (.lmul, 1) := by decide +kernel
theorem dX6_digestOfTold_18 : decode cX6_digestOfTold 18 = .ok (.aload_n 0, 1) := by decide +kernel
theorem dX6_digestOfTold_19 : decode cX6_digestOfTold 19 = .ok (.iload_n 3, 1) := by decide +kernel
theorem dX6_digestOfTold_20 : decode cX6_digestOfTold 20 = .ok (.iload 6, 2) := by decide +kernel
theorem dX6_digestOfTold_22 : decode cX6_digestOfTold 22 = .ok (.invokevirtual 350, 3) := by decide +kernel
theorem dX6_digestOfTold_25 : decode cX6_digestOfTold 25 = .ok (.i2l, 1) := by decide +kernel
theorem dX6_digestOfTold_26 : decode cX6_digestOfTold 26 = .ok (.ladd, 1) := by decide +kernel
theorem dX6_digestOfTold_27 : decode cX6_digestOfTold 27 = .ok (.lstore 4, 2) := by decide +kernel
theorem dX6_digestOfTold_29 : decode cX6_digestOfTold 29 = .ok (.iinc 6 1, 3) := by decide +kernel
theorem dX6_digestOfTold_32 : decode cX6_digestOfTold 32 = .ok (.goto (-26), 3) := by decide +kernel
theorem dX6_digestOfTold_35 : decode cX6_digestOfTold 35 = .ok (.lload 4, 2) := by decide +kernel
theorem dX6_digestOfTold_37 : decode cX6_digestOfTold 37 = .ok (.lreturn, 1) := by decide +kernel
end
section
theorem dX7_init_0 : decode cX7_init 0 = .ok (.aload_n 0, 1) := by decide +kernel
theorem dX7_init_1 : decode cX7_init 1 = .ok (.invokespecial 1, 3) := by decide +kernel
theorem dX7_init_4 : decode cX7_init 4 = .ok (.aload_n 0, 1) := by decide +kernel
theorem dX7_init_5 : decode cX7_init 5 = .ok (.iconst 2, 1) := by decide +kernel
theorem dX7_init_6 : decode cX7_init 6 = .ok (.newarray .int, 2) := by decide +kernel
theorem dX7_init_8 : decode cX7_init 8 = .ok (.putfield 7, 3) := by decide +kernel
theorem dX7_init_11 : decode cX7_init 11 = .ok (.aload_n 0, 1) := by decide +kernel
theorem dX7_init_12 : decode cX7_init 12 = .ok (.bipush 16, 2) := by decide +kernel
theorem dX7_init_14 : decode cX7_init 14 = .ok (.newarray .int, 2) := by decide +kernel
theorem dX7_init_16 : decode cX7_init 16 = .ok (.putfield 13, 3) := by decide +kernel
theorem dX7_init_19 : decode cX7_init 19 = .ok (.aload_n 0, 1) := by decide +kernel
theorem dX7_init_20 : decode cX7_init 20 = .ok (.bipush 16, 2) := by decide +kernel
theorem dX7_init_22 : decode cX7_init 22 = .ok (.newarray .int, 2) := by decide +kernel
theorem dX7_init_24 : decode cX7_init 24 = .ok (.putfield 16, 3) := by decide +kernel
theorem dX7_init_27 : decode cX7_init 27 = .ok (.aload_n 0, 1) := by decide +kernel
theorem dX7_init_28 : decode cX7_init 28 = .ok (.bipush 16, 2) := by decide +kernel
theorem dX7_init_30 : decode cX7_init 30 = .ok (.newarray .int, 2) := by decide +kernel
theorem dX7_init_32 : decode cX7_init 32 = .ok (.putfield 19, 3) := by decide +kernel
theorem dX7_init_35 : decode cX7_init 35 = .ok (.aload_n 0, 1) := by decide +kernel
theorem dX7_init_36 : decode cX7_init 36 = .ok (.bipush 16, 2) := by decide +kernel
theorem dX7_init_38 : decode cX7_init 38 = .ok (.newarray .int, 2) := by decide +kernel
theorem dX7_init_40 : decode cX7_init 40 = .ok (.putfield 22, 3) := by decide +kernel
theorem dX7_init_43 : decode cX7_init 43 = .ok (.aload_n 0, 1) := by decide +kernel
theorem dX7_init_44 : decode cX7_init 44 = .ok (.bipush 16, 2) := by decide +kernel
theorem dX7_init_46 : decode cX7_init 46 = .ok (.newarray .int, 2) := by decide +kernel
theorem dX7_init_48 : decode cX7_init 48 = .ok (.putfield 25, 3) := by decide +kernel
theorem dX7_init_51 : decode cX7_init 51 = .ok (.aload_n 0, 1) := by decide +kernel
theorem dX7_init_52 : decode cX7_init 52 = .ok (.iconst 3, 1) := by decide +kernel
theorem dX7_init_53 : decode cX7_init 53 = .ok (.newarray .int, 2) := by decide +kernel
theorem dX7_init_55 : decode cX7_init 55 = .ok (.putfield 28, 3) := by decide +kernel
theorem dX7_init_58 : decode cX7_init 58 = .ok (.aload_n 0, 1) := by decide +kernel
theorem dX7_init_59 : decode cX7_init 59 = .ok (.bipush 6, 2) := by decide +kernel
theorem dX7_init_61 : decode cX7_init 61 = .ok (.newarray .int, 2) := by decide +kernel
theorem dX7_init_63 : decode cX7_init 63 = .ok (.putfield 31, 3) := by decide +kernel
theorem dX7_init_66 : decode cX7_init 66 = .ok (.aload_n 0, 1) := by decide +kernel
theorem dX7_init_67 : decode cX7_init 67 = .ok (.iconst 2, 1) := by decide +kernel
theorem dX7_init_68 : decode cX7_init 68 = .ok (.newarray .int, 2) := by decide +kernel
theorem dX7_init_70 : decode cX7_init 70 = .ok (.putfield 34, 3) := by decide +kernel
theorem dX7_init_73 : decode cX7_init 73 = .ok (.aload_n 0, 1) := by decide +kernel
theorem dX7_init_74 : decode cX7_init 74 = .ok (.bipush 16, 2) := by decide +kernel
theorem dX7_init_76 : decode cX7_init 76 = .ok (.newarray .int, 2) := by decide +kernel
theorem dX7_init_78 : decode cX7_init 78 = .ok (.putfield 37, 3) := by decide +kernel
theorem dX7_init_81 : decode cX7_init 81 = .ok (.aload_n 0, 1) := by decide +kernel
theorem dX7_init_82 : decode cX7_init 82 = .ok (.bipush 16, 2) := by decide +kernel
theorem dX7_init_84 : decode cX7_init 84 = .ok (.newarray .int, 2) := by decide +kernel
theorem dX7_init_86 : decode cX7_init 86 = .ok (.putfield 40, 3) := by decide +kernel
theorem dX7_init_89 : decode cX7_init 89 = .ok (.aload_n 0, 1) := by decide +kernel
theorem dX7_init_90 : decode cX7_init 90 = .ok (.bipush 16, 2) := by decide +kernel
theorem dX7_init_92 : decode cX7_init 92 = .ok (.newarray .int, 2) := by decide +kernel
theorem dX7_init_94 : decode cX7_init 94 = .ok (.putfield 43, 3) := by decide +kernel
theorem dX7_init_97 : decode cX7_init 97 = .ok (.aload_n 0, 1) := by decide +kernel
theorem dX7_init_98 : decode cX7_init 98 = .ok (.bipush 16, 2) := by decide +kernel
theorem dX7_init_100 : decode cX7_init 100 = .ok (.newarray .int, 2) := by decide +kernel
theorem dX7_init_102 : decode cX7_init 102 = .ok (.putfield 46, 3) := by decide +kernel
theorem dX7_init_105 : decode cX7_init 105 = .ok (.aload_n 0, 1) := by decide +kernel
theorem dX7_init_106 : decode cX7_init 106 = .ok (.bipush 8, 2) := by decide +kernel
theorem dX7_init_108 : decode cX7_init 108 = .ok (.newarray .int, 2) := by decide +kernel
theorem dX7_init_110 : decode cX7_init 110 = .ok (.putfield 49, 3) := by decide +kernel
theorem dX7_init_113 : decode cX7_init 113 = .ok (.aload_n 0, 1) := by decide +kernel
theorem dX7_init_114 : decode cX7_init 114 = .ok (.iconst 4, 1) := by decide +kernel
theorem dX7_init_115 : decode cX7_init 115 = .ok (.newarray .boolean, 2) := by decide +kernel
theorem dX7_init_117 : decode cX7_init 117 = .ok (.putfield 52, 3) := by decide +kernel
theorem dX7_init_120 : decode cX7_init 120 = .ok (.aload_n 0, 1) := by decide +kernel
theorem dX7_init_121 : decode cX7_init 121 = .ok (.iconst 4, 1) := by decide +kernel
theorem dX7_init_122 : decode cX7_init 122 = .ok (.newarray .int, 2) := by decide +kernel
theorem dX7_init_124 : decode cX7_init 124 = .ok (.putfield 56, 3) := by decide +kernel
theorem dX7_init_127 : decode cX7_init 127 = .ok (.aload_n 0, 1) := by decide +kernel
theorem dX7_init_128 : decode cX7_init 128 = .ok (.iconst 4, 1) := by decide +kernel
theorem dX7_init_129 : decode cX7_init 129 = .ok (.newarray .int, 2) := by decide +kernel
theorem dX7_init_131 : decode cX7_init 131 = .ok (.putfield 59, 3) := by decide +kernel
theorem dX7_init_134 : decode cX7_init 134 = .ok (.aload_n 0, 1) := by decide +kernel
theorem dX7_init_135 : decode cX7_init 135 = .ok (.sipush 240, 3) := by decide +kernel
theorem dX7_init_138 : decode cX7_init 138 = .ok (.newarray .int, 2) := by decide +kernel
theorem dX7_init_140 : decode cX7_init 140 = .ok (.putfield 62, 3) := by decide +kernel
theorem dX7_init_143 : decode cX7_init 143 = .ok (.aload_n 0, 1) := by decide +kernel
theorem dX7_init_144 : decode cX7_init 144 = .ok (.bipush 60, 2) := by decide +kernel
theorem dX7_init_146 : decode cX7_init 146 = .ok (.newarray .int, 2) := by decide +kernel
theorem dX7_init_148 : decode cX7_init 148 = .ok (.putfield 65, 3) := by decide +kernel
theorem dX7_init_151 : decode cX7_init 151 = .ok (.aload_n 0, 1) := by decide +kernel
theorem dX7_init_152 : decode cX7_init 152 = .ok (.getfield 28, 3) := by decide +kernel
theorem dX7_init_155 : decode cX7_init 155 = .ok (.iconst 1, 1) := by decide +kernel
theorem dX7_init_156 : decode cX7_init 156 = .ok (.bipush 10, 2) := by decide +kernel
theorem dX7_init_158 : decode cX7_init 158 = .ok (.iastore, 1) := by decide +kernel
theorem dX7_init_159 : decode cX7_init 159 = .ok (.iconst 0, 1) := by decide +kernel
theorem dX7_init_160 : decode cX7_init 160 = .ok (.istore_n 1, 1) := by decide +kernel
theorem dX7_init_161 : decode cX7_init 161 = .ok (.iload_n 1, 1) := by decide +kernel
theorem dX7_init_162 : decode cX7_init 162 = .ok (.bipush 6, 2) := by decide +kernel
theorem dX7_init_164 : decode cX7_init 164 = .ok (.if_icmp .ge 17, 3) := by decide +kernel
theorem dX7_init_167 : decode cX7_init 167 = .ok (.aload_n 0, 1) := by decide +kernel
theorem dX7_init_168 : decode cX7_init 168 = .ok (.getfield 31, 3) := by decide +kernel
theorem dX7_init_171 : decode cX7_init 171 = .ok (.iload_n 1, 1) := by decide +kernel
theorem dX7_init_172 : decode cX7_init 172 = .ok (.ldc 68, 2) := by decide +kernel
theorem dX7_init_174 : decode cX7_init 174 = .ok (.iastore, 1) := by decide +kernel
theorem dX7_init_175 : decode cX7_init 175 = .ok (.iinc 1 1, 3) := by decide +kernel
theorem dX7_init_178 : decode cX7_init 178 = .ok (.goto (-17), 3) := by decide +kernel
theorem dX7_init_181 : decode cX7_init 181 = .ok (.return_, 1) := by decide +kernel
theorem dX7_in_0 : decode cX7_in 0 = .ok (.iload_n 0, 1) := by decide +kernel
theorem dX7_in_1 : decode cX7_in 1 = .ok (.iload_n 1, 1) := by decide +kernel
theorem dX7_in_2 : decode cX7_in 2 = .ok (.if_icmp .lt 12, 3) := by decide +kernel
theorem dX7_in_5 : decode cX7_in 5 = .ok (.iload_n 0, 1) := by decide +kernel
theorem dX7_in_6 : decode cX7_in 6 = .ok (.iload_n 2, 1) := by decide +kernel
theorem dX7_in_7 : decode cX7_in 7 = .ok (.if_icmp .gt 7, 3) := by decide +kernel
theorem dX7_in_10 : decode cX7_in 10 = .ok (.iconst 1, 1) := by decide +kernel
theorem dX7_in_11 : decode cX7_in 11 = .ok (.goto 4, 3) := by decide +kernel
theorem dX7_in_14 : decode cX7_in 14 = .ok (.iconst 0, 1) := by decide +kernel
theorem dX7_in_15 : decode cX7_in 15 = .ok (.ireturn, 1) := by decide +kernel
theorem dX7_isIn_0 : decode cX7_isIn 0 = .ok (.iload_n 0, 1) := by decide +kernel
theorem dX7_isIn_1 : decode cX7_isIn 1 = .ok (.iload_n 1, 1) := by decide +kernel
theorem dX7_isIn_2 : decode cX7_isIn 2 = .ok (.ishr, 1) := by decide +kernel
theorem dX7_isIn_3 : decode cX7_isIn 3 = .ok (.iconst 1, 1) := by decide +kernel
theorem dX7_isIn_4 : decode cX7_isIn 4 = .ok (.iand, 1) := by decide +kernel
theorem dX7_isIn_5 : decode cX7_isIn 5 = .ok (.iconst 1, 1) := by decide +kernel
theorem dX7_isIn_6 : decode cX7_isIn 6 = .ok (.if_icmp .ne 7, 3) := by decide +kernel
theorem dX7_isIn_9 : decode cX7_isIn 9 = .ok (.iconst 1, 1) := by decide +kernel
theorem dX7_isIn_10 : decode cX7_isIn 10 = .ok (.goto 4, 3) := by decide +kernel
theorem dX7_isIn_13 : decode cX7_isIn 13 = .ok (.iconst 0, 1) := by decide +kernel
theorem dX7_isIn_14 : decode cX7_isIn 14 = .ok (.ireturn, 1) := by decide +kernel
theorem dX7_max_0 : decode cX7_max 0 = .ok (.iload_n 0, 1) := by decide +kernel
theorem dX7_max_1 : decode cX7_max 1 = .ok (.iload_n 1, 1) := by decide +kernel
theorem dX7_max_2 : decode cX7_max 2 = .ok (.if_icmp .le 7, 3) := by decide +kernel
theorem dX7_max_5 : decode cX7_max 5 = .ok (.iload_n 0, 1) := by decide +kernel
theorem dX7_max_6 : decode cX7_max 6 = .ok (.goto 4, 3) := by decide +kernel
theorem dX7_max_9 : decode cX7_max 9 = .ok (.iload_n 1, 1) := by decide +kernel
theorem dX7_max_10 : decode cX7_max 10 = .ok (.ireturn, 1) := by decide +kernel
theorem dX7_min_0 : decode cX7_min 0 = .ok (.iload_n 0, 1) := by decide +kernel
theorem dX7_min_1 : decode cX7_min 1 = .ok (.iload_n 1, 1) := by decide +kernel
theorem dX7_min_2 : decode cX7_min 2 = .ok (.if_icmp .ge 7, 3) := by decide +kernel
theorem dX7_min_5 : decode cX7_min 5 = .ok (.iload_n 0, 1) := by decide +kernel
theorem dX7_min_6 : decode cX7_min 6 = .ok (.goto 4, 3) := by decide +kernel
theorem dX7_min_9 : decode cX7_min 9 = .ok (.iload_n 1, 1) := by decide +kernel
theorem dX7_min_10 : decode cX7_min 10 = .ok (.ireturn, 1) := by decide +kernel
theorem dX7_isList_0 : decode cX7_isList 0 = .ok (.iload_n 0, 1) := by decide +kernel
theorem dX7_isList_1 : decode cX7_isList 1 = .ok (.iconst 0, 1) := by decide +kernel
theorem dX7_isList_2 : decode cX7_isList 2 = .ok (.iconst 1, 1) := by decide +kernel
theorem dX7_isList_3 : decode cX7_isList 3 = .ok (.invokestatic 69, 3) := by decide +kernel
theorem dX7_isList_6 : decode cX7_isList 6 = .ok (.ireturn, 1) := by decide +kernel
theorem dX7_isReel_0 : decode cX7_isReel 0 = .ok (.iload_n 0, 1) := by decide +kernel
theorem dX7_isReel_1 : decode cX7_isReel 1 = .ok (.iconst 0, 1) := by decide +kernel
theorem dX7_isReel_2 : decode cX7_isReel 2 = .ok (.iconst 5, 1) := by decide +kernel
theorem dX7_isReel_3 : decode cX7_isReel 3 = .ok (.invokestatic 69, 3) := by decide +kernel
theorem dX7_isReel_6 : decode cX7_isReel 6 = .ok (.ireturn, 1) := by decide +kernel
theorem dX7_isWell_0 : decode cX7_isWell 0 = .ok (.iload_n 0, 1) := by decide +kernel
theorem dX7_isWell_1 : decode cX7_isWell 1 = .ok (.ifCond .ne 13, 3) := by decide +kernel
theorem dX7_isWell_4 : decode cX7_isWell 4 = .ok (.iload_n 1, 1) := by decide +kernel
theorem dX7_isWell_5 : decode cX7_isWell 5 = .ok (.iconst 0, 1) := by decide +kernel
theorem dX7_isWell_6 : decode cX7_isWell 6 = .ok (.ldc 73, 2) := by decide +kernel
theorem dX7_isWell_8 : decode cX7_isWell 8 = .ok (.invokestatic 69, 3) := by decide +kernel
theorem dX7_isWell_11 : decode cX7_isWell 11 = .ok (.goto 54, 3) := by decide +kernel
theorem dX7_isWell_14 : decode cX7_isWell 14 = .ok (.iload_n 0, 1) := by decide +kernel
theorem dX7_isWell_15 : decode cX7_isWell 15 = .ok (.iconst 1, 1) := by decide +kernel
theorem dX7_isWell_16 : decode cX7_isWell 16 = .ok (.if_icmp .ne 14, 3) := by decide +kernel
theorem dX7_isWell_19 : decode cX7_isWell 19 = .ok (.iload_n 1, 1) := by decide +kernel
theorem dX7_isWell_20 : decode cX7_isWell 20 = .ok (.iconst 1, 1) := by decide +kernel
theorem dX7_isWell_21 : decode cX7_isWell 21 = .ok (.sipush 500, 3) := by decide +kernel
theorem dX7_isWell_24 : decode cX7_isWell 24 = .ok (.invokestatic 69, 3) := by decide +kernel
theorem dX7_isWell_27 : decode cX7_isWell 27 = .ok (.goto 38, 3) := by decide +kernel
theorem dX7_isWell_30 : decode cX7_isWell 30 = .ok (.iload_n 0, 1) := by decide +kernel
theorem dX7_isWell_31 : decode cX7_isWell 31 = .ok (.iconst 2, 1) := by decide +kernel
theorem dX7_isWell_32 : decode cX7_isWell 32 = .ok (.if_icmp .ne 13, 3) := by decide +kernel
theorem dX7_isWell_35 : decode cX7_isWell 35 = .ok (.iload_n 1, 1) := by decide +kernel
theorem dX7_isWell_36 : decode cX7_isWell 36 = .ok (.iconst 0, 1) := by decide +kernel
theorem dX7_isWell_37 : decode cX7_isWell 37 = .ok (.bipush 6, 2) := by decide +kernel
theorem dX7_isWell_39 : decode cX7_isWell 39 = .ok (.invokestatic 69, 3) := by decide +kernel
theorem dX7_isWell_42 : decode cX7_isWell 42 = .ok (.goto 23, 3) := by decide +kernel
theorem dX7_isWell_45 : decode cX7_isWell 45 = .ok (.iload_n 0, 1) := by decide +kernel
theorem dX7_isWell_46 : decode cX7_isWell 46 = .ok (.iconst 3, 1) := by decide +kernel
theorem dX7_isWell_47 : decode cX7_isWell 47 = .ok (.if_icmp .ne 17, 3) := by decide +kernel
theorem dX7_isWell_50 : decode cX7_isWell 50 = .ok (.iload_n 1, 1) := by decide +kernel
theorem dX7_isWell_51 : decode cX7_isWell 51 = .ok (.iconst 1, 1) := by decide +kernel
theorem dX7_isWell_52 : decode cX7_isWell 52 = .ok (.bipush 6, 2) := by decide +kernel
theorem dX7_isWell_54 : decode cX7_isWell 54 = .ok (.invokestatic 69, 3) := by decide +kernel
theorem dX7_isWell_57 : decode cX7_isWell 57 = .ok (.ifCond .eq 7, 3) := by decide +kernel
theorem dX7_isWell_60 : decode cX7_isWell 60 = .ok (.iconst 1, 1) := by decide +kernel
theorem dX7_isWell_61 : decode cX7_isWell 61 = .ok (.goto 4, 3) := by decide +kernel
theorem dX7_isWell_64 : decode cX7_isWell 64 = .ok (.iconst 0, 1) := by decide +kernel
theorem dX7_isWell_65 : decode cX7_isWell 65 = .ok (.ireturn, 1) := by decide +kernel
theorem dX7_adds_0 : decode cX7_adds 0 = .ok (.iload_n 2, 1) := by decide +kernel
theorem dX7_adds_1 : decode cX7_adds 1 = .ok (.invokestatic 74, 3) := by decide +kernel
theorem dX7_adds_4 : decode cX7_adds 4 = .ok (.ifCond .eq 38, 3) := by decide +kernel
theorem dX7_adds_7 : decode cX7_adds 7 = .ok (.iconst 0, 1) := by decide +kernel
theorem dX7_adds_8 : decode cX7_adds 8 = .ok (.iload_n 3, 1) := by decide +kernel
theorem dX7_adds_9 : decode cX7_adds 9 = .ok (.invokestatic 78, 3) := by decide +kernel
theorem dX7_adds_12 : decode cX7_adds 12 = .ok (.ifCond .eq 30, 3) := by decide +kernel
theorem dX7_adds_15 : decode cX7_adds 15 = .ok (.iconst 1, 1) := by decide +kernel
theorem dX7_adds_16 : decode cX7_adds 16 = .ok (.iload 4, 2) := by decide +kernel
theorem dX7_adds_18 : decode cX7_adds 18 = .ok (.invokestatic 78, 3) := by decide +kernel
theorem dX7_adds_21 : decode cX7_adds 21 = .ok (.ifCond .eq 21, 3) := by decide +kernel
theorem dX7_adds_24 : decode cX7_adds 24 = .ok (.iconst 2, 1) := by decide +kernel
theorem dX7_adds_25 : decode cX7_adds 25 = .ok (.iload 5, 2) := by decide +kernel
theorem dX7_adds_27 : decode cX7_adds 27 = .ok (.invokestatic 78, 3) := by decide +kernel
theorem dX7_adds_30 : decode cX7_adds 30 = .ok (.ifCond .eq 12, 3) := by decide +kernel
theorem dX7_adds_33 : decode cX7_adds 33 = .ok (.iconst 3, 1) := by decide +kernel
theorem dX7_adds_34 : decode cX7_adds 34 = .ok (.iload 6, 2) := by decide +kernel
theorem dX7_adds_36 : decode cX7_adds 36 = .ok (.invokestatic 78, 3) := by decide +kernel
theorem dX7_adds_39 : decode cX7_adds 39 = .ok (.ifCond .ne 6, 3) := by decide +kernel
theorem dX7_adds_42 : decode cX7_adds 42 = .ok (.bipush (-2), 2) := by decide +kernel
theorem dX7_adds_44 : decode cX7_adds 44 = .ok (.ireturn, 1) := by decide +kernel
theorem dX7_adds_45 : decode cX7_adds 45 = .ok (.aload_n 0, 1) := by decide +kernel
theorem dX7_adds_46 : decode cX7_adds 46 = .ok (.getfield 7, 3) := by decide +kernel
theorem dX7_adds_49 : decode cX7_adds 49 = .ok (.iload_n 1, 1) := by decide +kernel
theorem dX7_adds_50 : decode cX7_adds 50 = .ok (.iaload, 1) := by decide +kernel
theorem dX7_adds_51 : decode cX7_adds 51 = .ok (.bipush 8, 2) := by decide +kernel
theorem dX7_adds_53 : decode cX7_adds 53 = .ok (.if_icmp .ne 6, 3) := by decide +kernel
theorem dX7_adds_56 : decode cX7_adds 56 = .ok (.bipush (-4), 2) := by decide +kernel
theorem dX7_adds_58 : decode cX7_adds 58 = .ok (.ireturn, 1) := by decide +kernel
theorem dX7_adds_59 : decode cX7_adds 59 = .ok (.bipush 8, 2) := by decide +kernel
theorem dX7_adds_61 : decode cX7_adds 61 = .ok (.iload_n 1, 1) := by decide +kernel
theorem dX7_adds_62 : decode cX7_adds 62 = .ok (.imul, 1) := by decide +kernel
theorem dX7_adds_63 : decode cX7_adds 63 = .ok (.aload_n 0, 1) := by decide +kernel
theorem dX7_adds_64 : decode cX7_adds 64 = .ok (.getfield 7, 3) := by decide +kernel
theorem dX7_adds_67 : decode cX7_adds 67 = .ok (.iload_n 1, 1) := by decide +kernel
theorem dX7_adds_68 : decode cX7_adds 68 = .ok (.iaload, 1) := by decide +kernel
theorem dX7_adds_69 : decode cX7_adds 69 = .ok (.iadd, 1) := by decide +kernel
theorem dX7_adds_70 : decode cX7_adds 70 = .ok (.istore 7, 2) := by decide +kernel
theorem dX7_adds_72 : decode cX7_adds 72 = .ok (.aload_n 0, 1) := by decide +kernel
theorem dX7_adds_73 : decode cX7_adds 73 = .ok (.getfield 13, 3) := by decide +kernel
theorem dX7_adds_76 : decode cX7_adds 76 = .ok (.iload 7, 2) := by decide +kernel
theorem dX7_adds_78 : decode cX7_adds 78 = .ok (.iload_n 2, 1) := by decide +kernel
theorem dX7_adds_79 : decode cX7_adds 79 = .ok (.iastore, 1) := by decide +kernel
theorem dX7_adds_80 : decode cX7_adds 80 = .ok (.aload_n 0, 1) := by decide +kernel
theorem dX7_adds_81 : decode cX7_adds 81 = .ok (.getfield 16, 3) := by decide +kernel
theorem dX7_adds_84 : decode cX7_adds 84 = .ok (.iload 7, 2) := by decide +kernel
theorem dX7_adds_86 : decode cX7_adds 86 = .ok (.iload_n 3, 1) := by decide +kernel
theorem dX7_adds_87 : decode cX7_adds 87 = .ok (.iastore, 1) := by decide +kernel
theorem dX7_adds_88 : decode cX7_adds 88 = .ok (.aload_n 0, 1) := by decide +kernel
theorem dX7_adds_89 : decode cX7_adds 89 = .ok (.getfield 19, 3) := by decide +kernel
theorem dX7_adds_92 : decode cX7_adds 92 = .ok (.iload 7, 2) := by decide +kernel
theorem dX7_adds_94 : decode cX7_adds 94 = .ok (.iload 4, 2) := by decide +kernel
theorem dX7_adds_96 : decode cX7_adds 96 = .ok (.iastore, 1) := by decide +kernel
theorem dX7_adds_97 : decode cX7_adds 97 = .ok (.aload_n 0, 1) := by decide +kernel
theorem dX7_adds_98 : decode cX7_adds 98 = .ok (.getfield 22, 3) := by decide +kernel
theorem dX7_adds_101 : decode cX7_adds 101 = .ok (.iload 7, 2) := by decide +kernel
theorem dX7_adds_103 : decode cX7_adds 103 = .ok (.iload 5, 2) := by decide +kernel
theorem dX7_adds_105 : decode cX7_adds 105 = .ok (.iastore, 1) := by decide +kernel
theorem dX7_adds_106 : decode cX7_adds 106 = .ok (.aload_n 0, 1) := by decide +kernel
theorem dX7_adds_107 : decode cX7_adds 107 = .ok (.getfield 25, 3) := by decide +kernel
theorem dX7_adds_110 : decode cX7_adds 110 = .ok (.iload 7, 2) := by decide +kernel
theorem dX7_adds_112 : decode cX7_adds 112 = .ok (.iload 6, 2) := by decide +kernel
theorem dX7_adds_114 : decode cX7_adds 114 = .ok (.iastore, 1) := by decide +kernel
theorem dX7_adds_115 : decode cX7_adds 115 = .ok (.aload_n 0, 1) := by decide +kernel
theorem dX7_adds_116 : decode cX7_adds 116 = .ok (.getfield 7, 3) := by decide +kernel
theorem dX7_adds_119 : decode cX7_adds 119 = .ok (.iload_n 1, 1) := by decide +kernel
theorem dX7_adds_120 : decode cX7_adds 120 = .ok (.dup2, 1) := by decide +kernel
theorem dX7_adds_121 : decode cX7_adds 121 = .ok (.iaload, 1) := by decide +kernel
theorem dX7_adds_122 : decode cX7_adds 122 = .ok (.iconst 1, 1) := by decide +kernel
theorem dX7_adds_123 : decode cX7_adds 123 = .ok (.iadd, 1) := by decide +kernel
theorem dX7_adds_124 : decode cX7_adds 124 = .ok (.iastore, 1) := by decide +kernel
theorem dX7_adds_125 : decode cX7_adds 125 = .ok (.aload_n 0, 1) := by decide +kernel
theorem dX7_adds_126 : decode cX7_adds 126 = .ok (.getfield 7, 3) := by decide +kernel
theorem dX7_adds_129 : decode cX7_adds 129 = .ok (.iload_n 1, 1) := by decide +kernel
theorem dX7_adds_130 : decode cX7_adds 130 = .ok (.iaload, 1) := by decide +kernel
theorem dX7_adds_131 : decode cX7_adds 131 = .ok (.ireturn, 1) := by decide +kernel
theorem dX7_edit_0 : decode cX7_edit 0 = .ok (.iload_n 1, 1) := by decide +kernel
theorem dX7_edit_1 : decode cX7_edit 1 = .ok (.invokestatic 82, 3) := by decide +kernel
theorem dX7_edit_4 : decode cX7_edit 4 = .ok (.ifCond .eq 19, 3) := by decide +kernel
theorem dX7_edit_7 : decode cX7_edit 7 = .ok (.aload_n 0, 1) := by decide +kernel
theorem dX7_edit_8 : decode cX7_edit 8 = .ok (.iload_n 1, 1) := by decide +kernel
theorem dX7_edit_9 : decode cX7_edit 9 = .ok (.iload_n 2, 1) := by decide +kernel
theorem dX7_edit_10 : decode cX7_edit 10 = .ok (.iload_n 3, 1) := by decide +kernel
theorem dX7_edit_11 : decode cX7_edit 11 = .ok (.iload 4, 2) := by decide +kernel
theorem dX7_edit_13 : decode cX7_edit 13 = .ok (.iload 5, 2) := by decide +kernel
theorem dX7_edit_15 : decode cX7_edit 15 = .ok (.iload 6, 2) := by decide +kernel
theorem dX7_edit_17 : decode cX7_edit 17 = .ok (.invokevirtual 85, 3) := by decide +kernel
theorem dX7_edit_20 : decode cX7_edit 20 = .ok (.goto 5, 3) := by decide +kernel
theorem dX7_edit_23 : decode cX7_edit 23 = .ok (.bipush (-2), 2) := by decide +kernel
theorem dX7_edit_25 : decode cX7_edit 25 = .ok (.ireturn, 1) := by decide +kernel
theorem dX7_back_0 : decode cX7_back 0 = .ok (.iload_n 1, 1) := by decide +kernel
theorem dX7_back_1 : decode cX7_back 1 = .ok (.invokestatic 82, 3) := by decide +kernel
theorem dX7_back_4 : decode cX7_back 4 = .ok (.ifCond .ne 6, 3) := by decide +kernel
theorem dX7_back_7 : decode cX7_back 7 = .ok (.bipush (-2), 2) := by decide +kernel
theorem dX7_back_9 : decode cX7_back 9 = .ok (.ireturn, 1) := by decide +kernel
theorem dX7_back_10 : decode cX7_back 10 = .ok (.aload_n 0, 1) := by decide +kernel
theorem dX7_back_11 : decode cX7_back 11 = .ok (.getfield 7, 3) := by decide +kernel
theorem dX7_back_14 : decode cX7_back 14 = .ok (.iload_n 1, 1) := by decide +kernel
theorem dX7_back_15 : decode cX7_back 15 = .ok (.iaload, 1) := by decide +kernel
theorem dX7_back_16 : decode cX7_back 16 = .ok (.ifCond .ne 6, 3) := by decide +kernel
theorem dX7_back_19 : decode cX7_back 19 = .ok (.bipush (-3), 2) := by decide +kernel
theorem dX7_back_21 : decode cX7_back 21 = .ok (.ireturn, 1) := by decide +kernel
theorem dX7_back_22 : decode cX7_back 22 = .ok (.aload_n 0, 1) := by decide +kernel
theorem dX7_back_23 : decode cX7_back 23 = .ok (.getfield 7, 3) := by decide +kernel
theorem dX7_back_26 : decode cX7_back 26 = .ok (.iload_n 1, 1) := by decide +kernel
theorem dX7_back_27 : decode cX7_back 27 = .ok (.dup2, 1) := by decide +kernel
theorem dX7_back_28 : decode cX7_back 28 = .ok (.iaload, 1) := by decide +kernel
theorem dX7_back_29 : decode cX7_back 29 = .ok (.iconst 1, 1) := by decide +kernel
theorem dX7_back_30 : decode cX7_back 30 = .ok (.isub, 1) := by decide +kernel
theorem dX7_back_31 : decode cX7_back 31 = .ok (.iastore, 1) := by decide +kernel
theorem dX7_back_32 : decode cX7_back 32 = .ok (.aload_n 0, 1) := by decide +kernel
theorem dX7_back_33 : decode cX7_back 33 = .ok (.getfield 7, 3) := by decide +kernel
theorem dX7_back_36 : decode cX7_back 36 = .ok (.iload_n 1, 1) := by decide +kernel
theorem dX7_back_37 : decode cX7_back 37 = .ok (.iaload, 1) := by decide +kernel
theorem dX7_back_38 : decode cX7_back 38 = .ok (.ireturn, 1) := by decide +kernel
theorem dX7_isEdit_0 : decode cX7_isEdit 0 = .ok (.iload_n 1, 1) := by decide +kernel
theorem dX7_isEdit_1 : decode cX7_isEdit 1 = .ok (.invokestatic 82, 3) := by decide +kernel
theorem dX7_isEdit_4 : decode cX7_isEdit 4 = .ok (.ifCond .eq 23, 3) := by decide +kernel
theorem dX7_isEdit_7 : decode cX7_isEdit 7 = .ok (.iload_n 2, 1) := by decide +kernel
theorem dX7_isEdit_8 : decode cX7_isEdit 8 = .ok (.iconst 0, 1) := by decide +kernel
theorem dX7_isEdit_9 : decode cX7_isEdit 9 = .ok (.aload_n 0, 1) := by decide +kernel
theorem dX7_isEdit_10 : decode cX7_isEdit 10 = .ok (.getfield 7, 3) := by decide +kernel
theorem dX7_isEdit_13 : decode cX7_isEdit 13 = .ok (.iload_n 1, 1) := by decide +kernel
theorem dX7_isEdit_14 : decode cX7_isEdit 14 = .ok (.iaload, 1) := by decide +kernel
theorem dX7_isEdit_15 : decode cX7_isEdit 15 = .ok (.iconst 1, 1) := by decide +kernel
theorem dX7_isEdit_16 : decode cX7_isEdit 16 = .ok (.isub, 1) := by decide +kernel
theorem dX7_isEdit_17 : decode cX7_isEdit 17 = .ok (.invokestatic 69, 3) := by decide +kernel
theorem dX7_isEdit_20 : decode cX7_isEdit 20 = .ok (.ifCond .eq 7, 3) := by decide +kernel
theorem dX7_isEdit_23 : decode cX7_isEdit 23 = .ok (.iconst 1, 1) := by decide +kernel
theorem dX7_isEdit_24 : decode cX7_isEdit 24 = .ok (.goto 4, 3) := by decide +kernel
theorem dX7_isEdit_27 : decode cX7_isEdit 27 = .ok (.iconst 0, 1) := by decide +kernel
theorem dX7_isEdit_28 : decode cX7_isEdit 28 = .ok (.ireturn, 1) := by decide +kernel
theorem dX7_trim_0 : decode cX7_trim 0 = .ok (.aload_n 0, 1) := by decide +kernel
theorem dX7_trim_1 : decode cX7_trim 1 = .ok (.iload_n 1, 1) := by decide +kernel
theorem dX7_trim_2 : decode cX7_trim 2 = .ok (.iload_n 2, 1) := by decide +kernel
theorem dX7_trim_3 : decode cX7_trim 3 = .ok (.invokevirtual 89, 3) := by decide +kernel
theorem dX7_trim_6 : decode cX7_trim 6 = .ok (.ifCond .eq 12, 3) := by decide +kernel
theorem dX7_trim_9 : decode cX7_trim 9 = .ok (.iload_n 3, 1) := by decide +kernel
theorem dX7_trim_10 : decode cX7_trim 10 = .ok (.iload 4, 2) := by decide +kernel
theorem dX7_trim_12 : decode cX7_trim 12 = .ok (.invokestatic 78, 3) := by decide +kernel
theorem dX7_trim_15 : decode cX7_trim 15 = .ok (.ifCond .ne 6, 3) := by decide +kernel
theorem dX7_trim_18 : decode cX7_trim 18 = .ok (.bipush (-2), 2) := by decide +kernel
theorem dX7_trim_20 : decode cX7_trim 20 = .ok (.ireturn, 1) := by decide +kernel
theorem dX7_trim_21 : decode cX7_trim 21 = .ok (.bipush 8, 2) := by decide +kernel
theorem dX7_trim_23 : decode cX7_trim 23 = .ok (.iload_n 1, 1) := by decide +kernel
theorem dX7_trim_24 : decode cX7_trim 24 = .ok (.imul, 1) := by decide +kernel
theorem dX7_trim_25 : decode cX7_trim 25 = .ok (.iload_n 2, 1) := by decide +kernel
theorem dX7_trim_26 : decode cX7_trim 26 = .ok (.iadd, 1) := by decide +kernel
theorem dX7_trim_27 : decode cX7_trim 27 = .ok (.istore 5, 2) := by decide +kernel
theorem dX7_trim_29 : decode cX7_trim 29 = .ok (.iload_n 3, 1) := by decide +kernel
theorem dX7_trim_30 : decode cX7_trim 30 = .ok (.ifCond .ne 13, 3) := by decide +kernel
theorem dX7_trim_33 : decode cX7_trim 33 = .ok (.aload_n 0, 1) := by decide +kernel
theorem dX7_trim_34 : decode cX7_trim 34 = .ok (.getfield 16, 3) := by decide +kernel
theorem dX7_trim_37 : decode cX7_trim 37 = .ok (.iload 5, 2) := by decide +kernel
theorem dX7_trim_39 : decode cX7_trim 39 = .ok (.iaload, 1) := by decide +kernel
theorem dX7_trim_40 : decode cX7_trim 40 = .ok (.goto 40, 3) := by decide +kernel
theorem dX7_trim_43 : decode cX7_trim 43 = .ok (.iload_n 3, 1) := by decide +kernel
theorem dX7_trim_44 : decode cX7_trim 44 = .ok (.iconst 1, 1) := by decide +kernel
theorem dX7_trim_45 : decode cX7_trim 45 = .ok (.if_icmp .ne 13, 3) := by decide +kernel
theorem dX7_trim_48 : decode cX7_trim 48 = .ok (.aload_n 0, 1) := by decide +kernel
theorem dX7_trim_49 : decode cX7_trim 49 = .ok (.getfield 19, 3) := by decide +kernel
theorem dX7_trim_52 : decode cX7_trim 52 = .ok (.iload 5, 2) := by decide +kernel
theorem dX7_trim_54 : decode cX7_trim 54 = .ok (.iaload, 1) := by decide +kernel
theorem dX7_trim_55 : decode cX7_trim 55 = .ok (.goto 25, 3) := by decide +kernel
theorem dX7_trim_58 : decode cX7_trim 58 = .ok (.iload_n 3, 1) := by decide +kernel
theorem dX7_trim_59 : decode cX7_trim 59 = .ok (.iconst 2, 1) := by decide +kernel
theorem dX7_trim_60 : decode cX7_trim 60 = .ok (.if_icmp .ne 13, 3) := by decide +kernel
theorem dX7_trim_63 : decode cX7_trim 63 = .ok (.aload_n 0, 1) := by decide +kernel
theorem dX7_trim_64 : decode cX7_trim 64 = .ok (.getfield 22, 3) := by decide +kernel
theorem dX7_trim_67 : decode cX7_trim 67 = .ok (.iload 5, 2) := by decide +kernel
theorem dX7_trim_69 : decode cX7_trim 69 = .ok (.iaload, 1) := by decide +kernel
theorem dX7_trim_70 : decode cX7_trim 70 = .ok (.goto 10, 3) := by decide +kernel
theorem dX7_trim_73 : decode cX7_trim 73 = .ok (.aload_n 0, 1) := by decide +kernel
theorem dX7_trim_74 : decode cX7_trim 74 = .ok (.getfield 25, 3) := by decide +kernel
theorem dX7_trim_77 : decode cX7_trim 77 = .ok (.iload 5, 2) := by decide +kernel
theorem dX7_trim_79 : decode cX7_trim 79 = .ok (.iaload, 1) := by decide +kernel
theorem dX7_trim_80 : decode cX7_trim 80 = .ok (.istore 6, 2) := by decide +kernel
theorem dX7_trim_82 : decode cX7_trim 82 = .ok (.aload_n 0, 1) := by decide +kernel
theorem dX7_trim_83 : decode cX7_trim 83 = .ok (.getfield 16, 3) := by decide +kernel
theorem dX7_trim_86 : decode cX7_trim 86 = .ok (.iload 5, 2) := by decide +kernel
theorem dX7_trim_88 : decode cX7_trim 88 = .ok (.iload_n 3, 1) := by decide +kernel
theorem dX7_trim_89 : decode cX7_trim 89 = .ok (.ifCond .ne 8, 3) := by decide +kernel
theorem dX7_trim_92 : decode cX7_trim 92 = .ok (.iload 4, 2) := by decide +kernel
theorem dX7_trim_94 : decode cX7_trim 94 = .ok (.goto 10, 3) := by decide +kernel
theorem dX7_trim_97 : decode cX7_trim 97 = .ok (.aload_n 0, 1) := by decide +kernel
theorem dX7_trim_98 : decode cX7_trim 98 = .ok (.getfield 16, 3) := by decide +kernel
theorem dX7_trim_101 : decode cX7_trim 101 = .ok (.iload 5, 2) := by decide +kernel
theorem dX7_trim_103 : decode cX7_trim 103 = .ok (.iaload, 1) := by decide +kernel
theorem dX7_trim_104 : decode cX7_trim 104 = .ok (.iastore, 1) := by decide +kernel
theorem dX7_trim_105 : decode cX7_trim 105 = .ok (.aload_n 0, 1) := by decide +kernel
theorem dX7_trim_106 : decode cX7_trim 106 = .ok (.getfield 19, 3) := by decide +kernel
theorem dX7_trim_109 : decode cX7_trim 109 = .ok (.iload 5, 2) := by decide +kernel
theorem dX7_trim_111 : decode cX7_trim 111 = .ok (.iload_n 3, 1) := by decide +kernel
theorem dX7_trim_112 : decode cX7_trim 112 = .ok (.iconst 1, 1) := by decide +kernel
theorem dX7_trim_113 : decode cX7_trim 113 = .ok (.if_icmp .ne 8, 3) := by decide +kernel
theorem dX7_trim_116 : decode cX7_trim 116 = .ok (.iload 4, 2) := by decide +kernel
theorem dX7_trim_118 : decode cX7_trim 118 = .ok (.goto 10, 3) := by decide +kernel
theorem dX7_trim_121 : decode cX7_trim 121 = .ok (.aload_n 0, 1) := by decide +kernel
theorem dX7_trim_122 : decode cX7_trim 122 = .ok (.getfield 19, 3) := by decide +kernel
theorem dX7_trim_125 : decode cX7_trim 125 = .ok (.iload 5, 2) := by decide +kernel
theorem dX7_trim_127 : decode cX7_trim 127 = .ok (.iaload, 1) := by decide +kernel
theorem dX7_trim_128 : decode cX7_trim 128 = .ok (.iastore, 1) := by decide +kernel
theorem dX7_trim_129 : decode cX7_trim 129 = .ok (.aload_n 0, 1) := by decide +kernel
theorem dX7_trim_130 : decode cX7_trim 130 = .ok (.getfield 22, 3) := by decide +kernel
theorem dX7_trim_133 : decode cX7_trim 133 = .ok (.iload 5, 2) := by decide +kernel
theorem dX7_trim_135 : decode cX7_trim 135 = .ok (.iload_n 3, 1) := by decide +kernel
theorem dX7_trim_136 : decode cX7_trim 136 = .ok (.iconst 2, 1) := by decide +kernel
theorem dX7_trim_137 : decode cX7_trim 137 = .ok (.if_icmp .ne 8, 3) := by decide +kernel
theorem dX7_trim_140 : decode cX7_trim 140 = .ok (.iload 4, 2) := by decide +kernel
theorem dX7_trim_142 : decode cX7_trim 142 = .ok (.goto 10, 3) := by decide +kernel
theorem dX7_trim_145 : decode cX7_trim 145 = .ok (.aload_n 0, 1) := by decide +kernel
theorem dX7_trim_146 : decode cX7_trim 146 = .ok (.getfield 22, 3) := by decide +kernel
theorem dX7_trim_149 : decode cX7_trim 149 = .ok (.iload 5, 2) := by decide +kernel
theorem dX7_trim_151 : decode cX7_trim 151 = .ok (.iaload, 1) := by decide +kernel
theorem dX7_trim_152 : decode cX7_trim 152 = .ok (.iastore, 1) := by decide +kernel
theorem dX7_trim_153 : decode cX7_trim 153 = .ok (.aload_n 0, 1) := by decide +kernel
theorem dX7_trim_154 : decode cX7_trim 154 = .ok (.getfield 25, 3) := by decide +kernel
theorem dX7_trim_157 : decode cX7_trim 157 = .ok (.iload 5, 2) := by decide +kernel
theorem dX7_trim_159 : decode cX7_trim 159 = .ok (.iload_n 3, 1) := by decide +kernel
theorem dX7_trim_160 : decode cX7_trim 160 = .ok (.iconst 3, 1) := by decide +kernel
theorem dX7_trim_161 : decode cX7_trim 161 = .ok (.if_icmp .ne 8, 3) := by decide +kernel
theorem dX7_trim_164 : decode cX7_trim 164 = .ok (.iload 4, 2) := by decide +kernel
theorem dX7_trim_166 : decode cX7_trim 166 = .ok (.goto 10, 3) := by decide +kernel
theorem dX7_trim_169 : decode cX7_trim 169 = .ok (.aload_n 0, 1) := by decide +kernel
theorem dX7_trim_170 : decode cX7_trim 170 = .ok (.getfield 25, 3) := by decide +kernel
theorem dX7_trim_173 : decode cX7_trim 173 = .ok (.iload 5, 2) := by decide +kernel
theorem dX7_trim_175 : decode cX7_trim 175 = .ok (.iaload, 1) := by decide +kernel
theorem dX7_trim_176 : decode cX7_trim 176 = .ok (.iastore, 1) := by decide +kernel
theorem dX7_trim_177 : decode cX7_trim 177 = .ok (.iload 6, 2) := by decide +kernel
theorem dX7_trim_179 : decode cX7_trim 179 = .ok (.ireturn, 1) := by decide +kernel
theorem dX7_isSetting_0 : decode cX7_isSetting 0 = .ok (.iload_n 0, 1) := by decide +kernel
theorem dX7_isSetting_1 : decode cX7_isSetting 1 = .ok (.ifCond .ne 12, 3) := by decide +kernel
theorem dX7_isSetting_4 : decode cX7_isSetting 4 = .ok (.iload_n 1, 1) := by decide +kernel
theorem dX7_isSetting_5 : decode cX7_isSetting 5 = .ok (.iconst 0, 1) := by decide +kernel
theorem dX7_isSetting_6 : decode cX7_isSetting 6 = .ok (.iconst 2, 1) := by decide +kernel
theorem dX7_isSetting_7 : decode cX7_isSetting 7 = .ok (.invokestatic 69, 3) := by decide +kernel
theorem dX7_isSetting_10 : decode cX7_isSetting 10 = .ok (.goto 28, 3) := by decide +kernel
theorem dX7_isSetting_13 : decode cX7_isSetting 13 = .ok (.iload_n 0, 1) := by decide +kernel
theorem dX7_isSetting_14 : decode cX7_isSetting 14 = .ok (.iconst 1, 1) := by decide +kernel
theorem dX7_isSetting_15 : decode cX7_isSetting 15 = .ok (.iconst 2, 1) := by decide +kernel
theorem dX7_isSetting_16 : decode cX7_isSetting 16 = .ok (.invokestatic 69, 3) := by decide +kernel
theorem dX7_isSetting_19 : decode cX7_isSetting 19 = .ok (.ifCond .eq 18, 3) := by decide +kernel
theorem dX7_isSetting_22 : decode cX7_isSetting 22 = .ok (.iload_n 1, 1) := by decide +kernel
theorem dX7_isSetting_23 : decode cX7_isSetting 23 = .ok (.iconst 0, 1) := by decide +kernel
theorem dX7_isSetting_24 : decode cX7_isSetting 24 = .ok (.sipush 500, 3) := by decide +kernel
theorem dX7_isSetting_27 : decode cX7_isSetting 27 = .ok (.invokestatic 69, 3) := by decide +kernel
theorem dX7_isSetting_30 : decode cX7_isSetting 30 = .ok (.ifCond .eq 7, 3) := by decide +kernel
theorem dX7_isSetting_33 : decode cX7_isSetting 33 = .ok (.iconst 1, 1) := by decide +kernel
theorem dX7_isSetting_34 : decode cX7_isSetting 34 = .ok (.goto 4, 3) := by decide +kernel
theorem dX7_isSetting_37 : decode cX7_isSetting 37 = .ok (.iconst 0, 1) := by decide +kernel
theorem dX7_isSetting_38 : decode cX7_isSetting 38 = .ok (.ireturn, 1) := by decide +kernel
theorem dX7_set_0 : decode cX7_set 0 = .ok (.iload_n 1, 1) := by decide +kernel
theorem dX7_set_1 : decode cX7_set 1 = .ok (.iload_n 2, 1) := by decide +kernel
theorem dX7_set_2 : decode cX7_set 2 = .ok (.invokestatic 92, 3) := by decide +kernel
theorem dX7_set_5 : decode cX7_set 5 = .ok (.ifCond .ne 6, 3) := by decide +kernel
theorem dX7_set_8 : decode cX7_set 8 = .ok (.bipush (-2), 2) := by decide +kernel
theorem dX7_set_10 : decode cX7_set 10 = .ok (.ireturn, 1) := by decide +kernel
theorem dX7_set_11 : decode cX7_set 11 = .ok (.aload_n 0, 1) := by decide +kernel
theorem dX7_set_12 : decode cX7_set 12 = .ok (.getfield 28, 3) := by decide +kernel
theorem dX7_set_15 : decode cX7_set 15 = .ok (.iload_n 1, 1) := by decide +kernel
theorem dX7_set_16 : decode cX7_set 16 = .ok (.iaload, 1) := by decide +kernel
theorem dX7_set_17 : decode cX7_set 17 = .ok (.istore_n 3, 1) := by decide +kernel
theorem dX7_set_18 : decode cX7_set 18 = .ok (.aload_n 0, 1) := by decide +kernel
theorem dX7_set_19 : decode cX7_set 19 = .ok (.getfield 28, 3) := by decide +kernel
theorem dX7_set_22 : decode cX7_set 22 = .ok (.iload_n 1, 1) := by decide +kernel
theorem dX7_set_23 : decode cX7_set 23 = .ok (.iload_n 2, 1) := by decide +kernel
theorem dX7_set_24 : decode cX7_set 24 = .ok (.iastore, 1) := by decide +kernel
theorem dX7_set_25 : decode cX7_set 25 = .ok (.iload_n 3, 1) := by decide +kernel
theorem dX7_set_26 : decode cX7_set 26 = .ok (.ireturn, 1) := by decide +kernel
theorem dX7_reel_0 : decode cX7_reel 0 = .ok (.iload_n 1, 1) := by decide +kernel
theorem dX7_reel_1 : decode cX7_reel 1 = .ok (.invokestatic 74, 3) := by decide +kernel
theorem dX7_reel_4 : decode cX7_reel 4 = .ok (.ifCond .eq 13, 3) := by decide +kernel
theorem dX7_reel_7 : decode cX7_reel 7 = .ok (.iload_n 2, 1) := by decide +kernel
theorem dX7_reel_8 : decode cX7_reel 8 = .ok (.iconst 1, 1) := by decide +kernel
theorem dX7_reel_9 : decode cX7_reel 9 = .ok (.ldc 95, 2) := by decide +kernel
theorem dX7_reel_11 : decode cX7_reel 11 = .ok (.invokestatic 69, 3) := by decide +kernel
theorem dX7_reel_14 : decode cX7_reel 14 = .ok (.ifCond .ne 6, 3) := by decide +kernel
theorem dX7_reel_17 : decode cX7_reel 17 = .ok (.bipush (-2), 2) := by decide +kernel
theorem dX7_reel_19 : decode cX7_reel 19 = .ok (.ireturn, 1) := by decide +kernel
theorem dX7_reel_20 : decode cX7_reel 20 = .ok (.aload_n 0, 1) := by decide +kernel
theorem dX7_reel_21 : decode cX7_reel 21 = .ok (.getfield 31, 3) := by decide +kernel
theorem dX7_reel_24 : decode cX7_reel 24 = .ok (.iload_n 1, 1) := by decide +kernel
theorem dX7_reel_25 : decode cX7_reel 25 = .ok (.iaload, 1) := by decide +kernel
theorem dX7_reel_26 : decode cX7_reel 26 = .ok (.istore_n 3, 1) := by decide +kernel
theorem dX7_reel_27 : decode cX7_reel 27 = .ok (.aload_n 0, 1) := by decide +kernel
theorem dX7_reel_28 : decode cX7_reel 28 = .ok (.getfield 31, 3) := by decide +kernel
theorem dX7_reel_31 : decode cX7_reel 31 = .ok (.iload_n 1, 1) := by decide +kernel
theorem dX7_reel_32 : decode cX7_reel 32 = .ok (.iload_n 2, 1) := by decide +kernel
theorem dX7_reel_33 : decode cX7_reel 33 = .ok (.iastore, 1) := by decide +kernel
theorem dX7_reel_34 : decode cX7_reel 34 = .ok (.iload_n 3, 1) := by decide +kernel
theorem dX7_reel_35 : decode cX7_reel 35 = .ok (.ireturn, 1) := by decide +kernel
theorem dX7_swaps_0 : decode cX7_swaps 0 = .ok (.iconst 0, 1) := by decide +kernel
theorem dX7_swaps_1 : decode cX7_swaps 1 = .ok (.istore_n 1, 1) := by decide +kernel
theorem dX7_swaps_2 : decode cX7_swaps 2 = .ok (.iload_n 1, 1) := by decide +kernel
theorem dX7_swaps_3 : decode cX7_swaps 3 = .ok (.bipush 8, 2) := by decide +kernel
theorem dX7_swaps_5 : decode cX7_swaps 5 = .ok (.if_icmp .ge 29, 3) := by decide +kernel
theorem dX7_swaps_8 : decode cX7_swaps 8 = .ok (.aload_n 0, 1) := by decide +kernel
theorem dX7_swaps_9 : decode cX7_swaps 9 = .ok (.iload_n 1, 1) := by decide +kernel
theorem dX7_swaps_10 : decode cX7_swaps 10 = .ok (.iaload, 1) := by decide +kernel
theorem dX7_swaps_11 : decode cX7_swaps 11 = .ok (.istore_n 2, 1) := by decide +kernel
theorem dX7_swaps_12 : decode cX7_swaps 12 = .ok (.aload_n 0, 1) := by decide +kernel
theorem dX7_swaps_13 : decode cX7_swaps 13 = .ok (.iload_n 1, 1) := by decide +kernel
theorem dX7_swaps_14 : decode cX7_swaps 14 = .ok (.aload_n 0, 1) := by decide +kernel
theorem dX7_swaps_15 : decode cX7_swaps 15 = .ok (.bipush 8, 2) := by decide +kernel
theorem dX7_swaps_17 : decode cX7_swaps 17 = .ok (.iload_n 1, 1) := by decide +kernel
theorem dX7_swaps_18 : decode cX7_swaps 18 = .ok (.iadd, 1) := by decide +kernel
theorem dX7_swaps_19 : decode cX7_swaps 19 = .ok (.iaload, 1) := by decide +kernel
theorem dX7_swaps_20 : decode cX7_swaps 20 = .ok (.iastore, 1) := by decide +kernel
theorem dX7_swaps_21 : decode cX7_swaps 21 = .ok (.aload_n 0, 1) := by decide +kernel
theorem dX7_swaps_22 : decode cX7_swaps 22 = .ok (.bipush 8, 2) := by decide +kernel
theorem dX7_swaps_24 : decode cX7_swaps 24 = .ok (.iload_n 1, 1) := by decide +kernel
theorem dX7_swaps_25 : decode cX7_swaps 25 = .ok (.iadd, 1) := by decide +kernel
theorem dX7_swaps_26 : decode cX7_swaps 26 = .ok (.iload_n 2, 1) := by decide +kernel
theorem dX7_swaps_27 : decode cX7_swaps 27 = .ok (.iastore, 1) := by decide +kernel
theorem dX7_swaps_28 : decode cX7_swaps 28 = .ok (.iinc 1 1, 3) := by decide +kernel
theorem dX7_swaps_31 : decode cX7_swaps 31 = .ok (.goto (-29), 3) := by decide +kernel
theorem dX7_swaps_34 : decode cX7_swaps 34 = .ok (.return_, 1) := by decide +kernel
theorem dX7_swap_0 : decode cX7_swap 0 = .ok (.aload_n 0, 1) := by decide +kernel
theorem dX7_swap_1 : decode cX7_swap 1 = .ok (.getfield 13, 3) := by decide +kernel
theorem dX7_swap_4 : decode cX7_swap 4 = .ok (.invokestatic 96, 3) := by decide +kernel
theorem dX7_swap_7 : decode cX7_swap 7 = .ok (.aload_n 0, 1) := by decide +kernel
theorem dX7_swap_8 : decode cX7_swap 8 = .ok (.getfield 16, 3) := by decide +kernel
theorem dX7_swap_11 : decode cX7_swap 11 = .ok (.invokestatic 96, 3) := by decide +kernel
theorem dX7_swap_14 : decode cX7_swap 14 = .ok (.aload_n 0, 1) := by decide +kernel
theorem dX7_swap_15 : decode cX7_swap 15 = .ok (.getfield 19, 3) := by decide +kernel
theorem dX7_swap_18 : decode cX7_swap 18 = .ok (.invokestatic 96, 3) := by decide +kernel
theorem dX7_swap_21 : decode cX7_swap 21 = .ok (.aload_n 0, 1) := by decide +kernel
theorem dX7_swap_22 : decode cX7_swap 22 = .ok (.getfield 22, 3) := by decide +kernel
theorem dX7_swap_25 : decode cX7_swap 25 = .ok (.invokestatic 96, 3) := by decide +kernel
theorem dX7_swap_28 : decode cX7_swap 28 = .ok (.aload_n 0, 1) := by decide +kernel
theorem dX7_swap_29 : decode cX7_swap 29 = .ok (.getfield 25, 3) := by decide +kernel
theorem dX7_swap_32 : decode cX7_swap 32 = .ok (.invokestatic 96, 3) := by decide +kernel
theorem dX7_swap_35 : decode cX7_swap 35 = .ok (.aload_n 0, 1) := by decide +kernel
theorem dX7_swap_36 : decode cX7_swap 36 = .ok (.getfield 7, 3) := by decide +kernel
theorem dX7_swap_39 : decode cX7_swap 39 = .ok (.iconst 0, 1) := by decide +kernel
theorem dX7_swap_40 : decode cX7_swap 40 = .ok (.iaload, 1) := by decide +kernel
theorem dX7_swap_41 : decode cX7_swap 41 = .ok (.istore_n 1, 1) := by decide +kernel
theorem dX7_swap_42 : decode cX7_swap 42 = .ok (.aload_n 0, 1) := by decide +kernel
theorem dX7_swap_43 : decode cX7_swap 43 = .ok (.getfield 7, 3) := by decide +kernel
theorem dX7_swap_46 : decode cX7_swap 46 = .ok (.iconst 0, 1) := by decide +kernel
theorem dX7_swap_47 : decode cX7_swap 47 = .ok (.aload_n 0, 1) := by decide +kernel
theorem dX7_swap_48 : decode cX7_swap 48 = .ok (.getfield 7, 3) := by decide +kernel
theorem dX7_swap_51 : decode cX7_swap 51 = .ok (.iconst 1, 1) := by decide +kernel
theorem dX7_swap_52 : decode cX7_swap 52 = .ok (.iaload, 1) := by decide +kernel
theorem dX7_swap_53 : decode cX7_swap 53 = .ok (.iastore, 1) := by decide +kernel
theorem dX7_swap_54 : decode cX7_swap 54 = .ok (.aload_n 0, 1) := by decide +kernel
theorem dX7_swap_55 : decode cX7_swap 55 = .ok (.getfield 7, 3) := by decide +kernel
theorem dX7_swap_58 : decode cX7_swap 58 = .ok (.iconst 1, 1) := by decide +kernel
theorem dX7_swap_59 : decode cX7_swap 59 = .ok (.iload_n 1, 1) := by decide +kernel
theorem dX7_swap_60 : decode cX7_swap 60 = .ok (.iastore, 1) := by decide +kernel
theorem dX7_swap_61 : decode cX7_swap 61 = .ok (.aload_n 0, 1) := by decide +kernel
theorem dX7_swap_62 : decode cX7_swap 62 = .ok (.getfield 7, 3) := by decide +kernel
theorem dX7_swap_65 : decode cX7_swap 65 = .ok (.iconst 0, 1) := by decide +kernel
theorem dX7_swap_66 : decode cX7_swap 66 = .ok (.iaload, 1) := by decide +kernel
theorem dX7_swap_67 : decode cX7_swap 67 = .ok (.aload_n 0, 1) := by decide +kernel
theorem dX7_swap_68 : decode cX7_swap 68 = .ok (.getfield 7, 3) := by decide +kernel
theorem dX7_swap_71 : decode cX7_swap 71 = .ok (.iconst 1, 1) := by decide +kernel
theorem dX7_swap_72 : decode cX7_swap 72 = .ok (.iaload, 1) := by decide +kernel
theorem dX7_swap_73 : decode cX7_swap 73 = .ok (.iadd, 1) := by decide +kernel
theorem dX7_swap_74 : decode cX7_swap 74 = .ok (.ireturn, 1) := by decide +kernel
theorem dX7_read_0 : decode cX7_read 0 = .ok (.iload_n 1, 1) := by decide +kernel
theorem dX7_read_1 : decode cX7_read 1 = .ok (.invokestatic 82, 3) := by decide +kernel
theorem dX7_read_4 : decode cX7_read 4 = .ok (.ifCond .eq 10, 3) := by decide +kernel
theorem dX7_read_7 : decode cX7_read 7 = .ok (.iload_n 2, 1) := by decide +kernel
theorem dX7_read_8 : decode cX7_read 8 = .ok (.invokestatic 100, 3) := by decide +kernel
theorem dX7_read_11 : decode cX7_read 11 = .ok (.ifCond .ne 6, 3) := by decide +kernel
theorem dX7_read_14 : decode cX7_read 14 = .ok (.bipush (-2), 2) := by decide +kernel
theorem dX7_read_16 : decode cX7_read 16 = .ok (.ireturn, 1) := by decide +kernel
theorem dX7_read_17 : decode cX7_read 17 = .ok (.aload_n 0, 1) := by decide +kernel
theorem dX7_read_18 : decode cX7_read 18 = .ok (.getfield 52, 3) := by decide +kernel
theorem dX7_read_21 : decode cX7_read 21 = .ok (.iload_n 2, 1) := by decide +kernel
theorem dX7_read_22 : decode cX7_read 22 = .ok (.baload, 1) := by decide +kernel
theorem dX7_read_23 : decode cX7_read 23 = .ok (.ifCond .ne 9, 3) := by decide +kernel
theorem dX7_read_26 : decode cX7_read 26 = .ok (.aload_n 0, 1) := by decide +kernel
theorem dX7_read_27 : decode cX7_read 27 = .ok (.iconst 1, 1) := by decide +kernel
theorem dX7_read_28 : decode cX7_read 28 = .ok (.invokevirtual 103, 3) := by decide +kernel
theorem dX7_read_31 : decode cX7_read 31 = .ok (.ireturn, 1) := by decide +kernel
theorem dX7_read_32 : decode cX7_read 32 = .ok (.iconst 0, 1) := by decide +kernel
theorem dX7_read_33 : decode cX7_read 33 = .ok (.istore_n 3, 1) := by decide +kernel
theorem dX7_read_34 : decode cX7_read 34 = .ok (.bipush 60, 2) := by decide +kernel
theorem dX7_read_36 : decode cX7_read 36 = .ok (.iload_n 2, 1) := by decide +kernel
theorem dX7_read_37 : decode cX7_read 37 = .ok (.imul, 1) := by decide +kernel
theorem dX7_read_38 : decode cX7_read 38 = .ok (.istore 4, 2) := by decide +kernel
theorem dX7_read_40 : decode cX7_read 40 = .ok (.iconst 5, 1) := by decide +kernel
theorem dX7_read_41 : decode cX7_read 41 = .ok (.iload_n 3, 1) := by decide +kernel
theorem dX7_read_42 : decode cX7_read 42 = .ok (.imul, 1) := by decide +kernel
theorem dX7_read_43 : decode cX7_read 43 = .ok (.iconst 4, 1) := by decide +kernel
theorem dX7_read_44 : decode cX7_read 44 = .ok (.iadd, 1) := by decide +kernel
theorem dX7_read_45 : decode cX7_read 45 = .ok (.aload_n 0, 1) := by decide +kernel
theorem dX7_read_46 : decode cX7_read 46 = .ok (.getfield 59, 3) := by decide +kernel
theorem dX7_read_49 : decode cX7_read 49 = .ok (.iload_n 2, 1) := by decide +kernel
theorem dX7_read_50 : decode cX7_read 50 = .ok (.iaload, 1) := by decide +kernel
theorem dX7_read_51 : decode cX7_read 51 = .ok (.if_icmp .ge 80, 3) := by decide +kernel
theorem dX7_read_54 : decode cX7_read 54 = .ok (.aload_n 0, 1) := by decide +kernel
theorem dX7_read_55 : decode cX7_read 55 = .ok (.iload_n 1, 1) := by decide +kernel
theorem dX7_read_56 : decode cX7_read 56 = .ok (.aload_n 0, 1) := by decide +kernel
theorem dX7_read_57 : decode cX7_read 57 = .ok (.getfield 62, 3) := by decide +kernel
theorem dX7_read_60 : decode cX7_read 60 = .ok (.iload 4, 2) := by decide +kernel
theorem dX7_read_62 : decode cX7_read 62 = .ok (.iconst 5, 1) := by decide +kernel
theorem dX7_read_63 : decode cX7_read 63 = .ok (.iload_n 3, 1) := by decide +kernel
theorem dX7_read_64 : decode cX7_read 64 = .ok (.imul, 1) := by decide +kernel
theorem dX7_read_65 : decode cX7_read 65 = .ok (.iadd, 1) := by decide +kernel
theorem dX7_read_66 : decode cX7_read 66 = .ok (.iaload, 1) := by decide +kernel
theorem dX7_read_67 : decode cX7_read 67 = .ok (.aload_n 0, 1) := by decide +kernel
theorem dX7_read_68 : decode cX7_read 68 = .ok (.getfield 62, 3) := by decide +kernel
theorem dX7_read_71 : decode cX7_read 71 = .ok (.iload 4, 2) := by decide +kernel
theorem dX7_read_73 : decode cX7_read 73 = .ok (.iconst 5, 1) := by decide +kernel
theorem dX7_read_74 : decode cX7_read 74 = .ok (.iload_n 3, 1) := by decide +kernel
theorem dX7_read_75 : decode cX7_read 75 = .ok (.imul, 1) := by decide +kernel
theorem dX7_read_76 : decode cX7_read 76 = .ok (.iadd, 1) := by decide +kernel
theorem dX7_read_77 : decode cX7_read 77 = .ok (.iconst 1, 1) := by decide +kernel
theorem dX7_read_78 : decode cX7_read 78 = .ok (.iadd, 1) := by decide +kernel
theorem dX7_read_79 : decode cX7_read 79 = .ok (.iaload, 1) := by decide +kernel
theorem dX7_read_80 : decode cX7_read 80 = .ok (.aload_n 0, 1) := by decide +kernel
theorem dX7_read_81 : decode cX7_read 81 = .ok (.getfield 62, 3) := by decide +kernel
theorem dX7_read_84 : decode cX7_read 84 = .ok (.iload 4, 2) := by decide +kernel
theorem dX7_read_86 : decode cX7_read 86 = .ok (.iconst 5, 1) := by decide +kernel
theorem dX7_read_87 : decode cX7_read 87 = .ok (.iload_n 3, 1) := by decide +kernel
theorem dX7_read_88 : decode cX7_read 88 = .ok (.imul, 1) := by decide +kernel
theorem dX7_read_89 : decode cX7_read 89 = .ok (.iadd, 1) := by decide +kernel
theorem dX7_read_90 : decode cX7_read 90 = .ok (.iconst 2, 1) := by decide +kernel
theorem dX7_read_91 : decode cX7_read 91 = .ok (.iadd, 1) := by decide +kernel
theorem dX7_read_92 : decode cX7_read 92 = .ok (.iaload, 1) := by decide +kernel
theorem dX7_read_93 : decode cX7_read 93 = .ok (.aload_n 0, 1) := by decide +kernel
theorem dX7_read_94 : decode cX7_read 94 = .ok (.getfield 62, 3) := by decide +kernel
theorem dX7_read_97 : decode cX7_read 97 = .ok (.iload 4, 2) := by decide +kernel
theorem dX7_read_99 : decode cX7_read 99 = .ok (.iconst 5, 1) := by decide +kernel
theorem dX7_read_100 : decode cX7_read 100 = .ok (.iload_n 3, 1) := by decide +kernel
theorem dX7_read_101 : decode cX7_read 101 = .ok (.imul, 1) := by decide +kernel
theorem dX7_read_102 : decode cX7_read 102 = .ok (.iadd, 1) := by decide +kernel
theorem dX7_read_103 : decode cX7_read 103 = .ok (.iconst 3, 1) := by decide +kernel
theorem dX7_read_104 : decode cX7_read 104 = .ok (.iadd, 1) := by decide +kernel
theorem dX7_read_105 : decode cX7_read 105 = .ok (.iaload, 1) := by decide +kernel
theorem dX7_read_106 : decode cX7_read 106 = .ok (.aload_n 0, 1) := by decide +kernel
theorem dX7_read_107 : decode cX7_read 107 = .ok (.getfield 62, 3) := by decide +kernel
theorem dX7_read_110 : decode cX7_read 110 = .ok (.iload 4, 2) := by decide +kernel
theorem dX7_read_112 : decode cX7_read 112 = .ok (.iconst 5, 1) := by decide +kernel
theorem dX7_read_113 : decode cX7_read 113 = .ok (.iload_n 3, 1) := by decide +kernel
theorem dX7_read_114 : decode cX7_read 114 = .ok (.imul, 1) := by decide +kernel
theorem dX7_read_115 : decode cX7_read 115 = .ok (.iadd, 1) := by decide +kernel
theorem dX7_read_116 : decode cX7_read 116 = .ok (.iconst 4, 1) := by decide +kernel
theorem dX7_read_117 : decode cX7_read 117 = .ok (.iadd, 1) := by decide +kernel
theorem dX7_read_118 : decode cX7_read 118 = .ok (.iaload, 1) := by decide +kernel
theorem dX7_read_119 : decode cX7_read 119 = .ok (.invokevirtual 85, 3) := by decide +kernel
theorem dX7_read_122 : decode cX7_read 122 = .ok (.ifCond .le 9, 3) := by decide +kernel
theorem dX7_read_125 : decode cX7_read 125 = .ok (.iinc 3 1, 3) := by decide +kernel
theorem dX7_read_128 : decode cX7_read 128 = .ok (.goto (-88), 3) := by decide +kernel
theorem dX7_read_131 : decode cX7_read 131 = .ok (.iload_n 3, 1) := by decide +kernel
theorem dX7_read_132 : decode cX7_read 132 = .ok (.ireturn, 1) := by decide +kernel
theorem dX7_frameOf_0 : decode cX7_frameOf 0 = .ok (.aload_n 0, 1) := by decide +kernel
theorem dX7_frameOf_1 : decode cX7_frameOf 1 = .ok (.getfield 16, 3) := by decide +kernel
theorem dX7_frameOf_4 : decode cX7_frameOf 4 = .ok (.iload_n 1, 1) := by decide +kernel
theorem dX7_frameOf_5 : decode cX7_frameOf 5 = .ok (.iaload, 1) := by decide +kernel
theorem dX7_frameOf_6 : decode cX7_frameOf 6 = .ok (.iload_n 2, 1) := by decide +kernel
theorem dX7_frameOf_7 : decode cX7_frameOf 7 = .ok (.aload_n 0, 1) := by decide +kernel
theorem dX7_frameOf_8 : decode cX7_frameOf 8 = .ok (.getfield 22, 3) := by decide +kernel
theorem dX7_frameOf_11 : decode cX7_frameOf 11 = .ok (.iload_n 1, 1) := by decide +kernel
theorem dX7_frameOf_12 : decode cX7_frameOf 12 = .ok (.iaload, 1) := by decide +kernel
theorem dX7_frameOf_13 : decode cX7_frameOf 13 = .ok (.imul, 1) := by decide +kernel
theorem dX7_frameOf_14 : decode cX7_frameOf 14 = .ok (.aload_n 0, 1) := by decide +kernel
theorem dX7_frameOf_15 : decode cX7_frameOf 15 = .ok (.getfield 25, 3) := by decide +kernel
theorem dX7_frameOf_18 : decode cX7_frameOf 18 = .ok (.iload_n 1, 1) := by decide +kernel
theorem dX7_frameOf_19 : decode cX7_frameOf 19 = .ok (.iaload, 1) := by decide +kernel
theorem dX7_frameOf_20 : decode cX7_frameOf 20 = .ok (.idiv, 1) := by decide +kernel
theorem dX7_frameOf_21 : decode cX7_frameOf 21 = .ok (.iadd, 1) := by decide +kernel
theorem dX7_frameOf_22 : decode cX7_frameOf 22 = .ok (.ireturn, 1) := by decide +kernel
theorem dX7_lastOf_0 : decode cX7_lastOf 0 = .ok (.aload_n 0, 1) := by decide +kernel
theorem dX7_lastOf_1 : decode cX7_lastOf 1 = .ok (.iload_n 1, 1) := by decide +kernel
theorem dX7_lastOf_2 : decode cX7_lastOf 2 = .ok (.aload_n 0, 1) := by decide +kernel
theorem dX7_lastOf_3 : decode cX7_lastOf 3 = .ok (.getfield 19, 3) := by decide +kernel
theorem dX7_lastOf_6 : decode cX7_lastOf 6 = .ok (.iload_n 1, 1) := by decide +kernel
theorem dX7_lastOf_7 : decode cX7_lastOf 7 = .ok (.iaload, 1) := by decide +kernel
theorem dX7_lastOf_8 : decode cX7_lastOf 8 = .ok (.iconst 1, 1) := by decide +kernel
theorem dX7_lastOf_9 : decode cX7_lastOf 9 = .ok (.isub, 1) := by decide +kernel
theorem dX7_lastOf_10 : decode cX7_lastOf 10 = .ok (.invokevirtual 107, 3) := by decide +kernel
theorem dX7_lastOf_13 : decode cX7_lastOf 13 = .ok (.ireturn, 1) := by decide +kernel
theorem dX7_beginOf_0 : decode cX7_beginOf 0 = .ok (.iconst 0, 1) := by decide +kernel
theorem dX7_beginOf_1 : decode cX7_beginOf 1 = .ok (.istore_n 3, 1) := by decide +kernel
theorem dX7_beginOf_2 : decode cX7_beginOf 2 = .ok (.iconst 0, 1) := by decide +kernel
theorem dX7_beginOf_3 : decode cX7_beginOf 3 = .ok (.istore 4, 2) := by decide +kernel
theorem dX7_beginOf_5 : decode cX7_beginOf 5 = .ok (.iload 4, 2) := by decide +kernel
theorem dX7_beginOf_7 : decode cX7_beginOf 7 = .ok (.iload_n 2, 1) := by decide +kernel
theorem dX7_beginOf_8 : decode cX7_beginOf 8 = .ok (.if_icmp .ge 24, 3) := by decide +kernel
theorem dX7_beginOf_11 : decode cX7_beginOf 11 = .ok (.iload_n 3, 1) := by decide +kernel
theorem dX7_beginOf_12 : decode cX7_beginOf 12 = .ok (.aload_n 0, 1) := by decide +kernel
theorem dX7_beginOf_13 : decode cX7_beginOf 13 = .ok (.getfield 19, 3) := by decide +kernel
theorem dX7_beginOf_16 : decode cX7_beginOf 16 = .ok (.bipush 8, 2) := by decide +kernel
theorem dX7_beginOf_18 : decode cX7_beginOf 18 = .ok (.iload_n 1, 1) := by decide +kernel
theorem dX7_beginOf_19 : decode cX7_beginOf 19 = .ok (.imul, 1) := by decide +kernel
theorem dX7_beginOf_20 : decode cX7_beginOf 20 = .ok (.iload 4, 2) := by decide +kernel
theorem dX7_beginOf_22 : decode cX7_beginOf 22 = .ok (.iadd, 1) := by decide +kernel
theorem dX7_beginOf_23 : decode cX7_beginOf 23 = .ok (.iaload, 1) := by decide +kernel
theorem dX7_beginOf_24 : decode cX7_beginOf 24 = .ok (.iadd, 1) := by decide +kernel
theorem dX7_beginOf_25 : decode cX7_beginOf 25 = .ok (.istore_n 3, 1) := by decide +kernel
theorem dX7_beginOf_26 : decode cX7_beginOf 26 = .ok (.iinc 4 1, 3) := by decide +kernel
theorem dX7_beginOf_29 : decode cX7_beginOf 29 = .ok (.goto (-24), 3) := by decide +kernel
theorem dX7_beginOf_32 : decode cX7_beginOf 32 = .ok (.iload_n 3, 1) := by decide +kernel
theorem dX7_beginOf_33 : decode cX7_beginOf 33 = .ok (.ireturn, 1) := by decide +kernel
theorem dX7_infoOf_0 : decode cX7_infoOf 0 = .ok (.bipush 8, 2) := by decide +kernel
theorem dX7_infoOf_2 : decode cX7_infoOf 2 = .ok (.iload_n 1, 1) := by decide +kernel
theorem dX7_infoOf_3 : decode cX7_infoOf 3 = .ok (.imul, 1) := by decide +kernel
theorem dX7_infoOf_4 : decode cX7_infoOf 4 = .ok (.iload_n 2, 1) := by decide +kernel
theorem dX7_infoOf_5 : decode cX7_infoOf 5 = .ok (.iadd, 1) := by decide +kernel
theorem dX7_infoOf_6 : decode cX7_infoOf 6 = .ok (.istore 4, 2) := by decide +kernel
theorem dX7_infoOf_8 : decode cX7_infoOf 8 = .ok (.iload_n 3, 1) := by decide +kernel
theorem dX7_infoOf_9 : decode cX7_infoOf 9 = .ok (.tableswitch 98 0 6 #[43, 51, 59, 67, 75, 83, 90], 43) := by decide +kernel
theorem dX7_infoOf_52 : decode cX7_infoOf 52 = .ok (.aload_n 0, 1) := by decide +kernel
theorem dX7_infoOf_53 : decode cX7_infoOf 53 = .ok (.getfield 13, 3) := by decide +kernel
theorem dX7_infoOf_56 : decode cX7_infoOf 56 = .ok (.iload 4, 2) := by decide +kernel
theorem dX7_infoOf_58 : decode cX7_infoOf 58 = .ok (.iaload, 1) := by decide +kernel
theorem dX7_infoOf_59 : decode cX7_infoOf 59 = .ok (.ireturn, 1) := by decide +kernel
theorem dX7_infoOf_60 : decode cX7_infoOf 60 = .ok (.aload_n 0, 1) := by decide +kernel
theorem dX7_infoOf_61 : decode cX7_infoOf 61 = .ok (.getfield 16, 3) := by decide +kernel
theorem dX7_infoOf_64 : decode cX7_infoOf 64 = .ok (.iload 4, 2) := by decide +kernel
theorem dX7_infoOf_66 : decode cX7_infoOf 66 = .ok (.iaload, 1) := by decide +kernel
theorem dX7_infoOf_67 : decode cX7_infoOf 67 = .ok (.ireturn, 1) := by decide +kernel
theorem dX7_infoOf_68 : decode cX7_infoOf 68 = .ok (.aload_n 0, 1) := by decide +kernel
theorem dX7_infoOf_69 : decode cX7_infoOf 69 = .ok (.getfield 19, 3) := by decide +kernel
theorem dX7_infoOf_72 : decode cX7_infoOf 72 = .ok (.iload 4, 2) := by decide +kernel
theorem dX7_infoOf_74 : decode cX7_infoOf 74 = .ok (.iaload, 1) := by decide +kernel
theorem dX7_infoOf_75 : decode cX7_infoOf 75 = .ok (.ireturn, 1) := by decide +kernel
theorem dX7_infoOf_76 : decode cX7_infoOf 76 = .ok (.aload_n 0, 1) := by decide +kernel
theorem dX7_infoOf_77 : decode cX7_infoOf 77 = .ok (.getfield 22, 3) := by decide +kernel
theorem dX7_infoOf_80 : decode cX7_infoOf 80 = .ok (.iload 4, 2) := by decide +kernel
theorem dX7_infoOf_82 : decode cX7_infoOf 82 = .ok (.iaload, 1) := by decide +kernel
theorem dX7_infoOf_83 : decode cX7_infoOf 83 = .ok (.ireturn, 1) := by decide +kernel
theorem dX7_infoOf_84 : decode cX7_infoOf 84 = .ok (.aload_n 0, 1) := by decide +kernel
theorem dX7_infoOf_85 : decode cX7_infoOf 85 = .ok (.getfield 25, 3) := by decide +kernel
theorem dX7_infoOf_88 : decode cX7_infoOf 88 = .ok (.iload 4, 2) := by decide +kernel
theorem dX7_infoOf_90 : decode cX7_infoOf 90 = .ok (.iaload, 1) := by decide +kernel
theorem dX7_infoOf_91 : decode cX7_infoOf 91 = .ok (.ireturn, 1) := by decide +kernel
theorem dX7_infoOf_92 : decode cX7_infoOf 92 = .ok (.aload_n 0, 1) := by decide +kernel
theorem dX7_infoOf_93 : decode cX7_infoOf 93 = .ok (.iload_n 1, 1) := by decide +kernel
theorem dX7_infoOf_94 : decode cX7_infoOf 94 = .ok (.iload_n 2, 1) := by decide +kernel
theorem dX7_infoOf_95 : decode cX7_infoOf 95 = .ok (.invokevirtual 111, 3) := by decide +kernel
theorem dX7_infoOf_98 : decode cX7_infoOf 98 = .ok (.ireturn, 1) := by decide +kernel
theorem dX7_infoOf_99 : decode cX7_infoOf 99 = .ok (.aload_n 0, 1) := by decide +kernel
theorem dX7_infoOf_100 : decode cX7_infoOf 100 = .ok (.getfield 16, 3) := by decide +kernel
theorem dX7_infoOf_103 : decode cX7_infoOf 103 = .ok (.iload 4, 2) := by decide +kernel
theorem dX7_infoOf_105 : decode cX7_infoOf 105 = .ok (.iaload, 1) := by decide +kernel
theorem dX7_infoOf_106 : decode cX7_infoOf 106 = .ok (.ireturn, 1) := by decide +kernel
theorem dX7_infoOf_107 : decode cX7_infoOf 107 = .ok (.aload_n 0, 1) := by decide +kernel
theorem dX7_infoOf_108 : decode cX7_infoOf 108 = .ok (.iload 4, 2) := by decide +kernel
theorem dX7_infoOf_110 : decode cX7_infoOf 110 = .ok (.invokevirtual 114, 3) := by decide +kernel
theorem dX7_infoOf_113 : decode cX7_infoOf 113 = .ok (.ireturn, 1) := by decide +kernel
theorem dX7_info_0 : decode cX7_info 0 = .ok (.aload_n 0, 1) := by decide +kernel
theorem dX7_info_1 : decode cX7_info 1 = .ok (.iload_n 1, 1) := by decide +kernel
theorem dX7_info_2 : decode cX7_info 2 = .ok (.iload_n 2, 1) := by decide +kernel
theorem dX7_info_3 : decode cX7_info 3 = .ok (.invokevirtual 89, 3) := by decide +kernel
theorem dX7_info_6 : decode cX7_info 6 = .ok (.ifCond .eq 23, 3) := by decide +kernel
theorem dX7_info_9 : decode cX7_info 9 = .ok (.iload_n 3, 1) := by decide +kernel
theorem dX7_info_10 : decode cX7_info 10 = .ok (.iconst 0, 1) := by decide +kernel
theorem dX7_info_11 : decode cX7_info 11 = .ok (.bipush 7, 2) := by decide +kernel
theorem dX7_info_13 : decode cX7_info 13 = .ok (.invokestatic 69, 3) := by decide +kernel
theorem dX7_info_16 : decode cX7_info 16 = .ok (.ifCond .eq 13, 3) := by decide +kernel
theorem dX7_info_19 : decode cX7_info 19 = .ok (.aload_n 0, 1) := by decide +kernel
theorem dX7_info_20 : decode cX7_info 20 = .ok (.iload_n 1, 1) := by decide +kernel
theorem dX7_info_21 : decode cX7_info 21 = .ok (.iload_n 2, 1) := by decide +kernel
theorem dX7_info_22 : decode cX7_info 22 = .ok (.iload_n 3, 1) := by decide +kernel
theorem dX7_info_23 : decode cX7_info 23 = .ok (.invokevirtual 117, 3) := by decide +kernel
theorem dX7_info_26 : decode cX7_info 26 = .ok (.goto 5, 3) := by decide +kernel
theorem dX7_info_29 : decode cX7_info 29 = .ok (.bipush (-2), 2) := by decide +kernel
theorem dX7_info_31 : decode cX7_info 31 = .ok (.ireturn, 1) := by decide +kernel
theorem dX7_showsOf_0 : decode cX7_showsOf 0 = .ok (.iconst 0, 1) := by decide +kernel
theorem dX7_showsOf_1 : decode cX7_showsOf 1 = .ok (.istore 4, 2) := by decide +kernel
theorem dX7_showsOf_3 : decode cX7_showsOf 3 = .ok (.iconst 0, 1) := by decide +kernel
theorem dX7_showsOf_4 : decode cX7_showsOf 4 = .ok (.istore 5, 2) := by decide +kernel
theorem dX7_showsOf_6 : decode cX7_showsOf 6 = .ok (.iload 5, 2) := by decide +kernel
theorem dX7_showsOf_8 : decode cX7_showsOf 8 = .ok (.aload_n 0, 1) := by decide +kernel
theorem dX7_showsOf_9 : decode cX7_showsOf 9 = .ok (.getfield 7, 3) := by decide +kernel
theorem dX7_showsOf_12 : decode cX7_showsOf 12 = .ok (.iload_n 1, 1) := by decide +kernel
theorem dX7_showsOf_13 : decode cX7_showsOf 13 = .ok (.iaload, 1) := by decide +kernel
theorem dX7_showsOf_14 : decode cX7_showsOf 14 = .ok (.if_icmp .ge 113, 3) := by decide +kernel
theorem dX7_showsOf_17 : decode cX7_showsOf 17 = .ok (.bipush 8, 2) := by decide +kernel
theorem dX7_showsOf_19 : decode cX7_showsOf 19 = .ok (.iload_n 1, 1) := by decide +kernel
theorem dX7_showsOf_20 : decode cX7_showsOf 20 = .ok (.imul, 1) := by decide +kernel
theorem dX7_showsOf_21 : decode cX7_showsOf 21 = .ok (.iload 5, 2) := by decide +kernel
theorem dX7_showsOf_23 : decode cX7_showsOf 23 = .ok (.iadd, 1) := by decide +kernel
theorem dX7_showsOf_24 : decode cX7_showsOf 24 = .ok (.istore 6, 2) := by decide +kernel
theorem dX7_showsOf_26 : decode cX7_showsOf 26 = .ok (.iload_n 2, 1) := by decide +kernel
theorem dX7_showsOf_27 : decode cX7_showsOf 27 = .ok (.iload 4, 2) := by decide +kernel
theorem dX7_showsOf_29 : decode cX7_showsOf 29 = .ok (.aload_n 0, 1) := by decide +kernel
theorem dX7_showsOf_30 : decode cX7_showsOf 30 = .ok (.getfield 19, 3) := by decide +kernel
theorem dX7_showsOf_33 : decode cX7_showsOf 33 = .ok (.iload 6, 2) := by decide +kernel
theorem dX7_showsOf_35 : decode cX7_showsOf 35 = .ok (.iaload, 1) := by decide +kernel
theorem dX7_showsOf_36 : decode cX7_showsOf 36 = .ok (.iadd, 1) := by decide +kernel
theorem dX7_showsOf_37 : decode cX7_showsOf 37 = .ok (.if_icmp .ge 72, 3) := by decide +kernel
theorem dX7_showsOf_40 : decode cX7_showsOf 40 = .ok (.aload_n 0, 1) := by decide +kernel
theorem dX7_showsOf_41 : decode cX7_showsOf 41 = .ok (.iload 6, 2) := by decide +kernel
theorem dX7_showsOf_43 : decode cX7_showsOf 43 = .ok (.iload_n 2, 1) := by decide +kernel
theorem dX7_showsOf_44 : decode cX7_showsOf 44 = .ok (.iload 4, 2) := by decide +kernel
theorem dX7_showsOf_46 : decode cX7_showsOf 46 = .ok (.isub, 1) := by decide +kernel
theorem dX7_showsOf_47 : decode cX7_showsOf 47 = .ok (.invokevirtual 107, 3) := by decide +kernel
theorem dX7_showsOf_50 : decode cX7_showsOf 50 = .ok (.istore 7, 2) := by decide +kernel
theorem dX7_showsOf_52 : decode cX7_showsOf 52 = .ok (.iload_n 3, 1) := by decide +kernel
theorem dX7_showsOf_53 : decode cX7_showsOf 53 = .ok (.ifCond .ne 8, 3) := by decide +kernel
theorem dX7_showsOf_56 : decode cX7_showsOf 56 = .ok (.iload 5, 2) := by decide +kernel
theorem dX7_showsOf_58 : decode cX7_showsOf 58 = .ok (.goto 50, 3) := by decide +kernel
theorem dX7_showsOf_61 : decode cX7_showsOf 61 = .ok (.iload_n 3, 1) := by decide +kernel
theorem dX7_showsOf_62 : decode cX7_showsOf 62 = .ok (.iconst 1, 1) := by decide +kernel
theorem dX7_showsOf_63 : decode cX7_showsOf 63 = .ok (.if_icmp .ne 13, 3) := by decide +kernel
theorem dX7_showsOf_66 : decode cX7_showsOf 66 = .ok (.aload_n 0, 1) := by decide +kernel
theorem dX7_showsOf_67 : decode cX7_showsOf 67 = .ok (.getfield 13, 3) := by decide +kernel
theorem dX7_showsOf_70 : decode cX7_showsOf 70 = .ok (.iload 6, 2) := by decide +kernel
theorem dX7_showsOf_72 : decode cX7_showsOf 72 = .ok (.iaload, 1) := by decide +kernel
theorem dX7_showsOf_73 : decode cX7_showsOf 73 = .ok (.goto 35, 3) := by decide +kernel
theorem dX7_showsOf_76 : decode cX7_showsOf 76 = .ok (.iload_n 3, 1) := by decide +kernel
theorem dX7_showsOf_77 : decode cX7_showsOf 77 = .ok (.iconst 2, 1) := by decide +kernel
theorem dX7_showsOf_78 : decode cX7_showsOf 78 = .ok (.if_icmp .ne 8, 3) := by decide +kernel
theorem dX7_showsOf_81 : decode cX7_showsOf 81 = .ok (.iload 7, 2) := by decide +kernel
theorem dX7_showsOf_83 : decode cX7_showsOf 83 = .ok (.goto 25, 3) := by decide +kernel
theorem dX7_showsOf_86 : decode cX7_showsOf 86 = .ok (.iload 7, 2) := by decide +kernel
theorem dX7_showsOf_88 : decode cX7_showsOf 88 = .ok (.aload_n 0, 1) := by decide +kernel
theorem dX7_showsOf_89 : decode cX7_showsOf 89 = .ok (.getfield 31, 3) := by decide +kernel
theorem dX7_showsOf_92 : decode cX7_showsOf 92 = .ok (.aload_n 0, 1) := by decide +kernel
theorem dX7_showsOf_93 : decode cX7_showsOf 93 = .ok (.getfield 13, 3) := by decide +kernel
theorem dX7_showsOf_96 : decode cX7_showsOf 96 = .ok (.iload 6, 2) := by decide +kernel
theorem dX7_showsOf_98 : decode cX7_showsOf 98 = .ok (.iaload, 1) := by decide +kernel
theorem dX7_showsOf_99 : decode cX7_showsOf 99 = .ok (.iaload, 1) := by decide +kernel
theorem dX7_showsOf_100 : decode cX7_showsOf 100 = .ok (.if_icmp .lt 7, 3) := by decide +kernel
theorem dX7_showsOf_103 : decode cX7_showsOf 103 = .ok (.iconst 1, 1) := by decide +kernel
theorem dX7_showsOf_104 : decode cX7_showsOf 104 = .ok (.goto 4, 3) := by decide +kernel
theorem dX7_showsOf_107 : decode cX7_showsOf 107 = .ok (.iconst 0, 1) := by decide +kernel
theorem dX7_showsOf_108 : decode cX7_showsOf 108 = .ok (.ireturn, 1) := by decide +kernel
theorem dX7_showsOf_109 : decode cX7_showsOf 109 = .ok (.iload 4, 2) := by decide +kernel
theorem dX7_showsOf_111 : decode cX7_showsOf 111 = .ok (.aload_n 0, 1) := by decide +kernel
theorem dX7_showsOf_112 : decode cX7_showsOf 112 = .ok (.getfield 19, 3) := by decide +kernel
theorem dX7_showsOf_115 : decode cX7_showsOf 115 = .ok (.iload 6, 2) := by decide +kernel
theorem dX7_showsOf_117 : decode cX7_showsOf 117 = .ok (.iaload, 1) := by decide +kernel
theorem dX7_showsOf_118 : decode cX7_showsOf 118 = .ok (.iadd, 1) := by decide +kernel
theorem dX7_showsOf_119 : decode cX7_showsOf 119 = .ok (.istore 4, 2) := by decide +kernel
theorem dX7_showsOf_121 : decode cX7_showsOf 121 = .ok (.iinc 5 1, 3) := by decide +kernel
theorem dX7_showsOf_124 : decode cX7_showsOf 124 = .ok (.goto (-118), 3) := by decide +kernel
theorem dX7_showsOf_127 : decode cX7_showsOf 127 = .ok (.iconst (-1), 1) := by decide +kernel
theorem dX7_showsOf_128 : decode cX7_showsOf 128 = .ok (.ireturn, 1) := by decide +kernel
theorem dX7_shows_0 : decode cX7_shows 0 = .ok (.iload_n 1, 1) := by decide +kernel
theorem dX7_shows_1 : decode cX7_shows 1 = .ok (.invokestatic 82, 3) := by decide +kernel
theorem dX7_shows_4 : decode cX7_shows 4 = .ok (.ifCond .eq 33, 3) := by decide +kernel
theorem dX7_shows_7 : decode cX7_shows 7 = .ok (.iload_n 2, 1) := by decide +kernel
theorem dX7_shows_8 : decode cX7_shows 8 = .ok (.iconst 0, 1) := by decide +kernel
theorem dX7_shows_9 : decode cX7_shows 9 = .ok (.sipush 3999, 3) := by decide +kernel
theorem dX7_shows_12 : decode cX7_shows 12 = .ok (.invokestatic 69, 3) := by decide +kernel
theorem dX7_shows_15 : decode cX7_shows 15 = .ok (.ifCond .eq 22, 3) := by decide +kernel
theorem dX7_shows_18 : decode cX7_shows 18 = .ok (.iload_n 3, 1) := by decide +kernel
theorem dX7_shows_19 : decode cX7_shows 19 = .ok (.iconst 0, 1) := by decide +kernel
theorem dX7_shows_20 : decode cX7_shows 20 = .ok (.iconst 3, 1) := by decide +kernel
theorem dX7_shows_21 : decode cX7_shows 21 = .ok (.invokestatic 69, 3) := by decide +kernel
theorem dX7_shows_24 : decode cX7_shows 24 = .ok (.ifCond .eq 13, 3) := by decide +kernel
theorem dX7_shows_27 : decode cX7_shows 27 = .ok (.aload_n 0, 1) := by decide +kernel
theorem dX7_shows_28 : decode cX7_shows 28 = .ok (.iload_n 1, 1) := by decide +kernel
theorem dX7_shows_29 : decode cX7_shows 29 = .ok (.iload_n 2, 1) := by decide +kernel
theorem dX7_shows_30 : decode cX7_shows 30 = .ok (.iload_n 3, 1) := by decide +kernel
theorem dX7_shows_31 : decode cX7_shows 31 = .ok (.invokevirtual 121, 3) := by decide +kernel
theorem dX7_shows_34 : decode cX7_shows 34 = .ok (.goto 5, 3) := by decide +kernel
theorem dX7_shows_37 : decode cX7_shows 37 = .ok (.bipush (-2), 2) := by decide +kernel
theorem dX7_shows_39 : decode cX7_shows 39 = .ok (.ireturn, 1) := by decide +kernel
theorem dX7_seenOf_0 : decode cX7_seenOf 0 = .ok (.iconst 0, 1) := by decide +kernel
theorem dX7_seenOf_1 : decode cX7_seenOf 1 = .ok (.istore 5, 2) := by decide +kernel
theorem dX7_seenOf_3 : decode cX7_seenOf 3 = .ok (.iconst (-1), 1) := by decide +kernel
theorem dX7_seenOf_4 : decode cX7_seenOf 4 = .ok (.istore 6, 2) := by decide +kernel
theorem dX7_seenOf_6 : decode cX7_seenOf 6 = .ok (.iconst 0, 1) := by decide +kernel
theorem dX7_seenOf_7 : decode cX7_seenOf 7 = .ok (.istore 7, 2) := by decide +kernel
theorem dX7_seenOf_9 : decode cX7_seenOf 9 = .ok (.iconst 0, 1) := by decide +kernel
theorem dX7_seenOf_10 : decode cX7_seenOf 10 = .ok (.istore 8, 2) := by decide +kernel
theorem dX7_seenOf_12 : decode cX7_seenOf 12 = .ok (.iload 8, 2) := by decide +kernel
theorem dX7_seenOf_14 : decode cX7_seenOf 14 = .ok (.aload_n 0, 1) := by decide +kernel
theorem dX7_seenOf_15 : decode cX7_seenOf 15 = .ok (.getfield 7, 3) := by decide +kernel
theorem dX7_seenOf_18 : decode cX7_seenOf 18 = .ok (.iload_n 1, 1) := by decide +kernel
theorem dX7_seenOf_19 : decode cX7_seenOf 19 = .ok (.iaload, 1) := by decide +kernel
theorem dX7_seenOf_20 : decode cX7_seenOf 20 = .ok (.if_icmp .ge 107, 3) := by decide +kernel
theorem dX7_seenOf_23 : decode cX7_seenOf 23 = .ok (.bipush 8, 2) := by decide +kernel
theorem dX7_seenOf_25 : decode cX7_seenOf 25 = .ok (.iload_n 1, 1) := by decide +kernel
theorem dX7_seenOf_26 : decode cX7_seenOf 26 = .ok (.imul, 1) := by decide +kernel
theorem dX7_seenOf_27 : decode cX7_seenOf 27 = .ok (.iload 8, 2) := by decide +kernel
theorem dX7_seenOf_29 : decode cX7_seenOf 29 = .ok (.iadd, 1) := by decide +kernel
theorem dX7_seenOf_30 : decode cX7_seenOf 30 = .ok (.istore 9, 2) := by decide +kernel
theorem dX7_seenOf_32 : decode cX7_seenOf 32 = .ok (.iconst 0, 1) := by decide +kernel
theorem dX7_seenOf_33 : decode cX7_seenOf 33 = .ok (.istore 10, 2) := by decide +kernel
theorem dX7_seenOf_35 : decode cX7_seenOf 35 = .ok (.iload 10, 2) := by decide +kernel
theorem dX7_seenOf_37 : decode cX7_seenOf 37 = .ok (.aload_n 0, 1) := by decide +kernel
theorem dX7_seenOf_38 : decode cX7_seenOf 38 = .ok (.getfield 19, 3) := by decide +kernel
theorem dX7_seenOf_41 : decode cX7_seenOf 41 = .ok (.iload 9, 2) := by decide +kernel
theorem dX7_seenOf_43 : decode cX7_seenOf 43 = .ok (.iaload, 1) := by decide +kernel
theorem dX7_seenOf_44 : decode cX7_seenOf 44 = .ok (.if_icmp .ge 77, 3) := by decide +kernel
theorem dX7_seenOf_47 : decode cX7_seenOf 47 = .ok (.aload_n 0, 1) := by decide +kernel
theorem dX7_seenOf_48 : decode cX7_seenOf 48 = .ok (.getfield 13, 3) := by decide +kernel
theorem dX7_seenOf_51 : decode cX7_seenOf 51 = .ok (.iload 9, 2) := by decide +kernel
theorem dX7_seenOf_53 : decode cX7_seenOf 53 = .ok (.iaload, 1) := by decide +kernel
theorem dX7_seenOf_54 : decode cX7_seenOf 54 = .ok (.iload_n 2, 1) := by decide +kernel
theorem dX7_seenOf_55 : decode cX7_seenOf 55 = .ok (.if_icmp .ne 19, 3) := by decide +kernel
theorem dX7_seenOf_58 : decode cX7_seenOf 58 = .ok (.aload_n 0, 1) := by decide +kernel
theorem dX7_seenOf_59 : decode cX7_seenOf 59 = .ok (.iload 9, 2) := by decide +kernel
theorem dX7_seenOf_61 : decode cX7_seenOf 61 = .ok (.iload 10, 2) := by decide +kernel
theorem dX7_seenOf_63 : decode cX7_seenOf 63 = .ok (.invokevirtual 107, 3) := by decide +kernel
theorem dX7_seenOf_66 : decode cX7_seenOf 66 = .ok (.iload_n 3, 1) := by decide +kernel
theorem dX7_seenOf_67 : decode cX7_seenOf 67 = .ok (.if_icmp .ne 7, 3) := by decide +kernel
theorem dX7_seenOf_70 : decode cX7_seenOf 70 = .ok (.iconst 1, 1) := by decide +kernel
theorem dX7_seenOf_71 : decode cX7_seenOf 71 = .ok (.goto 4, 3) := by decide +kernel
theorem dX7_seenOf_74 : decode cX7_seenOf 74 = .ok (.iconst 0, 1) := by decide +kernel
theorem dX7_seenOf_75 : decode cX7_seenOf 75 = .ok (.istore 11, 2) := by decide +kernel
theorem dX7_seenOf_77 : decode cX7_seenOf 77 = .ok (.iload 5, 2) := by decide +kernel
theorem dX7_seenOf_79 : decode cX7_seenOf 79 = .ok (.iload 11, 2) := by decide +kernel
theorem dX7_seenOf_81 : decode cX7_seenOf 81 = .ok (.ifCond .eq 7, 3) := by decide +kernel
theorem dX7_seenOf_84 : decode cX7_seenOf 84 = .ok (.iconst 1, 1) := by decide +kernel
theorem dX7_seenOf_85 : decode cX7_seenOf 85 = .ok (.goto 4, 3) := by decide +kernel
theorem dX7_seenOf_88 : decode cX7_seenOf 88 = .ok (.iconst 0, 1) := by decide +kernel
theorem dX7_seenOf_89 : decode cX7_seenOf 89 = .ok (.iadd, 1) := by decide +kernel
theorem dX7_seenOf_90 : decode cX7_seenOf 90 = .ok (.istore 5, 2) := by decide +kernel
theorem dX7_seenOf_92 : decode cX7_seenOf 92 = .ok (.iload 11, 2) := by decide +kernel
theorem dX7_seenOf_94 : decode cX7_seenOf 94 = .ok (.ifCond .eq 14, 3) := by decide +kernel
theorem dX7_seenOf_97 : decode cX7_seenOf 97 = .ok (.iload 6, 2) := by decide +kernel
theorem dX7_seenOf_99 : decode cX7_seenOf 99 = .ok (.iconst (-1), 1) := by decide +kernel
theorem dX7_seenOf_100 : decode cX7_seenOf 100 = .ok (.if_icmp .ne 8, 3) := by decide +kernel
theorem dX7_seenOf_103 : decode cX7_seenOf 103 = .ok (.iload 7, 2) := by decide +kernel
theorem dX7_seenOf_105 : decode cX7_seenOf 105 = .ok (.goto 5, 3) := by decide +kernel
theorem dX7_seenOf_108 : decode cX7_seenOf 108 = .ok (.iload 6, 2) := by decide +kernel
theorem dX7_seenOf_110 : decode cX7_seenOf 110 = .ok (.istore 6, 2) := by decide +kernel
theorem dX7_seenOf_112 : decode cX7_seenOf 112 = .ok (.iinc 7 1, 3) := by decide +kernel
theorem dX7_seenOf_115 : decode cX7_seenOf 115 = .ok (.iinc 10 1, 3) := by decide +kernel
theorem dX7_seenOf_118 : decode cX7_seenOf 118 = .ok (.goto (-83), 3) := by decide +kernel
theorem dX7_seenOf_121 : decode cX7_seenOf 121 = .ok (.iinc 8 1, 3) := by decide +kernel
theorem dX7_seenOf_124 : decode cX7_seenOf 124 = .ok (.goto (-112), 3) := by decide +kernel
theorem dX7_seenOf_127 : decode cX7_seenOf 127 = .ok (.iload 4, 2) := by decide +kernel
theorem dX7_seenOf_129 : decode cX7_seenOf 129 = .ok (.ifCond .ne 8, 3) := by decide +kernel
theorem dX7_seenOf_132 : decode cX7_seenOf 132 = .ok (.iload 5, 2) := by decide +kernel
theorem dX7_seenOf_134 : decode cX7_seenOf 134 = .ok (.goto 5, 3) := by decide +kernel
theorem dX7_seenOf_137 : decode cX7_seenOf 137 = .ok (.iload 6, 2) := by decide +kernel
theorem dX7_seenOf_139 : decode cX7_seenOf 139 = .ok (.ireturn, 1) := by decide +kernel
theorem dX7_seen_0 : decode cX7_seen 0 = .ok (.iload_n 1, 1) := by decide +kernel
theorem dX7_seen_1 : decode cX7_seen 1 = .ok (.invokestatic 82, 3) := by decide +kernel
theorem dX7_seen_4 : decode cX7_seen 4 = .ok (.ifCond .eq 42, 3) := by decide +kernel
theorem dX7_seen_7 : decode cX7_seen 7 = .ok (.iload_n 2, 1) := by decide +kernel
theorem dX7_seen_8 : decode cX7_seen 8 = .ok (.invokestatic 74, 3) := by decide +kernel
theorem dX7_seen_11 : decode cX7_seen 11 = .ok (.ifCond .eq 35, 3) := by decide +kernel
theorem dX7_seen_14 : decode cX7_seen 14 = .ok (.iload_n 3, 1) := by decide +kernel
theorem dX7_seen_15 : decode cX7_seen 15 = .ok (.iconst 0, 1) := by decide +kernel
theorem dX7_seen_16 : decode cX7_seen 16 = .ok (.ldc 124, 2) := by decide +kernel
theorem dX7_seen_18 : decode cX7_seen 18 = .ok (.invokestatic 69, 3) := by decide +kernel
theorem dX7_seen_21 : decode cX7_seen 21 = .ok (.ifCond .eq 25, 3) := by decide +kernel
theorem dX7_seen_24 : decode cX7_seen 24 = .ok (.iload 4, 2) := by decide +kernel
theorem dX7_seen_26 : decode cX7_seen 26 = .ok (.iconst 0, 1) := by decide +kernel
theorem dX7_seen_27 : decode cX7_seen 27 = .ok (.iconst 1, 1) := by decide +kernel
theorem dX7_seen_28 : decode cX7_seen 28 = .ok (.invokestatic 69, 3) := by decide +kernel
theorem dX7_seen_31 : decode cX7_seen 31 = .ok (.ifCond .eq 15, 3) := by decide +kernel
theorem dX7_seen_34 : decode cX7_seen 34 = .ok (.aload_n 0, 1) := by decide +kernel
theorem dX7_seen_35 : decode cX7_seen 35 = .ok (.iload_n 1, 1) := by decide +kernel
theorem dX7_seen_36 : decode cX7_seen 36 = .ok (.iload_n 2, 1) := by decide +kernel
theorem dX7_seen_37 : decode cX7_seen 37 = .ok (.iload_n 3, 1) := by decide +kernel
theorem dX7_seen_38 : decode cX7_seen 38 = .ok (.iload 4, 2) := by decide +kernel
theorem dX7_seen_40 : decode cX7_seen 40 = .ok (.invokevirtual 125, 3) := by decide +kernel
theorem dX7_seen_43 : decode cX7_seen 43 = .ok (.goto 5, 3) := by decide +kernel
theorem dX7_seen_46 : decode cX7_seen 46 = .ok (.bipush (-2), 2) := by decide +kernel
theorem dX7_seen_48 : decode cX7_seen 48 = .ok (.ireturn, 1) := by decide +kernel
theorem dX7_stillOf_0 : decode cX7_stillOf 0 = .ok (.iconst 0, 1) := by decide +kernel
theorem dX7_stillOf_1 : decode cX7_stillOf 1 = .ok (.istore_n 3, 1) := by decide +kernel
theorem dX7_stillOf_2 : decode cX7_stillOf 2 = .ok (.iconst 1, 1) := by decide +kernel
theorem dX7_stillOf_3 : decode cX7_stillOf 3 = .ok (.istore 4, 2) := by decide +kernel
theorem dX7_stillOf_5 : decode cX7_stillOf 5 = .ok (.iload 4, 2) := by decide +kernel
theorem dX7_stillOf_7 : decode cX7_stillOf 7 = .ok (.aload_n 0, 1) := by decide +kernel
theorem dX7_stillOf_8 : decode cX7_stillOf 8 = .ok (.getfield 19, 3) := by decide +kernel
theorem dX7_stillOf_11 : decode cX7_stillOf 11 = .ok (.iload_n 1, 1) := by decide +kernel
theorem dX7_stillOf_12 : decode cX7_stillOf 12 = .ok (.iaload, 1) := by decide +kernel
theorem dX7_stillOf_13 : decode cX7_stillOf 13 = .ok (.if_icmp .ge 36, 3) := by decide +kernel
theorem dX7_stillOf_16 : decode cX7_stillOf 16 = .ok (.iload_n 3, 1) := by decide +kernel
theorem dX7_stillOf_17 : decode cX7_stillOf 17 = .ok (.aload_n 0, 1) := by decide +kernel
theorem dX7_stillOf_18 : decode cX7_stillOf 18 = .ok (.iload_n 1, 1) := by decide +kernel
theorem dX7_stillOf_19 : decode cX7_stillOf 19 = .ok (.iload 4, 2) := by decide +kernel
theorem dX7_stillOf_21 : decode cX7_stillOf 21 = .ok (.invokevirtual 107, 3) := by decide +kernel
theorem dX7_stillOf_24 : decode cX7_stillOf 24 = .ok (.aload_n 0, 1) := by decide +kernel
theorem dX7_stillOf_25 : decode cX7_stillOf 25 = .ok (.iload_n 1, 1) := by decide +kernel
theorem dX7_stillOf_26 : decode cX7_stillOf 26 = .ok (.iload 4, 2) := by decide +kernel
theorem dX7_stillOf_28 : decode cX7_stillOf 28 = .ok (.iconst 1, 1) := by decide +kernel
theorem dX7_stillOf_29 : decode cX7_stillOf 29 = .ok (.isub, 1) := by decide +kernel
theorem dX7_stillOf_30 : decode cX7_stillOf 30 = .ok (.invokevirtual 107, 3) := by decide +kernel
theorem dX7_stillOf_33 : decode cX7_stillOf 33 = .ok (.if_icmp .ne 7, 3) := by decide +kernel
theorem dX7_stillOf_36 : decode cX7_stillOf 36 = .ok (.iconst 1, 1) := by decide +kernel
theorem dX7_stillOf_37 : decode cX7_stillOf 37 = .ok (.goto 4, 3) := by decide +kernel
theorem dX7_stillOf_40 : decode cX7_stillOf 40 = .ok (.iconst 0, 1) := by decide +kernel
theorem dX7_stillOf_41 : decode cX7_stillOf 41 = .ok (.iadd, 1) := by decide +kernel
theorem dX7_stillOf_42 : decode cX7_stillOf 42 = .ok (.istore_n 3, 1) := by decide +kernel
theorem dX7_stillOf_43 : decode cX7_stillOf 43 = .ok (.iinc 4 1, 3) := by decide +kernel
theorem dX7_stillOf_46 : decode cX7_stillOf 46 = .ok (.goto (-41), 3) := by decide +kernel
theorem dX7_stillOf_49 : decode cX7_stillOf 49 = .ok (.iload_n 2, 1) := by decide +kernel
theorem dX7_stillOf_50 : decode cX7_stillOf 50 = .ok (.ifCond .ne 7, 3) := by decide +kernel
theorem dX7_stillOf_53 : decode cX7_stillOf 53 = .ok (.iload_n 3, 1) := by decide +kernel
theorem dX7_stillOf_54 : decode cX7_stillOf 54 = .ok (.goto 26, 3) := by decide +kernel
theorem dX7_stillOf_57 : decode cX7_stillOf 57 = .ok (.aload_n 0, 1) := by decide +kernel
theorem dX7_stillOf_58 : decode cX7_stillOf 58 = .ok (.iload_n 1, 1) := by decide +kernel
theorem dX7_stillOf_59 : decode cX7_stillOf 59 = .ok (.invokevirtual 114, 3) := by decide +kernel
theorem dX7_stillOf_62 : decode cX7_stillOf 62 = .ok (.aload_n 0, 1) := by decide +kernel
theorem dX7_stillOf_63 : decode cX7_stillOf 63 = .ok (.getfield 16, 3) := by decide +kernel
theorem dX7_stillOf_66 : decode cX7_stillOf 66 = .ok (.iload_n 1, 1) := by decide +kernel
theorem dX7_stillOf_67 : decode cX7_stillOf 67 = .ok (.iaload, 1) := by decide +kernel
theorem dX7_stillOf_68 : decode cX7_stillOf 68 = .ok (.isub, 1) := by decide +kernel
theorem dX7_stillOf_69 : decode cX7_stillOf 69 = .ok (.iconst 1, 1) := by decide +kernel
theorem dX7_stillOf_70 : decode cX7_stillOf 70 = .ok (.iadd, 1) := by decide +kernel
theorem dX7_stillOf_71 : decode cX7_stillOf 71 = .ok (.aload_n 0, 1) := by decide +kernel
theorem dX7_stillOf_72 : decode cX7_stillOf 72 = .ok (.getfield 19, 3) := by decide +kernel
theorem dX7_stillOf_75 : decode cX7_stillOf 75 = .ok (.iload_n 1, 1) := by decide +kernel
theorem dX7_stillOf_76 : decode cX7_stillOf 76 = .ok (.iaload, 1) := by decide +kernel
theorem dX7_stillOf_77 : decode cX7_stillOf 77 = .ok (.iload_n 3, 1) := by decide +kernel
theorem dX7_stillOf_78 : decode cX7_stillOf 78 = .ok (.isub, 1) := by decide +kernel
theorem dX7_stillOf_79 : decode cX7_stillOf 79 = .ok (.isub, 1) := by decide +kernel
theorem dX7_stillOf_80 : decode cX7_stillOf 80 = .ok (.ireturn, 1) := by decide +kernel
theorem dX7_still_0 : decode cX7_still 0 = .ok (.aload_n 0, 1) := by decide +kernel
theorem dX7_still_1 : decode cX7_still 1 = .ok (.iload_n 1, 1) := by decide +kernel
theorem dX7_still_2 : decode cX7_still 2 = .ok (.iload_n 2, 1) := by decide +kernel
theorem dX7_still_3 : decode cX7_still 3 = .ok (.invokevirtual 89, 3) := by decide +kernel
theorem dX7_still_6 : decode cX7_still 6 = .ok (.ifCond .eq 26, 3) := by decide +kernel
theorem dX7_still_9 : decode cX7_still 9 = .ok (.iload_n 3, 1) := by decide +kernel
theorem dX7_still_10 : decode cX7_still 10 = .ok (.iconst 0, 1) := by decide +kernel
theorem dX7_still_11 : decode cX7_still 11 = .ok (.iconst 1, 1) := by decide +kernel
theorem dX7_still_12 : decode cX7_still 12 = .ok (.invokestatic 69, 3) := by decide +kernel
theorem dX7_still_15 : decode cX7_still 15 = .ok (.ifCond .eq 17, 3) := by decide +kernel
theorem dX7_still_18 : decode cX7_still 18 = .ok (.aload_n 0, 1) := by decide +kernel
theorem dX7_still_19 : decode cX7_still 19 = .ok (.bipush 8, 2) := by decide +kernel
theorem dX7_still_21 : decode cX7_still 21 = .ok (.iload_n 1, 1) := by decide +kernel
theorem dX7_still_22 : decode cX7_still 22 = .ok (.imul, 1) := by decide +kernel
theorem dX7_still_23 : decode cX7_still 23 = .ok (.iload_n 2, 1) := by decide +kernel
theorem dX7_still_24 : decode cX7_still 24 = .ok (.iadd, 1) := by decide +kernel
theorem dX7_still_25 : decode cX7_still 25 = .ok (.iload_n 3, 1) := by decide +kernel
theorem dX7_still_26 : decode cX7_still 26 = .ok (.invokevirtual 129, 3) := by decide +kernel
theorem dX7_still_29 : decode cX7_still 29 = .ok (.goto 5, 3) := by decide +kernel
theorem dX7_still_32 : decode cX7_still 32 = .ok (.bipush (-2), 2) := by decide +kernel
theorem dX7_still_34 : decode cX7_still 34 = .ok (.ireturn, 1) := by decide +kernel
theorem dX7_aSecond_0 : decode cX7_aSecond 0 = .ok (.aload_n 0, 1) := by decide +kernel
theorem dX7_aSecond_1 : decode cX7_aSecond 1 = .ok (.getfield 28, 3) := by decide +kernel
theorem dX7_aSecond_4 : decode cX7_aSecond 4 = .ok (.iconst 0, 1) := by decide +kernel
theorem dX7_aSecond_5 : decode cX7_aSecond 5 = .ok (.iaload, 1) := by decide +kernel
theorem dX7_aSecond_6 : decode cX7_aSecond 6 = .ok (.iconst 2, 1) := by decide +kernel
theorem dX7_aSecond_7 : decode cX7_aSecond 7 = .ok (.if_icmp .ne 8, 3) := by decide +kernel
theorem dX7_aSecond_10 : decode cX7_aSecond 10 = .ok (.bipush 25, 2) := by decide +kernel
theorem dX7_aSecond_12 : decode cX7_aSecond 12 = .ok (.goto 5, 3) := by decide +kernel
theorem dX7_aSecond_15 : decode cX7_aSecond 15 = .ok (.bipush 30, 2) := by decide +kernel
theorem dX7_aSecond_17 : decode cX7_aSecond 17 = .ok (.ireturn, 1) := by decide +kernel
theorem dX7_numbered_0 : decode cX7_numbered 0 = .ok (.iload_n 1, 1) := by decide +kernel
theorem dX7_numbered_1 : decode cX7_numbered 1 = .ok (.sipush 17982, 3) := by decide +kernel
theorem dX7_numbered_4 : decode cX7_numbered 4 = .ok (.irem, 1) := by decide +kernel
theorem dX7_numbered_5 : decode cX7_numbered 5 = .ok (.istore_n 2, 1) := by decide +kernel
theorem dX7_numbered_6 : decode cX7_numbered 6 = .ok (.bipush 18, 2) := by decide +kernel
theorem dX7_numbered_8 : decode cX7_numbered 8 = .ok (.iload_n 1, 1) := by decide +kernel
theorem dX7_numbered_9 : decode cX7_numbered 9 = .ok (.sipush 17982, 3) := by decide +kernel
theorem dX7_numbered_12 : decode cX7_numbered 12 = .ok (.idiv, 1) := by decide +kernel
theorem dX7_numbered_13 : decode cX7_numbered 13 = .ok (.imul, 1) := by decide +kernel
theorem dX7_numbered_14 : decode cX7_numbered 14 = .ok (.iload_n 2, 1) := by decide +kernel
theorem dX7_numbered_15 : decode cX7_numbered 15 = .ok (.iconst 2, 1) := by decide +kernel
theorem dX7_numbered_16 : decode cX7_numbered 16 = .ok (.if_icmp .ge 7, 3) := by decide +kernel
theorem dX7_numbered_19 : decode cX7_numbered 19 = .ok (.iconst 0, 1) := by decide +kernel
theorem dX7_numbered_20 : decode cX7_numbered 20 = .ok (.goto 12, 3) := by decide +kernel
theorem dX7_numbered_23 : decode cX7_numbered 23 = .ok (.iconst 2, 1) := by decide +kernel
theorem dX7_numbered_24 : decode cX7_numbered 24 = .ok (.iload_n 2, 1) := by decide +kernel
theorem dX7_numbered_25 : decode cX7_numbered 25 = .ok (.iconst 2, 1) := by decide +kernel
theorem dX7_numbered_26 : decode cX7_numbered 26 = .ok (.isub, 1) := by decide +kernel
theorem dX7_numbered_27 : decode cX7_numbered 27 = .ok (.sipush 1798, 3) := by decide +kernel
theorem dX7_numbered_30 : decode cX7_numbered 30 = .ok (.idiv, 1) := by decide +kernel
theorem dX7_numbered_31 : decode cX7_numbered 31 = .ok (.imul, 1) := by decide +kernel
theorem dX7_numbered_32 : decode cX7_numbered 32 = .ok (.iadd, 1) := by decide +kernel
theorem dX7_numbered_33 : decode cX7_numbered 33 = .ok (.istore_n 3, 1) := by decide +kernel
theorem dX7_numbered_34 : decode cX7_numbered 34 = .ok (.aload_n 0, 1) := by decide +kernel
theorem dX7_numbered_35 : decode cX7_numbered 35 = .ok (.getfield 28, 3) := by decide +kernel
theorem dX7_numbered_38 : decode cX7_numbered 38 = .ok (.iconst 0, 1) := by decide +kernel
theorem dX7_numbered_39 : decode cX7_numbered 39 = .ok (.iaload, 1) := by decide +kernel
theorem dX7_numbered_40 : decode cX7_numbered 40 = .ok (.ifCond .ne 9, 3) := by decide +kernel
theorem dX7_numbered_43 : decode cX7_numbered 43 = .ok (.iload_n 1, 1) := by decide +kernel
theorem dX7_numbered_44 : decode cX7_numbered 44 = .ok (.iload_n 3, 1) := by decide +kernel
theorem dX7_numbered_45 : decode cX7_numbered 45 = .ok (.iadd, 1) := by decide +kernel
theorem dX7_numbered_46 : decode cX7_numbered 46 = .ok (.goto 4, 3) := by decide +kernel
theorem dX7_numbered_49 : decode cX7_numbered 49 = .ok (.iload_n 1, 1) := by decide +kernel
theorem dX7_numbered_50 : decode cX7_numbered 50 = .ok (.ireturn, 1) := by decide +kernel
theorem dX7_toldOf_0 : decode cX7_toldOf 0 = .ok (.aload_n 0, 1) := by decide +kernel
theorem dX7_toldOf_1 : decode cX7_toldOf 1 = .ok (.iload_n 1, 1) := by decide +kernel
theorem dX7_toldOf_2 : decode cX7_toldOf 2 = .ok (.invokevirtual 132, 3) := by decide +kernel
theorem dX7_toldOf_5 : decode cX7_toldOf 5 = .ok (.istore_n 3, 1) := by decide +kernel
theorem dX7_toldOf_6 : decode cX7_toldOf 6 = .ok (.aload_n 0, 1) := by decide +kernel
theorem dX7_toldOf_7 : decode cX7_toldOf 7 = .ok (.invokevirtual 135, 3) := by decide +kernel
theorem dX7_toldOf_10 : decode cX7_toldOf 10 = .ok (.istore 4, 2) := by decide +kernel
theorem dX7_toldOf_12 : decode cX7_toldOf 12 = .ok (.iload_n 2, 1) := by decide +kernel
theorem dX7_toldOf_13 : decode cX7_toldOf 13 = .ok (.ifCond .ne 14, 3) := by decide +kernel
theorem dX7_toldOf_16 : decode cX7_toldOf 16 = .ok (.iload_n 3, 1) := by decide +kernel
theorem dX7_toldOf_17 : decode cX7_toldOf 17 = .ok (.iload 4, 2) := by decide +kernel
theorem dX7_toldOf_19 : decode cX7_toldOf 19 = .ok (.idiv, 1) := by decide +kernel
theorem dX7_toldOf_20 : decode cX7_toldOf 20 = .ok (.sipush 3600, 3) := by decide +kernel
theorem dX7_toldOf_23 : decode cX7_toldOf 23 = .ok (.idiv, 1) := by decide +kernel
theorem dX7_toldOf_24 : decode cX7_toldOf 24 = .ok (.goto 40, 3) := by decide +kernel
theorem dX7_toldOf_27 : decode cX7_toldOf 27 = .ok (.iload_n 2, 1) := by decide +kernel
theorem dX7_toldOf_28 : decode cX7_toldOf 28 = .ok (.iconst 1, 1) := by decide +kernel
theorem dX7_toldOf_29 : decode cX7_toldOf 29 = .ok (.if_icmp .ne 16, 3) := by decide +kernel
theorem dX7_toldOf_32 : decode cX7_toldOf 32 = .ok (.iload_n 3, 1) := by decide +kernel
theorem dX7_toldOf_33 : decode cX7_toldOf 33 = .ok (.iload 4, 2) := by decide +kernel
theorem dX7_toldOf_35 : decode cX7_toldOf 35 = .ok (.idiv, 1) := by decide +kernel
theorem dX7_toldOf_36 : decode cX7_toldOf 36 = .ok (.bipush 60, 2) := by decide +kernel
theorem dX7_toldOf_38 : decode cX7_toldOf 38 = .ok (.idiv, 1) := by decide +kernel
theorem dX7_toldOf_39 : decode cX7_toldOf 39 = .ok (.bipush 60, 2) := by decide +kernel
theorem dX7_toldOf_41 : decode cX7_toldOf 41 = .ok (.irem, 1) := by decide +kernel
theorem dX7_toldOf_42 : decode cX7_toldOf 42 = .ok (.goto 22, 3) := by decide +kernel
theorem dX7_toldOf_45 : decode cX7_toldOf 45 = .ok (.iload_n 2, 1) := by decide +kernel
theorem dX7_toldOf_46 : decode cX7_toldOf 46 = .ok (.iconst 2, 1) := by decide +kernel
theorem dX7_toldOf_47 : decode cX7_toldOf 47 = .ok (.if_icmp .ne 13, 3) := by decide +kernel
theorem dX7_toldOf_50 : decode cX7_toldOf 50 = .ok (.iload_n 3, 1) := by decide +kernel
theorem dX7_toldOf_51 : decode cX7_toldOf 51 = .ok (.iload 4, 2) := by decide +kernel
theorem dX7_toldOf_53 : decode cX7_toldOf 53 = .ok (.idiv, 1) := by decide +kernel
theorem dX7_toldOf_54 : decode cX7_toldOf 54 = .ok (.bipush 60, 2) := by decide +kernel
theorem dX7_toldOf_56 : decode cX7_toldOf 56 = .ok (.irem, 1) := by decide +kernel
theorem dX7_toldOf_57 : decode cX7_toldOf 57 = .ok (.goto 7, 3) := by decide +kernel
theorem dX7_toldOf_60 : decode cX7_toldOf 60 = .ok (.iload_n 3, 1) := by decide +kernel
theorem dX7_toldOf_61 : decode cX7_toldOf 61 = .ok (.iload 4, 2) := by decide +kernel
theorem dX7_toldOf_63 : decode cX7_toldOf 63 = .ok (.irem, 1) := by decide +kernel
theorem dX7_toldOf_64 : decode cX7_toldOf 64 = .ok (.ireturn, 1) := by decide +kernel
theorem dX7_told_0 : decode cX7_told 0 = .ok (.iload_n 1, 1) := by decide +kernel
theorem dX7_told_1 : decode cX7_told 1 = .ok (.iconst 0, 1) := by decide +kernel
theorem dX7_told_2 : decode cX7_told 2 = .ok (.ldc 139, 2) := by decide +kernel
theorem dX7_told_4 : decode cX7_told 4 = .ok (.invokestatic 69, 3) := by decide +kernel
theorem dX7_told_7 : decode cX7_told 7 = .ok (.ifCond .eq 21, 3) := by decide +kernel
theorem dX7_told_10 : decode cX7_told 10 = .ok (.iload_n 2, 1) := by decide +kernel
theorem dX7_told_11 : decode cX7_told 11 = .ok (.iconst 0, 1) := by decide +kernel
theorem dX7_told_12 : decode cX7_told 12 = .ok (.iconst 3, 1) := by decide +kernel
theorem dX7_told_13 : decode cX7_told 13 = .ok (.invokestatic 69, 3) := by decide +kernel
theorem dX7_told_16 : decode cX7_told 16 = .ok (.ifCond .eq 12, 3) := by decide +kernel
theorem dX7_told_19 : decode cX7_told 19 = .ok (.aload_n 0, 1) := by decide +kernel
theorem dX7_told_20 : decode cX7_told 20 = .ok (.iload_n 1, 1) := by decide +kernel
theorem dX7_told_21 : decode cX7_told 21 = .ok (.iload_n 2, 1) := by decide +kernel
theorem dX7_told_22 : decode cX7_told 22 = .ok (.invokevirtual 140, 3) := by decide +kernel
theorem dX7_told_25 : decode cX7_told 25 = .ok (.goto 5, 3) := by decide +kernel
theorem dX7_told_28 : decode cX7_told 28 = .ok (.bipush (-2), 2) := by decide +kernel
theorem dX7_told_30 : decode cX7_told 30 = .ok (.ireturn, 1) := by decide +kernel
theorem dX7_numberOf_0 : decode cX7_numberOf 0 = .ok (.bipush 60, 2) := by decide +kernel
theorem dX7_numberOf_2 : decode cX7_numberOf 2 = .ok (.iload_n 1, 1) := by decide +kernel
theorem dX7_numberOf_3 : decode cX7_numberOf 3 = .ok (.imul, 1) := by decide +kernel
theorem dX7_numberOf_4 : decode cX7_numberOf 4 = .ok (.iload_n 2, 1) := by decide +kernel
theorem dX7_numberOf_5 : decode cX7_numberOf 5 = .ok (.iadd, 1) := by decide +kernel
theorem dX7_numberOf_6 : decode cX7_numberOf 6 = .ok (.istore 5, 2) := by decide +kernel
theorem dX7_numberOf_8 : decode cX7_numberOf 8 = .ok (.bipush 60, 2) := by decide +kernel
theorem dX7_numberOf_10 : decode cX7_numberOf 10 = .ok (.iload 5, 2) := by decide +kernel
theorem dX7_numberOf_12 : decode cX7_numberOf 12 = .ok (.imul, 1) := by decide +kernel
theorem dX7_numberOf_13 : decode cX7_numberOf 13 = .ok (.iload_n 3, 1) := by decide +kernel
theorem dX7_numberOf_14 : decode cX7_numberOf 14 = .ok (.iadd, 1) := by decide +kernel
theorem dX7_numberOf_15 : decode cX7_numberOf 15 = .ok (.aload_n 0, 1) := by decide +kernel
theorem dX7_numberOf_16 : decode cX7_numberOf 16 = .ok (.invokevirtual 135, 3) := by decide +kernel
theorem dX7_numberOf_19 : decode cX7_numberOf 19 = .ok (.imul, 1) := by decide +kernel
theorem dX7_numberOf_20 : decode cX7_numberOf 20 = .ok (.iload 4, 2) := by decide +kernel
theorem dX7_numberOf_22 : decode cX7_numberOf 22 = .ok (.iadd, 1) := by decide +kernel
theorem dX7_numberOf_23 : decode cX7_numberOf 23 = .ok (.istore 6, 2) := by decide +kernel
theorem dX7_numberOf_25 : decode cX7_numberOf 25 = .ok (.aload_n 0, 1) := by decide +kernel
theorem dX7_numberOf_26 : decode cX7_numberOf 26 = .ok (.getfield 28, 3) := by decide +kernel
theorem dX7_numberOf_29 : decode cX7_numberOf 29 = .ok (.iconst 0, 1) := by decide +kernel
theorem dX7_numberOf_30 : decode cX7_numberOf 30 = .ok (.iaload, 1) := by decide +kernel
theorem dX7_numberOf_31 : decode cX7_numberOf 31 = .ok (.ifCond .eq 6, 3) := by decide +kernel
theorem dX7_numberOf_34 : decode cX7_numberOf 34 = .ok (.iload 6, 2) := by decide +kernel
theorem dX7_numberOf_36 : decode cX7_numberOf 36 = .ok (.ireturn, 1) := by decide +kernel
theorem dX7_numberOf_37 : decode cX7_numberOf 37 = .ok (.iload_n 2, 1) := by decide +kernel
theorem dX7_numberOf_38 : decode cX7_numberOf 38 = .ok (.bipush 10, 2) := by decide +kernel
theorem dX7_numberOf_40 : decode cX7_numberOf 40 = .ok (.irem, 1) := by decide +kernel
theorem dX7_numberOf_41 : decode cX7_numberOf 41 = .ok (.ifCond .eq 18, 3) := by decide +kernel
theorem dX7_numberOf_44 : decode cX7_numberOf 44 = .ok (.iload_n 3, 1) := by decide +kernel
theorem dX7_numberOf_45 : decode cX7_numberOf 45 = .ok (.ifCond .ne 14, 3) := by decide +kernel
theorem dX7_numberOf_48 : decode cX7_numberOf 48 = .ok (.iload 4, 2) := by decide +kernel
theorem dX7_numberOf_50 : decode cX7_numberOf 50 = .ok (.iconst 2, 1) := by decide +kernel
theorem dX7_numberOf_51 : decode cX7_numberOf 51 = .ok (.if_icmp .ge 8, 3) := by decide +kernel
theorem dX7_numberOf_54 : decode cX7_numberOf 54 = .ok (.bipush (-3), 2) := by decide +kernel
theorem dX7_numberOf_56 : decode cX7_numberOf 56 = .ok (.goto 16, 3) := by decide +kernel
theorem dX7_numberOf_59 : decode cX7_numberOf 59 = .ok (.iload 6, 2) := by decide +kernel
theorem dX7_numberOf_61 : decode cX7_numberOf 61 = .ok (.iconst 2, 1) := by decide +kernel
theorem dX7_numberOf_62 : decode cX7_numberOf 62 = .ok (.iload 5, 2) := by decide +kernel
theorem dX7_numberOf_64 : decode cX7_numberOf 64 = .ok (.iload 5, 2) := by decide +kernel
theorem dX7_numberOf_66 : decode cX7_numberOf 66 = .ok (.bipush 10, 2) := by decide +kernel
theorem dX7_numberOf_68 : decode cX7_numberOf 68 = .ok (.idiv, 1) := by decide +kernel
theorem dX7_numberOf_69 : decode cX7_numberOf 69 = .ok (.isub, 1) := by decide +kernel
theorem dX7_numberOf_70 : decode cX7_numberOf 70 = .ok (.imul, 1) := by decide +kernel
theorem dX7_numberOf_71 : decode cX7_numberOf 71 = .ok (.isub, 1) := by decide +kernel
theorem dX7_numberOf_72 : decode cX7_numberOf 72 = .ok (.ireturn, 1) := by decide +kernel
theorem dX7_number_0 : decode cX7_number 0 = .ok (.iload_n 1, 1) := by decide +kernel
theorem dX7_number_1 : decode cX7_number 1 = .ok (.iconst 0, 1) := by decide +kernel
theorem dX7_number_2 : decode cX7_number 2 = .ok (.bipush 99, 2) := by decide +kernel
theorem dX7_number_4 : decode cX7_number 4 = .ok (.invokestatic 69, 3) := by decide +kernel
theorem dX7_number_7 : decode cX7_number 7 = .ok (.ifCond .eq 50, 3) := by decide +kernel
theorem dX7_number_10 : decode cX7_number 10 = .ok (.iload_n 2, 1) := by decide +kernel
theorem dX7_number_11 : decode cX7_number 11 = .ok (.iconst 0, 1) := by decide +kernel
theorem dX7_number_12 : decode cX7_number 12 = .ok (.bipush 59, 2) := by decide +kernel
theorem dX7_number_14 : decode cX7_number 14 = .ok (.invokestatic 69, 3) := by decide +kernel
theorem dX7_number_17 : decode cX7_number 17 = .ok (.ifCond .eq 40, 3) := by decide +kernel
theorem dX7_number_20 : decode cX7_number 20 = .ok (.iload_n 3, 1) := by decide +kernel
theorem dX7_number_21 : decode cX7_number 21 = .ok (.iconst 0, 1) := by decide +kernel
theorem dX7_number_22 : decode cX7_number 22 = .ok (.bipush 59, 2) := by decide +kernel
theorem dX7_number_24 : decode cX7_number 24 = .ok (.invokestatic 69, 3) := by decide +kernel
theorem dX7_number_27 : decode cX7_number 27 = .ok (.ifCond .eq 30, 3) := by decide +kernel
theorem dX7_number_30 : decode cX7_number 30 = .ok (.iload 4, 2) := by decide +kernel
theorem dX7_number_32 : decode cX7_number 32 = .ok (.iconst 0, 1) := by decide +kernel
theorem dX7_number_33 : decode cX7_number 33 = .ok (.aload_n 0, 1) := by decide +kernel
theorem dX7_number_34 : decode cX7_number 34 = .ok (.invokevirtual 135, 3) := by decide +kernel
theorem dX7_number_37 : decode cX7_number 37 = .ok (.iconst 1, 1) := by decide +kernel
theorem dX7_number_38 : decode cX7_number 38 = .ok (.isub, 1) := by decide +kernel
theorem dX7_number_39 : decode cX7_number 39 = .ok (.invokestatic 69, 3) := by decide +kernel
theorem dX7_number_42 : decode cX7_number 42 = .ok (.ifCond .eq 15, 3) := by decide +kernel
theorem dX7_number_45 : decode cX7_number 45 = .ok (.aload_n 0, 1) := by decide +kernel
theorem dX7_number_46 : decode cX7_number 46 = .ok (.iload_n 1, 1) := by decide +kernel
theorem dX7_number_47 : decode cX7_number 47 = .ok (.iload_n 2, 1) := by decide +kernel
theorem dX7_number_48 : decode cX7_number 48 = .ok (.iload_n 3, 1) := by decide +kernel
theorem dX7_number_49 : decode cX7_number 49 = .ok (.iload 4, 2) := by decide +kernel
theorem dX7_number_51 : decode cX7_number 51 = .ok (.invokevirtual 143, 3) := by decide +kernel
theorem dX7_number_54 : decode cX7_number 54 = .ok (.goto 5, 3) := by decide +kernel
theorem dX7_number_57 : decode cX7_number 57 = .ok (.bipush (-2), 2) := by decide +kernel
theorem dX7_number_59 : decode cX7_number 59 = .ok (.ireturn, 1) := by decide +kernel
theorem dX7_copies_0 : decode cX7_copies 0 = .ok (.aload_n 0, 1) := by decide +kernel
theorem dX7_copies_1 : decode cX7_copies 1 = .ok (.getfield 37, 3) := by decide +kernel
theorem dX7_copies_4 : decode cX7_copies 4 = .ok (.iload_n 2, 1) := by decide +kernel
theorem dX7_copies_5 : decode cX7_copies 5 = .ok (.aload_n 0, 1) := by decide +kernel
theorem dX7_copies_6 : decode cX7_copies 6 = .ok (.getfield 37, 3) := by decide +kernel
theorem dX7_copies_9 : decode cX7_copies 9 = .ok (.iload_n 1, 1) := by decide +kernel
theorem dX7_copies_10 : decode cX7_copies 10 = .ok (.iaload, 1) := by decide +kernel
theorem dX7_copies_11 : decode cX7_copies 11 = .ok (.iastore, 1) := by decide +kernel
theorem dX7_copies_12 : decode cX7_copies 12 = .ok (.aload_n 0, 1) := by decide +kernel
theorem dX7_copies_13 : decode cX7_copies 13 = .ok (.getfield 40, 3) := by decide +kernel
theorem dX7_copies_16 : decode cX7_copies 16 = .ok (.iload_n 2, 1) := by decide +kernel
theorem dX7_copies_17 : decode cX7_copies 17 = .ok (.aload_n 0, 1) := by decide +kernel
theorem dX7_copies_18 : decode cX7_copies 18 = .ok (.getfield 40, 3) := by decide +kernel
theorem dX7_copies_21 : decode cX7_copies 21 = .ok (.iload_n 1, 1) := by decide +kernel
theorem dX7_copies_22 : decode cX7_copies 22 = .ok (.iaload, 1) := by decide +kernel
theorem dX7_copies_23 : decode cX7_copies 23 = .ok (.iastore, 1) := by decide +kernel
theorem dX7_copies_24 : decode cX7_copies 24 = .ok (.aload_n 0, 1) := by decide +kernel
theorem dX7_copies_25 : decode cX7_copies 25 = .ok (.getfield 43, 3) := by decide +kernel
theorem dX7_copies_28 : decode cX7_copies 28 = .ok (.iload_n 2, 1) := by decide +kernel
theorem dX7_copies_29 : decode cX7_copies 29 = .ok (.aload_n 0, 1) := by decide +kernel
theorem dX7_copies_30 : decode cX7_copies 30 = .ok (.getfield 43, 3) := by decide +kernel
theorem dX7_copies_33 : decode cX7_copies 33 = .ok (.iload_n 1, 1) := by decide +kernel
theorem dX7_copies_34 : decode cX7_copies 34 = .ok (.iaload, 1) := by decide +kernel
theorem dX7_copies_35 : decode cX7_copies 35 = .ok (.iastore, 1) := by decide +kernel
theorem dX7_copies_36 : decode cX7_copies 36 = .ok (.aload_n 0, 1) := by decide +kernel
theorem dX7_copies_37 : decode cX7_copies 37 = .ok (.getfield 46, 3) := by decide +kernel
theorem dX7_copies_40 : decode cX7_copies 40 = .ok (.iload_n 2, 1) := by decide +kernel
theorem dX7_copies_41 : decode cX7_copies 41 = .ok (.aload_n 0, 1) := by decide +kernel
theorem dX7_copies_42 : decode cX7_copies 42 = .ok (.getfield 46, 3) := by decide +kernel
theorem dX7_copies_45 : decode cX7_copies 45 = .ok (.iload_n 1, 1) := by decide +kernel
theorem dX7_copies_46 : decode cX7_copies 46 = .ok (.iaload, 1) := by decide +kernel
theorem dX7_copies_47 : decode cX7_copies 47 = .ok (.iastore, 1) := by decide +kernel
theorem dX7_copies_48 : decode cX7_copies 48 = .ok (.return_, 1) := by decide +kernel
theorem dX7_areNear_0 : decode cX7_areNear 0 = .ok (.aload_n 0, 1) := by decide +kernel
theorem dX7_areNear_1 : decode cX7_areNear 1 = .ok (.getfield 37, 3) := by decide +kernel
theorem dX7_areNear_4 : decode cX7_areNear 4 = .ok (.iload_n 1, 1) := by decide +kernel
theorem dX7_areNear_5 : decode cX7_areNear 5 = .ok (.iaload, 1) := by decide +kernel
theorem dX7_areNear_6 : decode cX7_areNear 6 = .ok (.aload_n 0, 1) := by decide +kernel
theorem dX7_areNear_7 : decode cX7_areNear 7 = .ok (.getfield 37, 3) := by decide +kernel
theorem dX7_areNear_10 : decode cX7_areNear 10 = .ok (.iload_n 2, 1) := by decide +kernel
theorem dX7_areNear_11 : decode cX7_areNear 11 = .ok (.iaload, 1) := by decide +kernel
theorem dX7_areNear_12 : decode cX7_areNear 12 = .ok (.if_icmp .ne 55, 3) := by decide +kernel
theorem dX7_areNear_15 : decode cX7_areNear 15 = .ok (.aload_n 0, 1) := by decide +kernel
theorem dX7_areNear_16 : decode cX7_areNear 16 = .ok (.getfield 40, 3) := by decide +kernel
theorem dX7_areNear_19 : decode cX7_areNear 19 = .ok (.iload_n 2, 1) := by decide +kernel
theorem dX7_areNear_20 : decode cX7_areNear 20 = .ok (.iaload, 1) := by decide +kernel
theorem dX7_areNear_21 : decode cX7_areNear 21 = .ok (.aload_n 0, 1) := by decide +kernel
theorem dX7_areNear_22 : decode cX7_areNear 22 = .ok (.getfield 43, 3) := by decide +kernel
theorem dX7_areNear_25 : decode cX7_areNear 25 = .ok (.iload_n 1, 1) := by decide +kernel
theorem dX7_areNear_26 : decode cX7_areNear 26 = .ok (.iaload, 1) := by decide +kernel
theorem dX7_areNear_27 : decode cX7_areNear 27 = .ok (.isub, 1) := by decide +kernel
theorem dX7_areNear_28 : decode cX7_areNear 28 = .ok (.iconst 1, 1) := by decide +kernel
theorem dX7_areNear_29 : decode cX7_areNear 29 = .ok (.isub, 1) := by decide +kernel
theorem dX7_areNear_30 : decode cX7_areNear 30 = .ok (.aload_n 0, 1) := by decide +kernel
theorem dX7_areNear_31 : decode cX7_areNear 31 = .ok (.getfield 28, 3) := by decide +kernel
theorem dX7_areNear_34 : decode cX7_areNear 34 = .ok (.iconst 2, 1) := by decide +kernel
theorem dX7_areNear_35 : decode cX7_areNear 35 = .ok (.iaload, 1) := by decide +kernel
theorem dX7_areNear_36 : decode cX7_areNear 36 = .ok (.if_icmp .gt 31, 3) := by decide +kernel
theorem dX7_areNear_39 : decode cX7_areNear 39 = .ok (.aload_n 0, 1) := by decide +kernel
theorem dX7_areNear_40 : decode cX7_areNear 40 = .ok (.getfield 40, 3) := by decide +kernel
theorem dX7_areNear_43 : decode cX7_areNear 43 = .ok (.iload_n 1, 1) := by decide +kernel
theorem dX7_areNear_44 : decode cX7_areNear 44 = .ok (.iaload, 1) := by decide +kernel
theorem dX7_areNear_45 : decode cX7_areNear 45 = .ok (.aload_n 0, 1) := by decide +kernel
theorem dX7_areNear_46 : decode cX7_areNear 46 = .ok (.getfield 43, 3) := by decide +kernel
theorem dX7_areNear_49 : decode cX7_areNear 49 = .ok (.iload_n 2, 1) := by decide +kernel
theorem dX7_areNear_50 : decode cX7_areNear 50 = .ok (.iaload, 1) := by decide +kernel
theorem dX7_areNear_51 : decode cX7_areNear 51 = .ok (.isub, 1) := by decide +kernel
theorem dX7_areNear_52 : decode cX7_areNear 52 = .ok (.iconst 1, 1) := by decide +kernel
theorem dX7_areNear_53 : decode cX7_areNear 53 = .ok (.isub, 1) := by decide +kernel
theorem dX7_areNear_54 : decode cX7_areNear 54 = .ok (.aload_n 0, 1) := by decide +kernel
theorem dX7_areNear_55 : decode cX7_areNear 55 = .ok (.getfield 28, 3) := by decide +kernel
theorem dX7_areNear_58 : decode cX7_areNear 58 = .ok (.iconst 2, 1) := by decide +kernel
theorem dX7_areNear_59 : decode cX7_areNear 59 = .ok (.iaload, 1) := by decide +kernel
theorem dX7_areNear_60 : decode cX7_areNear 60 = .ok (.if_icmp .gt 7, 3) := by decide +kernel
theorem dX7_areNear_63 : decode cX7_areNear 63 = .ok (.iconst 1, 1) := by decide +kernel
theorem dX7_areNear_64 : decode cX7_areNear 64 = .ok (.goto 4, 3) := by decide +kernel
theorem dX7_areNear_67 : decode cX7_areNear 67 = .ok (.iconst 0, 1) := by decide +kernel
theorem dX7_areNear_68 : decode cX7_areNear 68 = .ok (.ireturn, 1) := by decide +kernel
theorem dX7_joins_0 : decode cX7_joins 0 = .ok (.iconst 0, 1) := by decide +kernel
theorem dX7_joins_1 : decode cX7_joins 1 = .ok (.istore_n 2, 1) := by decide +kernel
theorem dX7_joins_2 : decode cX7_joins 2 = .ok (.iload_n 2, 1) := by decide +kernel
theorem dX7_joins_3 : decode cX7_joins 3 = .ok (.aload_n 0, 1) := by decide +kernel
theorem dX7_joins_4 : decode cX7_joins 4 = .ok (.getfield 34, 3) := by decide +kernel
theorem dX7_joins_7 : decode cX7_joins 7 = .ok (.iload_n 1, 1) := by decide +kernel
theorem dX7_joins_8 : decode cX7_joins 8 = .ok (.iaload, 1) := by decide +kernel
theorem dX7_joins_9 : decode cX7_joins 9 = .ok (.if_icmp .ge 150, 3) := by decide +kernel
theorem dX7_joins_12 : decode cX7_joins 12 = .ok (.iload_n 2, 1) := by decide +kernel
theorem dX7_joins_13 : decode cX7_joins 13 = .ok (.iconst 1, 1) := by decide +kernel
theorem dX7_joins_14 : decode cX7_joins 14 = .ok (.iadd, 1) := by decide +kernel
theorem dX7_joins_15 : decode cX7_joins 15 = .ok (.istore_n 3, 1) := by decide +kernel
theorem dX7_joins_16 : decode cX7_joins 16 = .ok (.iload_n 3, 1) := by decide +kernel
theorem dX7_joins_17 : decode cX7_joins 17 = .ok (.aload_n 0, 1) := by decide +kernel
theorem dX7_joins_18 : decode cX7_joins 18 = .ok (.getfield 34, 3) := by decide +kernel
theorem dX7_joins_21 : decode cX7_joins 21 = .ok (.iload_n 1, 1) := by decide +kernel
theorem dX7_joins_22 : decode cX7_joins 22 = .ok (.iaload, 1) := by decide +kernel
theorem dX7_joins_23 : decode cX7_joins 23 = .ok (.if_icmp .ge 130, 3) := by decide +kernel
theorem dX7_joins_26 : decode cX7_joins 26 = .ok (.bipush 8, 2) := by decide +kernel
theorem dX7_joins_28 : decode cX7_joins 28 = .ok (.iload_n 1, 1) := by decide +kernel
theorem dX7_joins_29 : decode cX7_joins 29 = .ok (.imul, 1) := by decide +kernel
theorem dX7_joins_30 : decode cX7_joins 30 = .ok (.iload_n 2, 1) := by decide +kernel
theorem dX7_joins_31 : decode cX7_joins 31 = .ok (.iadd, 1) := by decide +kernel
theorem dX7_joins_32 : decode cX7_joins 32 = .ok (.istore 4, 2) := by decide +kernel
theorem dX7_joins_34 : decode cX7_joins 34 = .ok (.bipush 8, 2) := by decide +kernel
theorem dX7_joins_36 : decode cX7_joins 36 = .ok (.iload_n 1, 1) := by decide +kernel
theorem dX7_joins_37 : decode cX7_joins 37 = .ok (.imul, 1) := by decide +kernel
theorem dX7_joins_38 : decode cX7_joins 38 = .ok (.iload_n 3, 1) := by decide +kernel
theorem dX7_joins_39 : decode cX7_joins 39 = .ok (.iadd, 1) := by decide +kernel
theorem dX7_joins_40 : decode cX7_joins 40 = .ok (.istore 5, 2) := by decide +kernel
theorem dX7_joins_42 : decode cX7_joins 42 = .ok (.aload_n 0, 1) := by decide +kernel
theorem dX7_joins_43 : decode cX7_joins 43 = .ok (.iload 4, 2) := by decide +kernel
theorem dX7_joins_45 : decode cX7_joins 45 = .ok (.iload 5, 2) := by decide +kernel
theorem dX7_joins_47 : decode cX7_joins 47 = .ok (.invokevirtual 146, 3) := by decide +kernel
theorem dX7_joins_50 : decode cX7_joins 50 = .ok (.ifCond .eq 97, 3) := by decide +kernel
theorem dX7_joins_53 : decode cX7_joins 53 = .ok (.aload_n 0, 1) := by decide +kernel
theorem dX7_joins_54 : decode cX7_joins 54 = .ok (.getfield 40, 3) := by decide +kernel
theorem dX7_joins_57 : decode cX7_joins 57 = .ok (.iload 4, 2) := by decide +kernel
theorem dX7_joins_59 : decode cX7_joins 59 = .ok (.aload_n 0, 1) := by decide +kernel
theorem dX7_joins_60 : decode cX7_joins 60 = .ok (.getfield 40, 3) := by decide +kernel
theorem dX7_joins_63 : decode cX7_joins 63 = .ok (.iload 4, 2) := by decide +kernel
theorem dX7_joins_65 : decode cX7_joins 65 = .ok (.iaload, 1) := by decide +kernel
theorem dX7_joins_66 : decode cX7_joins 66 = .ok (.aload_n 0, 1) := by decide +kernel
theorem dX7_joins_67 : decode cX7_joins 67 = .ok (.getfield 40, 3) := by decide +kernel
theorem dX7_joins_70 : decode cX7_joins 70 = .ok (.iload 5, 2) := by decide +kernel
theorem dX7_joins_72 : decode cX7_joins 72 = .ok (.iaload, 1) := by decide +kernel
theorem dX7_joins_73 : decode cX7_joins 73 = .ok (.invokestatic 149, 3) := by decide +kernel
theorem dX7_joins_76 : decode cX7_joins 76 = .ok (.iastore, 1) := by decide +kernel
theorem dX7_joins_77 : decode cX7_joins 77 = .ok (.aload_n 0, 1) := by decide +kernel
theorem dX7_joins_78 : decode cX7_joins 78 = .ok (.getfield 43, 3) := by decide +kernel
theorem dX7_joins_81 : decode cX7_joins 81 = .ok (.iload 4, 2) := by decide +kernel
theorem dX7_joins_83 : decode cX7_joins 83 = .ok (.aload_n 0, 1) := by decide +kernel
theorem dX7_joins_84 : decode cX7_joins 84 = .ok (.getfield 43, 3) := by decide +kernel
theorem dX7_joins_87 : decode cX7_joins 87 = .ok (.iload 4, 2) := by decide +kernel
theorem dX7_joins_89 : decode cX7_joins 89 = .ok (.iaload, 1) := by decide +kernel
theorem dX7_joins_90 : decode cX7_joins 90 = .ok (.aload_n 0, 1) := by decide +kernel
theorem dX7_joins_91 : decode cX7_joins 91 = .ok (.getfield 43, 3) := by decide +kernel
theorem dX7_joins_94 : decode cX7_joins 94 = .ok (.iload 5, 2) := by decide +kernel
theorem dX7_joins_96 : decode cX7_joins 96 = .ok (.iaload, 1) := by decide +kernel
theorem dX7_joins_97 : decode cX7_joins 97 = .ok (.invokestatic 152, 3) := by decide +kernel
theorem dX7_joins_100 : decode cX7_joins 100 = .ok (.iastore, 1) := by decide +kernel
theorem dX7_joins_101 : decode cX7_joins 101 = .ok (.aload_n 0, 1) := by decide +kernel
theorem dX7_joins_102 : decode cX7_joins 102 = .ok (.getfield 46, 3) := by decide +kernel
theorem dX7_joins_105 : decode cX7_joins 105 = .ok (.iload 4, 2) := by decide +kernel
theorem dX7_joins_107 : decode cX7_joins 107 = .ok (.dup2, 1) := by decide +kernel
theorem dX7_joins_108 : decode cX7_joins 108 = .ok (.iaload, 1) := by decide +kernel
theorem dX7_joins_109 : decode cX7_joins 109 = .ok (.aload_n 0, 1) := by decide +kernel
theorem dX7_joins_110 : decode cX7_joins 110 = .ok (.getfield 46, 3) := by decide +kernel
theorem dX7_joins_113 : decode cX7_joins 113 = .ok (.iload 5, 2) := by decide +kernel
theorem dX7_joins_115 : decode cX7_joins 115 = .ok (.iaload, 1) := by decide +kernel
theorem dX7_joins_116 : decode cX7_joins 116 = .ok (.ior, 1) := by decide +kernel
theorem dX7_joins_117 : decode cX7_joins 117 = .ok (.iastore, 1) := by decide +kernel
theorem dX7_joins_118 : decode cX7_joins 118 = .ok (.aload_n 0, 1) := by decide +kernel
theorem dX7_joins_119 : decode cX7_joins 119 = .ok (.getfield 34, 3) := by decide +kernel
theorem dX7_joins_122 : decode cX7_joins 122 = .ok (.iload_n 1, 1) := by decide +kernel
theorem dX7_joins_123 : decode cX7_joins 123 = .ok (.dup2, 1) := by decide +kernel
theorem dX7_joins_124 : decode cX7_joins 124 = .ok (.iaload, 1) := by decide +kernel
theorem dX7_joins_125 : decode cX7_joins 125 = .ok (.iconst 1, 1) := by decide +kernel
theorem dX7_joins_126 : decode cX7_joins 126 = .ok (.isub, 1) := by decide +kernel
theorem dX7_joins_127 : decode cX7_joins 127 = .ok (.iastore, 1) := by decide +kernel
theorem dX7_joins_128 : decode cX7_joins 128 = .ok (.aload_n 0, 1) := by decide +kernel
theorem dX7_joins_129 : decode cX7_joins 129 = .ok (.bipush 8, 2) := by decide +kernel
theorem dX7_joins_131 : decode cX7_joins 131 = .ok (.iload_n 1, 1) := by decide +kernel
theorem dX7_joins_132 : decode cX7_joins 132 = .ok (.imul, 1) := by decide +kernel
theorem dX7_joins_133 : decode cX7_joins 133 = .ok (.aload_n 0, 1) := by decide +kernel
theorem dX7_joins_134 : decode cX7_joins 134 = .ok (.getfield 34, 3) := by decide +kernel
theorem dX7_joins_137 : decode cX7_joins 137 = .ok (.iload_n 1, 1) := by decide +kernel
theorem dX7_joins_138 : decode cX7_joins 138 = .ok (.iaload, 1) := by decide +kernel
theorem dX7_joins_139 : decode cX7_joins 139 = .ok (.iadd, 1) := by decide +kernel
theorem dX7_joins_140 : decode cX7_joins 140 = .ok (.iload 5, 2) := by decide +kernel
theorem dX7_joins_142 : decode cX7_joins 142 = .ok (.invokevirtual 155, 3) := by decide +kernel
theorem dX7_joins_145 : decode cX7_joins 145 = .ok (.iconst 1, 1) := by decide +kernel
theorem dX7_joins_146 : decode cX7_joins 146 = .ok (.ireturn, 1) := by decide +kernel
theorem dX7_joins_147 : decode cX7_joins 147 = .ok (.iinc 3 1, 3) := by decide +kernel
theorem dX7_joins_150 : decode cX7_joins 150 = .ok (.goto (-134), 3) := by decide +kernel
theorem dX7_joins_153 : decode cX7_joins 153 = .ok (.iinc 2 1, 3) := by decide +kernel
theorem dX7_joins_156 : decode cX7_joins 156 = .ok (.goto (-154), 3) := by decide +kernel
theorem dX7_joins_159 : decode cX7_joins 159 = .ok (.iconst 0, 1) := by decide +kernel
theorem dX7_joins_160 : decode cX7_joins 160 = .ok (.ireturn, 1) := by decide +kernel
theorem dX7_isAhead_0 : decode cX7_isAhead 0 = .ok (.aload_n 0, 1) := by decide +kernel
theorem dX7_isAhead_1 : decode cX7_isAhead 1 = .ok (.getfield 37, 3) := by decide +kernel
theorem dX7_isAhead_4 : decode cX7_isAhead 4 = .ok (.iload_n 1, 1) := by decide +kernel
theorem dX7_isAhead_5 : decode cX7_isAhead 5 = .ok (.iaload, 1) := by decide +kernel
theorem dX7_isAhead_6 : decode cX7_isAhead 6 = .ok (.aload_n 0, 1) := by decide +kernel
theorem dX7_isAhead_7 : decode cX7_isAhead 7 = .ok (.getfield 37, 3) := by decide +kernel
theorem dX7_isAhead_10 : decode cX7_isAhead 10 = .ok (.iload_n 2, 1) := by decide +kernel
theorem dX7_isAhead_11 : decode cX7_isAhead 11 = .ok (.iaload, 1) := by decide +kernel
theorem dX7_isAhead_12 : decode cX7_isAhead 12 = .ok (.if_icmp .eq 26, 3) := by decide +kernel
theorem dX7_isAhead_15 : decode cX7_isAhead 15 = .ok (.aload_n 0, 1) := by decide +kernel
theorem dX7_isAhead_16 : decode cX7_isAhead 16 = .ok (.getfield 37, 3) := by decide +kernel
theorem dX7_isAhead_19 : decode cX7_isAhead 19 = .ok (.iload_n 1, 1) := by decide +kernel
theorem dX7_isAhead_20 : decode cX7_isAhead 20 = .ok (.iaload, 1) := by decide +kernel
theorem dX7_isAhead_21 : decode cX7_isAhead 21 = .ok (.aload_n 0, 1) := by decide +kernel
theorem dX7_isAhead_22 : decode cX7_isAhead 22 = .ok (.getfield 37, 3) := by decide +kernel
theorem dX7_isAhead_25 : decode cX7_isAhead 25 = .ok (.iload_n 2, 1) := by decide +kernel
theorem dX7_isAhead_26 : decode cX7_isAhead 26 = .ok (.iaload, 1) := by decide +kernel
theorem dX7_isAhead_27 : decode cX7_isAhead 27 = .ok (.if_icmp .ge 7, 3) := by decide +kernel
theorem dX7_isAhead_30 : decode cX7_isAhead 30 = .ok (.iconst 1, 1) := by decide +kernel
theorem dX7_isAhead_31 : decode cX7_isAhead 31 = .ok (.goto 27, 3) := by decide +kernel
theorem dX7_isAhead_34 : decode cX7_isAhead 34 = .ok (.iconst 0, 1) := by decide +kernel
theorem dX7_isAhead_35 : decode cX7_isAhead 35 = .ok (.goto 23, 3) := by decide +kernel
theorem dX7_isAhead_38 : decode cX7_isAhead 38 = .ok (.aload_n 0, 1) := by decide +kernel
theorem dX7_isAhead_39 : decode cX7_isAhead 39 = .ok (.getfield 40, 3) := by decide +kernel
theorem dX7_isAhead_42 : decode cX7_isAhead 42 = .ok (.iload_n 1, 1) := by decide +kernel
theorem dX7_isAhead_43 : decode cX7_isAhead 43 = .ok (.iaload, 1) := by decide +kernel
theorem dX7_isAhead_44 : decode cX7_isAhead 44 = .ok (.aload_n 0, 1) := by decide +kernel
theorem dX7_isAhead_45 : decode cX7_isAhead 45 = .ok (.getfield 40, 3) := by decide +kernel
theorem dX7_isAhead_48 : decode cX7_isAhead 48 = .ok (.iload_n 2, 1) := by decide +kernel
theorem dX7_isAhead_49 : decode cX7_isAhead 49 = .ok (.iaload, 1) := by decide +kernel
theorem dX7_isAhead_50 : decode cX7_isAhead 50 = .ok (.if_icmp .ge 7, 3) := by decide +kernel
theorem dX7_isAhead_53 : decode cX7_isAhead 53 = .ok (.iconst 1, 1) := by decide +kernel
theorem dX7_isAhead_54 : decode cX7_isAhead 54 = .ok (.goto 4, 3) := by decide +kernel
theorem dX7_isAhead_57 : decode cX7_isAhead 57 = .ok (.iconst 0, 1) := by decide +kernel
theorem dX7_isAhead_58 : decode cX7_isAhead 58 = .ok (.ireturn, 1) := by decide +kernel
theorem dX7_orders_0 : decode cX7_orders 0 = .ok (.iconst 0, 1) := by decide +kernel
theorem dX7_orders_1 : decode cX7_orders 1 = .ok (.istore_n 2, 1) := by decide +kernel
theorem dX7_orders_2 : decode cX7_orders 2 = .ok (.iload_n 2, 1) := by decide +kernel
theorem dX7_orders_3 : decode cX7_orders 3 = .ok (.aload_n 0, 1) := by decide +kernel
theorem dX7_orders_4 : decode cX7_orders 4 = .ok (.getfield 34, 3) := by decide +kernel
theorem dX7_orders_7 : decode cX7_orders 7 = .ok (.iload_n 1, 1) := by decide +kernel
theorem dX7_orders_8 : decode cX7_orders 8 = .ok (.iaload, 1) := by decide +kernel
theorem dX7_orders_9 : decode cX7_orders 9 = .ok (.if_icmp .ge 136, 3) := by decide +kernel
theorem dX7_orders_12 : decode cX7_orders 12 = .ok (.iload_n 2, 1) := by decide +kernel
theorem dX7_orders_13 : decode cX7_orders 13 = .ok (.iconst 1, 1) := by decide +kernel
theorem dX7_orders_14 : decode cX7_orders 14 = .ok (.iadd, 1) := by decide +kernel
theorem dX7_orders_15 : decode cX7_orders 15 = .ok (.istore_n 3, 1) := by decide +kernel
theorem dX7_orders_16 : decode cX7_orders 16 = .ok (.iload_n 3, 1) := by decide +kernel
theorem dX7_orders_17 : decode cX7_orders 17 = .ok (.aload_n 0, 1) := by decide +kernel
theorem dX7_orders_18 : decode cX7_orders 18 = .ok (.getfield 34, 3) := by decide +kernel
theorem dX7_orders_21 : decode cX7_orders 21 = .ok (.iload_n 1, 1) := by decide +kernel
theorem dX7_orders_22 : decode cX7_orders 22 = .ok (.iaload, 1) := by decide +kernel
theorem dX7_orders_23 : decode cX7_orders 23 = .ok (.if_icmp .ge 116, 3) := by decide +kernel
theorem dX7_orders_26 : decode cX7_orders 26 = .ok (.bipush 8, 2) := by decide +kernel
theorem dX7_orders_28 : decode cX7_orders 28 = .ok (.iload_n 1, 1) := by decide +kernel
theorem dX7_orders_29 : decode cX7_orders 29 = .ok (.imul, 1) := by decide +kernel
theorem dX7_orders_30 : decode cX7_orders 30 = .ok (.iload_n 2, 1) := by decide +kernel
theorem dX7_orders_31 : decode cX7_orders 31 = .ok (.iadd, 1) := by decide +kernel
theorem dX7_orders_32 : decode cX7_orders 32 = .ok (.istore 4, 2) := by decide +kernel
theorem dX7_orders_34 : decode cX7_orders 34 = .ok (.bipush 8, 2) := by decide +kernel
theorem dX7_orders_36 : decode cX7_orders 36 = .ok (.iload_n 1, 1) := by decide +kernel
theorem dX7_orders_37 : decode cX7_orders 37 = .ok (.imul, 1) := by decide +kernel
theorem dX7_orders_38 : decode cX7_orders 38 = .ok (.iload_n 3, 1) := by decide +kernel
theorem dX7_orders_39 : decode cX7_orders 39 = .ok (.iadd, 1) := by decide +kernel
theorem dX7_orders_40 : decode cX7_orders 40 = .ok (.istore 5, 2) := by decide +kernel
theorem dX7_orders_42 : decode cX7_orders 42 = .ok (.aload_n 0, 1) := by decide +kernel
theorem dX7_orders_43 : decode cX7_orders 43 = .ok (.iload 5, 2) := by decide +kernel
theorem dX7_orders_45 : decode cX7_orders 45 = .ok (.iload 4, 2) := by decide +kernel
theorem dX7_orders_47 : decode cX7_orders 47 = .ok (.invokevirtual 159, 3) := by decide +kernel
theorem dX7_orders_50 : decode cX7_orders 50 = .ok (.ifCond .eq 83, 3) := by decide +kernel
theorem dX7_orders_53 : decode cX7_orders 53 = .ok (.aload_n 0, 1) := by decide +kernel
theorem dX7_orders_54 : decode cX7_orders 54 = .ok (.getfield 37, 3) := by decide +kernel
theorem dX7_orders_57 : decode cX7_orders 57 = .ok (.iload 4, 2) := by decide +kernel
theorem dX7_orders_59 : decode cX7_orders 59 = .ok (.iaload, 1) := by decide +kernel
theorem dX7_orders_60 : decode cX7_orders 60 = .ok (.istore 6, 2) := by decide +kernel
theorem dX7_orders_62 : decode cX7_orders 62 = .ok (.aload_n 0, 1) := by decide +kernel
theorem dX7_orders_63 : decode cX7_orders 63 = .ok (.getfield 40, 3) := by decide +kernel
theorem dX7_orders_66 : decode cX7_orders 66 = .ok (.iload 4, 2) := by decide +kernel
theorem dX7_orders_68 : decode cX7_orders 68 = .ok (.iaload, 1) := by decide +kernel
theorem dX7_orders_69 : decode cX7_orders 69 = .ok (.istore 7, 2) := by decide +kernel
theorem dX7_orders_71 : decode cX7_orders 71 = .ok (.aload_n 0, 1) := by decide +kernel
theorem dX7_orders_72 : decode cX7_orders 72 = .ok (.getfield 43, 3) := by decide +kernel
theorem dX7_orders_75 : decode cX7_orders 75 = .ok (.iload 4, 2) := by decide +kernel
theorem dX7_orders_77 : decode cX7_orders 77 = .ok (.iaload, 1) := by decide +kernel
theorem dX7_orders_78 : decode cX7_orders 78 = .ok (.istore 8, 2) := by decide +kernel
theorem dX7_orders_80 : decode cX7_orders 80 = .ok (.aload_n 0, 1) := by decide +kernel
theorem dX7_orders_81 : decode cX7_orders 81 = .ok (.getfield 46, 3) := by decide +kernel
theorem dX7_orders_84 : decode cX7_orders 84 = .ok (.iload 4, 2) := by decide +kernel
theorem dX7_orders_86 : decode cX7_orders 86 = .ok (.iaload, 1) := by decide +kernel
theorem dX7_orders_87 : decode cX7_orders 87 = .ok (.istore 9, 2) := by decide +kernel
theorem dX7_orders_89 : decode cX7_orders 89 = .ok (.aload_n 0, 1) := by decide +kernel
theorem dX7_orders_90 : decode cX7_orders 90 = .ok (.iload 5, 2) := by decide +kernel
theorem dX7_orders_92 : decode cX7_orders 92 = .ok (.iload 4, 2) := by decide +kernel
theorem dX7_orders_94 : decode cX7_orders 94 = .ok (.invokevirtual 155, 3) := by decide +kernel
theorem dX7_orders_97 : decode cX7_orders 97 = .ok (.aload_n 0, 1) := by decide +kernel
theorem dX7_orders_98 : decode cX7_orders 98 = .ok (.getfield 37, 3) := by decide +kernel
theorem dX7_orders_101 : decode cX7_orders 101 = .ok (.iload 5, 2) := by decide +kernel
theorem dX7_orders_103 : decode cX7_orders 103 = .ok (.iload 6, 2) := by decide +kernel
theorem dX7_orders_105 : decode cX7_orders 105 = .ok (.iastore, 1) := by decide +kernel
theorem dX7_orders_106 : decode cX7_orders 106 = .ok (.aload_n 0, 1) := by decide +kernel
theorem dX7_orders_107 : decode cX7_orders 107 = .ok (.getfield 40, 3) := by decide +kernel
theorem dX7_orders_110 : decode cX7_orders 110 = .ok (.iload 5, 2) := by decide +kernel
theorem dX7_orders_112 : decode cX7_orders 112 = .ok (.iload 7, 2) := by decide +kernel
theorem dX7_orders_114 : decode cX7_orders 114 = .ok (.iastore, 1) := by decide +kernel
theorem dX7_orders_115 : decode cX7_orders 115 = .ok (.aload_n 0, 1) := by decide +kernel
theorem dX7_orders_116 : decode cX7_orders 116 = .ok (.getfield 43, 3) := by decide +kernel
theorem dX7_orders_119 : decode cX7_orders 119 = .ok (.iload 5, 2) := by decide +kernel
theorem dX7_orders_121 : decode cX7_orders 121 = .ok (.iload 8, 2) := by decide +kernel
theorem dX7_orders_123 : decode cX7_orders 123 = .ok (.iastore, 1) := by decide +kernel
theorem dX7_orders_124 : decode cX7_orders 124 = .ok (.aload_n 0, 1) := by decide +kernel
theorem dX7_orders_125 : decode cX7_orders 125 = .ok (.getfield 46, 3) := by decide +kernel
theorem dX7_orders_128 : decode cX7_orders 128 = .ok (.iload 5, 2) := by decide +kernel
theorem dX7_orders_130 : decode cX7_orders 130 = .ok (.iload 9, 2) := by decide +kernel
theorem dX7_orders_132 : decode cX7_orders 132 = .ok (.iastore, 1) := by decide +kernel
theorem dX7_orders_133 : decode cX7_orders 133 = .ok (.iinc 3 1, 3) := by decide +kernel
theorem dX7_orders_136 : decode cX7_orders 136 = .ok (.goto (-120), 3) := by decide +kernel
theorem dX7_orders_139 : decode cX7_orders 139 = .ok (.iinc 2 1, 3) := by decide +kernel
theorem dX7_orders_142 : decode cX7_orders 142 = .ok (.goto (-140), 3) := by decide +kernel
theorem dX7_orders_145 : decode cX7_orders 145 = .ok (.return_, 1) := by decide +kernel
theorem dX7_pullsOf_0 : decode cX7_pullsOf 0 = .ok (.aload_n 0, 1) := by decide +kernel
theorem dX7_pullsOf_1 : decode cX7_pullsOf 1 = .ok (.getfield 34, 3) := by decide +kernel
theorem dX7_pullsOf_4 : decode cX7_pullsOf 4 = .ok (.iload_n 1, 1) := by decide +kernel
theorem dX7_pullsOf_5 : decode cX7_pullsOf 5 = .ok (.iconst 0, 1) := by decide +kernel
theorem dX7_pullsOf_6 : decode cX7_pullsOf 6 = .ok (.iastore, 1) := by decide +kernel
theorem dX7_pullsOf_7 : decode cX7_pullsOf 7 = .ok (.iconst 0, 1) := by decide +kernel
theorem dX7_pullsOf_8 : decode cX7_pullsOf 8 = .ok (.istore_n 3, 1) := by decide +kernel
theorem dX7_pullsOf_9 : decode cX7_pullsOf 9 = .ok (.iload_n 3, 1) := by decide +kernel
theorem dX7_pullsOf_10 : decode cX7_pullsOf 10 = .ok (.aload_n 0, 1) := by decide +kernel
theorem dX7_pullsOf_11 : decode cX7_pullsOf 11 = .ok (.getfield 7, 3) := by decide +kernel
theorem dX7_pullsOf_14 : decode cX7_pullsOf 14 = .ok (.iload_n 1, 1) := by decide +kernel
theorem dX7_pullsOf_15 : decode cX7_pullsOf 15 = .ok (.iaload, 1) := by decide +kernel
theorem dX7_pullsOf_16 : decode cX7_pullsOf 16 = .ok (.if_icmp .ge 114, 3) := by decide +kernel
theorem dX7_pullsOf_19 : decode cX7_pullsOf 19 = .ok (.bipush 8, 2) := by decide +kernel
theorem dX7_pullsOf_21 : decode cX7_pullsOf 21 = .ok (.iload_n 1, 1) := by decide +kernel
theorem dX7_pullsOf_22 : decode cX7_pullsOf 22 = .ok (.imul, 1) := by decide +kernel
theorem dX7_pullsOf_23 : decode cX7_pullsOf 23 = .ok (.iload_n 3, 1) := by decide +kernel
theorem dX7_pullsOf_24 : decode cX7_pullsOf 24 = .ok (.iadd, 1) := by decide +kernel
theorem dX7_pullsOf_25 : decode cX7_pullsOf 25 = .ok (.istore 4, 2) := by decide +kernel
theorem dX7_pullsOf_27 : decode cX7_pullsOf 27 = .ok (.bipush 8, 2) := by decide +kernel
theorem dX7_pullsOf_29 : decode cX7_pullsOf 29 = .ok (.iload_n 1, 1) := by decide +kernel
theorem dX7_pullsOf_30 : decode cX7_pullsOf 30 = .ok (.imul, 1) := by decide +kernel
theorem dX7_pullsOf_31 : decode cX7_pullsOf 31 = .ok (.aload_n 0, 1) := by decide +kernel
theorem dX7_pullsOf_32 : decode cX7_pullsOf 32 = .ok (.getfield 34, 3) := by decide +kernel
theorem dX7_pullsOf_35 : decode cX7_pullsOf 35 = .ok (.iload_n 1, 1) := by decide +kernel
theorem dX7_pullsOf_36 : decode cX7_pullsOf 36 = .ok (.iaload, 1) := by decide +kernel
theorem dX7_pullsOf_37 : decode cX7_pullsOf 37 = .ok (.iadd, 1) := by decide +kernel
theorem dX7_pullsOf_38 : decode cX7_pullsOf 38 = .ok (.istore 5, 2) := by decide +kernel
theorem dX7_pullsOf_40 : decode cX7_pullsOf 40 = .ok (.iload_n 3, 1) := by decide +kernel
theorem dX7_pullsOf_41 : decode cX7_pullsOf 41 = .ok (.iload_n 2, 1) := by decide +kernel
theorem dX7_pullsOf_42 : decode cX7_pullsOf 42 = .ok (.if_icmp .eq 82, 3) := by decide +kernel
theorem dX7_pullsOf_45 : decode cX7_pullsOf 45 = .ok (.aload_n 0, 1) := by decide +kernel
theorem dX7_pullsOf_46 : decode cX7_pullsOf 46 = .ok (.getfield 37, 3) := by decide +kernel
theorem dX7_pullsOf_49 : decode cX7_pullsOf 49 = .ok (.iload 5, 2) := by decide +kernel
theorem dX7_pullsOf_51 : decode cX7_pullsOf 51 = .ok (.aload_n 0, 1) := by decide +kernel
theorem dX7_pullsOf_52 : decode cX7_pullsOf 52 = .ok (.getfield 13, 3) := by decide +kernel
theorem dX7_pullsOf_55 : decode cX7_pullsOf 55 = .ok (.iload 4, 2) := by decide +kernel
theorem dX7_pullsOf_57 : decode cX7_pullsOf 57 = .ok (.iaload, 1) := by decide +kernel
theorem dX7_pullsOf_58 : decode cX7_pullsOf 58 = .ok (.iastore, 1) := by decide +kernel
theorem dX7_pullsOf_59 : decode cX7_pullsOf 59 = .ok (.aload_n 0, 1) := by decide +kernel
theorem dX7_pullsOf_60 : decode cX7_pullsOf 60 = .ok (.getfield 40, 3) := by decide +kernel
theorem dX7_pullsOf_63 : decode cX7_pullsOf 63 = .ok (.iload 5, 2) := by decide +kernel
theorem dX7_pullsOf_65 : decode cX7_pullsOf 65 = .ok (.iconst 0, 1) := by decide +kernel
theorem dX7_pullsOf_66 : decode cX7_pullsOf 66 = .ok (.aload_n 0, 1) := by decide +kernel
theorem dX7_pullsOf_67 : decode cX7_pullsOf 67 = .ok (.getfield 16, 3) := by decide +kernel
theorem dX7_pullsOf_70 : decode cX7_pullsOf 70 = .ok (.iload 4, 2) := by decide +kernel
theorem dX7_pullsOf_72 : decode cX7_pullsOf 72 = .ok (.iaload, 1) := by decide +kernel
theorem dX7_pullsOf_73 : decode cX7_pullsOf 73 = .ok (.aload_n 0, 1) := by decide +kernel
theorem dX7_pullsOf_74 : decode cX7_pullsOf 74 = .ok (.getfield 28, 3) := by decide +kernel
theorem dX7_pullsOf_77 : decode cX7_pullsOf 77 = .ok (.iconst 1, 1) := by decide +kernel
theorem dX7_pullsOf_78 : decode cX7_pullsOf 78 = .ok (.iaload, 1) := by decide +kernel
theorem dX7_pullsOf_79 : decode cX7_pullsOf 79 = .ok (.isub, 1) := by decide +kernel
theorem dX7_pullsOf_80 : decode cX7_pullsOf 80 = .ok (.invokestatic 152, 3) := by decide +kernel
theorem dX7_pullsOf_83 : decode cX7_pullsOf 83 = .ok (.iastore, 1) := by decide +kernel
theorem dX7_pullsOf_84 : decode cX7_pullsOf 84 = .ok (.aload_n 0, 1) := by decide +kernel
theorem dX7_pullsOf_85 : decode cX7_pullsOf 85 = .ok (.getfield 43, 3) := by decide +kernel
theorem dX7_pullsOf_88 : decode cX7_pullsOf 88 = .ok (.iload 5, 2) := by decide +kernel
theorem dX7_pullsOf_90 : decode cX7_pullsOf 90 = .ok (.aload_n 0, 1) := by decide +kernel
theorem dX7_pullsOf_91 : decode cX7_pullsOf 91 = .ok (.iload 4, 2) := by decide +kernel
theorem dX7_pullsOf_93 : decode cX7_pullsOf 93 = .ok (.invokevirtual 114, 3) := by decide +kernel
theorem dX7_pullsOf_96 : decode cX7_pullsOf 96 = .ok (.aload_n 0, 1) := by decide +kernel
theorem dX7_pullsOf_97 : decode cX7_pullsOf 97 = .ok (.getfield 28, 3) := by decide +kernel
theorem dX7_pullsOf_100 : decode cX7_pullsOf 100 = .ok (.iconst 1, 1) := by decide +kernel
theorem dX7_pullsOf_101 : decode cX7_pullsOf 101 = .ok (.iaload, 1) := by decide +kernel
theorem dX7_pullsOf_102 : decode cX7_pullsOf 102 = .ok (.iadd, 1) := by decide +kernel
theorem dX7_pullsOf_103 : decode cX7_pullsOf 103 = .ok (.iastore, 1) := by decide +kernel
theorem dX7_pullsOf_104 : decode cX7_pullsOf 104 = .ok (.aload_n 0, 1) := by decide +kernel
theorem dX7_pullsOf_105 : decode cX7_pullsOf 105 = .ok (.getfield 46, 3) := by decide +kernel
theorem dX7_pullsOf_108 : decode cX7_pullsOf 108 = .ok (.iload 5, 2) := by decide +kernel
theorem dX7_pullsOf_110 : decode cX7_pullsOf 110 = .ok (.iconst 1, 1) := by decide +kernel
theorem dX7_pullsOf_111 : decode cX7_pullsOf 111 = .ok (.iload_n 3, 1) := by decide +kernel
theorem dX7_pullsOf_112 : decode cX7_pullsOf 112 = .ok (.ishl, 1) := by decide +kernel
theorem dX7_pullsOf_113 : decode cX7_pullsOf 113 = .ok (.iastore, 1) := by decide +kernel
theorem dX7_pullsOf_114 : decode cX7_pullsOf 114 = .ok (.aload_n 0, 1) := by decide +kernel
theorem dX7_pullsOf_115 : decode cX7_pullsOf 115 = .ok (.getfield 34, 3) := by decide +kernel
theorem dX7_pullsOf_118 : decode cX7_pullsOf 118 = .ok (.iload_n 1, 1) := by decide +kernel
theorem dX7_pullsOf_119 : decode cX7_pullsOf 119 = .ok (.dup2, 1) := by decide +kernel
theorem dX7_pullsOf_120 : decode cX7_pullsOf 120 = .ok (.iaload, 1) := by decide +kernel
theorem dX7_pullsOf_121 : decode cX7_pullsOf 121 = .ok (.iconst 1, 1) := by decide +kernel
theorem dX7_pullsOf_122 : decode cX7_pullsOf 122 = .ok (.iadd, 1) := by decide +kernel
theorem dX7_pullsOf_123 : decode cX7_pullsOf 123 = .ok (.iastore, 1) := by decide +kernel
theorem dX7_pullsOf_124 : decode cX7_pullsOf 124 = .ok (.iinc 3 1, 3) := by decide +kernel
theorem dX7_pullsOf_127 : decode cX7_pullsOf 127 = .ok (.goto (-118), 3) := by decide +kernel
theorem dX7_pullsOf_130 : decode cX7_pullsOf 130 = .ok (.iconst 1, 1) := by decide +kernel
theorem dX7_pullsOf_131 : decode cX7_pullsOf 131 = .ok (.istore_n 3, 1) := by decide +kernel
theorem dX7_pullsOf_132 : decode cX7_pullsOf 132 = .ok (.iconst 0, 1) := by decide +kernel
theorem dX7_pullsOf_133 : decode cX7_pullsOf 133 = .ok (.istore 4, 2) := by decide +kernel
theorem dX7_pullsOf_135 : decode cX7_pullsOf 135 = .ok (.iload 4, 2) := by decide +kernel
theorem dX7_pullsOf_137 : decode cX7_pullsOf 137 = .ok (.bipush 9, 2) := by decide +kernel
theorem dX7_pullsOf_139 : decode cX7_pullsOf 139 = .ok (.if_icmp .ge 19, 3) := by decide +kernel
theorem dX7_pullsOf_142 : decode cX7_pullsOf 142 = .ok (.iload_n 3, 1) := by decide +kernel
theorem dX7_pullsOf_143 : decode cX7_pullsOf 143 = .ok (.ifCond .eq 15, 3) := by decide +kernel
theorem dX7_pullsOf_146 : decode cX7_pullsOf 146 = .ok (.aload_n 0, 1) := by decide +kernel
theorem dX7_pullsOf_147 : decode cX7_pullsOf 147 = .ok (.iload_n 1, 1) := by decide +kernel
theorem dX7_pullsOf_148 : decode cX7_pullsOf 148 = .ok (.invokevirtual 162, 3) := by decide +kernel
theorem dX7_pullsOf_151 : decode cX7_pullsOf 151 = .ok (.istore_n 3, 1) := by decide +kernel
theorem dX7_pullsOf_152 : decode cX7_pullsOf 152 = .ok (.iinc 4 1, 3) := by decide +kernel
theorem dX7_pullsOf_155 : decode cX7_pullsOf 155 = .ok (.goto (-20), 3) := by decide +kernel
theorem dX7_pullsOf_158 : decode cX7_pullsOf 158 = .ok (.aload_n 0, 1) := by decide +kernel
theorem dX7_pullsOf_159 : decode cX7_pullsOf 159 = .ok (.iload_n 1, 1) := by decide +kernel
theorem dX7_pullsOf_160 : decode cX7_pullsOf 160 = .ok (.invokevirtual 165, 3) := by decide +kernel
theorem dX7_pullsOf_163 : decode cX7_pullsOf 163 = .ok (.return_, 1) := by decide +kernel
theorem dX7_manyPulls_0 : decode cX7_manyPulls 0 = .ok (.aload_n 0, 1) := by decide +kernel
theorem dX7_manyPulls_1 : decode cX7_manyPulls 1 = .ok (.iload_n 1, 1) := by decide +kernel
theorem dX7_manyPulls_2 : decode cX7_manyPulls 2 = .ok (.iconst (-1), 1) := by decide +kernel
theorem dX7_manyPulls_3 : decode cX7_manyPulls 3 = .ok (.invokevirtual 169, 3) := by decide +kernel
theorem dX7_manyPulls_6 : decode cX7_manyPulls 6 = .ok (.aload_n 0, 1) := by decide +kernel
theorem dX7_manyPulls_7 : decode cX7_manyPulls 7 = .ok (.getfield 34, 3) := by decide +kernel
theorem dX7_manyPulls_10 : decode cX7_manyPulls 10 = .ok (.iload_n 1, 1) := by decide +kernel
theorem dX7_manyPulls_11 : decode cX7_manyPulls 11 = .ok (.iaload, 1) := by decide +kernel
theorem dX7_manyPulls_12 : decode cX7_manyPulls 12 = .ok (.ireturn, 1) := by decide +kernel
theorem dX7_pulls_0 : decode cX7_pulls 0 = .ok (.iload_n 1, 1) := by decide +kernel
theorem dX7_pulls_1 : decode cX7_pulls 1 = .ok (.invokestatic 82, 3) := by decide +kernel
theorem dX7_pulls_4 : decode cX7_pulls 4 = .ok (.ifCond .eq 11, 3) := by decide +kernel
theorem dX7_pulls_7 : decode cX7_pulls 7 = .ok (.aload_n 0, 1) := by decide +kernel
theorem dX7_pulls_8 : decode cX7_pulls 8 = .ok (.iload_n 1, 1) := by decide +kernel
theorem dX7_pulls_9 : decode cX7_pulls 9 = .ok (.invokevirtual 172, 3) := by decide +kernel
theorem dX7_pulls_12 : decode cX7_pulls 12 = .ok (.goto 5, 3) := by decide +kernel
theorem dX7_pulls_15 : decode cX7_pulls 15 = .ok (.bipush (-2), 2) := by decide +kernel
theorem dX7_pulls_17 : decode cX7_pulls 17 = .ok (.ireturn, 1) := by decide +kernel
theorem dX7_lacking_0 : decode cX7_lacking 0 = .ok (.iconst 0, 1) := by decide +kernel
theorem dX7_lacking_1 : decode cX7_lacking 1 = .ok (.aload_n 0, 1) := by decide +kernel
theorem dX7_lacking_2 : decode cX7_lacking 2 = .ok (.getfield 43, 3) := by decide +kernel
theorem dX7_lacking_5 : decode cX7_lacking 5 = .ok (.iload_n 1, 1) := by decide +kernel
theorem dX7_lacking_6 : decode cX7_lacking 6 = .ok (.iaload, 1) := by decide +kernel
theorem dX7_lacking_7 : decode cX7_lacking 7 = .ok (.aload_n 0, 1) := by decide +kernel
theorem dX7_lacking_8 : decode cX7_lacking 8 = .ok (.getfield 40, 3) := by decide +kernel
theorem dX7_lacking_11 : decode cX7_lacking 11 = .ok (.iload_n 1, 1) := by decide +kernel
theorem dX7_lacking_12 : decode cX7_lacking 12 = .ok (.iaload, 1) := by decide +kernel
theorem dX7_lacking_13 : decode cX7_lacking 13 = .ok (.aload_n 0, 1) := by decide +kernel
theorem dX7_lacking_14 : decode cX7_lacking 14 = .ok (.getfield 31, 3) := by decide +kernel
theorem dX7_lacking_17 : decode cX7_lacking 17 = .ok (.aload_n 0, 1) := by decide +kernel
theorem dX7_lacking_18 : decode cX7_lacking 18 = .ok (.getfield 37, 3) := by decide +kernel
theorem dX7_lacking_21 : decode cX7_lacking 21 = .ok (.iload_n 1, 1) := by decide +kernel
theorem dX7_lacking_22 : decode cX7_lacking 22 = .ok (.iaload, 1) := by decide +kernel
theorem dX7_lacking_23 : decode cX7_lacking 23 = .ok (.iaload, 1) := by decide +kernel
theorem dX7_lacking_24 : decode cX7_lacking 24 = .ok (.invokestatic 152, 3) := by decide +kernel
theorem dX7_lacking_27 : decode cX7_lacking 27 = .ok (.isub, 1) := by decide +kernel
theorem dX7_lacking_28 : decode cX7_lacking 28 = .ok (.iconst 1, 1) := by decide +kernel
theorem dX7_lacking_29 : decode cX7_lacking 29 = .ok (.iadd, 1) := by decide +kernel
theorem dX7_lacking_30 : decode cX7_lacking 30 = .ok (.invokestatic 152, 3) := by decide +kernel
theorem dX7_lacking_33 : decode cX7_lacking 33 = .ok (.ireturn, 1) := by decide +kernel
theorem dX7_pullFor_0 : decode cX7_pullFor 0 = .ok (.aload_n 0, 1) := by decide +kernel
theorem dX7_pullFor_1 : decode cX7_pullFor 1 = .ok (.iload_n 1, 1) := by decide +kernel
theorem dX7_pullFor_2 : decode cX7_pullFor 2 = .ok (.invokevirtual 172, 3) := by decide +kernel
theorem dX7_pullFor_5 : decode cX7_pullFor 5 = .ok (.istore 4, 2) := by decide +kernel
theorem dX7_pullFor_7 : decode cX7_pullFor 7 = .ok (.bipush 8, 2) := by decide +kernel
theorem dX7_pullFor_9 : decode cX7_pullFor 9 = .ok (.iload_n 1, 1) := by decide +kernel
theorem dX7_pullFor_10 : decode cX7_pullFor 10 = .ok (.imul, 1) := by decide +kernel
theorem dX7_pullFor_11 : decode cX7_pullFor 11 = .ok (.iload_n 2, 1) := by decide +kernel
theorem dX7_pullFor_12 : decode cX7_pullFor 12 = .ok (.iadd, 1) := by decide +kernel
theorem dX7_pullFor_13 : decode cX7_pullFor 13 = .ok (.istore 5, 2) := by decide +kernel
theorem dX7_pullFor_15 : decode cX7_pullFor 15 = .ok (.iload_n 2, 1) := by decide +kernel
theorem dX7_pullFor_16 : decode cX7_pullFor 16 = .ok (.iload 4, 2) := by decide +kernel
theorem dX7_pullFor_18 : decode cX7_pullFor 18 = .ok (.if_icmp .lt 5, 3) := by decide +kernel
theorem dX7_pullFor_21 : decode cX7_pullFor 21 = .ok (.iconst (-1), 1) := by decide +kernel
theorem dX7_pullFor_22 : decode cX7_pullFor 22 = .ok (.ireturn, 1) := by decide +kernel
theorem dX7_pullFor_23 : decode cX7_pullFor 23 = .ok (.iload_n 3, 1) := by decide +kernel
theorem dX7_pullFor_24 : decode cX7_pullFor 24 = .ok (.tableswitch 64 0 3 #[32, 40, 48, 56], 32) := by decide +kernel
theorem dX7_pullFor_56 : decode cX7_pullFor 56 = .ok (.aload_n 0, 1) := by decide +kernel
theorem dX7_pullFor_57 : decode cX7_pullFor 57 = .ok (.getfield 37, 3) := by decide +kernel
theorem dX7_pullFor_60 : decode cX7_pullFor 60 = .ok (.iload 5, 2) := by decide +kernel
theorem dX7_pullFor_62 : decode cX7_pullFor 62 = .ok (.iaload, 1) := by decide +kernel
theorem dX7_pullFor_63 : decode cX7_pullFor 63 = .ok (.ireturn, 1) := by decide +kernel
theorem dX7_pullFor_64 : decode cX7_pullFor 64 = .ok (.aload_n 0, 1) := by decide +kernel
theorem dX7_pullFor_65 : decode cX7_pullFor 65 = .ok (.getfield 40, 3) := by decide +kernel
theorem dX7_pullFor_68 : decode cX7_pullFor 68 = .ok (.iload 5, 2) := by decide +kernel
theorem dX7_pullFor_70 : decode cX7_pullFor 70 = .ok (.iaload, 1) := by decide +kernel
theorem dX7_pullFor_71 : decode cX7_pullFor 71 = .ok (.ireturn, 1) := by decide +kernel
theorem dX7_pullFor_72 : decode cX7_pullFor 72 = .ok (.aload_n 0, 1) := by decide +kernel
theorem dX7_pullFor_73 : decode cX7_pullFor 73 = .ok (.getfield 43, 3) := by decide +kernel
theorem dX7_pullFor_76 : decode cX7_pullFor 76 = .ok (.iload 5, 2) := by decide +kernel
theorem dX7_pullFor_78 : decode cX7_pullFor 78 = .ok (.iaload, 1) := by decide +kernel
theorem dX7_pullFor_79 : decode cX7_pullFor 79 = .ok (.ireturn, 1) := by decide +kernel
theorem dX7_pullFor_80 : decode cX7_pullFor 80 = .ok (.aload_n 0, 1) := by decide +kernel
theorem dX7_pullFor_81 : decode cX7_pullFor 81 = .ok (.getfield 46, 3) := by decide +kernel
theorem dX7_pullFor_84 : decode cX7_pullFor 84 = .ok (.iload 5, 2) := by decide +kernel
theorem dX7_pullFor_86 : decode cX7_pullFor 86 = .ok (.iaload, 1) := by decide +kernel
theorem dX7_pullFor_87 : decode cX7_pullFor 87 = .ok (.ireturn, 1) := by decide +kernel
theorem dX7_pullFor_88 : decode cX7_pullFor 88 = .ok (.aload_n 0, 1) := by decide +kernel
theorem dX7_pullFor_89 : decode cX7_pullFor 89 = .ok (.iload 5, 2) := by decide +kernel
theorem dX7_pullFor_91 : decode cX7_pullFor 91 = .ok (.invokevirtual 175, 3) := by decide +kernel
theorem dX7_pullFor_94 : decode cX7_pullFor 94 = .ok (.ireturn, 1) := by decide +kernel
theorem dX7_pull_0 : decode cX7_pull 0 = .ok (.iload_n 1, 1) := by decide +kernel
theorem dX7_pull_1 : decode cX7_pull 1 = .ok (.invokestatic 82, 3) := by decide +kernel
theorem dX7_pull_4 : decode cX7_pull 4 = .ok (.ifCond .eq 32, 3) := by decide +kernel
theorem dX7_pull_7 : decode cX7_pull 7 = .ok (.iload_n 2, 1) := by decide +kernel
theorem dX7_pull_8 : decode cX7_pull 8 = .ok (.iconst 0, 1) := by decide +kernel
theorem dX7_pull_9 : decode cX7_pull 9 = .ok (.bipush 7, 2) := by decide +kernel
theorem dX7_pull_11 : decode cX7_pull 11 = .ok (.invokestatic 69, 3) := by decide +kernel
theorem dX7_pull_14 : decode cX7_pull 14 = .ok (.ifCond .eq 22, 3) := by decide +kernel
theorem dX7_pull_17 : decode cX7_pull 17 = .ok (.iload_n 3, 1) := by decide +kernel
theorem dX7_pull_18 : decode cX7_pull 18 = .ok (.iconst 0, 1) := by decide +kernel
theorem dX7_pull_19 : decode cX7_pull 19 = .ok (.iconst 4, 1) := by decide +kernel
theorem dX7_pull_20 : decode cX7_pull 20 = .ok (.invokestatic 69, 3) := by decide +kernel
theorem dX7_pull_23 : decode cX7_pull 23 = .ok (.ifCond .eq 13, 3) := by decide +kernel
theorem dX7_pull_26 : decode cX7_pull 26 = .ok (.aload_n 0, 1) := by decide +kernel
theorem dX7_pull_27 : decode cX7_pull 27 = .ok (.iload_n 1, 1) := by decide +kernel
theorem dX7_pull_28 : decode cX7_pull 28 = .ok (.iload_n 2, 1) := by decide +kernel
theorem dX7_pull_29 : decode cX7_pull 29 = .ok (.iload_n 3, 1) := by decide +kernel
theorem dX7_pull_30 : decode cX7_pull 30 = .ok (.invokevirtual 178, 3) := by decide +kernel
theorem dX7_pull_33 : decode cX7_pull 33 = .ok (.goto 5, 3) := by decide +kernel
theorem dX7_pull_36 : decode cX7_pull 36 = .ok (.bipush (-2), 2) := by decide +kernel
theorem dX7_pull_38 : decode cX7_pull 38 = .ok (.ireturn, 1) := by decide +kernel
theorem dX7_framesNow_0 : decode cX7_framesNow 0 = .ok (.iconst 0, 1) := by decide +kernel
theorem dX7_framesNow_1 : decode cX7_framesNow 1 = .ok (.istore_n 2, 1) := by decide +kernel
theorem dX7_framesNow_2 : decode cX7_framesNow 2 = .ok (.iconst 0, 1) := by decide +kernel
theorem dX7_framesNow_3 : decode cX7_framesNow 3 = .ok (.istore_n 3, 1) := by decide +kernel
theorem dX7_framesNow_4 : decode cX7_framesNow 4 = .ok (.iload_n 3, 1) := by decide +kernel
theorem dX7_framesNow_5 : decode cX7_framesNow 5 = .ok (.aload_n 0, 1) := by decide +kernel
theorem dX7_framesNow_6 : decode cX7_framesNow 6 = .ok (.getfield 34, 3) := by decide +kernel
theorem dX7_framesNow_9 : decode cX7_framesNow 9 = .ok (.iload_n 1, 1) := by decide +kernel
theorem dX7_framesNow_10 : decode cX7_framesNow 10 = .ok (.iaload, 1) := by decide +kernel
theorem dX7_framesNow_11 : decode cX7_framesNow 11 = .ok (.if_icmp .ge 37, 3) := by decide +kernel
theorem dX7_framesNow_14 : decode cX7_framesNow 14 = .ok (.iload_n 2, 1) := by decide +kernel
theorem dX7_framesNow_15 : decode cX7_framesNow 15 = .ok (.aload_n 0, 1) := by decide +kernel
theorem dX7_framesNow_16 : decode cX7_framesNow 16 = .ok (.getfield 43, 3) := by decide +kernel
theorem dX7_framesNow_19 : decode cX7_framesNow 19 = .ok (.bipush 8, 2) := by decide +kernel
theorem dX7_framesNow_21 : decode cX7_framesNow 21 = .ok (.iload_n 1, 1) := by decide +kernel
theorem dX7_framesNow_22 : decode cX7_framesNow 22 = .ok (.imul, 1) := by decide +kernel
theorem dX7_framesNow_23 : decode cX7_framesNow 23 = .ok (.iload_n 3, 1) := by decide +kernel
theorem dX7_framesNow_24 : decode cX7_framesNow 24 = .ok (.iadd, 1) := by decide +kernel
theorem dX7_framesNow_25 : decode cX7_framesNow 25 = .ok (.iaload, 1) := by decide +kernel
theorem dX7_framesNow_26 : decode cX7_framesNow 26 = .ok (.aload_n 0, 1) := by decide +kernel
theorem dX7_framesNow_27 : decode cX7_framesNow 27 = .ok (.getfield 40, 3) := by decide +kernel
theorem dX7_framesNow_30 : decode cX7_framesNow 30 = .ok (.bipush 8, 2) := by decide +kernel
theorem dX7_framesNow_32 : decode cX7_framesNow 32 = .ok (.iload_n 1, 1) := by decide +kernel
theorem dX7_framesNow_33 : decode cX7_framesNow 33 = .ok (.imul, 1) := by decide +kernel
theorem dX7_framesNow_34 : decode cX7_framesNow 34 = .ok (.iload_n 3, 1) := by decide +kernel
theorem dX7_framesNow_35 : decode cX7_framesNow 35 = .ok (.iadd, 1) := by decide +kernel
theorem dX7_framesNow_36 : decode cX7_framesNow 36 = .ok (.iaload, 1) := by decide +kernel
theorem dX7_framesNow_37 : decode cX7_framesNow 37 = .ok (.isub, 1) := by decide +kernel
theorem dX7_framesNow_38 : decode cX7_framesNow 38 = .ok (.iconst 1, 1) := by decide +kernel
theorem dX7_framesNow_39 : decode cX7_framesNow 39 = .ok (.iadd, 1) := by decide +kernel
theorem dX7_framesNow_40 : decode cX7_framesNow 40 = .ok (.iadd, 1) := by decide +kernel
theorem dX7_framesNow_41 : decode cX7_framesNow 41 = .ok (.istore_n 2, 1) := by decide +kernel
theorem dX7_framesNow_42 : decode cX7_framesNow 42 = .ok (.iinc 3 1, 3) := by decide +kernel
theorem dX7_framesNow_45 : decode cX7_framesNow 45 = .ok (.goto (-41), 3) := by decide +kernel
theorem dX7_framesNow_48 : decode cX7_framesNow 48 = .ok (.iload_n 2, 1) := by decide +kernel
theorem dX7_framesNow_49 : decode cX7_framesNow 49 = .ok (.ireturn, 1) := by decide +kernel
theorem dX7_isShown_0 : decode cX7_isShown 0 = .ok (.aload_n 0, 1) := by decide +kernel
theorem dX7_isShown_1 : decode cX7_isShown 1 = .ok (.getfield 13, 3) := by decide +kernel
theorem dX7_isShown_4 : decode cX7_isShown 4 = .ok (.iload_n 1, 1) := by decide +kernel
theorem dX7_isShown_5 : decode cX7_isShown 5 = .ok (.iaload, 1) := by decide +kernel
theorem dX7_isShown_6 : decode cX7_isShown 6 = .ok (.iload_n 2, 1) := by decide +kernel
theorem dX7_isShown_7 : decode cX7_isShown 7 = .ok (.if_icmp .ne 22, 3) := by decide +kernel
theorem dX7_isShown_10 : decode cX7_isShown 10 = .ok (.iload_n 3, 1) := by decide +kernel
theorem dX7_isShown_11 : decode cX7_isShown 11 = .ok (.aload_n 0, 1) := by decide +kernel
theorem dX7_isShown_12 : decode cX7_isShown 12 = .ok (.getfield 16, 3) := by decide +kernel
theorem dX7_isShown_15 : decode cX7_isShown 15 = .ok (.iload_n 1, 1) := by decide +kernel
theorem dX7_isShown_16 : decode cX7_isShown 16 = .ok (.iaload, 1) := by decide +kernel
theorem dX7_isShown_17 : decode cX7_isShown 17 = .ok (.if_icmp .lt 12, 3) := by decide +kernel
theorem dX7_isShown_20 : decode cX7_isShown 20 = .ok (.iload_n 3, 1) := by decide +kernel
theorem dX7_isShown_21 : decode cX7_isShown 21 = .ok (.aload_n 0, 1) := by decide +kernel
theorem dX7_isShown_22 : decode cX7_isShown 22 = .ok (.iload_n 1, 1) := by decide +kernel
theorem dX7_isShown_23 : decode cX7_isShown 23 = .ok (.invokevirtual 114, 3) := by decide +kernel
theorem dX7_isShown_26 : decode cX7_isShown 26 = .ok (.if_icmp .le 5, 3) := by decide +kernel
theorem dX7_isShown_29 : decode cX7_isShown 29 = .ok (.iconst 0, 1) := by decide +kernel
theorem dX7_isShown_30 : decode cX7_isShown 30 = .ok (.ireturn, 1) := by decide +kernel
theorem dX7_isShown_31 : decode cX7_isShown 31 = .ok (.iload_n 3, 1) := by decide +kernel
theorem dX7_isShown_32 : decode cX7_isShown 32 = .ok (.aload_n 0, 1) := by decide +kernel
theorem dX7_isShown_33 : decode cX7_isShown 33 = .ok (.getfield 16, 3) := by decide +kernel
theorem dX7_isShown_36 : decode cX7_isShown 36 = .ok (.iload_n 1, 1) := by decide +kernel
theorem dX7_isShown_37 : decode cX7_isShown 37 = .ok (.iaload, 1) := by decide +kernel
theorem dX7_isShown_38 : decode cX7_isShown 38 = .ok (.isub, 1) := by decide +kernel
theorem dX7_isShown_39 : decode cX7_isShown 39 = .ok (.istore 4, 2) := by decide +kernel
theorem dX7_isShown_41 : decode cX7_isShown 41 = .ok (.aload_n 0, 1) := by decide +kernel
theorem dX7_isShown_42 : decode cX7_isShown 42 = .ok (.getfield 22, 3) := by decide +kernel
theorem dX7_isShown_45 : decode cX7_isShown 45 = .ok (.iload_n 1, 1) := by decide +kernel
theorem dX7_isShown_46 : decode cX7_isShown 46 = .ok (.iaload, 1) := by decide +kernel
theorem dX7_isShown_47 : decode cX7_isShown 47 = .ok (.ifCond .ne 7, 3) := by decide +kernel
theorem dX7_isShown_50 : decode cX7_isShown 50 = .ok (.iconst 0, 1) := by decide +kernel
theorem dX7_isShown_51 : decode cX7_isShown 51 = .ok (.goto 28, 3) := by decide +kernel
theorem dX7_isShown_54 : decode cX7_isShown 54 = .ok (.iload 4, 2) := by decide +kernel
theorem dX7_isShown_56 : decode cX7_isShown 56 = .ok (.aload_n 0, 1) := by decide +kernel
theorem dX7_isShown_57 : decode cX7_isShown 57 = .ok (.getfield 25, 3) := by decide +kernel
theorem dX7_isShown_60 : decode cX7_isShown 60 = .ok (.iload_n 1, 1) := by decide +kernel
theorem dX7_isShown_61 : decode cX7_isShown 61 = .ok (.iaload, 1) := by decide +kernel
theorem dX7_isShown_62 : decode cX7_isShown 62 = .ok (.imul, 1) := by decide +kernel
theorem dX7_isShown_63 : decode cX7_isShown 63 = .ok (.aload_n 0, 1) := by decide +kernel
theorem dX7_isShown_64 : decode cX7_isShown 64 = .ok (.getfield 22, 3) := by decide +kernel
theorem dX7_isShown_67 : decode cX7_isShown 67 = .ok (.iload_n 1, 1) := by decide +kernel
theorem dX7_isShown_68 : decode cX7_isShown 68 = .ok (.iaload, 1) := by decide +kernel
theorem dX7_isShown_69 : decode cX7_isShown 69 = .ok (.iadd, 1) := by decide +kernel
theorem dX7_isShown_70 : decode cX7_isShown 70 = .ok (.iconst 1, 1) := by decide +kernel
theorem dX7_isShown_71 : decode cX7_isShown 71 = .ok (.isub, 1) := by decide +kernel
theorem dX7_isShown_72 : decode cX7_isShown 72 = .ok (.aload_n 0, 1) := by decide +kernel
theorem dX7_isShown_73 : decode cX7_isShown 73 = .ok (.getfield 22, 3) := by decide +kernel
theorem dX7_isShown_76 : decode cX7_isShown 76 = .ok (.iload_n 1, 1) := by decide +kernel
theorem dX7_isShown_77 : decode cX7_isShown 77 = .ok (.iaload, 1) := by decide +kernel
theorem dX7_isShown_78 : decode cX7_isShown 78 = .ok (.idiv, 1) := by decide +kernel
theorem dX7_isShown_79 : decode cX7_isShown 79 = .ok (.istore 5, 2) := by decide +kernel
theorem dX7_isShown_81 : decode cX7_isShown 81 = .ok (.iload 5, 2) := by decide +kernel
theorem dX7_isShown_83 : decode cX7_isShown 83 = .ok (.aload_n 0, 1) := by decide +kernel
theorem dX7_isShown_84 : decode cX7_isShown 84 = .ok (.getfield 19, 3) := by decide +kernel
theorem dX7_isShown_87 : decode cX7_isShown 87 = .ok (.iload_n 1, 1) := by decide +kernel
theorem dX7_isShown_88 : decode cX7_isShown 88 = .ok (.iaload, 1) := by decide +kernel
theorem dX7_isShown_89 : decode cX7_isShown 89 = .ok (.if_icmp .ge 18, 3) := by decide +kernel
theorem dX7_isShown_92 : decode cX7_isShown 92 = .ok (.aload_n 0, 1) := by decide +kernel
theorem dX7_isShown_93 : decode cX7_isShown 93 = .ok (.iload_n 1, 1) := by decide +kernel
theorem dX7_isShown_94 : decode cX7_isShown 94 = .ok (.iload 5, 2) := by decide +kernel
theorem dX7_isShown_96 : decode cX7_isShown 96 = .ok (.invokevirtual 107, 3) := by decide +kernel
theorem dX7_isShown_99 : decode cX7_isShown 99 = .ok (.iload_n 3, 1) := by decide +kernel
theorem dX7_isShown_100 : decode cX7_isShown 100 = .ok (.if_icmp .ne 7, 3) := by decide +kernel
theorem dX7_isShown_103 : decode cX7_isShown 103 = .ok (.iconst 1, 1) := by decide +kernel
theorem dX7_isShown_104 : decode cX7_isShown 104 = .ok (.goto 4, 3) := by decide +kernel
theorem dX7_isShown_107 : decode cX7_isShown 107 = .ok (.iconst 0, 1) := by decide +kernel
theorem dX7_isShown_108 : decode cX7_isShown 108 = .ok (.ireturn, 1) := by decide +kernel
theorem dX7_freshOf_0 : decode cX7_freshOf 0 = .ok (.bipush 8, 2) := by decide +kernel
theorem dX7_freshOf_2 : decode cX7_freshOf 2 = .ok (.iload_n 1, 1) := by decide +kernel
theorem dX7_freshOf_3 : decode cX7_freshOf 3 = .ok (.imul, 1) := by decide +kernel
theorem dX7_freshOf_4 : decode cX7_freshOf 4 = .ok (.iload_n 2, 1) := by decide +kernel
theorem dX7_freshOf_5 : decode cX7_freshOf 5 = .ok (.iadd, 1) := by decide +kernel
theorem dX7_freshOf_6 : decode cX7_freshOf 6 = .ok (.istore_n 3, 1) := by decide +kernel
theorem dX7_freshOf_7 : decode cX7_freshOf 7 = .ok (.iconst 0, 1) := by decide +kernel
theorem dX7_freshOf_8 : decode cX7_freshOf 8 = .ok (.istore 4, 2) := by decide +kernel
theorem dX7_freshOf_10 : decode cX7_freshOf 10 = .ok (.iconst 0, 1) := by decide +kernel
theorem dX7_freshOf_11 : decode cX7_freshOf 11 = .ok (.istore 5, 2) := by decide +kernel
theorem dX7_freshOf_13 : decode cX7_freshOf 13 = .ok (.iload 5, 2) := by decide +kernel
theorem dX7_freshOf_15 : decode cX7_freshOf 15 = .ok (.aload_n 0, 1) := by decide +kernel
theorem dX7_freshOf_16 : decode cX7_freshOf 16 = .ok (.getfield 19, 3) := by decide +kernel
theorem dX7_freshOf_19 : decode cX7_freshOf 19 = .ok (.iload_n 3, 1) := by decide +kernel
theorem dX7_freshOf_20 : decode cX7_freshOf 20 = .ok (.iaload, 1) := by decide +kernel
theorem dX7_freshOf_21 : decode cX7_freshOf 21 = .ok (.if_icmp .ge 108, 3) := by decide +kernel
theorem dX7_freshOf_24 : decode cX7_freshOf 24 = .ok (.aload_n 0, 1) := by decide +kernel
theorem dX7_freshOf_25 : decode cX7_freshOf 25 = .ok (.iload_n 3, 1) := by decide +kernel
theorem dX7_freshOf_26 : decode cX7_freshOf 26 = .ok (.iload 5, 2) := by decide +kernel
theorem dX7_freshOf_28 : decode cX7_freshOf 28 = .ok (.invokevirtual 107, 3) := by decide +kernel
theorem dX7_freshOf_31 : decode cX7_freshOf 31 = .ok (.istore 6, 2) := by decide +kernel
theorem dX7_freshOf_33 : decode cX7_freshOf 33 = .ok (.iload 5, 2) := by decide +kernel
theorem dX7_freshOf_35 : decode cX7_freshOf 35 = .ok (.ifCond .eq 17, 3) := by decide +kernel
theorem dX7_freshOf_38 : decode cX7_freshOf 38 = .ok (.iload 6, 2) := by decide +kernel
theorem dX7_freshOf_40 : decode cX7_freshOf 40 = .ok (.aload_n 0, 1) := by decide +kernel
theorem dX7_freshOf_41 : decode cX7_freshOf 41 = .ok (.iload_n 3, 1) := by decide +kernel
theorem dX7_freshOf_42 : decode cX7_freshOf 42 = .ok (.iload 5, 2) := by decide +kernel
theorem dX7_freshOf_44 : decode cX7_freshOf 44 = .ok (.iconst 1, 1) := by decide +kernel
theorem dX7_freshOf_45 : decode cX7_freshOf 45 = .ok (.isub, 1) := by decide +kernel
theorem dX7_freshOf_46 : decode cX7_freshOf 46 = .ok (.invokevirtual 107, 3) := by decide +kernel
theorem dX7_freshOf_49 : decode cX7_freshOf 49 = .ok (.if_icmp .eq 7, 3) := by decide +kernel
theorem dX7_freshOf_52 : decode cX7_freshOf 52 = .ok (.iconst 1, 1) := by decide +kernel
theorem dX7_freshOf_53 : decode cX7_freshOf 53 = .ok (.goto 4, 3) := by decide +kernel
theorem dX7_freshOf_56 : decode cX7_freshOf 56 = .ok (.iconst 0, 1) := by decide +kernel
theorem dX7_freshOf_57 : decode cX7_freshOf 57 = .ok (.istore 7, 2) := by decide +kernel
theorem dX7_freshOf_59 : decode cX7_freshOf 59 = .ok (.iconst 0, 1) := by decide +kernel
theorem dX7_freshOf_60 : decode cX7_freshOf 60 = .ok (.istore 8, 2) := by decide +kernel
theorem dX7_freshOf_62 : decode cX7_freshOf 62 = .ok (.iload 8, 2) := by decide +kernel
theorem dX7_freshOf_64 : decode cX7_freshOf 64 = .ok (.iload_n 2, 1) := by decide +kernel
theorem dX7_freshOf_65 : decode cX7_freshOf 65 = .ok (.if_icmp .ge 43, 3) := by decide +kernel
theorem dX7_freshOf_68 : decode cX7_freshOf 68 = .ok (.iload 7, 2) := by decide +kernel
theorem dX7_freshOf_70 : decode cX7_freshOf 70 = .ok (.ifCond .eq 38, 3) := by decide +kernel
theorem dX7_freshOf_73 : decode cX7_freshOf 73 = .ok (.aload_n 0, 1) := by decide +kernel
theorem dX7_freshOf_74 : decode cX7_freshOf 74 = .ok (.bipush 8, 2) := by decide +kernel
theorem dX7_freshOf_76 : decode cX7_freshOf 76 = .ok (.iload_n 1, 1) := by decide +kernel
theorem dX7_freshOf_77 : decode cX7_freshOf 77 = .ok (.imul, 1) := by decide +kernel
theorem dX7_freshOf_78 : decode cX7_freshOf 78 = .ok (.iload 8, 2) := by decide +kernel
theorem dX7_freshOf_80 : decode cX7_freshOf 80 = .ok (.iadd, 1) := by decide +kernel
theorem dX7_freshOf_81 : decode cX7_freshOf 81 = .ok (.aload_n 0, 1) := by decide +kernel
theorem dX7_freshOf_82 : decode cX7_freshOf 82 = .ok (.getfield 13, 3) := by decide +kernel
theorem dX7_freshOf_85 : decode cX7_freshOf 85 = .ok (.iload_n 3, 1) := by decide +kernel
theorem dX7_freshOf_86 : decode cX7_freshOf 86 = .ok (.iaload, 1) := by decide +kernel
theorem dX7_freshOf_87 : decode cX7_freshOf 87 = .ok (.iload 6, 2) := by decide +kernel
theorem dX7_freshOf_89 : decode cX7_freshOf 89 = .ok (.invokevirtual 181, 3) := by decide +kernel
theorem dX7_freshOf_92 : decode cX7_freshOf 92 = .ok (.ifCond .ne 7, 3) := by decide +kernel
theorem dX7_freshOf_95 : decode cX7_freshOf 95 = .ok (.iconst 1, 1) := by decide +kernel
theorem dX7_freshOf_96 : decode cX7_freshOf 96 = .ok (.goto 4, 3) := by decide +kernel
theorem dX7_freshOf_99 : decode cX7_freshOf 99 = .ok (.iconst 0, 1) := by decide +kernel
theorem dX7_freshOf_100 : decode cX7_freshOf 100 = .ok (.istore 7, 2) := by decide +kernel
theorem dX7_freshOf_102 : decode cX7_freshOf 102 = .ok (.iinc 8 1, 3) := by decide +kernel
theorem dX7_freshOf_105 : decode cX7_freshOf 105 = .ok (.goto (-43), 3) := by decide +kernel
theorem dX7_freshOf_108 : decode cX7_freshOf 108 = .ok (.iload 4, 2) := by decide +kernel
theorem dX7_freshOf_110 : decode cX7_freshOf 110 = .ok (.iload 7, 2) := by decide +kernel
theorem dX7_freshOf_112 : decode cX7_freshOf 112 = .ok (.ifCond .eq 7, 3) := by decide +kernel
theorem dX7_freshOf_115 : decode cX7_freshOf 115 = .ok (.iconst 1, 1) := by decide +kernel
theorem dX7_freshOf_116 : decode cX7_freshOf 116 = .ok (.goto 4, 3) := by decide +kernel
theorem dX7_freshOf_119 : decode cX7_freshOf 119 = .ok (.iconst 0, 1) := by decide +kernel
theorem dX7_freshOf_120 : decode cX7_freshOf 120 = .ok (.iadd, 1) := by decide +kernel
theorem dX7_freshOf_121 : decode cX7_freshOf 121 = .ok (.istore 4, 2) := by decide +kernel
theorem dX7_freshOf_123 : decode cX7_freshOf 123 = .ok (.iinc 5 1, 3) := by decide +kernel
theorem dX7_freshOf_126 : decode cX7_freshOf 126 = .ok (.goto (-113), 3) := by decide +kernel
theorem dX7_freshOf_129 : decode cX7_freshOf 129 = .ok (.iload 4, 2) := by decide +kernel
theorem dX7_freshOf_131 : decode cX7_freshOf 131 = .ok (.ireturn, 1) := by decide +kernel
theorem dX7_wasteOf_0 : decode cX7_wasteOf 0 = .ok (.aload_n 0, 1) := by decide +kernel
theorem dX7_wasteOf_1 : decode cX7_wasteOf 1 = .ok (.iload_n 1, 1) := by decide +kernel
theorem dX7_wasteOf_2 : decode cX7_wasteOf 2 = .ok (.iconst (-1), 1) := by decide +kernel
theorem dX7_wasteOf_3 : decode cX7_wasteOf 3 = .ok (.invokevirtual 169, 3) := by decide +kernel
theorem dX7_wasteOf_6 : decode cX7_wasteOf 6 = .ok (.aload_n 0, 1) := by decide +kernel
theorem dX7_wasteOf_7 : decode cX7_wasteOf 7 = .ok (.iload_n 1, 1) := by decide +kernel
theorem dX7_wasteOf_8 : decode cX7_wasteOf 8 = .ok (.invokevirtual 184, 3) := by decide +kernel
theorem dX7_wasteOf_11 : decode cX7_wasteOf 11 = .ok (.istore_n 2, 1) := by decide +kernel
theorem dX7_wasteOf_12 : decode cX7_wasteOf 12 = .ok (.iconst 0, 1) := by decide +kernel
theorem dX7_wasteOf_13 : decode cX7_wasteOf 13 = .ok (.istore_n 3, 1) := by decide +kernel
theorem dX7_wasteOf_14 : decode cX7_wasteOf 14 = .ok (.iload_n 3, 1) := by decide +kernel
theorem dX7_wasteOf_15 : decode cX7_wasteOf 15 = .ok (.aload_n 0, 1) := by decide +kernel
theorem dX7_wasteOf_16 : decode cX7_wasteOf 16 = .ok (.getfield 7, 3) := by decide +kernel
theorem dX7_wasteOf_19 : decode cX7_wasteOf 19 = .ok (.iload_n 1, 1) := by decide +kernel
theorem dX7_wasteOf_20 : decode cX7_wasteOf 20 = .ok (.iaload, 1) := by decide +kernel
theorem dX7_wasteOf_21 : decode cX7_wasteOf 21 = .ok (.if_icmp .ge 18, 3) := by decide +kernel
theorem dX7_wasteOf_24 : decode cX7_wasteOf 24 = .ok (.iload_n 2, 1) := by decide +kernel
theorem dX7_wasteOf_25 : decode cX7_wasteOf 25 = .ok (.aload_n 0, 1) := by decide +kernel
theorem dX7_wasteOf_26 : decode cX7_wasteOf 26 = .ok (.iload_n 1, 1) := by decide +kernel
theorem dX7_wasteOf_27 : decode cX7_wasteOf 27 = .ok (.iload_n 3, 1) := by decide +kernel
theorem dX7_wasteOf_28 : decode cX7_wasteOf 28 = .ok (.invokevirtual 187, 3) := by decide +kernel
theorem dX7_wasteOf_31 : decode cX7_wasteOf 31 = .ok (.isub, 1) := by decide +kernel
theorem dX7_wasteOf_32 : decode cX7_wasteOf 32 = .ok (.istore_n 2, 1) := by decide +kernel
theorem dX7_wasteOf_33 : decode cX7_wasteOf 33 = .ok (.iinc 3 1, 3) := by decide +kernel
theorem dX7_wasteOf_36 : decode cX7_wasteOf 36 = .ok (.goto (-22), 3) := by decide +kernel
theorem dX7_wasteOf_39 : decode cX7_wasteOf 39 = .ok (.iload_n 2, 1) := by decide +kernel
theorem dX7_wasteOf_40 : decode cX7_wasteOf 40 = .ok (.ireturn, 1) := by decide +kernel
theorem dX7_waste_0 : decode cX7_waste 0 = .ok (.iload_n 1, 1) := by decide +kernel
theorem dX7_waste_1 : decode cX7_waste 1 = .ok (.invokestatic 82, 3) := by decide +kernel
theorem dX7_waste_4 : decode cX7_waste 4 = .ok (.ifCond .eq 11, 3) := by decide +kernel
theorem dX7_waste_7 : decode cX7_waste 7 = .ok (.aload_n 0, 1) := by decide +kernel
theorem dX7_waste_8 : decode cX7_waste 8 = .ok (.iload_n 1, 1) := by decide +kernel
theorem dX7_waste_9 : decode cX7_waste 9 = .ok (.invokevirtual 190, 3) := by decide +kernel
theorem dX7_waste_12 : decode cX7_waste 12 = .ok (.goto 5, 3) := by decide +kernel
theorem dX7_waste_15 : decode cX7_waste 15 = .ok (.bipush (-2), 2) := by decide +kernel
theorem dX7_waste_17 : decode cX7_waste 17 = .ok (.ireturn, 1) := by decide +kernel
theorem dX7_totalOf_0 : decode cX7_totalOf 0 = .ok (.aload_n 0, 1) := by decide +kernel
theorem dX7_totalOf_1 : decode cX7_totalOf 1 = .ok (.iload_n 1, 1) := by decide +kernel
theorem dX7_totalOf_2 : decode cX7_totalOf 2 = .ok (.iconst (-1), 1) := by decide +kernel
theorem dX7_totalOf_3 : decode cX7_totalOf 3 = .ok (.invokevirtual 169, 3) := by decide +kernel
theorem dX7_totalOf_6 : decode cX7_totalOf 6 = .ok (.iconst 0, 1) := by decide +kernel
theorem dX7_totalOf_7 : decode cX7_totalOf 7 = .ok (.istore_n 3, 1) := by decide +kernel
theorem dX7_totalOf_8 : decode cX7_totalOf 8 = .ok (.iconst 0, 1) := by decide +kernel
theorem dX7_totalOf_9 : decode cX7_totalOf 9 = .ok (.istore 4, 2) := by decide +kernel
theorem dX7_totalOf_11 : decode cX7_totalOf 11 = .ok (.iload 4, 2) := by decide +kernel
theorem dX7_totalOf_13 : decode cX7_totalOf 13 = .ok (.aload_n 0, 1) := by decide +kernel
theorem dX7_totalOf_14 : decode cX7_totalOf 14 = .ok (.getfield 34, 3) := by decide +kernel
theorem dX7_totalOf_17 : decode cX7_totalOf 17 = .ok (.iload_n 1, 1) := by decide +kernel
theorem dX7_totalOf_18 : decode cX7_totalOf 18 = .ok (.iaload, 1) := by decide +kernel
theorem dX7_totalOf_19 : decode cX7_totalOf 19 = .ok (.if_icmp .ge 23, 3) := by decide +kernel
theorem dX7_totalOf_22 : decode cX7_totalOf 22 = .ok (.iload_n 3, 1) := by decide +kernel
theorem dX7_totalOf_23 : decode cX7_totalOf 23 = .ok (.aload_n 0, 1) := by decide +kernel
theorem dX7_totalOf_24 : decode cX7_totalOf 24 = .ok (.bipush 8, 2) := by decide +kernel
theorem dX7_totalOf_26 : decode cX7_totalOf 26 = .ok (.iload_n 1, 1) := by decide +kernel
theorem dX7_totalOf_27 : decode cX7_totalOf 27 = .ok (.imul, 1) := by decide +kernel
theorem dX7_totalOf_28 : decode cX7_totalOf 28 = .ok (.iload 4, 2) := by decide +kernel
theorem dX7_totalOf_30 : decode cX7_totalOf 30 = .ok (.iadd, 1) := by decide +kernel
theorem dX7_totalOf_31 : decode cX7_totalOf 31 = .ok (.invokevirtual 175, 3) := by decide +kernel
theorem dX7_totalOf_34 : decode cX7_totalOf 34 = .ok (.iadd, 1) := by decide +kernel
theorem dX7_totalOf_35 : decode cX7_totalOf 35 = .ok (.istore_n 3, 1) := by decide +kernel
theorem dX7_totalOf_36 : decode cX7_totalOf 36 = .ok (.iinc 4 1, 3) := by decide +kernel
theorem dX7_totalOf_39 : decode cX7_totalOf 39 = .ok (.goto (-28), 3) := by decide +kernel
theorem dX7_totalOf_42 : decode cX7_totalOf 42 = .ok (.iload_n 2, 1) := by decide +kernel
theorem dX7_totalOf_43 : decode cX7_totalOf 43 = .ok (.ifCond .ne 11, 3) := by decide +kernel
theorem dX7_totalOf_46 : decode cX7_totalOf 46 = .ok (.aload_n 0, 1) := by decide +kernel
theorem dX7_totalOf_47 : decode cX7_totalOf 47 = .ok (.iload_n 1, 1) := by decide +kernel
theorem dX7_totalOf_48 : decode cX7_totalOf 48 = .ok (.invokevirtual 184, 3) := by decide +kernel
theorem dX7_totalOf_51 : decode cX7_totalOf 51 = .ok (.goto 23, 3) := by decide +kernel
theorem dX7_totalOf_54 : decode cX7_totalOf 54 = .ok (.iload_n 2, 1) := by decide +kernel
theorem dX7_totalOf_55 : decode cX7_totalOf 55 = .ok (.iconst 1, 1) := by decide +kernel
theorem dX7_totalOf_56 : decode cX7_totalOf 56 = .ok (.if_icmp .ne 17, 3) := by decide +kernel
theorem dX7_totalOf_59 : decode cX7_totalOf 59 = .ok (.aload_n 0, 1) := by decide +kernel
theorem dX7_totalOf_60 : decode cX7_totalOf 60 = .ok (.iload_n 1, 1) := by decide +kernel
theorem dX7_totalOf_61 : decode cX7_totalOf 61 = .ok (.aload_n 0, 1) := by decide +kernel
theorem dX7_totalOf_62 : decode cX7_totalOf 62 = .ok (.getfield 7, 3) := by decide +kernel
theorem dX7_totalOf_65 : decode cX7_totalOf 65 = .ok (.iload_n 1, 1) := by decide +kernel
theorem dX7_totalOf_66 : decode cX7_totalOf 66 = .ok (.iaload, 1) := by decide +kernel
theorem dX7_totalOf_67 : decode cX7_totalOf 67 = .ok (.invokevirtual 111, 3) := by decide +kernel
theorem dX7_totalOf_70 : decode cX7_totalOf 70 = .ok (.goto 4, 3) := by decide +kernel
theorem dX7_totalOf_73 : decode cX7_totalOf 73 = .ok (.iload_n 3, 1) := by decide +kernel
theorem dX7_totalOf_74 : decode cX7_totalOf 74 = .ok (.ireturn, 1) := by decide +kernel
theorem dX7_total_0 : decode cX7_total 0 = .ok (.iload_n 1, 1) := by decide +kernel
theorem dX7_total_1 : decode cX7_total 1 = .ok (.invokestatic 82, 3) := by decide +kernel
theorem dX7_total_4 : decode cX7_total 4 = .ok (.ifCond .eq 21, 3) := by decide +kernel
theorem dX7_total_7 : decode cX7_total 7 = .ok (.iload_n 2, 1) := by decide +kernel
theorem dX7_total_8 : decode cX7_total 8 = .ok (.iconst 0, 1) := by decide +kernel
theorem dX7_total_9 : decode cX7_total 9 = .ok (.iconst 2, 1) := by decide +kernel
theorem dX7_total_10 : decode cX7_total 10 = .ok (.invokestatic 69, 3) := by decide +kernel
theorem dX7_total_13 : decode cX7_total 13 = .ok (.ifCond .eq 12, 3) := by decide +kernel
theorem dX7_total_16 : decode cX7_total 16 = .ok (.aload_n 0, 1) := by decide +kernel
theorem dX7_total_17 : decode cX7_total 17 = .ok (.iload_n 1, 1) := by decide +kernel
theorem dX7_total_18 : decode cX7_total 18 = .ok (.iload_n 2, 1) := by decide +kernel
theorem dX7_total_19 : decode cX7_total 19 = .ok (.invokevirtual 193, 3) := by decide +kernel
theorem dX7_total_22 : decode cX7_total 22 = .ok (.goto 5, 3) := by decide +kernel
theorem dX7_total_25 : decode cX7_total 25 = .ok (.bipush (-2), 2) := by decide +kernel
theorem dX7_total_27 : decode cX7_total 27 = .ok (.ireturn, 1) := by decide +kernel
theorem dX7_isLike_0 : decode cX7_isLike 0 = .ok (.aload_n 0, 1) := by decide +kernel
theorem dX7_isLike_1 : decode cX7_isLike 1 = .ok (.getfield 13, 3) := by decide +kernel
theorem dX7_isLike_4 : decode cX7_isLike 4 = .ok (.iload_n 1, 1) := by decide +kernel
theorem dX7_isLike_5 : decode cX7_isLike 5 = .ok (.iaload, 1) := by decide +kernel
theorem dX7_isLike_6 : decode cX7_isLike 6 = .ok (.aload_n 0, 1) := by decide +kernel
theorem dX7_isLike_7 : decode cX7_isLike 7 = .ok (.getfield 13, 3) := by decide +kernel
theorem dX7_isLike_10 : decode cX7_isLike 10 = .ok (.iload_n 2, 1) := by decide +kernel
theorem dX7_isLike_11 : decode cX7_isLike 11 = .ok (.iaload, 1) := by decide +kernel
theorem dX7_isLike_12 : decode cX7_isLike 12 = .ok (.if_icmp .ne 51, 3) := by decide +kernel
theorem dX7_isLike_15 : decode cX7_isLike 15 = .ok (.aload_n 0, 1) := by decide +kernel
theorem dX7_isLike_16 : decode cX7_isLike 16 = .ok (.getfield 16, 3) := by decide +kernel
theorem dX7_isLike_19 : decode cX7_isLike 19 = .ok (.iload_n 1, 1) := by decide +kernel
theorem dX7_isLike_20 : decode cX7_isLike 20 = .ok (.iaload, 1) := by decide +kernel
theorem dX7_isLike_21 : decode cX7_isLike 21 = .ok (.aload_n 0, 1) := by decide +kernel
theorem dX7_isLike_22 : decode cX7_isLike 22 = .ok (.getfield 16, 3) := by decide +kernel
theorem dX7_isLike_25 : decode cX7_isLike 25 = .ok (.iload_n 2, 1) := by decide +kernel
theorem dX7_isLike_26 : decode cX7_isLike 26 = .ok (.iaload, 1) := by decide +kernel
theorem dX7_isLike_27 : decode cX7_isLike 27 = .ok (.if_icmp .ne 36, 3) := by decide +kernel
theorem dX7_isLike_30 : decode cX7_isLike 30 = .ok (.aload_n 0, 1) := by decide +kernel
theorem dX7_isLike_31 : decode cX7_isLike 31 = .ok (.getfield 22, 3) := by decide +kernel
theorem dX7_isLike_34 : decode cX7_isLike 34 = .ok (.iload_n 1, 1) := by decide +kernel
theorem dX7_isLike_35 : decode cX7_isLike 35 = .ok (.iaload, 1) := by decide +kernel
theorem dX7_isLike_36 : decode cX7_isLike 36 = .ok (.aload_n 0, 1) := by decide +kernel
theorem dX7_isLike_37 : decode cX7_isLike 37 = .ok (.getfield 25, 3) := by decide +kernel
theorem dX7_isLike_40 : decode cX7_isLike 40 = .ok (.iload_n 2, 1) := by decide +kernel
theorem dX7_isLike_41 : decode cX7_isLike 41 = .ok (.iaload, 1) := by decide +kernel
theorem dX7_isLike_42 : decode cX7_isLike 42 = .ok (.imul, 1) := by decide +kernel
theorem dX7_isLike_43 : decode cX7_isLike 43 = .ok (.aload_n 0, 1) := by decide +kernel
theorem dX7_isLike_44 : decode cX7_isLike 44 = .ok (.getfield 22, 3) := by decide +kernel
theorem dX7_isLike_47 : decode cX7_isLike 47 = .ok (.iload_n 2, 1) := by decide +kernel
theorem dX7_isLike_48 : decode cX7_isLike 48 = .ok (.iaload, 1) := by decide +kernel
theorem dX7_isLike_49 : decode cX7_isLike 49 = .ok (.aload_n 0, 1) := by decide +kernel
theorem dX7_isLike_50 : decode cX7_isLike 50 = .ok (.getfield 25, 3) := by decide +kernel
theorem dX7_isLike_53 : decode cX7_isLike 53 = .ok (.iload_n 1, 1) := by decide +kernel
theorem dX7_isLike_54 : decode cX7_isLike 54 = .ok (.iaload, 1) := by decide +kernel
theorem dX7_isLike_55 : decode cX7_isLike 55 = .ok (.imul, 1) := by decide +kernel
theorem dX7_isLike_56 : decode cX7_isLike 56 = .ok (.if_icmp .ne 7, 3) := by decide +kernel
theorem dX7_isLike_59 : decode cX7_isLike 59 = .ok (.iconst 1, 1) := by decide +kernel
theorem dX7_isLike_60 : decode cX7_isLike 60 = .ok (.goto 4, 3) := by decide +kernel
theorem dX7_isLike_63 : decode cX7_isLike 63 = .ok (.iconst 0, 1) := by decide +kernel
theorem dX7_isLike_64 : decode cX7_isLike 64 = .ok (.ireturn, 1) := by decide +kernel
theorem dX7_compares_0 : decode cX7_compares 0 = .ok (.aload_n 0, 1) := by decide +kernel
theorem dX7_compares_1 : decode cX7_compares 1 = .ok (.iconst 0, 1) := by decide +kernel
theorem dX7_compares_2 : decode cX7_compares 2 = .ok (.putfield 196, 3) := by decide +kernel
theorem dX7_compares_5 : decode cX7_compares 5 = .ok (.iconst 0, 1) := by decide +kernel
theorem dX7_compares_6 : decode cX7_compares 6 = .ok (.istore_n 1, 1) := by decide +kernel
theorem dX7_compares_7 : decode cX7_compares 7 = .ok (.iload_n 1, 1) := by decide +kernel
theorem dX7_compares_8 : decode cX7_compares 8 = .ok (.bipush 8, 2) := by decide +kernel
theorem dX7_compares_10 : decode cX7_compares 10 = .ok (.if_icmp .ge 16, 3) := by decide +kernel
theorem dX7_compares_13 : decode cX7_compares 13 = .ok (.aload_n 0, 1) := by decide +kernel
theorem dX7_compares_14 : decode cX7_compares 14 = .ok (.getfield 49, 3) := by decide +kernel
theorem dX7_compares_17 : decode cX7_compares 17 = .ok (.iload_n 1, 1) := by decide +kernel
theorem dX7_compares_18 : decode cX7_compares 18 = .ok (.iconst (-1), 1) := by decide +kernel
theorem dX7_compares_19 : decode cX7_compares 19 = .ok (.iastore, 1) := by decide +kernel
theorem dX7_compares_20 : decode cX7_compares 20 = .ok (.iinc 1 1, 3) := by decide +kernel
theorem dX7_compares_23 : decode cX7_compares 23 = .ok (.goto (-16), 3) := by decide +kernel
theorem dX7_compares_26 : decode cX7_compares 26 = .ok (.iconst 0, 1) := by decide +kernel
theorem dX7_compares_27 : decode cX7_compares 27 = .ok (.istore_n 1, 1) := by decide +kernel
theorem dX7_compares_28 : decode cX7_compares 28 = .ok (.iload_n 1, 1) := by decide +kernel
theorem dX7_compares_29 : decode cX7_compares 29 = .ok (.iconst 2, 1) := by decide +kernel
theorem dX7_compares_30 : decode cX7_compares 30 = .ok (.if_icmp .ge 145, 3) := by decide +kernel
theorem dX7_compares_33 : decode cX7_compares 33 = .ok (.iconst 0, 1) := by decide +kernel
theorem dX7_compares_34 : decode cX7_compares 34 = .ok (.istore_n 2, 1) := by decide +kernel
theorem dX7_compares_35 : decode cX7_compares 35 = .ok (.iload_n 2, 1) := by decide +kernel
theorem dX7_compares_36 : decode cX7_compares 36 = .ok (.aload_n 0, 1) := by decide +kernel
theorem dX7_compares_37 : decode cX7_compares 37 = .ok (.getfield 7, 3) := by decide +kernel
theorem dX7_compares_40 : decode cX7_compares 40 = .ok (.iconst 1, 1) := by decide +kernel
theorem dX7_compares_41 : decode cX7_compares 41 = .ok (.iaload, 1) := by decide +kernel
theorem dX7_compares_42 : decode cX7_compares 42 = .ok (.if_icmp .ge 127, 3) := by decide +kernel
theorem dX7_compares_45 : decode cX7_compares 45 = .ok (.iconst 0, 1) := by decide +kernel
theorem dX7_compares_46 : decode cX7_compares 46 = .ok (.istore_n 3, 1) := by decide +kernel
theorem dX7_compares_47 : decode cX7_compares 47 = .ok (.iload_n 3, 1) := by decide +kernel
theorem dX7_compares_48 : decode cX7_compares 48 = .ok (.aload_n 0, 1) := by decide +kernel
theorem dX7_compares_49 : decode cX7_compares 49 = .ok (.getfield 7, 3) := by decide +kernel
theorem dX7_compares_52 : decode cX7_compares 52 = .ok (.iconst 0, 1) := by decide +kernel
theorem dX7_compares_53 : decode cX7_compares 53 = .ok (.iaload, 1) := by decide +kernel
theorem dX7_compares_54 : decode cX7_compares 54 = .ok (.if_icmp .ge 109, 3) := by decide +kernel
theorem dX7_compares_57 : decode cX7_compares 57 = .ok (.aload_n 0, 1) := by decide +kernel
theorem dX7_compares_58 : decode cX7_compares 58 = .ok (.getfield 49, 3) := by decide +kernel
theorem dX7_compares_61 : decode cX7_compares 61 = .ok (.iload_n 2, 1) := by decide +kernel
theorem dX7_compares_62 : decode cX7_compares 62 = .ok (.iaload, 1) := by decide +kernel
theorem dX7_compares_63 : decode cX7_compares 63 = .ok (.iconst (-1), 1) := by decide +kernel
theorem dX7_compares_64 : decode cX7_compares 64 = .ok (.if_icmp .ne 99, 3) := by decide +kernel
theorem dX7_compares_67 : decode cX7_compares 67 = .ok (.aload_n 0, 1) := by decide +kernel
theorem dX7_compares_68 : decode cX7_compares 68 = .ok (.getfield 196, 3) := by decide +kernel
theorem dX7_compares_71 : decode cX7_compares 71 = .ok (.iload_n 3, 1) := by decide +kernel
theorem dX7_compares_72 : decode cX7_compares 72 = .ok (.invokestatic 200, 3) := by decide +kernel
theorem dX7_compares_75 : decode cX7_compares 75 = .ok (.ifCond .ne 42, 3) := by decide +kernel
theorem dX7_compares_78 : decode cX7_compares 78 = .ok (.aload_n 0, 1) := by decide +kernel
theorem dX7_compares_79 : decode cX7_compares 79 = .ok (.iload_n 3, 1) := by decide +kernel
theorem dX7_compares_80 : decode cX7_compares 80 = .ok (.bipush 8, 2) := by decide +kernel
theorem dX7_compares_82 : decode cX7_compares 82 = .ok (.iload_n 2, 1) := by decide +kernel
theorem dX7_compares_83 : decode cX7_compares 83 = .ok (.iadd, 1) := by decide +kernel
theorem dX7_compares_84 : decode cX7_compares 84 = .ok (.invokevirtual 203, 3) := by decide +kernel
theorem dX7_compares_87 : decode cX7_compares 87 = .ok (.ifCond .eq 30, 3) := by decide +kernel
theorem dX7_compares_90 : decode cX7_compares 90 = .ok (.iload_n 1, 1) := by decide +kernel
theorem dX7_compares_91 : decode cX7_compares 91 = .ok (.iconst 1, 1) := by decide +kernel
theorem dX7_compares_92 : decode cX7_compares 92 = .ok (.if_icmp .eq 21, 3) := by decide +kernel
theorem dX7_compares_95 : decode cX7_compares 95 = .ok (.aload_n 0, 1) := by decide +kernel
theorem dX7_compares_96 : decode cX7_compares 96 = .ok (.getfield 19, 3) := by decide +kernel
theorem dX7_compares_99 : decode cX7_compares 99 = .ok (.iload_n 3, 1) := by decide +kernel
theorem dX7_compares_100 : decode cX7_compares 100 = .ok (.iaload, 1) := by decide +kernel
theorem dX7_compares_101 : decode cX7_compares 101 = .ok (.aload_n 0, 1) := by decide +kernel
theorem dX7_compares_102 : decode cX7_compares 102 = .ok (.getfield 19, 3) := by decide +kernel
theorem dX7_compares_105 : decode cX7_compares 105 = .ok (.bipush 8, 2) := by decide +kernel
theorem dX7_compares_107 : decode cX7_compares 107 = .ok (.iload_n 2, 1) := by decide +kernel
theorem dX7_compares_108 : decode cX7_compares 108 = .ok (.iadd, 1) := by decide +kernel
theorem dX7_compares_109 : decode cX7_compares 109 = .ok (.iaload, 1) := by decide +kernel
theorem dX7_compares_110 : decode cX7_compares 110 = .ok (.if_icmp .ne 7, 3) := by decide +kernel
theorem dX7_compares_113 : decode cX7_compares 113 = .ok (.iconst 1, 1) := by decide +kernel
theorem dX7_compares_114 : decode cX7_compares 114 = .ok (.goto 4, 3) := by decide +kernel
theorem dX7_compares_117 : decode cX7_compares 117 = .ok (.iconst 0, 1) := by decide +kernel
theorem dX7_compares_118 : decode cX7_compares 118 = .ok (.istore 4, 2) := by decide +kernel
theorem dX7_compares_120 : decode cX7_compares 120 = .ok (.aload_n 0, 1) := by decide +kernel
theorem dX7_compares_121 : decode cX7_compares 121 = .ok (.getfield 49, 3) := by decide +kernel
theorem dX7_compares_124 : decode cX7_compares 124 = .ok (.iload_n 2, 1) := by decide +kernel
theorem dX7_compares_125 : decode cX7_compares 125 = .ok (.iload 4, 2) := by decide +kernel
theorem dX7_compares_127 : decode cX7_compares 127 = .ok (.ifCond .eq 7, 3) := by decide +kernel
theorem dX7_compares_130 : decode cX7_compares 130 = .ok (.iload_n 3, 1) := by decide +kernel
theorem dX7_compares_131 : decode cX7_compares 131 = .ok (.goto 4, 3) := by decide +kernel
theorem dX7_compares_134 : decode cX7_compares 134 = .ok (.iconst (-1), 1) := by decide +kernel
theorem dX7_compares_135 : decode cX7_compares 135 = .ok (.iastore, 1) := by decide +kernel
theorem dX7_compares_136 : decode cX7_compares 136 = .ok (.aload_n 0, 1) := by decide +kernel
theorem dX7_compares_137 : decode cX7_compares 137 = .ok (.dup, 1) := by decide +kernel
theorem dX7_compares_138 : decode cX7_compares 138 = .ok (.getfield 196, 3) := by decide +kernel
theorem dX7_compares_141 : decode cX7_compares 141 = .ok (.iload 4, 2) := by decide +kernel
theorem dX7_compares_143 : decode cX7_compares 143 = .ok (.ifCond .eq 9, 3) := by decide +kernel
theorem dX7_compares_146 : decode cX7_compares 146 = .ok (.iconst 1, 1) := by decide +kernel
theorem dX7_compares_147 : decode cX7_compares 147 = .ok (.iload_n 3, 1) := by decide +kernel
theorem dX7_compares_148 : decode cX7_compares 148 = .ok (.ishl, 1) := by decide +kernel
theorem dX7_compares_149 : decode cX7_compares 149 = .ok (.goto 4, 3) := by decide +kernel
theorem dX7_compares_152 : decode cX7_compares 152 = .ok (.iconst 0, 1) := by decide +kernel
theorem dX7_compares_153 : decode cX7_compares 153 = .ok (.ior, 1) := by decide +kernel
theorem dX7_compares_154 : decode cX7_compares 154 = .ok (.putfield 196, 3) := by decide +kernel
theorem dX7_compares_157 : decode cX7_compares 157 = .ok (.iinc 3 1, 3) := by decide +kernel
theorem dX7_compares_160 : decode cX7_compares 160 = .ok (.goto (-113), 3) := by decide +kernel
theorem dX7_compares_163 : decode cX7_compares 163 = .ok (.iinc 2 1, 3) := by decide +kernel
theorem dX7_compares_166 : decode cX7_compares 166 = .ok (.goto (-131), 3) := by decide +kernel
theorem dX7_compares_169 : decode cX7_compares 169 = .ok (.iinc 1 1, 3) := by decide +kernel
theorem dX7_compares_172 : decode cX7_compares 172 = .ok (.goto (-144), 3) := by decide +kernel
theorem dX7_compares_175 : decode cX7_compares 175 = .ok (.return_, 1) := by decide +kernel
theorem dX7_kindOf_0 : decode cX7_kindOf 0 = .ok (.aload_n 0, 1) := by decide +kernel
theorem dX7_kindOf_1 : decode cX7_kindOf 1 = .ok (.getfield 49, 3) := by decide +kernel
theorem dX7_kindOf_4 : decode cX7_kindOf 4 = .ok (.iload_n 1, 1) := by decide +kernel
theorem dX7_kindOf_5 : decode cX7_kindOf 5 = .ok (.iaload, 1) := by decide +kernel
theorem dX7_kindOf_6 : decode cX7_kindOf 6 = .ok (.istore_n 2, 1) := by decide +kernel
theorem dX7_kindOf_7 : decode cX7_kindOf 7 = .ok (.iload_n 2, 1) := by decide +kernel
theorem dX7_kindOf_8 : decode cX7_kindOf 8 = .ok (.iconst (-1), 1) := by decide +kernel
theorem dX7_kindOf_9 : decode cX7_kindOf 9 = .ok (.if_icmp .ne 5, 3) := by decide +kernel
theorem dX7_kindOf_12 : decode cX7_kindOf 12 = .ok (.iconst 0, 1) := by decide +kernel
theorem dX7_kindOf_13 : decode cX7_kindOf 13 = .ok (.ireturn, 1) := by decide +kernel
theorem dX7_kindOf_14 : decode cX7_kindOf 14 = .ok (.aload_n 0, 1) := by decide +kernel
theorem dX7_kindOf_15 : decode cX7_kindOf 15 = .ok (.getfield 19, 3) := by decide +kernel
theorem dX7_kindOf_18 : decode cX7_kindOf 18 = .ok (.iload_n 2, 1) := by decide +kernel
theorem dX7_kindOf_19 : decode cX7_kindOf 19 = .ok (.iaload, 1) := by decide +kernel
theorem dX7_kindOf_20 : decode cX7_kindOf 20 = .ok (.aload_n 0, 1) := by decide +kernel
theorem dX7_kindOf_21 : decode cX7_kindOf 21 = .ok (.getfield 19, 3) := by decide +kernel
theorem dX7_kindOf_24 : decode cX7_kindOf 24 = .ok (.bipush 8, 2) := by decide +kernel
theorem dX7_kindOf_26 : decode cX7_kindOf 26 = .ok (.iload_n 1, 1) := by decide +kernel
theorem dX7_kindOf_27 : decode cX7_kindOf 27 = .ok (.iadd, 1) := by decide +kernel
theorem dX7_kindOf_28 : decode cX7_kindOf 28 = .ok (.iaload, 1) := by decide +kernel
theorem dX7_kindOf_29 : decode cX7_kindOf 29 = .ok (.if_icmp .eq 7, 3) := by decide +kernel
theorem dX7_kindOf_32 : decode cX7_kindOf 32 = .ok (.iconst 3, 1) := by decide +kernel
theorem dX7_kindOf_33 : decode cX7_kindOf 33 = .ok (.goto 23, 3) := by decide +kernel
theorem dX7_kindOf_36 : decode cX7_kindOf 36 = .ok (.aload_n 0, 1) := by decide +kernel
theorem dX7_kindOf_37 : decode cX7_kindOf 37 = .ok (.iconst 0, 1) := by decide +kernel
theorem dX7_kindOf_38 : decode cX7_kindOf 38 = .ok (.iload_n 2, 1) := by decide +kernel
theorem dX7_kindOf_39 : decode cX7_kindOf 39 = .ok (.invokevirtual 111, 3) := by decide +kernel
theorem dX7_kindOf_42 : decode cX7_kindOf 42 = .ok (.aload_n 0, 1) := by decide +kernel
theorem dX7_kindOf_43 : decode cX7_kindOf 43 = .ok (.iconst 1, 1) := by decide +kernel
theorem dX7_kindOf_44 : decode cX7_kindOf 44 = .ok (.iload_n 1, 1) := by decide +kernel
theorem dX7_kindOf_45 : decode cX7_kindOf 45 = .ok (.invokevirtual 111, 3) := by decide +kernel
theorem dX7_kindOf_48 : decode cX7_kindOf 48 = .ok (.if_icmp .ne 7, 3) := by decide +kernel
theorem dX7_kindOf_51 : decode cX7_kindOf 51 = .ok (.iconst 1, 1) := by decide +kernel
theorem dX7_kindOf_52 : decode cX7_kindOf 52 = .ok (.goto 4, 3) := by decide +kernel
theorem dX7_kindOf_55 : decode cX7_kindOf 55 = .ok (.iconst 2, 1) := by decide +kernel
theorem dX7_kindOf_56 : decode cX7_kindOf 56 = .ok (.ireturn, 1) := by decide +kernel
theorem dX7_compareOf_0 : decode cX7_compareOf 0 = .ok (.aload_n 0, 1) := by decide +kernel
theorem dX7_compareOf_1 : decode cX7_compareOf 1 = .ok (.invokevirtual 206, 3) := by decide +kernel
theorem dX7_compareOf_4 : decode cX7_compareOf 4 = .ok (.aload_n 0, 1) := by decide +kernel
theorem dX7_compareOf_5 : decode cX7_compareOf 5 = .ok (.getfield 49, 3) := by decide +kernel
theorem dX7_compareOf_8 : decode cX7_compareOf 8 = .ok (.iload_n 1, 1) := by decide +kernel
theorem dX7_compareOf_9 : decode cX7_compareOf 9 = .ok (.iaload, 1) := by decide +kernel
theorem dX7_compareOf_10 : decode cX7_compareOf 10 = .ok (.istore_n 3, 1) := by decide +kernel
theorem dX7_compareOf_11 : decode cX7_compareOf 11 = .ok (.iload_n 2, 1) := by decide +kernel
theorem dX7_compareOf_12 : decode cX7_compareOf 12 = .ok (.ifCond .ne 11, 3) := by decide +kernel
theorem dX7_compareOf_15 : decode cX7_compareOf 15 = .ok (.aload_n 0, 1) := by decide +kernel
theorem dX7_compareOf_16 : decode cX7_compareOf 16 = .ok (.iload_n 1, 1) := by decide +kernel
theorem dX7_compareOf_17 : decode cX7_compareOf 17 = .ok (.invokevirtual 209, 3) := by decide +kernel
theorem dX7_compareOf_20 : decode cX7_compareOf 20 = .ok (.goto 34, 3) := by decide +kernel
theorem dX7_compareOf_23 : decode cX7_compareOf 23 = .ok (.iload_n 2, 1) := by decide +kernel
theorem dX7_compareOf_24 : decode cX7_compareOf 24 = .ok (.iconst 1, 1) := by decide +kernel
theorem dX7_compareOf_25 : decode cX7_compareOf 25 = .ok (.if_icmp .ne 7, 3) := by decide +kernel
theorem dX7_compareOf_28 : decode cX7_compareOf 28 = .ok (.iload_n 3, 1) := by decide +kernel
theorem dX7_compareOf_29 : decode cX7_compareOf 29 = .ok (.goto 25, 3) := by decide +kernel
theorem dX7_compareOf_32 : decode cX7_compareOf 32 = .ok (.iload_n 3, 1) := by decide +kernel
theorem dX7_compareOf_33 : decode cX7_compareOf 33 = .ok (.iconst (-1), 1) := by decide +kernel
theorem dX7_compareOf_34 : decode cX7_compareOf 34 = .ok (.if_icmp .ne 7, 3) := by decide +kernel
theorem dX7_compareOf_37 : decode cX7_compareOf 37 = .ok (.iconst 0, 1) := by decide +kernel
theorem dX7_compareOf_38 : decode cX7_compareOf 38 = .ok (.goto 16, 3) := by decide +kernel
theorem dX7_compareOf_41 : decode cX7_compareOf 41 = .ok (.aload_n 0, 1) := by decide +kernel
theorem dX7_compareOf_42 : decode cX7_compareOf 42 = .ok (.iconst 1, 1) := by decide +kernel
theorem dX7_compareOf_43 : decode cX7_compareOf 43 = .ok (.iload_n 1, 1) := by decide +kernel
theorem dX7_compareOf_44 : decode cX7_compareOf 44 = .ok (.invokevirtual 111, 3) := by decide +kernel
theorem dX7_compareOf_47 : decode cX7_compareOf 47 = .ok (.aload_n 0, 1) := by decide +kernel
theorem dX7_compareOf_48 : decode cX7_compareOf 48 = .ok (.iconst 0, 1) := by decide +kernel
theorem dX7_compareOf_49 : decode cX7_compareOf 49 = .ok (.iload_n 3, 1) := by decide +kernel
theorem dX7_compareOf_50 : decode cX7_compareOf 50 = .ok (.invokevirtual 111, 3) := by decide +kernel
theorem dX7_compareOf_53 : decode cX7_compareOf 53 = .ok (.isub, 1) := by decide +kernel
theorem dX7_compareOf_54 : decode cX7_compareOf 54 = .ok (.ireturn, 1) := by decide +kernel
theorem dX7_compare_0 : decode cX7_compare 0 = .ok (.aload_n 0, 1) := by decide +kernel
theorem dX7_compare_1 : decode cX7_compare 1 = .ok (.iconst 1, 1) := by decide +kernel
theorem dX7_compare_2 : decode cX7_compare 2 = .ok (.iload_n 1, 1) := by decide +kernel
theorem dX7_compare_3 : decode cX7_compare 3 = .ok (.invokevirtual 89, 3) := by decide +kernel
theorem dX7_compare_6 : decode cX7_compare 6 = .ok (.ifCond .eq 21, 3) := by decide +kernel
theorem dX7_compare_9 : decode cX7_compare 9 = .ok (.iload_n 2, 1) := by decide +kernel
theorem dX7_compare_10 : decode cX7_compare 10 = .ok (.iconst 0, 1) := by decide +kernel
theorem dX7_compare_11 : decode cX7_compare 11 = .ok (.iconst 2, 1) := by decide +kernel
theorem dX7_compare_12 : decode cX7_compare 12 = .ok (.invokestatic 69, 3) := by decide +kernel
theorem dX7_compare_15 : decode cX7_compare 15 = .ok (.ifCond .eq 12, 3) := by decide +kernel
theorem dX7_compare_18 : decode cX7_compare 18 = .ok (.aload_n 0, 1) := by decide +kernel
theorem dX7_compare_19 : decode cX7_compare 19 = .ok (.iload_n 1, 1) := by decide +kernel
theorem dX7_compare_20 : decode cX7_compare 20 = .ok (.iload_n 2, 1) := by decide +kernel
theorem dX7_compare_21 : decode cX7_compare 21 = .ok (.invokevirtual 212, 3) := by decide +kernel
theorem dX7_compare_24 : decode cX7_compare 24 = .ok (.goto 5, 3) := by decide +kernel
theorem dX7_compare_27 : decode cX7_compare 27 = .ok (.bipush (-2), 2) := by decide +kernel
theorem dX7_compare_29 : decode cX7_compare 29 = .ok (.ireturn, 1) := by decide +kernel
theorem dX7_goneOf_0 : decode cX7_goneOf 0 = .ok (.aload_n 0, 1) := by decide +kernel
theorem dX7_goneOf_1 : decode cX7_goneOf 1 = .ok (.invokevirtual 206, 3) := by decide +kernel
theorem dX7_goneOf_4 : decode cX7_goneOf 4 = .ok (.iconst 1, 1) := by decide +kernel
theorem dX7_goneOf_5 : decode cX7_goneOf 5 = .ok (.aload_n 0, 1) := by decide +kernel
theorem dX7_goneOf_6 : decode cX7_goneOf 6 = .ok (.getfield 7, 3) := by decide +kernel
theorem dX7_goneOf_9 : decode cX7_goneOf 9 = .ok (.iconst 0, 1) := by decide +kernel
theorem dX7_goneOf_10 : decode cX7_goneOf 10 = .ok (.iaload, 1) := by decide +kernel
theorem dX7_goneOf_11 : decode cX7_goneOf 11 = .ok (.ishl, 1) := by decide +kernel
theorem dX7_goneOf_12 : decode cX7_goneOf 12 = .ok (.iconst 1, 1) := by decide +kernel
theorem dX7_goneOf_13 : decode cX7_goneOf 13 = .ok (.isub, 1) := by decide +kernel
theorem dX7_goneOf_14 : decode cX7_goneOf 14 = .ok (.aload_n 0, 1) := by decide +kernel
theorem dX7_goneOf_15 : decode cX7_goneOf 15 = .ok (.getfield 196, 3) := by decide +kernel
theorem dX7_goneOf_18 : decode cX7_goneOf 18 = .ok (.iconst (-1), 1) := by decide +kernel
theorem dX7_goneOf_19 : decode cX7_goneOf 19 = .ok (.ixor, 1) := by decide +kernel
theorem dX7_goneOf_20 : decode cX7_goneOf 20 = .ok (.iand, 1) := by decide +kernel
theorem dX7_goneOf_21 : decode cX7_goneOf 21 = .ok (.ireturn, 1) := by decide +kernel
theorem dX7_gone_0 : decode cX7_gone 0 = .ok (.aload_n 0, 1) := by decide +kernel
theorem dX7_gone_1 : decode cX7_gone 1 = .ok (.invokevirtual 215, 3) := by decide +kernel
theorem dX7_gone_4 : decode cX7_gone 4 = .ok (.ireturn, 1) := by decide +kernel
theorem dX7_isPulled_0 : decode cX7_isPulled 0 = .ok (.iconst 0, 1) := by decide +kernel
theorem dX7_isPulled_1 : decode cX7_isPulled 1 = .ok (.istore_n 3, 1) := by decide +kernel
theorem dX7_isPulled_2 : decode cX7_isPulled 2 = .ok (.iconst 0, 1) := by decide +kernel
theorem dX7_isPulled_3 : decode cX7_isPulled 3 = .ok (.istore 4, 2) := by decide +kernel
theorem dX7_isPulled_5 : decode cX7_isPulled 5 = .ok (.iload 4, 2) := by decide +kernel
theorem dX7_isPulled_7 : decode cX7_isPulled 7 = .ok (.aload_n 0, 1) := by decide +kernel
theorem dX7_isPulled_8 : decode cX7_isPulled 8 = .ok (.getfield 34, 3) := by decide +kernel
theorem dX7_isPulled_11 : decode cX7_isPulled 11 = .ok (.iconst 0, 1) := by decide +kernel
theorem dX7_isPulled_12 : decode cX7_isPulled 12 = .ok (.iaload, 1) := by decide +kernel
theorem dX7_isPulled_13 : decode cX7_isPulled 13 = .ok (.if_icmp .ge 51, 3) := by decide +kernel
theorem dX7_isPulled_16 : decode cX7_isPulled 16 = .ok (.iload_n 3, 1) := by decide +kernel
theorem dX7_isPulled_17 : decode cX7_isPulled 17 = .ok (.ifCond .ne 35, 3) := by decide +kernel
theorem dX7_isPulled_20 : decode cX7_isPulled 20 = .ok (.aload_n 0, 1) := by decide +kernel
theorem dX7_isPulled_21 : decode cX7_isPulled 21 = .ok (.getfield 37, 3) := by decide +kernel
theorem dX7_isPulled_24 : decode cX7_isPulled 24 = .ok (.iload 4, 2) := by decide +kernel
theorem dX7_isPulled_26 : decode cX7_isPulled 26 = .ok (.iaload, 1) := by decide +kernel
theorem dX7_isPulled_27 : decode cX7_isPulled 27 = .ok (.iload_n 1, 1) := by decide +kernel
theorem dX7_isPulled_28 : decode cX7_isPulled 28 = .ok (.if_icmp .ne 28, 3) := by decide +kernel
theorem dX7_isPulled_31 : decode cX7_isPulled 31 = .ok (.iload_n 2, 1) := by decide +kernel
theorem dX7_isPulled_32 : decode cX7_isPulled 32 = .ok (.aload_n 0, 1) := by decide +kernel
theorem dX7_isPulled_33 : decode cX7_isPulled 33 = .ok (.getfield 40, 3) := by decide +kernel
theorem dX7_isPulled_36 : decode cX7_isPulled 36 = .ok (.iload 4, 2) := by decide +kernel
theorem dX7_isPulled_38 : decode cX7_isPulled 38 = .ok (.iaload, 1) := by decide +kernel
theorem dX7_isPulled_39 : decode cX7_isPulled 39 = .ok (.aload_n 0, 1) := by decide +kernel
theorem dX7_isPulled_40 : decode cX7_isPulled 40 = .ok (.getfield 43, 3) := by decide +kernel
theorem dX7_isPulled_43 : decode cX7_isPulled 43 = .ok (.iload 4, 2) := by decide +kernel
theorem dX7_isPulled_45 : decode cX7_isPulled 45 = .ok (.iaload, 1) := by decide +kernel
theorem dX7_isPulled_46 : decode cX7_isPulled 46 = .ok (.invokestatic 69, 3) := by decide +kernel
theorem dX7_isPulled_49 : decode cX7_isPulled 49 = .ok (.ifCond .eq 7, 3) := by decide +kernel
theorem dX7_isPulled_52 : decode cX7_isPulled 52 = .ok (.iconst 1, 1) := by decide +kernel
theorem dX7_isPulled_53 : decode cX7_isPulled 53 = .ok (.goto 4, 3) := by decide +kernel
theorem dX7_isPulled_56 : decode cX7_isPulled 56 = .ok (.iconst 0, 1) := by decide +kernel
theorem dX7_isPulled_57 : decode cX7_isPulled 57 = .ok (.istore_n 3, 1) := by decide +kernel
theorem dX7_isPulled_58 : decode cX7_isPulled 58 = .ok (.iinc 4 1, 3) := by decide +kernel
theorem dX7_isPulled_61 : decode cX7_isPulled 61 = .ok (.goto (-56), 3) := by decide +kernel
theorem dX7_isPulled_64 : decode cX7_isPulled 64 = .ok (.iload_n 3, 1) := by decide +kernel
theorem dX7_isPulled_65 : decode cX7_isPulled 65 = .ok (.ireturn, 1) := by decide +kernel
theorem dX7_anewOf_0 : decode cX7_anewOf 0 = .ok (.aload_n 0, 1) := by decide +kernel
theorem dX7_anewOf_1 : decode cX7_anewOf 1 = .ok (.iconst 0, 1) := by decide +kernel
theorem dX7_anewOf_2 : decode cX7_anewOf 2 = .ok (.iconst (-1), 1) := by decide +kernel
theorem dX7_anewOf_3 : decode cX7_anewOf 3 = .ok (.invokevirtual 169, 3) := by decide +kernel
theorem dX7_anewOf_6 : decode cX7_anewOf 6 = .ok (.aload_n 0, 1) := by decide +kernel
theorem dX7_anewOf_7 : decode cX7_anewOf 7 = .ok (.iconst 1, 1) := by decide +kernel
theorem dX7_anewOf_8 : decode cX7_anewOf 8 = .ok (.iconst (-1), 1) := by decide +kernel
theorem dX7_anewOf_9 : decode cX7_anewOf 9 = .ok (.invokevirtual 169, 3) := by decide +kernel
theorem dX7_anewOf_12 : decode cX7_anewOf 12 = .ok (.iconst 0, 1) := by decide +kernel
theorem dX7_anewOf_13 : decode cX7_anewOf 13 = .ok (.istore_n 2, 1) := by decide +kernel
theorem dX7_anewOf_14 : decode cX7_anewOf 14 = .ok (.iconst (-1), 1) := by decide +kernel
theorem dX7_anewOf_15 : decode cX7_anewOf 15 = .ok (.istore_n 3, 1) := by decide +kernel
theorem dX7_anewOf_16 : decode cX7_anewOf 16 = .ok (.bipush 8, 2) := by decide +kernel
theorem dX7_anewOf_18 : decode cX7_anewOf 18 = .ok (.istore 4, 2) := by decide +kernel
theorem dX7_anewOf_20 : decode cX7_anewOf 20 = .ok (.iload 4, 2) := by decide +kernel
theorem dX7_anewOf_22 : decode cX7_anewOf 22 = .ok (.bipush 8, 2) := by decide +kernel
theorem dX7_anewOf_24 : decode cX7_anewOf 24 = .ok (.aload_n 0, 1) := by decide +kernel
theorem dX7_anewOf_25 : decode cX7_anewOf 25 = .ok (.getfield 34, 3) := by decide +kernel
theorem dX7_anewOf_28 : decode cX7_anewOf 28 = .ok (.iconst 1, 1) := by decide +kernel
theorem dX7_anewOf_29 : decode cX7_anewOf 29 = .ok (.iaload, 1) := by decide +kernel
theorem dX7_anewOf_30 : decode cX7_anewOf 30 = .ok (.iadd, 1) := by decide +kernel
theorem dX7_anewOf_31 : decode cX7_anewOf 31 = .ok (.if_icmp .ge 99, 3) := by decide +kernel
theorem dX7_anewOf_34 : decode cX7_anewOf 34 = .ok (.aload_n 0, 1) := by decide +kernel
theorem dX7_anewOf_35 : decode cX7_anewOf 35 = .ok (.getfield 43, 3) := by decide +kernel
theorem dX7_anewOf_38 : decode cX7_anewOf 38 = .ok (.iload 4, 2) := by decide +kernel
theorem dX7_anewOf_40 : decode cX7_anewOf 40 = .ok (.iaload, 1) := by decide +kernel
theorem dX7_anewOf_41 : decode cX7_anewOf 41 = .ok (.aload_n 0, 1) := by decide +kernel
theorem dX7_anewOf_42 : decode cX7_anewOf 42 = .ok (.getfield 31, 3) := by decide +kernel
theorem dX7_anewOf_45 : decode cX7_anewOf 45 = .ok (.aload_n 0, 1) := by decide +kernel
theorem dX7_anewOf_46 : decode cX7_anewOf 46 = .ok (.getfield 37, 3) := by decide +kernel
theorem dX7_anewOf_49 : decode cX7_anewOf 49 = .ok (.iload 4, 2) := by decide +kernel
theorem dX7_anewOf_51 : decode cX7_anewOf 51 = .ok (.iaload, 1) := by decide +kernel
theorem dX7_anewOf_52 : decode cX7_anewOf 52 = .ok (.iaload, 1) := by decide +kernel
theorem dX7_anewOf_53 : decode cX7_anewOf 53 = .ok (.iconst 1, 1) := by decide +kernel
theorem dX7_anewOf_54 : decode cX7_anewOf 54 = .ok (.isub, 1) := by decide +kernel
theorem dX7_anewOf_55 : decode cX7_anewOf 55 = .ok (.invokestatic 149, 3) := by decide +kernel
theorem dX7_anewOf_58 : decode cX7_anewOf 58 = .ok (.istore 5, 2) := by decide +kernel
theorem dX7_anewOf_60 : decode cX7_anewOf 60 = .ok (.aload_n 0, 1) := by decide +kernel
theorem dX7_anewOf_61 : decode cX7_anewOf 61 = .ok (.getfield 40, 3) := by decide +kernel
theorem dX7_anewOf_64 : decode cX7_anewOf 64 = .ok (.iload 4, 2) := by decide +kernel
theorem dX7_anewOf_66 : decode cX7_anewOf 66 = .ok (.iaload, 1) := by decide +kernel
theorem dX7_anewOf_67 : decode cX7_anewOf 67 = .ok (.istore 6, 2) := by decide +kernel
theorem dX7_anewOf_69 : decode cX7_anewOf 69 = .ok (.iload 6, 2) := by decide +kernel
theorem dX7_anewOf_71 : decode cX7_anewOf 71 = .ok (.iload 5, 2) := by decide +kernel
theorem dX7_anewOf_73 : decode cX7_anewOf 73 = .ok (.if_icmp .gt 51, 3) := by decide +kernel
theorem dX7_anewOf_76 : decode cX7_anewOf 76 = .ok (.aload_n 0, 1) := by decide +kernel
theorem dX7_anewOf_77 : decode cX7_anewOf 77 = .ok (.aload_n 0, 1) := by decide +kernel
theorem dX7_anewOf_78 : decode cX7_anewOf 78 = .ok (.getfield 37, 3) := by decide +kernel
theorem dX7_anewOf_81 : decode cX7_anewOf 81 = .ok (.iload 4, 2) := by decide +kernel
theorem dX7_anewOf_83 : decode cX7_anewOf 83 = .ok (.iaload, 1) := by decide +kernel
theorem dX7_anewOf_84 : decode cX7_anewOf 84 = .ok (.iload 6, 2) := by decide +kernel
theorem dX7_anewOf_86 : decode cX7_anewOf 86 = .ok (.invokevirtual 218, 3) := by decide +kernel
theorem dX7_anewOf_89 : decode cX7_anewOf 89 = .ok (.ifCond .ne 29, 3) := by decide +kernel
theorem dX7_anewOf_92 : decode cX7_anewOf 92 = .ok (.iload_n 2, 1) := by decide +kernel
theorem dX7_anewOf_93 : decode cX7_anewOf 93 = .ok (.iload_n 1, 1) := by decide +kernel
theorem dX7_anewOf_94 : decode cX7_anewOf 94 = .ok (.if_icmp .ne 19, 3) := by decide +kernel
theorem dX7_anewOf_97 : decode cX7_anewOf 97 = .ok (.ldc 221, 2) := by decide +kernel
theorem dX7_anewOf_99 : decode cX7_anewOf 99 = .ok (.aload_n 0, 1) := by decide +kernel
theorem dX7_anewOf_100 : decode cX7_anewOf 100 = .ok (.getfield 37, 3) := by decide +kernel
theorem dX7_anewOf_103 : decode cX7_anewOf 103 = .ok (.iload 4, 2) := by decide +kernel
theorem dX7_anewOf_105 : decode cX7_anewOf 105 = .ok (.iaload, 1) := by decide +kernel
theorem dX7_anewOf_106 : decode cX7_anewOf 106 = .ok (.imul, 1) := by decide +kernel
theorem dX7_anewOf_107 : decode cX7_anewOf 107 = .ok (.iload 6, 2) := by decide +kernel
theorem dX7_anewOf_109 : decode cX7_anewOf 109 = .ok (.iadd, 1) := by decide +kernel
theorem dX7_anewOf_110 : decode cX7_anewOf 110 = .ok (.goto 4, 3) := by decide +kernel
theorem dX7_anewOf_113 : decode cX7_anewOf 113 = .ok (.iload_n 3, 1) := by decide +kernel
theorem dX7_anewOf_114 : decode cX7_anewOf 114 = .ok (.istore_n 3, 1) := by decide +kernel
theorem dX7_anewOf_115 : decode cX7_anewOf 115 = .ok (.iinc 2 1, 3) := by decide +kernel
theorem dX7_anewOf_118 : decode cX7_anewOf 118 = .ok (.iinc 6 1, 3) := by decide +kernel
theorem dX7_anewOf_121 : decode cX7_anewOf 121 = .ok (.goto (-52), 3) := by decide +kernel
theorem dX7_anewOf_124 : decode cX7_anewOf 124 = .ok (.iinc 4 1, 3) := by decide +kernel
theorem dX7_anewOf_127 : decode cX7_anewOf 127 = .ok (.goto (-107), 3) := by decide +kernel
theorem dX7_anewOf_130 : decode cX7_anewOf 130 = .ok (.iload_n 1, 1) := by decide +kernel
theorem dX7_anewOf_131 : decode cX7_anewOf 131 = .ok (.iconst (-1), 1) := by decide +kernel
theorem dX7_anewOf_132 : decode cX7_anewOf 132 = .ok (.if_icmp .ne 7, 3) := by decide +kernel
theorem dX7_anewOf_135 : decode cX7_anewOf 135 = .ok (.iload_n 2, 1) := by decide +kernel
theorem dX7_anewOf_136 : decode cX7_anewOf 136 = .ok (.goto 4, 3) := by decide +kernel
theorem dX7_anewOf_139 : decode cX7_anewOf 139 = .ok (.iload_n 3, 1) := by decide +kernel
theorem dX7_anewOf_140 : decode cX7_anewOf 140 = .ok (.ireturn, 1) := by decide +kernel
theorem dX7_anew_0 : decode cX7_anew 0 = .ok (.iload_n 1, 1) := by decide +kernel
theorem dX7_anew_1 : decode cX7_anew 1 = .ok (.iconst (-1), 1) := by decide +kernel
theorem dX7_anew_2 : decode cX7_anew 2 = .ok (.sipush 9999, 3) := by decide +kernel
theorem dX7_anew_5 : decode cX7_anew 5 = .ok (.invokestatic 69, 3) := by decide +kernel
theorem dX7_anew_8 : decode cX7_anew 8 = .ok (.ifCond .eq 11, 3) := by decide +kernel
theorem dX7_anew_11 : decode cX7_anew 11 = .ok (.aload_n 0, 1) := by decide +kernel
theorem dX7_anew_12 : decode cX7_anew 12 = .ok (.iload_n 1, 1) := by decide +kernel
theorem dX7_anew_13 : decode cX7_anew 13 = .ok (.invokevirtual 222, 3) := by decide +kernel
theorem dX7_anew_16 : decode cX7_anew 16 = .ok (.goto 5, 3) := by decide +kernel
theorem dX7_anew_19 : decode cX7_anew 19 = .ok (.bipush (-2), 2) := by decide +kernel
theorem dX7_anew_21 : decode cX7_anew 21 = .ok (.ireturn, 1) := by decide +kernel
theorem dX7_savingOf_0 : decode cX7_savingOf 0 = .ok (.iconst (-1), 1) := by decide +kernel
theorem dX7_savingOf_1 : decode cX7_savingOf 1 = .ok (.istore_n 2, 1) := by decide +kernel
theorem dX7_savingOf_2 : decode cX7_savingOf 2 = .ok (.iconst (-1), 1) := by decide +kernel
theorem dX7_savingOf_3 : decode cX7_savingOf 3 = .ok (.istore_n 3, 1) := by decide +kernel
theorem dX7_savingOf_4 : decode cX7_savingOf 4 = .ok (.iconst 0, 1) := by decide +kernel
theorem dX7_savingOf_5 : decode cX7_savingOf 5 = .ok (.istore 4, 2) := by decide +kernel
theorem dX7_savingOf_7 : decode cX7_savingOf 7 = .ok (.iload 4, 2) := by decide +kernel
theorem dX7_savingOf_9 : decode cX7_savingOf 9 = .ok (.aload_n 0, 1) := by decide +kernel
theorem dX7_savingOf_10 : decode cX7_savingOf 10 = .ok (.getfield 7, 3) := by decide +kernel
theorem dX7_savingOf_13 : decode cX7_savingOf 13 = .ok (.iconst 1, 1) := by decide +kernel
theorem dX7_savingOf_14 : decode cX7_savingOf 14 = .ok (.iaload, 1) := by decide +kernel
theorem dX7_savingOf_15 : decode cX7_savingOf 15 = .ok (.if_icmp .ge 65, 3) := by decide +kernel
theorem dX7_savingOf_18 : decode cX7_savingOf 18 = .ok (.aload_n 0, 1) := by decide +kernel
theorem dX7_savingOf_19 : decode cX7_savingOf 19 = .ok (.iconst 1, 1) := by decide +kernel
theorem dX7_savingOf_20 : decode cX7_savingOf 20 = .ok (.iload 4, 2) := by decide +kernel
theorem dX7_savingOf_22 : decode cX7_savingOf 22 = .ok (.invokevirtual 169, 3) := by decide +kernel
theorem dX7_savingOf_25 : decode cX7_savingOf 25 = .ok (.aload_n 0, 1) := by decide +kernel
theorem dX7_savingOf_26 : decode cX7_savingOf 26 = .ok (.iconst 1, 1) := by decide +kernel
theorem dX7_savingOf_27 : decode cX7_savingOf 27 = .ok (.invokevirtual 184, 3) := by decide +kernel
theorem dX7_savingOf_30 : decode cX7_savingOf 30 = .ok (.istore 5, 2) := by decide +kernel
theorem dX7_savingOf_32 : decode cX7_savingOf 32 = .ok (.iload_n 2, 1) := by decide +kernel
theorem dX7_savingOf_33 : decode cX7_savingOf 33 = .ok (.iconst (-1), 1) := by decide +kernel
theorem dX7_savingOf_34 : decode cX7_savingOf 34 = .ok (.if_icmp .eq 9, 3) := by decide +kernel
theorem dX7_savingOf_37 : decode cX7_savingOf 37 = .ok (.iload 5, 2) := by decide +kernel
theorem dX7_savingOf_39 : decode cX7_savingOf 39 = .ok (.iload_n 3, 1) := by decide +kernel
theorem dX7_savingOf_40 : decode cX7_savingOf 40 = .ok (.if_icmp .ge 7, 3) := by decide +kernel
theorem dX7_savingOf_43 : decode cX7_savingOf 43 = .ok (.iconst 1, 1) := by decide +kernel
theorem dX7_savingOf_44 : decode cX7_savingOf 44 = .ok (.goto 4, 3) := by decide +kernel
theorem dX7_savingOf_47 : decode cX7_savingOf 47 = .ok (.iconst 0, 1) := by decide +kernel
theorem dX7_savingOf_48 : decode cX7_savingOf 48 = .ok (.istore 6, 2) := by decide +kernel
theorem dX7_savingOf_50 : decode cX7_savingOf 50 = .ok (.iload 6, 2) := by decide +kernel
theorem dX7_savingOf_52 : decode cX7_savingOf 52 = .ok (.ifCond .eq 8, 3) := by decide +kernel
theorem dX7_savingOf_55 : decode cX7_savingOf 55 = .ok (.iload 4, 2) := by decide +kernel
theorem dX7_savingOf_57 : decode cX7_savingOf 57 = .ok (.goto 4, 3) := by decide +kernel
theorem dX7_savingOf_60 : decode cX7_savingOf 60 = .ok (.iload_n 2, 1) := by decide +kernel
theorem dX7_savingOf_61 : decode cX7_savingOf 61 = .ok (.istore_n 2, 1) := by decide +kernel
theorem dX7_savingOf_62 : decode cX7_savingOf 62 = .ok (.iload 6, 2) := by decide +kernel
theorem dX7_savingOf_64 : decode cX7_savingOf 64 = .ok (.ifCond .eq 8, 3) := by decide +kernel
theorem dX7_savingOf_67 : decode cX7_savingOf 67 = .ok (.iload 5, 2) := by decide +kernel
theorem dX7_savingOf_69 : decode cX7_savingOf 69 = .ok (.goto 4, 3) := by decide +kernel
theorem dX7_savingOf_72 : decode cX7_savingOf 72 = .ok (.iload_n 3, 1) := by decide +kernel
theorem dX7_savingOf_73 : decode cX7_savingOf 73 = .ok (.istore_n 3, 1) := by decide +kernel
theorem dX7_savingOf_74 : decode cX7_savingOf 74 = .ok (.iinc 4 1, 3) := by decide +kernel
theorem dX7_savingOf_77 : decode cX7_savingOf 77 = .ok (.goto (-70), 3) := by decide +kernel
theorem dX7_savingOf_80 : decode cX7_savingOf 80 = .ok (.iload_n 1, 1) := by decide +kernel
theorem dX7_savingOf_81 : decode cX7_savingOf 81 = .ok (.ifCond .ne 7, 3) := by decide +kernel
theorem dX7_savingOf_84 : decode cX7_savingOf 84 = .ok (.iload_n 2, 1) := by decide +kernel
theorem dX7_savingOf_85 : decode cX7_savingOf 85 = .ok (.goto 4, 3) := by decide +kernel
theorem dX7_savingOf_88 : decode cX7_savingOf 88 = .ok (.iload_n 3, 1) := by decide +kernel
theorem dX7_savingOf_89 : decode cX7_savingOf 89 = .ok (.ireturn, 1) := by decide +kernel
theorem dX7_saving_0 : decode cX7_saving 0 = .ok (.iload_n 1, 1) := by decide +kernel
theorem dX7_saving_1 : decode cX7_saving 1 = .ok (.iconst 0, 1) := by decide +kernel
theorem dX7_saving_2 : decode cX7_saving 2 = .ok (.iconst 1, 1) := by decide +kernel
theorem dX7_saving_3 : decode cX7_saving 3 = .ok (.invokestatic 69, 3) := by decide +kernel
theorem dX7_saving_6 : decode cX7_saving 6 = .ok (.ifCond .eq 11, 3) := by decide +kernel
theorem dX7_saving_9 : decode cX7_saving 9 = .ok (.aload_n 0, 1) := by decide +kernel
theorem dX7_saving_10 : decode cX7_saving 10 = .ok (.iload_n 1, 1) := by decide +kernel
theorem dX7_saving_11 : decode cX7_saving 11 = .ok (.invokevirtual 225, 3) := by decide +kernel
theorem dX7_saving_14 : decode cX7_saving 14 = .ok (.goto 5, 3) := by decide +kernel
theorem dX7_saving_17 : decode cX7_saving 17 = .ok (.bipush (-2), 2) := by decide +kernel
theorem dX7_saving_19 : decode cX7_saving 19 = .ok (.ireturn, 1) := by decide +kernel
theorem dX7_meets_0 : decode cX7_meets 0 = .ok (.aload_n 0, 1) := by decide +kernel
theorem dX7_meets_1 : decode cX7_meets 1 = .ok (.iload_n 1, 1) := by decide +kernel
theorem dX7_meets_2 : decode cX7_meets 2 = .ok (.putfield 228, 3) := by decide +kernel
theorem dX7_meets_5 : decode cX7_meets 5 = .ok (.bipush (-10), 2) := by decide +kernel
theorem dX7_meets_7 : decode cX7_meets 7 = .ok (.iload_n 1, 1) := by decide +kernel
theorem dX7_meets_8 : decode cX7_meets 8 = .ok (.isub, 1) := by decide +kernel
theorem dX7_meets_9 : decode cX7_meets 9 = .ok (.ireturn, 1) := by decide +kernel
theorem dX7_isSheet_0 : decode cX7_isSheet 0 = .ok (.iload_n 0, 1) := by decide +kernel
theorem dX7_isSheet_1 : decode cX7_isSheet 1 = .ok (.iconst 0, 1) := by decide +kernel
theorem dX7_isSheet_2 : decode cX7_isSheet 2 = .ok (.iconst 3, 1) := by decide +kernel
theorem dX7_isSheet_3 : decode cX7_isSheet 3 = .ok (.invokestatic 69, 3) := by decide +kernel
theorem dX7_isSheet_6 : decode cX7_isSheet 6 = .ok (.ireturn, 1) := by decide +kernel
theorem dX7_sheet_0 : decode cX7_sheet 0 = .ok (.iload_n 1, 1) := by decide +kernel
theorem dX7_sheet_1 : decode cX7_sheet 1 = .ok (.invokestatic 100, 3) := by decide +kernel
theorem dX7_sheet_4 : decode cX7_sheet 4 = .ok (.ifCond .eq 18, 3) := by decide +kernel
theorem dX7_sheet_7 : decode cX7_sheet 7 = .ok (.iload_n 2, 1) := by decide +kernel
theorem dX7_sheet_8 : decode cX7_sheet 8 = .ok (.iconst 0, 1) := by decide +kernel
theorem dX7_sheet_9 : decode cX7_sheet 9 = .ok (.iconst 2, 1) := by decide +kernel
theorem dX7_sheet_10 : decode cX7_sheet 10 = .ok (.invokestatic 69, 3) := by decide +kernel
theorem dX7_sheet_13 : decode cX7_sheet 13 = .ok (.ifCond .eq 9, 3) := by decide +kernel
theorem dX7_sheet_16 : decode cX7_sheet 16 = .ok (.iload_n 3, 1) := by decide +kernel
theorem dX7_sheet_17 : decode cX7_sheet 17 = .ok (.bipush 60, 2) := by decide +kernel
theorem dX7_sheet_19 : decode cX7_sheet 19 = .ok (.if_icmp .le 6, 3) := by decide +kernel
theorem dX7_sheet_22 : decode cX7_sheet 22 = .ok (.bipush (-2), 2) := by decide +kernel
theorem dX7_sheet_24 : decode cX7_sheet 24 = .ok (.ireturn, 1) := by decide +kernel
theorem dX7_sheet_25 : decode cX7_sheet 25 = .ok (.iload_n 3, 1) := by decide +kernel
theorem dX7_sheet_26 : decode cX7_sheet 26 = .ok (.ifCond .ge 9, 3) := by decide +kernel
theorem dX7_sheet_29 : decode cX7_sheet 29 = .ok (.aload_n 0, 1) := by decide +kernel
theorem dX7_sheet_30 : decode cX7_sheet 30 = .ok (.iconst 5, 1) := by decide +kernel
theorem dX7_sheet_31 : decode cX7_sheet 31 = .ok (.invokevirtual 103, 3) := by decide +kernel
theorem dX7_sheet_34 : decode cX7_sheet 34 = .ok (.ireturn, 1) := by decide +kernel
theorem dX7_sheet_35 : decode cX7_sheet 35 = .ok (.aload_n 0, 1) := by decide +kernel
theorem dX7_sheet_36 : decode cX7_sheet 36 = .ok (.getfield 52, 3) := by decide +kernel
theorem dX7_sheet_39 : decode cX7_sheet 39 = .ok (.iload_n 1, 1) := by decide +kernel
theorem dX7_sheet_40 : decode cX7_sheet 40 = .ok (.iconst 1, 1) := by decide +kernel
theorem dX7_sheet_41 : decode cX7_sheet 41 = .ok (.bastore, 1) := by decide +kernel
theorem dX7_sheet_42 : decode cX7_sheet 42 = .ok (.aload_n 0, 1) := by decide +kernel
theorem dX7_sheet_43 : decode cX7_sheet 43 = .ok (.getfield 56, 3) := by decide +kernel
theorem dX7_sheet_46 : decode cX7_sheet 46 = .ok (.iload_n 1, 1) := by decide +kernel
theorem dX7_sheet_47 : decode cX7_sheet 47 = .ok (.iload_n 2, 1) := by decide +kernel
theorem dX7_sheet_48 : decode cX7_sheet 48 = .ok (.iastore, 1) := by decide +kernel
theorem dX7_sheet_49 : decode cX7_sheet 49 = .ok (.aload_n 0, 1) := by decide +kernel
theorem dX7_sheet_50 : decode cX7_sheet 50 = .ok (.getfield 59, 3) := by decide +kernel
theorem dX7_sheet_53 : decode cX7_sheet 53 = .ok (.iload_n 1, 1) := by decide +kernel
theorem dX7_sheet_54 : decode cX7_sheet 54 = .ok (.iload_n 3, 1) := by decide +kernel
theorem dX7_sheet_55 : decode cX7_sheet 55 = .ok (.iastore, 1) := by decide +kernel
theorem dX7_sheet_56 : decode cX7_sheet 56 = .ok (.iconst 0, 1) := by decide +kernel
theorem dX7_sheet_57 : decode cX7_sheet 57 = .ok (.istore 4, 2) := by decide +kernel
theorem dX7_sheet_59 : decode cX7_sheet 59 = .ok (.iload 4, 2) := by decide +kernel
theorem dX7_sheet_61 : decode cX7_sheet 61 = .ok (.bipush 60, 2) := by decide +kernel
theorem dX7_sheet_63 : decode cX7_sheet 63 = .ok (.if_icmp .ge 22, 3) := by decide +kernel
theorem dX7_sheet_66 : decode cX7_sheet 66 = .ok (.aload_n 0, 1) := by decide +kernel
theorem dX7_sheet_67 : decode cX7_sheet 67 = .ok (.getfield 62, 3) := by decide +kernel
theorem dX7_sheet_70 : decode cX7_sheet 70 = .ok (.bipush 60, 2) := by decide +kernel
theorem dX7_sheet_72 : decode cX7_sheet 72 = .ok (.iload_n 1, 1) := by decide +kernel
theorem dX7_sheet_73 : decode cX7_sheet 73 = .ok (.imul, 1) := by decide +kernel
theorem dX7_sheet_74 : decode cX7_sheet 74 = .ok (.iload 4, 2) := by decide +kernel
theorem dX7_sheet_76 : decode cX7_sheet 76 = .ok (.iadd, 1) := by decide +kernel
theorem dX7_sheet_77 : decode cX7_sheet 77 = .ok (.iconst 0, 1) := by decide +kernel
theorem dX7_sheet_78 : decode cX7_sheet 78 = .ok (.iastore, 1) := by decide +kernel
theorem dX7_sheet_79 : decode cX7_sheet 79 = .ok (.iinc 4 1, 3) := by decide +kernel
theorem dX7_sheet_82 : decode cX7_sheet 82 = .ok (.goto (-23), 3) := by decide +kernel
theorem dX7_sheet_85 : decode cX7_sheet 85 = .ok (.iload_n 3, 1) := by decide +kernel
theorem dX7_sheet_86 : decode cX7_sheet 86 = .ok (.ireturn, 1) := by decide +kernel
theorem dX7_lose_0 : decode cX7_lose 0 = .ok (.iload_n 1, 1) := by decide +kernel
theorem dX7_lose_1 : decode cX7_lose 1 = .ok (.invokestatic 100, 3) := by decide +kernel
theorem dX7_lose_4 : decode cX7_lose 4 = .ok (.ifCond .ne 6, 3) := by decide +kernel
theorem dX7_lose_7 : decode cX7_lose 7 = .ok (.bipush (-2), 2) := by decide +kernel
theorem dX7_lose_9 : decode cX7_lose 9 = .ok (.ireturn, 1) := by decide +kernel
theorem dX7_lose_10 : decode cX7_lose 10 = .ok (.aload_n 0, 1) := by decide +kernel
theorem dX7_lose_11 : decode cX7_lose 11 = .ok (.getfield 52, 3) := by decide +kernel
theorem dX7_lose_14 : decode cX7_lose 14 = .ok (.iload_n 1, 1) := by decide +kernel
theorem dX7_lose_15 : decode cX7_lose 15 = .ok (.baload, 1) := by decide +kernel
theorem dX7_lose_16 : decode cX7_lose 16 = .ok (.ifCond .ne 9, 3) := by decide +kernel
theorem dX7_lose_19 : decode cX7_lose 19 = .ok (.aload_n 0, 1) := by decide +kernel
theorem dX7_lose_20 : decode cX7_lose 20 = .ok (.iconst 1, 1) := by decide +kernel
theorem dX7_lose_21 : decode cX7_lose 21 = .ok (.invokevirtual 103, 3) := by decide +kernel
theorem dX7_lose_24 : decode cX7_lose 24 = .ok (.ireturn, 1) := by decide +kernel
theorem dX7_lose_25 : decode cX7_lose 25 = .ok (.aload_n 0, 1) := by decide +kernel
theorem dX7_lose_26 : decode cX7_lose 26 = .ok (.getfield 52, 3) := by decide +kernel
theorem dX7_lose_29 : decode cX7_lose 29 = .ok (.iload_n 1, 1) := by decide +kernel
theorem dX7_lose_30 : decode cX7_lose 30 = .ok (.iconst 0, 1) := by decide +kernel
theorem dX7_lose_31 : decode cX7_lose 31 = .ok (.bastore, 1) := by decide +kernel
theorem dX7_lose_32 : decode cX7_lose 32 = .ok (.aload_n 0, 1) := by decide +kernel
theorem dX7_lose_33 : decode cX7_lose 33 = .ok (.getfield 59, 3) := by decide +kernel
theorem dX7_lose_36 : decode cX7_lose 36 = .ok (.iload_n 1, 1) := by decide +kernel
theorem dX7_lose_37 : decode cX7_lose 37 = .ok (.iaload, 1) := by decide +kernel
theorem dX7_lose_38 : decode cX7_lose 38 = .ok (.ireturn, 1) := by decide +kernel
theorem dX7_lacks_0 : decode cX7_lacks 0 = .ok (.aload_n 0, 1) := by decide +kernel
theorem dX7_lacks_1 : decode cX7_lacks 1 = .ok (.getfield 52, 3) := by decide +kernel
theorem dX7_lacks_4 : decode cX7_lacks 4 = .ok (.iload_n 1, 1) := by decide +kernel
theorem dX7_lacks_5 : decode cX7_lacks 5 = .ok (.baload, 1) := by decide +kernel
theorem dX7_lacks_6 : decode cX7_lacks 6 = .ok (.ifCond .ne 7, 3) := by decide +kernel
theorem dX7_lacks_9 : decode cX7_lacks 9 = .ok (.iconst 1, 1) := by decide +kernel
theorem dX7_lacks_10 : decode cX7_lacks 10 = .ok (.goto 38, 3) := by decide +kernel
theorem dX7_lacks_13 : decode cX7_lacks 13 = .ok (.aload_n 0, 1) := by decide +kernel
theorem dX7_lacks_14 : decode cX7_lacks 14 = .ok (.getfield 56, 3) := by decide +kernel
theorem dX7_lacks_17 : decode cX7_lacks 17 = .ok (.iload_n 1, 1) := by decide +kernel
theorem dX7_lacks_18 : decode cX7_lacks 18 = .ok (.iaload, 1) := by decide +kernel
theorem dX7_lacks_19 : decode cX7_lacks 19 = .ok (.iload_n 2, 1) := by decide +kernel
theorem dX7_lacks_20 : decode cX7_lacks 20 = .ok (.if_icmp .eq 7, 3) := by decide +kernel
theorem dX7_lacks_23 : decode cX7_lacks 23 = .ok (.iconst 3, 1) := by decide +kernel
theorem dX7_lacks_24 : decode cX7_lacks 24 = .ok (.goto 24, 3) := by decide +kernel
theorem dX7_lacks_27 : decode cX7_lacks 27 = .ok (.iload_n 3, 1) := by decide +kernel
theorem dX7_lacks_28 : decode cX7_lacks 28 = .ok (.iconst 0, 1) := by decide +kernel
theorem dX7_lacks_29 : decode cX7_lacks 29 = .ok (.aload_n 0, 1) := by decide +kernel
theorem dX7_lacks_30 : decode cX7_lacks 30 = .ok (.getfield 59, 3) := by decide +kernel
theorem dX7_lacks_33 : decode cX7_lacks 33 = .ok (.iload_n 1, 1) := by decide +kernel
theorem dX7_lacks_34 : decode cX7_lacks 34 = .ok (.iaload, 1) := by decide +kernel
theorem dX7_lacks_35 : decode cX7_lacks 35 = .ok (.iconst 1, 1) := by decide +kernel
theorem dX7_lacks_36 : decode cX7_lacks 36 = .ok (.isub, 1) := by decide +kernel
theorem dX7_lacks_37 : decode cX7_lacks 37 = .ok (.invokestatic 69, 3) := by decide +kernel
theorem dX7_lacks_40 : decode cX7_lacks 40 = .ok (.ifCond .eq 7, 3) := by decide +kernel
theorem dX7_lacks_43 : decode cX7_lacks 43 = .ok (.iconst 0, 1) := by decide +kernel
theorem dX7_lacks_44 : decode cX7_lacks 44 = .ok (.goto 4, 3) := by decide +kernel
theorem dX7_lacks_47 : decode cX7_lacks 47 = .ok (.iconst 2, 1) := by decide +kernel
theorem dX7_lacks_48 : decode cX7_lacks 48 = .ok (.ireturn, 1) := by decide +kernel
theorem dX7_keep_0 : decode cX7_keep 0 = .ok (.aload_n 0, 1) := by decide +kernel
theorem dX7_keep_1 : decode cX7_keep 1 = .ok (.getfield 62, 3) := by decide +kernel
theorem dX7_keep_4 : decode cX7_keep 4 = .ok (.bipush 60, 2) := by decide +kernel
theorem dX7_keep_6 : decode cX7_keep 6 = .ok (.iload_n 1, 1) := by decide +kernel
theorem dX7_keep_7 : decode cX7_keep 7 = .ok (.imul, 1) := by decide +kernel
theorem dX7_keep_8 : decode cX7_keep 8 = .ok (.iload_n 2, 1) := by decide +kernel
theorem dX7_keep_9 : decode cX7_keep 9 = .ok (.iadd, 1) := by decide +kernel
theorem dX7_keep_10 : decode cX7_keep 10 = .ok (.aload_n 0, 1) := by decide +kernel
theorem dX7_keep_11 : decode cX7_keep 11 = .ok (.getfield 56, 3) := by decide +kernel
theorem dX7_keep_14 : decode cX7_keep 14 = .ok (.iload_n 1, 1) := by decide +kernel
theorem dX7_keep_15 : decode cX7_keep 15 = .ok (.iaload, 1) := by decide +kernel
theorem dX7_keep_16 : decode cX7_keep 16 = .ok (.ifCond .ne 8, 3) := by decide +kernel
theorem dX7_keep_19 : decode cX7_keep 19 = .ok (.iload_n 3, 1) := by decide +kernel
theorem dX7_keep_20 : decode cX7_keep 20 = .ok (.i2b, 1) := by decide +kernel
theorem dX7_keep_21 : decode cX7_keep 21 = .ok (.goto 19, 3) := by decide +kernel
theorem dX7_keep_24 : decode cX7_keep 24 = .ok (.aload_n 0, 1) := by decide +kernel
theorem dX7_keep_25 : decode cX7_keep 25 = .ok (.getfield 56, 3) := by decide +kernel
theorem dX7_keep_28 : decode cX7_keep 28 = .ok (.iload_n 1, 1) := by decide +kernel
theorem dX7_keep_29 : decode cX7_keep 29 = .ok (.iaload, 1) := by decide +kernel
theorem dX7_keep_30 : decode cX7_keep 30 = .ok (.iconst 1, 1) := by decide +kernel
theorem dX7_keep_31 : decode cX7_keep 31 = .ok (.if_icmp .ne 8, 3) := by decide +kernel
theorem dX7_keep_34 : decode cX7_keep 34 = .ok (.iload_n 3, 1) := by decide +kernel
theorem dX7_keep_35 : decode cX7_keep 35 = .ok (.i2s, 1) := by decide +kernel
theorem dX7_keep_36 : decode cX7_keep 36 = .ok (.goto 4, 3) := by decide +kernel
theorem dX7_keep_39 : decode cX7_keep 39 = .ok (.iload_n 3, 1) := by decide +kernel
theorem dX7_keep_40 : decode cX7_keep 40 = .ok (.iastore, 1) := by decide +kernel
theorem dX7_keep_41 : decode cX7_keep 41 = .ok (.return_, 1) := by decide +kernel
theorem dX7_put_0 : decode cX7_put 0 = .ok (.iload_n 1, 1) := by decide +kernel
theorem dX7_put_1 : decode cX7_put 1 = .ok (.invokestatic 100, 3) := by decide +kernel
theorem dX7_put_4 : decode cX7_put 4 = .ok (.ifCond .eq 12, 3) := by decide +kernel
theorem dX7_put_7 : decode cX7_put 7 = .ok (.iload_n 2, 1) := by decide +kernel
theorem dX7_put_8 : decode cX7_put 8 = .ok (.iconst 0, 1) := by decide +kernel
theorem dX7_put_9 : decode cX7_put 9 = .ok (.iconst 2, 1) := by decide +kernel
theorem dX7_put_10 : decode cX7_put 10 = .ok (.invokestatic 69, 3) := by decide +kernel
theorem dX7_put_13 : decode cX7_put 13 = .ok (.ifCond .ne 6, 3) := by decide +kernel
theorem dX7_put_16 : decode cX7_put 16 = .ok (.bipush (-2), 2) := by decide +kernel
theorem dX7_put_18 : decode cX7_put 18 = .ok (.ireturn, 1) := by decide +kernel
theorem dX7_put_19 : decode cX7_put 19 = .ok (.aload_n 0, 1) := by decide +kernel
theorem dX7_put_20 : decode cX7_put 20 = .ok (.iload_n 1, 1) := by decide +kernel
theorem dX7_put_21 : decode cX7_put 21 = .ok (.iload_n 2, 1) := by decide +kernel
theorem dX7_put_22 : decode cX7_put 22 = .ok (.iload_n 3, 1) := by decide +kernel
theorem dX7_put_23 : decode cX7_put 23 = .ok (.invokevirtual 231, 3) := by decide +kernel
theorem dX7_put_26 : decode cX7_put 26 = .ok (.istore 5, 2) := by decide +kernel
theorem dX7_put_28 : decode cX7_put 28 = .ok (.iload 5, 2) := by decide +kernel
theorem dX7_put_30 : decode cX7_put 30 = .ok (.ifCond .le 10, 3) := by decide +kernel
theorem dX7_put_33 : decode cX7_put 33 = .ok (.aload_n 0, 1) := by decide +kernel
theorem dX7_put_34 : decode cX7_put 34 = .ok (.iload 5, 2) := by decide +kernel
theorem dX7_put_36 : decode cX7_put 36 = .ok (.invokevirtual 103, 3) := by decide +kernel
theorem dX7_put_39 : decode cX7_put 39 = .ok (.ireturn, 1) := by decide +kernel
theorem dX7_put_40 : decode cX7_put 40 = .ok (.aload_n 0, 1) := by decide +kernel
theorem dX7_put_41 : decode cX7_put 41 = .ok (.iload_n 1, 1) := by decide +kernel
theorem dX7_put_42 : decode cX7_put 42 = .ok (.iload_n 3, 1) := by decide +kernel
theorem dX7_put_43 : decode cX7_put 43 = .ok (.iload 4, 2) := by decide +kernel
theorem dX7_put_45 : decode cX7_put 45 = .ok (.invokevirtual 234, 3) := by decide +kernel
theorem dX7_put_48 : decode cX7_put 48 = .ok (.iconst 1, 1) := by decide +kernel
theorem dX7_put_49 : decode cX7_put 49 = .ok (.ireturn, 1) := by decide +kernel
theorem dX7_get_0 : decode cX7_get 0 = .ok (.iload_n 1, 1) := by decide +kernel
theorem dX7_get_1 : decode cX7_get 1 = .ok (.invokestatic 100, 3) := by decide +kernel
theorem dX7_get_4 : decode cX7_get 4 = .ok (.ifCond .eq 12, 3) := by decide +kernel
theorem dX7_get_7 : decode cX7_get 7 = .ok (.iload_n 2, 1) := by decide +kernel
theorem dX7_get_8 : decode cX7_get 8 = .ok (.iconst 0, 1) := by decide +kernel
theorem dX7_get_9 : decode cX7_get 9 = .ok (.iconst 2, 1) := by decide +kernel
theorem dX7_get_10 : decode cX7_get 10 = .ok (.invokestatic 69, 3) := by decide +kernel
theorem dX7_get_13 : decode cX7_get 13 = .ok (.ifCond .ne 6, 3) := by decide +kernel
theorem dX7_get_16 : decode cX7_get 16 = .ok (.ldc 238, 2) := by decide +kernel
theorem dX7_get_18 : decode cX7_get 18 = .ok (.ireturn, 1) := by decide +kernel
theorem dX7_get_19 : decode cX7_get 19 = .ok (.aload_n 0, 1) := by decide +kernel
theorem dX7_get_20 : decode cX7_get 20 = .ok (.iload_n 1, 1) := by decide +kernel
theorem dX7_get_21 : decode cX7_get 21 = .ok (.iload_n 2, 1) := by decide +kernel
theorem dX7_get_22 : decode cX7_get 22 = .ok (.iload_n 3, 1) := by decide +kernel
theorem dX7_get_23 : decode cX7_get 23 = .ok (.invokevirtual 231, 3) := by decide +kernel
theorem dX7_get_26 : decode cX7_get 26 = .ok (.istore 4, 2) := by decide +kernel
theorem dX7_get_28 : decode cX7_get 28 = .ok (.iload 4, 2) := by decide +kernel
theorem dX7_get_30 : decode cX7_get 30 = .ok (.ifCond .le 12, 3) := by decide +kernel
theorem dX7_get_33 : decode cX7_get 33 = .ok (.aload_n 0, 1) := by decide +kernel
theorem dX7_get_34 : decode cX7_get 34 = .ok (.iload 4, 2) := by decide +kernel
theorem dX7_get_36 : decode cX7_get 36 = .ok (.putfield 228, 3) := by decide +kernel
theorem dX7_get_39 : decode cX7_get 39 = .ok (.ldc 238, 2) := by decide +kernel
theorem dX7_get_41 : decode cX7_get 41 = .ok (.ireturn, 1) := by decide +kernel
theorem dX7_get_42 : decode cX7_get 42 = .ok (.aload_n 0, 1) := by decide +kernel
theorem dX7_get_43 : decode cX7_get 43 = .ok (.getfield 62, 3) := by decide +kernel
theorem dX7_get_46 : decode cX7_get 46 = .ok (.bipush 60, 2) := by decide +kernel
theorem dX7_get_48 : decode cX7_get 48 = .ok (.iload_n 1, 1) := by decide +kernel
theorem dX7_get_49 : decode cX7_get 49 = .ok (.imul, 1) := by decide +kernel
theorem dX7_get_50 : decode cX7_get 50 = .ok (.iload_n 3, 1) := by decide +kernel
theorem dX7_get_51 : decode cX7_get 51 = .ok (.iadd, 1) := by decide +kernel
theorem dX7_get_52 : decode cX7_get 52 = .ok (.iaload, 1) := by decide +kernel
theorem dX7_get_53 : decode cX7_get 53 = .ok (.ireturn, 1) := by decide +kernel
theorem dX7_copy_0 : decode cX7_copy 0 = .ok (.iload_n 1, 1) := by decide +kernel
theorem dX7_copy_1 : decode cX7_copy 1 = .ok (.invokestatic 100, 3) := by decide +kernel
theorem dX7_copy_4 : decode cX7_copy 4 = .ok (.ifCond .eq 10, 3) := by decide +kernel
theorem dX7_copy_7 : decode cX7_copy 7 = .ok (.iload_n 3, 1) := by decide +kernel
theorem dX7_copy_8 : decode cX7_copy 8 = .ok (.invokestatic 100, 3) := by decide +kernel
theorem dX7_copy_11 : decode cX7_copy 11 = .ok (.ifCond .ne 6, 3) := by decide +kernel
theorem dX7_copy_14 : decode cX7_copy 14 = .ok (.bipush (-2), 2) := by decide +kernel
theorem dX7_copy_16 : decode cX7_copy 16 = .ok (.ireturn, 1) := by decide +kernel
theorem dX7_copy_17 : decode cX7_copy 17 = .ok (.aload_n 0, 1) := by decide +kernel
theorem dX7_copy_18 : decode cX7_copy 18 = .ok (.getfield 52, 3) := by decide +kernel
theorem dX7_copy_21 : decode cX7_copy 21 = .ok (.iload_n 1, 1) := by decide +kernel
theorem dX7_copy_22 : decode cX7_copy 22 = .ok (.baload, 1) := by decide +kernel
theorem dX7_copy_23 : decode cX7_copy 23 = .ok (.ifCond .eq 12, 3) := by decide +kernel
theorem dX7_copy_26 : decode cX7_copy 26 = .ok (.aload_n 0, 1) := by decide +kernel
theorem dX7_copy_27 : decode cX7_copy 27 = .ok (.getfield 52, 3) := by decide +kernel
theorem dX7_copy_30 : decode cX7_copy 30 = .ok (.iload_n 3, 1) := by decide +kernel
theorem dX7_copy_31 : decode cX7_copy 31 = .ok (.baload, 1) := by decide +kernel
theorem dX7_copy_32 : decode cX7_copy 32 = .ok (.ifCond .ne 9, 3) := by decide +kernel
theorem dX7_copy_35 : decode cX7_copy 35 = .ok (.aload_n 0, 1) := by decide +kernel
theorem dX7_copy_36 : decode cX7_copy 36 = .ok (.iconst 1, 1) := by decide +kernel
theorem dX7_copy_37 : decode cX7_copy 37 = .ok (.invokevirtual 103, 3) := by decide +kernel
theorem dX7_copy_40 : decode cX7_copy 40 = .ok (.ireturn, 1) := by decide +kernel
theorem dX7_copy_41 : decode cX7_copy 41 = .ok (.aload_n 0, 1) := by decide +kernel
theorem dX7_copy_42 : decode cX7_copy 42 = .ok (.getfield 56, 3) := by decide +kernel
theorem dX7_copy_45 : decode cX7_copy 45 = .ok (.iload_n 1, 1) := by decide +kernel
theorem dX7_copy_46 : decode cX7_copy 46 = .ok (.iaload, 1) := by decide +kernel
theorem dX7_copy_47 : decode cX7_copy 47 = .ok (.aload_n 0, 1) := by decide +kernel
theorem dX7_copy_48 : decode cX7_copy 48 = .ok (.getfield 56, 3) := by decide +kernel
theorem dX7_copy_51 : decode cX7_copy 51 = .ok (.iload_n 3, 1) := by decide +kernel
theorem dX7_copy_52 : decode cX7_copy 52 = .ok (.iaload, 1) := by decide +kernel
theorem dX7_copy_53 : decode cX7_copy 53 = .ok (.if_icmp .eq 9, 3) := by decide +kernel
theorem dX7_copy_56 : decode cX7_copy 56 = .ok (.aload_n 0, 1) := by decide +kernel
theorem dX7_copy_57 : decode cX7_copy 57 = .ok (.iconst 4, 1) := by decide +kernel
theorem dX7_copy_58 : decode cX7_copy 58 = .ok (.invokevirtual 103, 3) := by decide +kernel
theorem dX7_copy_61 : decode cX7_copy 61 = .ok (.ireturn, 1) := by decide +kernel
theorem dX7_copy_62 : decode cX7_copy 62 = .ok (.iload_n 2, 1) := by decide +kernel
theorem dX7_copy_63 : decode cX7_copy 63 = .ok (.ifCond .lt 48, 3) := by decide +kernel
theorem dX7_copy_66 : decode cX7_copy 66 = .ok (.iload 4, 2) := by decide +kernel
theorem dX7_copy_68 : decode cX7_copy 68 = .ok (.ifCond .lt 43, 3) := by decide +kernel
theorem dX7_copy_71 : decode cX7_copy 71 = .ok (.iload 5, 2) := by decide +kernel
theorem dX7_copy_73 : decode cX7_copy 73 = .ok (.ifCond .lt 38, 3) := by decide +kernel
theorem dX7_copy_76 : decode cX7_copy 76 = .ok (.iload_n 2, 1) := by decide +kernel
theorem dX7_copy_77 : decode cX7_copy 77 = .ok (.i2l, 1) := by decide +kernel
theorem dX7_copy_78 : decode cX7_copy 78 = .ok (.iload 5, 2) := by decide +kernel
theorem dX7_copy_80 : decode cX7_copy 80 = .ok (.i2l, 1) := by decide +kernel
theorem dX7_copy_81 : decode cX7_copy 81 = .ok (.ladd, 1) := by decide +kernel
theorem dX7_copy_82 : decode cX7_copy 82 = .ok (.aload_n 0, 1) := by decide +kernel
theorem dX7_copy_83 : decode cX7_copy 83 = .ok (.getfield 59, 3) := by decide +kernel
theorem dX7_copy_86 : decode cX7_copy 86 = .ok (.iload_n 1, 1) := by decide +kernel
theorem dX7_copy_87 : decode cX7_copy 87 = .ok (.iaload, 1) := by decide +kernel
theorem dX7_copy_88 : decode cX7_copy 88 = .ok (.i2l, 1) := by decide +kernel
theorem dX7_copy_89 : decode cX7_copy 89 = .ok (.lcmp, 1) := by decide +kernel
theorem dX7_copy_90 : decode cX7_copy 90 = .ok (.ifCond .gt 21, 3) := by decide +kernel
theorem dX7_copy_93 : decode cX7_copy 93 = .ok (.iload 4, 2) := by decide +kernel
theorem dX7_copy_95 : decode cX7_copy 95 = .ok (.i2l, 1) := by decide +kernel
theorem dX7_copy_96 : decode cX7_copy 96 = .ok (.iload 5, 2) := by decide +kernel
theorem dX7_copy_98 : decode cX7_copy 98 = .ok (.i2l, 1) := by decide +kernel
theorem dX7_copy_99 : decode cX7_copy 99 = .ok (.ladd, 1) := by decide +kernel
theorem dX7_copy_100 : decode cX7_copy 100 = .ok (.aload_n 0, 1) := by decide +kernel
theorem dX7_copy_101 : decode cX7_copy 101 = .ok (.getfield 59, 3) := by decide +kernel
theorem dX7_copy_104 : decode cX7_copy 104 = .ok (.iload_n 3, 1) := by decide +kernel
theorem dX7_copy_105 : decode cX7_copy 105 = .ok (.iaload, 1) := by decide +kernel
theorem dX7_copy_106 : decode cX7_copy 106 = .ok (.i2l, 1) := by decide +kernel
theorem dX7_copy_107 : decode cX7_copy 107 = .ok (.lcmp, 1) := by decide +kernel
theorem dX7_copy_108 : decode cX7_copy 108 = .ok (.ifCond .le 9, 3) := by decide +kernel
theorem dX7_copy_111 : decode cX7_copy 111 = .ok (.aload_n 0, 1) := by decide +kernel
theorem dX7_copy_112 : decode cX7_copy 112 = .ok (.iconst 2, 1) := by decide +kernel
theorem dX7_copy_113 : decode cX7_copy 113 = .ok (.invokevirtual 103, 3) := by decide +kernel
theorem dX7_copy_116 : decode cX7_copy 116 = .ok (.ireturn, 1) := by decide +kernel
theorem dX7_copy_117 : decode cX7_copy 117 = .ok (.iconst 0, 1) := by decide +kernel
theorem dX7_copy_118 : decode cX7_copy 118 = .ok (.istore 6, 2) := by decide +kernel
theorem dX7_copy_120 : decode cX7_copy 120 = .ok (.iload 6, 2) := by decide +kernel
theorem dX7_copy_122 : decode cX7_copy 122 = .ok (.iload 5, 2) := by decide +kernel
theorem dX7_copy_124 : decode cX7_copy 124 = .ok (.if_icmp .ge 30, 3) := by decide +kernel
theorem dX7_copy_127 : decode cX7_copy 127 = .ok (.aload_n 0, 1) := by decide +kernel
theorem dX7_copy_128 : decode cX7_copy 128 = .ok (.getfield 65, 3) := by decide +kernel
theorem dX7_copy_131 : decode cX7_copy 131 = .ok (.iload 6, 2) := by decide +kernel
theorem dX7_copy_133 : decode cX7_copy 133 = .ok (.aload_n 0, 1) := by decide +kernel
theorem dX7_copy_134 : decode cX7_copy 134 = .ok (.getfield 62, 3) := by decide +kernel
theorem dX7_copy_137 : decode cX7_copy 137 = .ok (.bipush 60, 2) := by decide +kernel
theorem dX7_copy_139 : decode cX7_copy 139 = .ok (.iload_n 1, 1) := by decide +kernel
theorem dX7_copy_140 : decode cX7_copy 140 = .ok (.imul, 1) := by decide +kernel
theorem dX7_copy_141 : decode cX7_copy 141 = .ok (.iload_n 2, 1) := by decide +kernel
theorem dX7_copy_142 : decode cX7_copy 142 = .ok (.iadd, 1) := by decide +kernel
theorem dX7_copy_143 : decode cX7_copy 143 = .ok (.iload 6, 2) := by decide +kernel
theorem dX7_copy_145 : decode cX7_copy 145 = .ok (.iadd, 1) := by decide +kernel
theorem dX7_copy_146 : decode cX7_copy 146 = .ok (.iaload, 1) := by decide +kernel
theorem dX7_copy_147 : decode cX7_copy 147 = .ok (.iastore, 1) := by decide +kernel
theorem dX7_copy_148 : decode cX7_copy 148 = .ok (.iinc 6 1, 3) := by decide +kernel
theorem dX7_copy_151 : decode cX7_copy 151 = .ok (.goto (-31), 3) := by decide +kernel
theorem dX7_copy_154 : decode cX7_copy 154 = .ok (.iconst 0, 1) := by decide +kernel
theorem dX7_copy_155 : decode cX7_copy 155 = .ok (.istore 6, 2) := by decide +kernel
theorem dX7_copy_157 : decode cX7_copy 157 = .ok (.iload 6, 2) := by decide +kernel
theorem dX7_copy_159 : decode cX7_copy 159 = .ok (.iload 5, 2) := by decide +kernel
theorem dX7_copy_161 : decode cX7_copy 161 = .ok (.if_icmp .ge 31, 3) := by decide +kernel
theorem dX7_copy_164 : decode cX7_copy 164 = .ok (.aload_n 0, 1) := by decide +kernel
theorem dX7_copy_165 : decode cX7_copy 165 = .ok (.getfield 62, 3) := by decide +kernel
theorem dX7_copy_168 : decode cX7_copy 168 = .ok (.bipush 60, 2) := by decide +kernel
theorem dX7_copy_170 : decode cX7_copy 170 = .ok (.iload_n 3, 1) := by decide +kernel
theorem dX7_copy_171 : decode cX7_copy 171 = .ok (.imul, 1) := by decide +kernel
theorem dX7_copy_172 : decode cX7_copy 172 = .ok (.iload 4, 2) := by decide +kernel
theorem dX7_copy_174 : decode cX7_copy 174 = .ok (.iadd, 1) := by decide +kernel
theorem dX7_copy_175 : decode cX7_copy 175 = .ok (.iload 6, 2) := by decide +kernel
theorem dX7_copy_177 : decode cX7_copy 177 = .ok (.iadd, 1) := by decide +kernel
theorem dX7_copy_178 : decode cX7_copy 178 = .ok (.aload_n 0, 1) := by decide +kernel
theorem dX7_copy_179 : decode cX7_copy 179 = .ok (.getfield 65, 3) := by decide +kernel
theorem dX7_copy_182 : decode cX7_copy 182 = .ok (.iload 6, 2) := by decide +kernel
theorem dX7_copy_184 : decode cX7_copy 184 = .ok (.iaload, 1) := by decide +kernel
theorem dX7_copy_185 : decode cX7_copy 185 = .ok (.iastore, 1) := by decide +kernel
theorem dX7_copy_186 : decode cX7_copy 186 = .ok (.iinc 6 1, 3) := by decide +kernel
theorem dX7_copy_189 : decode cX7_copy 189 = .ok (.goto (-32), 3) := by decide +kernel
theorem dX7_copy_192 : decode cX7_copy 192 = .ok (.iconst 1, 1) := by decide +kernel
theorem dX7_copy_193 : decode cX7_copy 193 = .ok (.ireturn, 1) := by decide +kernel
theorem dX7_write_0 : decode cX7_write 0 = .ok (.iload_n 1, 1) := by decide +kernel
theorem dX7_write_1 : decode cX7_write 1 = .ok (.invokestatic 82, 3) := by decide +kernel
theorem dX7_write_4 : decode cX7_write 4 = .ok (.ifCond .eq 10, 3) := by decide +kernel
theorem dX7_write_7 : decode cX7_write 7 = .ok (.iload_n 2, 1) := by decide +kernel
theorem dX7_write_8 : decode cX7_write 8 = .ok (.invokestatic 100, 3) := by decide +kernel
theorem dX7_write_11 : decode cX7_write 11 = .ok (.ifCond .ne 6, 3) := by decide +kernel
theorem dX7_write_14 : decode cX7_write 14 = .ok (.bipush (-2), 2) := by decide +kernel
theorem dX7_write_16 : decode cX7_write 16 = .ok (.ireturn, 1) := by decide +kernel
theorem dX7_write_17 : decode cX7_write 17 = .ok (.aload_n 0, 1) := by decide +kernel
theorem dX7_write_18 : decode cX7_write 18 = .ok (.getfield 52, 3) := by decide +kernel
theorem dX7_write_21 : decode cX7_write 21 = .ok (.iload_n 2, 1) := by decide +kernel
theorem dX7_write_22 : decode cX7_write 22 = .ok (.baload, 1) := by decide +kernel
theorem dX7_write_23 : decode cX7_write 23 = .ok (.ifCond .ne 9, 3) := by decide +kernel
theorem dX7_write_26 : decode cX7_write 26 = .ok (.aload_n 0, 1) := by decide +kernel
theorem dX7_write_27 : decode cX7_write 27 = .ok (.iconst 1, 1) := by decide +kernel
theorem dX7_write_28 : decode cX7_write 28 = .ok (.invokevirtual 103, 3) := by decide +kernel
theorem dX7_write_31 : decode cX7_write 31 = .ok (.ireturn, 1) := by decide +kernel
theorem dX7_write_32 : decode cX7_write 32 = .ok (.iconst 2, 1) := by decide +kernel
theorem dX7_write_33 : decode cX7_write 33 = .ok (.aload_n 0, 1) := by decide +kernel
theorem dX7_write_34 : decode cX7_write 34 = .ok (.iload_n 1, 1) := by decide +kernel
theorem dX7_write_35 : decode cX7_write 35 = .ok (.invokevirtual 172, 3) := by decide +kernel
theorem dX7_write_38 : decode cX7_write 38 = .ok (.imul, 1) := by decide +kernel
theorem dX7_write_39 : decode cX7_write 39 = .ok (.istore_n 3, 1) := by decide +kernel
theorem dX7_write_40 : decode cX7_write 40 = .ok (.iconst 0, 1) := by decide +kernel
theorem dX7_write_41 : decode cX7_write 41 = .ok (.istore 4, 2) := by decide +kernel
theorem dX7_write_43 : decode cX7_write 43 = .ok (.iload 4, 2) := by decide +kernel
theorem dX7_write_45 : decode cX7_write 45 = .ok (.aload_n 0, 1) := by decide +kernel
theorem dX7_write_46 : decode cX7_write 46 = .ok (.getfield 59, 3) := by decide +kernel
theorem dX7_write_49 : decode cX7_write 49 = .ok (.iload_n 2, 1) := by decide +kernel
theorem dX7_write_50 : decode cX7_write 50 = .ok (.iaload, 1) := by decide +kernel
theorem dX7_write_51 : decode cX7_write 51 = .ok (.if_icmp .ge 60, 3) := by decide +kernel
theorem dX7_write_54 : decode cX7_write 54 = .ok (.iload 4, 2) := by decide +kernel
theorem dX7_write_56 : decode cX7_write 56 = .ok (.iload_n 3, 1) := by decide +kernel
theorem dX7_write_57 : decode cX7_write 57 = .ok (.if_icmp .ge 54, 3) := by decide +kernel
theorem dX7_write_60 : decode cX7_write 60 = .ok (.aload_n 0, 1) := by decide +kernel
theorem dX7_write_61 : decode cX7_write 61 = .ok (.iload_n 2, 1) := by decide +kernel
theorem dX7_write_62 : decode cX7_write 62 = .ok (.iload 4, 2) := by decide +kernel
theorem dX7_write_64 : decode cX7_write 64 = .ok (.iload 4, 2) := by decide +kernel
theorem dX7_write_66 : decode cX7_write 66 = .ok (.iconst 2, 1) := by decide +kernel
theorem dX7_write_67 : decode cX7_write 67 = .ok (.irem, 1) := by decide +kernel
theorem dX7_write_68 : decode cX7_write 68 = .ok (.ifCond .ne 20, 3) := by decide +kernel
theorem dX7_write_71 : decode cX7_write 71 = .ok (.aload_n 0, 1) := by decide +kernel
theorem dX7_write_72 : decode cX7_write 72 = .ok (.getfield 40, 3) := by decide +kernel
theorem dX7_write_75 : decode cX7_write 75 = .ok (.bipush 8, 2) := by decide +kernel
theorem dX7_write_77 : decode cX7_write 77 = .ok (.iload_n 1, 1) := by decide +kernel
theorem dX7_write_78 : decode cX7_write 78 = .ok (.imul, 1) := by decide +kernel
theorem dX7_write_79 : decode cX7_write 79 = .ok (.iload 4, 2) := by decide +kernel
theorem dX7_write_81 : decode cX7_write 81 = .ok (.iconst 2, 1) := by decide +kernel
theorem dX7_write_82 : decode cX7_write 82 = .ok (.idiv, 1) := by decide +kernel
theorem dX7_write_83 : decode cX7_write 83 = .ok (.iadd, 1) := by decide +kernel
theorem dX7_write_84 : decode cX7_write 84 = .ok (.iaload, 1) := by decide +kernel
theorem dX7_write_85 : decode cX7_write 85 = .ok (.goto 17, 3) := by decide +kernel
theorem dX7_write_88 : decode cX7_write 88 = .ok (.aload_n 0, 1) := by decide +kernel
theorem dX7_write_89 : decode cX7_write 89 = .ok (.getfield 43, 3) := by decide +kernel
theorem dX7_write_92 : decode cX7_write 92 = .ok (.bipush 8, 2) := by decide +kernel
theorem dX7_write_94 : decode cX7_write 94 = .ok (.iload_n 1, 1) := by decide +kernel
theorem dX7_write_95 : decode cX7_write 95 = .ok (.imul, 1) := by decide +kernel
theorem dX7_write_96 : decode cX7_write 96 = .ok (.iload 4, 2) := by decide +kernel
theorem dX7_write_98 : decode cX7_write 98 = .ok (.iconst 2, 1) := by decide +kernel
theorem dX7_write_99 : decode cX7_write 99 = .ok (.idiv, 1) := by decide +kernel
theorem dX7_write_100 : decode cX7_write 100 = .ok (.iadd, 1) := by decide +kernel
theorem dX7_write_101 : decode cX7_write 101 = .ok (.iaload, 1) := by decide +kernel
theorem dX7_write_102 : decode cX7_write 102 = .ok (.invokevirtual 234, 3) := by decide +kernel
theorem dX7_write_105 : decode cX7_write 105 = .ok (.iinc 4 1, 3) := by decide +kernel
theorem dX7_write_108 : decode cX7_write 108 = .ok (.goto (-65), 3) := by decide +kernel
theorem dX7_write_111 : decode cX7_write 111 = .ok (.iload 4, 2) := by decide +kernel
theorem dX7_write_113 : decode cX7_write 113 = .ok (.ireturn, 1) := by decide +kernel
theorem dX7_keptOf_0 : decode cX7_keptOf 0 = .ok (.aload_n 0, 1) := by decide +kernel
theorem dX7_keptOf_1 : decode cX7_keptOf 1 = .ok (.invokevirtual 206, 3) := by decide +kernel
theorem dX7_keptOf_4 : decode cX7_keptOf 4 = .ok (.iconst 0, 1) := by decide +kernel
theorem dX7_keptOf_5 : decode cX7_keptOf 5 = .ok (.istore_n 1, 1) := by decide +kernel
theorem dX7_keptOf_6 : decode cX7_keptOf 6 = .ok (.iconst 0, 1) := by decide +kernel
theorem dX7_keptOf_7 : decode cX7_keptOf 7 = .ok (.istore_n 2, 1) := by decide +kernel
theorem dX7_keptOf_8 : decode cX7_keptOf 8 = .ok (.iload_n 2, 1) := by decide +kernel
theorem dX7_keptOf_9 : decode cX7_keptOf 9 = .ok (.aload_n 0, 1) := by decide +kernel
theorem dX7_keptOf_10 : decode cX7_keptOf 10 = .ok (.getfield 7, 3) := by decide +kernel
theorem dX7_keptOf_13 : decode cX7_keptOf 13 = .ok (.iconst 1, 1) := by decide +kernel
theorem dX7_keptOf_14 : decode cX7_keptOf 14 = .ok (.iaload, 1) := by decide +kernel
theorem dX7_keptOf_15 : decode cX7_keptOf 15 = .ok (.if_icmp .ge 26, 3) := by decide +kernel
theorem dX7_keptOf_18 : decode cX7_keptOf 18 = .ok (.iload_n 1, 1) := by decide +kernel
theorem dX7_keptOf_19 : decode cX7_keptOf 19 = .ok (.aload_n 0, 1) := by decide +kernel
theorem dX7_keptOf_20 : decode cX7_keptOf 20 = .ok (.iload_n 2, 1) := by decide +kernel
theorem dX7_keptOf_21 : decode cX7_keptOf 21 = .ok (.invokevirtual 209, 3) := by decide +kernel
theorem dX7_keptOf_24 : decode cX7_keptOf 24 = .ok (.iconst 1, 1) := by decide +kernel
theorem dX7_keptOf_25 : decode cX7_keptOf 25 = .ok (.if_icmp .ne 7, 3) := by decide +kernel
theorem dX7_keptOf_28 : decode cX7_keptOf 28 = .ok (.iconst 1, 1) := by decide +kernel
theorem dX7_keptOf_29 : decode cX7_keptOf 29 = .ok (.goto 4, 3) := by decide +kernel
theorem dX7_keptOf_32 : decode cX7_keptOf 32 = .ok (.iconst 0, 1) := by decide +kernel
theorem dX7_keptOf_33 : decode cX7_keptOf 33 = .ok (.iadd, 1) := by decide +kernel
theorem dX7_keptOf_34 : decode cX7_keptOf 34 = .ok (.istore_n 1, 1) := by decide +kernel
theorem dX7_keptOf_35 : decode cX7_keptOf 35 = .ok (.iinc 2 1, 3) := by decide +kernel
theorem dX7_keptOf_38 : decode cX7_keptOf 38 = .ok (.goto (-30), 3) := by decide +kernel
theorem dX7_keptOf_41 : decode cX7_keptOf 41 = .ok (.iload_n 1, 1) := by decide +kernel
theorem dX7_keptOf_42 : decode cX7_keptOf 42 = .ok (.ireturn, 1) := by decide +kernel
theorem dX7_count_0 : decode cX7_count 0 = .ok (.iload_n 1, 1) := by decide +kernel
theorem dX7_count_1 : decode cX7_count 1 = .ok (.tableswitch 96 0 8 #[51, 51, 58, 58, 67, 73, 78, 85, 91], 51) := by decide +kernel
theorem dX7_count_52 : decode cX7_count 52 = .ok (.aload_n 0, 1) := by decide +kernel
theorem dX7_count_53 : decode cX7_count 53 = .ok (.getfield 7, 3) := by decide +kernel
theorem dX7_count_56 : decode cX7_count 56 = .ok (.iload_n 1, 1) := by decide +kernel
theorem dX7_count_57 : decode cX7_count 57 = .ok (.iaload, 1) := by decide +kernel
theorem dX7_count_58 : decode cX7_count 58 = .ok (.ireturn, 1) := by decide +kernel
theorem dX7_count_59 : decode cX7_count 59 = .ok (.aload_n 0, 1) := by decide +kernel
theorem dX7_count_60 : decode cX7_count 60 = .ok (.iload_n 1, 1) := by decide +kernel
theorem dX7_count_61 : decode cX7_count 61 = .ok (.iconst 2, 1) := by decide +kernel
theorem dX7_count_62 : decode cX7_count 62 = .ok (.isub, 1) := by decide +kernel
theorem dX7_count_63 : decode cX7_count 63 = .ok (.iconst 1, 1) := by decide +kernel
theorem dX7_count_64 : decode cX7_count 64 = .ok (.invokevirtual 193, 3) := by decide +kernel
theorem dX7_count_67 : decode cX7_count 67 = .ok (.ireturn, 1) := by decide +kernel
theorem dX7_count_68 : decode cX7_count 68 = .ok (.aload_n 0, 1) := by decide +kernel
theorem dX7_count_69 : decode cX7_count 69 = .ok (.iconst 1, 1) := by decide +kernel
theorem dX7_count_70 : decode cX7_count 70 = .ok (.invokevirtual 172, 3) := by decide +kernel
theorem dX7_count_73 : decode cX7_count 73 = .ok (.ireturn, 1) := by decide +kernel
theorem dX7_count_74 : decode cX7_count 74 = .ok (.aload_n 0, 1) := by decide +kernel
theorem dX7_count_75 : decode cX7_count 75 = .ok (.invokevirtual 239, 3) := by decide +kernel
theorem dX7_count_78 : decode cX7_count 78 = .ok (.ireturn, 1) := by decide +kernel
theorem dX7_count_79 : decode cX7_count 79 = .ok (.aload_n 0, 1) := by decide +kernel
theorem dX7_count_80 : decode cX7_count 80 = .ok (.getfield 28, 3) := by decide +kernel
theorem dX7_count_83 : decode cX7_count 83 = .ok (.iconst 0, 1) := by decide +kernel
theorem dX7_count_84 : decode cX7_count 84 = .ok (.iaload, 1) := by decide +kernel
theorem dX7_count_85 : decode cX7_count 85 = .ok (.ireturn, 1) := by decide +kernel
theorem dX7_count_86 : decode cX7_count 86 = .ok (.aload_n 0, 1) := by decide +kernel
theorem dX7_count_87 : decode cX7_count 87 = .ok (.iconst (-1), 1) := by decide +kernel
theorem dX7_count_88 : decode cX7_count 88 = .ok (.invokevirtual 222, 3) := by decide +kernel
theorem dX7_count_91 : decode cX7_count 91 = .ok (.ireturn, 1) := by decide +kernel
theorem dX7_count_92 : decode cX7_count 92 = .ok (.aload_n 0, 1) := by decide +kernel
theorem dX7_count_93 : decode cX7_count 93 = .ok (.getfield 228, 3) := by decide +kernel
theorem dX7_count_96 : decode cX7_count 96 = .ok (.ireturn, 1) := by decide +kernel
theorem dX7_count_97 : decode cX7_count 97 = .ok (.bipush (-2), 2) := by decide +kernel
theorem dX7_count_99 : decode cX7_count 99 = .ok (.ireturn, 1) := by decide +kernel
theorem dX7_listDigest_0 : decode cX7_listDigest 0 = .ok (.lload_n 1, 1) := by decide +kernel
theorem dX7_listDigest_1 : decode cX7_listDigest 1 = .ok (.lstore 4, 2) := by decide +kernel
theorem dX7_listDigest_3 : decode cX7_listDigest 3 = .ok (.iconst 0, 1) := by decide +kernel
theorem dX7_listDigest_4 : decode cX7_listDigest 4 = .ok (.istore 6, 2) := by decide +kernel
theorem dX7_listDigest_6 : decode cX7_listDigest 6 = .ok (.iload 6, 2) := by decide +kernel
theorem dX7_listDigest_8 : decode cX7_listDigest 8 = .ok (.aload_n 0, 1) := by decide +kernel
theorem dX7_listDigest_9 : decode cX7_listDigest 9 = .ok (.getfield 7, 3) := by decide +kernel
theorem dX7_listDigest_12 : decode cX7_listDigest 12 = .ok (.iload_n 3, 1) := by decide +kernel
theorem dX7_listDigest_13 : decode cX7_listDigest 13 = .ok (.iaload, 1) := by decide +kernel
theorem dX7_listDigest_14 : decode cX7_listDigest 14 = .ok (.if_icmp .ge 88, 3) := by decide +kernel
theorem dX7_listDigest_17 : decode cX7_listDigest 17 = .ok (.iconst 0, 1) := by decide +kernel
theorem dX7_listDigest_18 : decode cX7_listDigest 18 = .ok (.istore 7, 2) := by decide +kernel
theorem dX7_listDigest_20 : decode cX7_listDigest 20 = .ok (.iload 7, 2) := by decide +kernel
theorem dX7_listDigest_22 : decode cX7_listDigest 22 = .ok (.bipush 8, 2) := by decide +kernel
theorem dX7_listDigest_24 : decode cX7_listDigest 24 = .ok (.if_icmp .ge 28, 3) := by decide +kernel
theorem dX7_listDigest_27 : decode cX7_listDigest 27 = .ok (.ldc2_w 242, 3) := by decide +kernel
theorem dX7_listDigest_30 : decode cX7_listDigest 30 = .ok (.lload 4, 2) := by decide +kernel
theorem dX7_listDigest_32 : decode cX7_listDigest 32 = .ok (.lmul, 1) := by decide +kernel
theorem dX7_listDigest_33 : decode cX7_listDigest 33 = .ok (.aload_n 0, 1) := by decide +kernel
theorem dX7_listDigest_34 : decode cX7_listDigest 34 = .ok (.iload_n 3, 1) := by decide +kernel
theorem dX7_listDigest_35 : decode cX7_listDigest 35 = .ok (.iload 6, 2) := by decide +kernel
theorem dX7_listDigest_37 : decode cX7_listDigest 37 = .ok (.iload 7, 2) := by decide +kernel
theorem dX7_listDigest_39 : decode cX7_listDigest 39 = .ok (.invokevirtual 117, 3) := by decide +kernel
theorem dX7_listDigest_42 : decode cX7_listDigest 42 = .ok (.i2l, 1) := by decide +kernel
theorem dX7_listDigest_43 : decode cX7_listDigest 43 = .ok (.ladd, 1) := by decide +kernel
theorem dX7_listDigest_44 : decode cX7_listDigest 44 = .ok (.lstore 4, 2) := by decide +kernel
theorem dX7_listDigest_46 : decode cX7_listDigest 46 = .ok (.iinc 7 1, 3) := by decide +kernel
theorem dX7_listDigest_49 : decode cX7_listDigest 49 = .ok (.goto (-29), 3) := by decide +kernel
theorem dX7_listDigest_52 : decode cX7_listDigest 52 = .ok (.ldc2_w 242, 3) := by decide +kernel
theorem dX7_listDigest_55 : decode cX7_listDigest 55 = .ok (.lload 4, 2) := by decide +kernel
theorem dX7_listDigest_57 : decode cX7_listDigest 57 = .ok (.lmul, 1) := by decide +kernel
theorem dX7_listDigest_58 : decode cX7_listDigest 58 = .ok (.aload_n 0, 1) := by decide +kernel
theorem dX7_listDigest_59 : decode cX7_listDigest 59 = .ok (.bipush 8, 2) := by decide +kernel
theorem dX7_listDigest_61 : decode cX7_listDigest 61 = .ok (.iload_n 3, 1) := by decide +kernel
theorem dX7_listDigest_62 : decode cX7_listDigest 62 = .ok (.imul, 1) := by decide +kernel
theorem dX7_listDigest_63 : decode cX7_listDigest 63 = .ok (.iload 6, 2) := by decide +kernel
theorem dX7_listDigest_65 : decode cX7_listDigest 65 = .ok (.iadd, 1) := by decide +kernel
theorem dX7_listDigest_66 : decode cX7_listDigest 66 = .ok (.iconst 0, 1) := by decide +kernel
theorem dX7_listDigest_67 : decode cX7_listDigest 67 = .ok (.invokevirtual 129, 3) := by decide +kernel
theorem dX7_listDigest_70 : decode cX7_listDigest 70 = .ok (.i2l, 1) := by decide +kernel
theorem dX7_listDigest_71 : decode cX7_listDigest 71 = .ok (.ladd, 1) := by decide +kernel
theorem dX7_listDigest_72 : decode cX7_listDigest 72 = .ok (.lstore 4, 2) := by decide +kernel
theorem dX7_listDigest_74 : decode cX7_listDigest 74 = .ok (.ldc2_w 242, 3) := by decide +kernel
theorem dX7_listDigest_77 : decode cX7_listDigest 77 = .ok (.lload 4, 2) := by decide +kernel
theorem dX7_listDigest_79 : decode cX7_listDigest 79 = .ok (.lmul, 1) := by decide +kernel
theorem dX7_listDigest_80 : decode cX7_listDigest 80 = .ok (.aload_n 0, 1) := by decide +kernel
theorem dX7_listDigest_81 : decode cX7_listDigest 81 = .ok (.bipush 8, 2) := by decide +kernel
theorem dX7_listDigest_83 : decode cX7_listDigest 83 = .ok (.iload_n 3, 1) := by decide +kernel
theorem dX7_listDigest_84 : decode cX7_listDigest 84 = .ok (.imul, 1) := by decide +kernel
theorem dX7_listDigest_85 : decode cX7_listDigest 85 = .ok (.iload 6, 2) := by decide +kernel
theorem dX7_listDigest_87 : decode cX7_listDigest 87 = .ok (.iadd, 1) := by decide +kernel
theorem dX7_listDigest_88 : decode cX7_listDigest 88 = .ok (.iconst 1, 1) := by decide +kernel
theorem dX7_listDigest_89 : decode cX7_listDigest 89 = .ok (.invokevirtual 129, 3) := by decide +kernel
theorem dX7_listDigest_92 : decode cX7_listDigest 92 = .ok (.i2l, 1) := by decide +kernel
theorem dX7_listDigest_93 : decode cX7_listDigest 93 = .ok (.ladd, 1) := by decide +kernel
theorem dX7_listDigest_94 : decode cX7_listDigest 94 = .ok (.lstore 4, 2) := by decide +kernel
theorem dX7_listDigest_96 : decode cX7_listDigest 96 = .ok (.iinc 6 1, 3) := by decide +kernel
theorem dX7_listDigest_99 : decode cX7_listDigest 99 = .ok (.goto (-93), 3) := by decide +kernel
theorem dX7_listDigest_102 : decode cX7_listDigest 102 = .ok (.iconst 0, 1) := by decide +kernel
theorem dX7_listDigest_103 : decode cX7_listDigest 103 = .ok (.istore 6, 2) := by decide +kernel
theorem dX7_listDigest_105 : decode cX7_listDigest 105 = .ok (.iload 6, 2) := by decide +kernel
theorem dX7_listDigest_107 : decode cX7_listDigest 107 = .ok (.bipush 8, 2) := by decide +kernel
theorem dX7_listDigest_109 : decode cX7_listDigest 109 = .ok (.if_icmp .ge 43, 3) := by decide +kernel
theorem dX7_listDigest_112 : decode cX7_listDigest 112 = .ok (.iconst 0, 1) := by decide +kernel
theorem dX7_listDigest_113 : decode cX7_listDigest 113 = .ok (.istore 7, 2) := by decide +kernel
theorem dX7_listDigest_115 : decode cX7_listDigest 115 = .ok (.iload 7, 2) := by decide +kernel
theorem dX7_listDigest_117 : decode cX7_listDigest 117 = .ok (.iconst 5, 1) := by decide +kernel
theorem dX7_listDigest_118 : decode cX7_listDigest 118 = .ok (.if_icmp .ge 28, 3) := by decide +kernel
theorem dX7_listDigest_121 : decode cX7_listDigest 121 = .ok (.ldc2_w 242, 3) := by decide +kernel
theorem dX7_listDigest_124 : decode cX7_listDigest 124 = .ok (.lload 4, 2) := by decide +kernel
theorem dX7_listDigest_126 : decode cX7_listDigest 126 = .ok (.lmul, 1) := by decide +kernel
theorem dX7_listDigest_127 : decode cX7_listDigest 127 = .ok (.aload_n 0, 1) := by decide +kernel
theorem dX7_listDigest_128 : decode cX7_listDigest 128 = .ok (.iload_n 3, 1) := by decide +kernel
theorem dX7_listDigest_129 : decode cX7_listDigest 129 = .ok (.iload 6, 2) := by decide +kernel
theorem dX7_listDigest_131 : decode cX7_listDigest 131 = .ok (.iload 7, 2) := by decide +kernel
theorem dX7_listDigest_133 : decode cX7_listDigest 133 = .ok (.invokevirtual 178, 3) := by decide +kernel
theorem dX7_listDigest_136 : decode cX7_listDigest 136 = .ok (.i2l, 1) := by decide +kernel
theorem dX7_listDigest_137 : decode cX7_listDigest 137 = .ok (.ladd, 1) := by decide +kernel
theorem dX7_listDigest_138 : decode cX7_listDigest 138 = .ok (.lstore 4, 2) := by decide +kernel
theorem dX7_listDigest_140 : decode cX7_listDigest 140 = .ok (.iinc 7 1, 3) := by decide +kernel
theorem dX7_listDigest_143 : decode cX7_listDigest 143 = .ok (.goto (-28), 3) := by decide +kernel
theorem dX7_listDigest_146 : decode cX7_listDigest 146 = .ok (.iinc 6 1, 3) := by decide +kernel
theorem dX7_listDigest_149 : decode cX7_listDigest 149 = .ok (.goto (-44), 3) := by decide +kernel
theorem dX7_listDigest_152 : decode cX7_listDigest 152 = .ok (.ldc2_w 242, 3) := by decide +kernel
theorem dX7_listDigest_155 : decode cX7_listDigest 155 = .ok (.lload 4, 2) := by decide +kernel
theorem dX7_listDigest_157 : decode cX7_listDigest 157 = .ok (.lmul, 1) := by decide +kernel
theorem dX7_listDigest_158 : decode cX7_listDigest 158 = .ok (.aload_n 0, 1) := by decide +kernel
theorem dX7_listDigest_159 : decode cX7_listDigest 159 = .ok (.iload_n 3, 1) := by decide +kernel
theorem dX7_listDigest_160 : decode cX7_listDigest 160 = .ok (.invokevirtual 190, 3) := by decide +kernel
theorem dX7_listDigest_163 : decode cX7_listDigest 163 = .ok (.i2l, 1) := by decide +kernel
theorem dX7_listDigest_164 : decode cX7_listDigest 164 = .ok (.ladd, 1) := by decide +kernel
theorem dX7_listDigest_165 : decode cX7_listDigest 165 = .ok (.lstore 4, 2) := by decide +kernel
theorem dX7_listDigest_167 : decode cX7_listDigest 167 = .ok (.iconst 0, 1) := by decide +kernel
theorem dX7_listDigest_168 : decode cX7_listDigest 168 = .ok (.istore 6, 2) := by decide +kernel
theorem dX7_listDigest_170 : decode cX7_listDigest 170 = .ok (.iload 6, 2) := by decide +kernel
theorem dX7_listDigest_172 : decode cX7_listDigest 172 = .ok (.iconst 3, 1) := by decide +kernel
theorem dX7_listDigest_173 : decode cX7_listDigest 173 = .ok (.if_icmp .ge 26, 3) := by decide +kernel
theorem dX7_listDigest_176 : decode cX7_listDigest 176 = .ok (.ldc2_w 242, 3) := by decide +kernel
theorem dX7_listDigest_179 : decode cX7_listDigest 179 = .ok (.lload 4, 2) := by decide +kernel
theorem dX7_listDigest_181 : decode cX7_listDigest 181 = .ok (.lmul, 1) := by decide +kernel
theorem dX7_listDigest_182 : decode cX7_listDigest 182 = .ok (.aload_n 0, 1) := by decide +kernel
theorem dX7_listDigest_183 : decode cX7_listDigest 183 = .ok (.iload_n 3, 1) := by decide +kernel
theorem dX7_listDigest_184 : decode cX7_listDigest 184 = .ok (.iload 6, 2) := by decide +kernel
theorem dX7_listDigest_186 : decode cX7_listDigest 186 = .ok (.invokevirtual 193, 3) := by decide +kernel
theorem dX7_listDigest_189 : decode cX7_listDigest 189 = .ok (.i2l, 1) := by decide +kernel
theorem dX7_listDigest_190 : decode cX7_listDigest 190 = .ok (.ladd, 1) := by decide +kernel
theorem dX7_listDigest_191 : decode cX7_listDigest 191 = .ok (.lstore 4, 2) := by decide +kernel
theorem dX7_listDigest_193 : decode cX7_listDigest 193 = .ok (.iinc 6 1, 3) := by decide +kernel
theorem dX7_listDigest_196 : decode cX7_listDigest 196 = .ok (.goto (-26), 3) := by decide +kernel
theorem dX7_listDigest_199 : decode cX7_listDigest 199 = .ok (.iconst 0, 1) := by decide +kernel
theorem dX7_listDigest_200 : decode cX7_listDigest 200 = .ok (.istore 6, 2) := by decide +kernel
theorem dX7_listDigest_202 : decode cX7_listDigest 202 = .ok (.iload 6, 2) := by decide +kernel
theorem dX7_listDigest_204 : decode cX7_listDigest 204 = .ok (.iconst 4, 1) := by decide +kernel
theorem dX7_listDigest_205 : decode cX7_listDigest 205 = .ok (.if_icmp .ge 28, 3) := by decide +kernel
theorem dX7_listDigest_208 : decode cX7_listDigest 208 = .ok (.ldc2_w 242, 3) := by decide +kernel
theorem dX7_listDigest_211 : decode cX7_listDigest 211 = .ok (.lload 4, 2) := by decide +kernel
theorem dX7_listDigest_213 : decode cX7_listDigest 213 = .ok (.lmul, 1) := by decide +kernel
theorem dX7_listDigest_214 : decode cX7_listDigest 214 = .ok (.aload_n 0, 1) := by decide +kernel
theorem dX7_listDigest_215 : decode cX7_listDigest 215 = .ok (.iload_n 3, 1) := by decide +kernel
theorem dX7_listDigest_216 : decode cX7_listDigest 216 = .ok (.bipush 7, 2) := by decide +kernel
theorem dX7_listDigest_218 : decode cX7_listDigest 218 = .ok (.iload 6, 2) := by decide +kernel
theorem dX7_listDigest_220 : decode cX7_listDigest 220 = .ok (.invokevirtual 121, 3) := by decide +kernel
theorem dX7_listDigest_223 : decode cX7_listDigest 223 = .ok (.i2l, 1) := by decide +kernel
theorem dX7_listDigest_224 : decode cX7_listDigest 224 = .ok (.ladd, 1) := by decide +kernel
theorem dX7_listDigest_225 : decode cX7_listDigest 225 = .ok (.lstore 4, 2) := by decide +kernel
theorem dX7_listDigest_227 : decode cX7_listDigest 227 = .ok (.iinc 6 1, 3) := by decide +kernel
theorem dX7_listDigest_230 : decode cX7_listDigest 230 = .ok (.goto (-28), 3) := by decide +kernel
theorem dX7_listDigest_233 : decode cX7_listDigest 233 = .ok (.ldc2_w 242, 3) := by decide +kernel
theorem dX7_listDigest_236 : decode cX7_listDigest 236 = .ok (.lload 4, 2) := by decide +kernel
theorem dX7_listDigest_238 : decode cX7_listDigest 238 = .ok (.lmul, 1) := by decide +kernel
theorem dX7_listDigest_239 : decode cX7_listDigest 239 = .ok (.aload_n 0, 1) := by decide +kernel
theorem dX7_listDigest_240 : decode cX7_listDigest 240 = .ok (.iload_n 3, 1) := by decide +kernel
theorem dX7_listDigest_241 : decode cX7_listDigest 241 = .ok (.iconst 1, 1) := by decide +kernel
theorem dX7_listDigest_242 : decode cX7_listDigest 242 = .ok (.bipush 100, 2) := by decide +kernel
theorem dX7_listDigest_244 : decode cX7_listDigest 244 = .ok (.iconst 0, 1) := by decide +kernel
theorem dX7_listDigest_245 : decode cX7_listDigest 245 = .ok (.invokevirtual 125, 3) := by decide +kernel
theorem dX7_listDigest_248 : decode cX7_listDigest 248 = .ok (.i2l, 1) := by decide +kernel
theorem dX7_listDigest_249 : decode cX7_listDigest 249 = .ok (.ladd, 1) := by decide +kernel
theorem dX7_listDigest_250 : decode cX7_listDigest 250 = .ok (.lstore 4, 2) := by decide +kernel
theorem dX7_listDigest_252 : decode cX7_listDigest 252 = .ok (.ldc2_w 242, 3) := by decide +kernel
theorem dX7_listDigest_255 : decode cX7_listDigest 255 = .ok (.lload 4, 2) := by decide +kernel
theorem dX7_listDigest_257 : decode cX7_listDigest 257 = .ok (.lmul, 1) := by decide +kernel
theorem dX7_listDigest_258 : decode cX7_listDigest 258 = .ok (.aload_n 0, 1) := by decide +kernel
theorem dX7_listDigest_259 : decode cX7_listDigest 259 = .ok (.iload_n 3, 1) := by decide +kernel
theorem dX7_listDigest_260 : decode cX7_listDigest 260 = .ok (.iconst 1, 1) := by decide +kernel
theorem dX7_listDigest_261 : decode cX7_listDigest 261 = .ok (.bipush 100, 2) := by decide +kernel
theorem dX7_listDigest_263 : decode cX7_listDigest 263 = .ok (.iconst 1, 1) := by decide +kernel
theorem dX7_listDigest_264 : decode cX7_listDigest 264 = .ok (.invokevirtual 125, 3) := by decide +kernel
theorem dX7_listDigest_267 : decode cX7_listDigest 267 = .ok (.i2l, 1) := by decide +kernel
theorem dX7_listDigest_268 : decode cX7_listDigest 268 = .ok (.ladd, 1) := by decide +kernel
theorem dX7_listDigest_269 : decode cX7_listDigest 269 = .ok (.lreturn, 1) := by decide +kernel
theorem dX7_toldDigest_0 : decode cX7_toldDigest 0 = .ok (.lload_n 1, 1) := by decide +kernel
theorem dX7_toldDigest_1 : decode cX7_toldDigest 1 = .ok (.lstore 4, 2) := by decide +kernel
theorem dX7_toldDigest_3 : decode cX7_toldDigest 3 = .ok (.iconst 0, 1) := by decide +kernel
theorem dX7_toldDigest_4 : decode cX7_toldDigest 4 = .ok (.istore 6, 2) := by decide +kernel
theorem dX7_toldDigest_6 : decode cX7_toldDigest 6 = .ok (.iload 6, 2) := by decide +kernel
theorem dX7_toldDigest_8 : decode cX7_toldDigest 8 = .ok (.iconst 4, 1) := by decide +kernel
theorem dX7_toldDigest_9 : decode cX7_toldDigest 9 = .ok (.if_icmp .ge 26, 3) := by decide +kernel
theorem dX7_toldDigest_12 : decode cX7_toldDigest 12 = .ok (.ldc2_w 242, 3) := by decide +kernel
theorem dX7_toldDigest_15 : decode cX7_toldDigest 15 = .ok (.lload 4, 2) := by decide +kernel
theorem dX7_toldDigest_17 : decode cX7_toldDigest 17 = .ok (.lmul, 1) := by decide +kernel
theorem dX7_toldDigest_18 : decode cX7_toldDigest 18 = .ok (.aload_n 0, 1) := by decide +kernel
theorem dX7_toldDigest_19 : decode cX7_toldDigest 19 = .ok (.iload_n 3, 1) := by decide +kernel
theorem dX7_toldDigest_20 : decode cX7_toldDigest 20 = .ok (.iload 6, 2) := by decide +kernel
theorem dX7_toldDigest_22 : decode cX7_toldDigest 22 = .ok (.invokevirtual 140, 3) := by decide +kernel
theorem dX7_toldDigest_25 : decode cX7_toldDigest 25 = .ok (.i2l, 1) := by decide +kernel
theorem dX7_toldDigest_26 : decode cX7_toldDigest 26 = .ok (.ladd, 1) := by decide +kernel
theorem dX7_toldDigest_27 : decode cX7_toldDigest 27 = .ok (.lstore 4, 2) := by decide +kernel
theorem dX7_toldDigest_29 : decode cX7_toldDigest 29 = .ok (.iinc 6 1, 3) := by decide +kernel
theorem dX7_toldDigest_32 : decode cX7_toldDigest 32 = .ok (.goto (-26), 3) := by decide +kernel
theorem dX7_toldDigest_35 : decode cX7_toldDigest 35 = .ok (.lload 4, 2) := by decide +kernel
theorem dX7_toldDigest_37 : decode cX7_toldDigest 37 = .ok (.lreturn, 1) := by decide +kernel
theorem dX7_digest_0 : decode cX7_digest 0 = .ok (.ldc2_w 244, 3) := by decide +kernel
theorem dX7_digest_3 : decode cX7_digest 3 = .ok (.lstore_n 1, 1) := by decide +kernel
theorem dX7_digest_4 : decode cX7_digest 4 = .ok (.iconst 0, 1) := by decide +kernel
theorem dX7_digest_5 : decode cX7_digest 5 = .ok (.istore_n 3, 1) := by decide +kernel
theorem dX7_digest_6 : decode cX7_digest 6 = .ok (.iload_n 3, 1) := by decide +kernel
theorem dX7_digest_7 : decode cX7_digest 7 = .ok (.bipush 8, 2) := by decide +kernel
theorem dX7_digest_9 : decode cX7_digest 9 = .ok (.if_icmp .ge 22, 3) := by decide +kernel
theorem dX7_digest_12 : decode cX7_digest 12 = .ok (.ldc2_w 242, 3) := by decide +kernel
theorem dX7_digest_15 : decode cX7_digest 15 = .ok (.lload_n 1, 1) := by decide +kernel
theorem dX7_digest_16 : decode cX7_digest 16 = .ok (.lmul, 1) := by decide +kernel
theorem dX7_digest_17 : decode cX7_digest 17 = .ok (.aload_n 0, 1) := by decide +kernel
theorem dX7_digest_18 : decode cX7_digest 18 = .ok (.iload_n 3, 1) := by decide +kernel
theorem dX7_digest_19 : decode cX7_digest 19 = .ok (.invokevirtual 246, 3) := by decide +kernel
theorem dX7_digest_22 : decode cX7_digest 22 = .ok (.i2l, 1) := by decide +kernel
theorem dX7_digest_23 : decode cX7_digest 23 = .ok (.ladd, 1) := by decide +kernel
theorem dX7_digest_24 : decode cX7_digest 24 = .ok (.lstore_n 1, 1) := by decide +kernel
theorem dX7_digest_25 : decode cX7_digest 25 = .ok (.iinc 3 1, 3) := by decide +kernel
theorem dX7_digest_28 : decode cX7_digest 28 = .ok (.goto (-22), 3) := by decide +kernel
theorem dX7_digest_31 : decode cX7_digest 31 = .ok (.aload_n 0, 1) := by decide +kernel
theorem dX7_digest_32 : decode cX7_digest 32 = .ok (.lload_n 1, 1) := by decide +kernel
theorem dX7_digest_33 : decode cX7_digest 33 = .ok (.iconst 0, 1) := by decide +kernel
theorem dX7_digest_34 : decode cX7_digest 34 = .ok (.invokevirtual 249, 3) := by decide +kernel
theorem dX7_digest_37 : decode cX7_digest 37 = .ok (.lstore_n 1, 1) := by decide +kernel
theorem dX7_digest_38 : decode cX7_digest 38 = .ok (.aload_n 0, 1) := by decide +kernel
theorem dX7_digest_39 : decode cX7_digest 39 = .ok (.lload_n 1, 1) := by decide +kernel
theorem dX7_digest_40 : decode cX7_digest 40 = .ok (.iconst 1, 1) := by decide +kernel
theorem dX7_digest_41 : decode cX7_digest 41 = .ok (.invokevirtual 249, 3) := by decide +kernel
theorem dX7_digest_44 : decode cX7_digest 44 = .ok (.lstore_n 1, 1) := by decide +kernel
theorem dX7_digest_45 : decode cX7_digest 45 = .ok (.iconst 0, 1) := by decide +kernel
theorem dX7_digest_46 : decode cX7_digest 46 = .ok (.istore_n 3, 1) := by decide +kernel
theorem dX7_digest_47 : decode cX7_digest 47 = .ok (.iload_n 3, 1) := by decide +kernel
theorem dX7_digest_48 : decode cX7_digest 48 = .ok (.aload_n 0, 1) := by decide +kernel
theorem dX7_digest_49 : decode cX7_digest 49 = .ok (.getfield 7, 3) := by decide +kernel
theorem dX7_digest_52 : decode cX7_digest 52 = .ok (.iconst 1, 1) := by decide +kernel
theorem dX7_digest_53 : decode cX7_digest 53 = .ok (.iaload, 1) := by decide +kernel
theorem dX7_digest_54 : decode cX7_digest 54 = .ok (.if_icmp .ge 39, 3) := by decide +kernel
theorem dX7_digest_57 : decode cX7_digest 57 = .ok (.iconst 0, 1) := by decide +kernel
theorem dX7_digest_58 : decode cX7_digest 58 = .ok (.istore 4, 2) := by decide +kernel
theorem dX7_digest_60 : decode cX7_digest 60 = .ok (.iload 4, 2) := by decide +kernel
theorem dX7_digest_62 : decode cX7_digest 62 = .ok (.iconst 3, 1) := by decide +kernel
theorem dX7_digest_63 : decode cX7_digest 63 = .ok (.if_icmp .ge 24, 3) := by decide +kernel
theorem dX7_digest_66 : decode cX7_digest 66 = .ok (.ldc2_w 242, 3) := by decide +kernel
theorem dX7_digest_69 : decode cX7_digest 69 = .ok (.lload_n 1, 1) := by decide +kernel
theorem dX7_digest_70 : decode cX7_digest 70 = .ok (.lmul, 1) := by decide +kernel
theorem dX7_digest_71 : decode cX7_digest 71 = .ok (.aload_n 0, 1) := by decide +kernel
theorem dX7_digest_72 : decode cX7_digest 72 = .ok (.iload_n 3, 1) := by decide +kernel
theorem dX7_digest_73 : decode cX7_digest 73 = .ok (.iload 4, 2) := by decide +kernel
theorem dX7_digest_75 : decode cX7_digest 75 = .ok (.invokevirtual 212, 3) := by decide +kernel
theorem dX7_digest_78 : decode cX7_digest 78 = .ok (.i2l, 1) := by decide +kernel
theorem dX7_digest_79 : decode cX7_digest 79 = .ok (.ladd, 1) := by decide +kernel
theorem dX7_digest_80 : decode cX7_digest 80 = .ok (.lstore_n 1, 1) := by decide +kernel
theorem dX7_digest_81 : decode cX7_digest 81 = .ok (.iinc 4 1, 3) := by decide +kernel
theorem dX7_digest_84 : decode cX7_digest 84 = .ok (.goto (-24), 3) := by decide +kernel
theorem dX7_digest_87 : decode cX7_digest 87 = .ok (.iinc 3 1, 3) := by decide +kernel
theorem dX7_digest_90 : decode cX7_digest 90 = .ok (.goto (-43), 3) := by decide +kernel
theorem dX7_digest_93 : decode cX7_digest 93 = .ok (.ldc2_w 242, 3) := by decide +kernel
theorem dX7_digest_96 : decode cX7_digest 96 = .ok (.lload_n 1, 1) := by decide +kernel
theorem dX7_digest_97 : decode cX7_digest 97 = .ok (.lmul, 1) := by decide +kernel
theorem dX7_digest_98 : decode cX7_digest 98 = .ok (.aload_n 0, 1) := by decide +kernel
theorem dX7_digest_99 : decode cX7_digest 99 = .ok (.invokevirtual 215, 3) := by decide +kernel
theorem dX7_digest_102 : decode cX7_digest 102 = .ok (.i2l, 1) := by decide +kernel
theorem dX7_digest_103 : decode cX7_digest 103 = .ok (.ladd, 1) := by decide +kernel
theorem dX7_digest_104 : decode cX7_digest 104 = .ok (.lstore_n 1, 1) := by decide +kernel
theorem dX7_digest_105 : decode cX7_digest 105 = .ok (.ldc2_w 242, 3) := by decide +kernel
theorem dX7_digest_108 : decode cX7_digest 108 = .ok (.lload_n 1, 1) := by decide +kernel
theorem dX7_digest_109 : decode cX7_digest 109 = .ok (.lmul, 1) := by decide +kernel
theorem dX7_digest_110 : decode cX7_digest 110 = .ok (.aload_n 0, 1) := by decide +kernel
theorem dX7_digest_111 : decode cX7_digest 111 = .ok (.iconst (-1), 1) := by decide +kernel
theorem dX7_digest_112 : decode cX7_digest 112 = .ok (.invokevirtual 222, 3) := by decide +kernel
theorem dX7_digest_115 : decode cX7_digest 115 = .ok (.i2l, 1) := by decide +kernel
theorem dX7_digest_116 : decode cX7_digest 116 = .ok (.ladd, 1) := by decide +kernel
theorem dX7_digest_117 : decode cX7_digest 117 = .ok (.lstore_n 1, 1) := by decide +kernel
theorem dX7_digest_118 : decode cX7_digest 118 = .ok (.ldc2_w 242, 3) := by decide +kernel
theorem dX7_digest_121 : decode cX7_digest 121 = .ok (.lload_n 1, 1) := by decide +kernel
theorem dX7_digest_122 : decode cX7_digest 122 = .ok (.lmul, 1) := by decide +kernel
theorem dX7_digest_123 : decode cX7_digest 123 = .ok (.aload_n 0, 1) := by decide +kernel
theorem dX7_digest_124 : decode cX7_digest 124 = .ok (.iconst 0, 1) := by decide +kernel
theorem dX7_digest_125 : decode cX7_digest 125 = .ok (.invokevirtual 222, 3) := by decide +kernel
theorem dX7_digest_128 : decode cX7_digest 128 = .ok (.i2l, 1) := by decide +kernel
theorem dX7_digest_129 : decode cX7_digest 129 = .ok (.ladd, 1) := by decide +kernel
theorem dX7_digest_130 : decode cX7_digest 130 = .ok (.lstore_n 1, 1) := by decide +kernel
theorem dX7_digest_131 : decode cX7_digest 131 = .ok (.ldc2_w 242, 3) := by decide +kernel
theorem dX7_digest_134 : decode cX7_digest 134 = .ok (.lload_n 1, 1) := by decide +kernel
theorem dX7_digest_135 : decode cX7_digest 135 = .ok (.lmul, 1) := by decide +kernel
theorem dX7_digest_136 : decode cX7_digest 136 = .ok (.aload_n 0, 1) := by decide +kernel
theorem dX7_digest_137 : decode cX7_digest 137 = .ok (.bipush 25, 2) := by decide +kernel
theorem dX7_digest_139 : decode cX7_digest 139 = .ok (.invokevirtual 222, 3) := by decide +kernel
theorem dX7_digest_142 : decode cX7_digest 142 = .ok (.i2l, 1) := by decide +kernel
theorem dX7_digest_143 : decode cX7_digest 143 = .ok (.ladd, 1) := by decide +kernel
theorem dX7_digest_144 : decode cX7_digest 144 = .ok (.lstore_n 1, 1) := by decide +kernel
theorem dX7_digest_145 : decode cX7_digest 145 = .ok (.ldc2_w 242, 3) := by decide +kernel
theorem dX7_digest_148 : decode cX7_digest 148 = .ok (.lload_n 1, 1) := by decide +kernel
theorem dX7_digest_149 : decode cX7_digest 149 = .ok (.lmul, 1) := by decide +kernel
theorem dX7_digest_150 : decode cX7_digest 150 = .ok (.aload_n 0, 1) := by decide +kernel
theorem dX7_digest_151 : decode cX7_digest 151 = .ok (.iconst 0, 1) := by decide +kernel
theorem dX7_digest_152 : decode cX7_digest 152 = .ok (.invokevirtual 225, 3) := by decide +kernel
theorem dX7_digest_155 : decode cX7_digest 155 = .ok (.i2l, 1) := by decide +kernel
theorem dX7_digest_156 : decode cX7_digest 156 = .ok (.ladd, 1) := by decide +kernel
theorem dX7_digest_157 : decode cX7_digest 157 = .ok (.lstore_n 1, 1) := by decide +kernel
theorem dX7_digest_158 : decode cX7_digest 158 = .ok (.ldc2_w 242, 3) := by decide +kernel
theorem dX7_digest_161 : decode cX7_digest 161 = .ok (.lload_n 1, 1) := by decide +kernel
theorem dX7_digest_162 : decode cX7_digest 162 = .ok (.lmul, 1) := by decide +kernel
theorem dX7_digest_163 : decode cX7_digest 163 = .ok (.aload_n 0, 1) := by decide +kernel
theorem dX7_digest_164 : decode cX7_digest 164 = .ok (.iconst 1, 1) := by decide +kernel
theorem dX7_digest_165 : decode cX7_digest 165 = .ok (.invokevirtual 225, 3) := by decide +kernel
theorem dX7_digest_168 : decode cX7_digest 168 = .ok (.i2l, 1) := by decide +kernel
theorem dX7_digest_169 : decode cX7_digest 169 = .ok (.ladd, 1) := by decide +kernel
theorem dX7_digest_170 : decode cX7_digest 170 = .ok (.lstore_n 1, 1) := by decide +kernel
theorem dX7_digest_171 : decode cX7_digest 171 = .ok (.aload_n 0, 1) := by decide +kernel
theorem dX7_digest_172 : decode cX7_digest 172 = .ok (.lload_n 1, 1) := by decide +kernel
theorem dX7_digest_173 : decode cX7_digest 173 = .ok (.sipush 1799, 3) := by decide +kernel
theorem dX7_digest_176 : decode cX7_digest 176 = .ok (.invokevirtual 253, 3) := by decide +kernel
theorem dX7_digest_179 : decode cX7_digest 179 = .ok (.lstore_n 1, 1) := by decide +kernel
theorem dX7_digest_180 : decode cX7_digest 180 = .ok (.aload_n 0, 1) := by decide +kernel
theorem dX7_digest_181 : decode cX7_digest 181 = .ok (.lload_n 1, 1) := by decide +kernel
theorem dX7_digest_182 : decode cX7_digest 182 = .ok (.sipush 1800, 3) := by decide +kernel
theorem dX7_digest_185 : decode cX7_digest 185 = .ok (.invokevirtual 253, 3) := by decide +kernel
theorem dX7_digest_188 : decode cX7_digest 188 = .ok (.lstore_n 1, 1) := by decide +kernel
theorem dX7_digest_189 : decode cX7_digest 189 = .ok (.aload_n 0, 1) := by decide +kernel
theorem dX7_digest_190 : decode cX7_digest 190 = .ok (.lload_n 1, 1) := by decide +kernel
theorem dX7_digest_191 : decode cX7_digest 191 = .ok (.sipush 17982, 3) := by decide +kernel
theorem dX7_digest_194 : decode cX7_digest 194 = .ok (.invokevirtual 253, 3) := by decide +kernel
theorem dX7_digest_197 : decode cX7_digest 197 = .ok (.lstore_n 1, 1) := by decide +kernel
theorem dX7_digest_198 : decode cX7_digest 198 = .ok (.ldc2_w 242, 3) := by decide +kernel
theorem dX7_digest_201 : decode cX7_digest 201 = .ok (.lload_n 1, 1) := by decide +kernel
theorem dX7_digest_202 : decode cX7_digest 202 = .ok (.lmul, 1) := by decide +kernel
theorem dX7_digest_203 : decode cX7_digest 203 = .ok (.aload_n 0, 1) := by decide +kernel
theorem dX7_digest_204 : decode cX7_digest 204 = .ok (.iconst 0, 1) := by decide +kernel
theorem dX7_digest_205 : decode cX7_digest 205 = .ok (.iconst 1, 1) := by decide +kernel
theorem dX7_digest_206 : decode cX7_digest 206 = .ok (.iconst 0, 1) := by decide +kernel
theorem dX7_digest_207 : decode cX7_digest 207 = .ok (.iconst 0, 1) := by decide +kernel
theorem dX7_digest_208 : decode cX7_digest 208 = .ok (.invokevirtual 256, 3) := by decide +kernel
theorem dX7_digest_211 : decode cX7_digest 211 = .ok (.i2l, 1) := by decide +kernel
theorem dX7_digest_212 : decode cX7_digest 212 = .ok (.ladd, 1) := by decide +kernel
theorem dX7_digest_213 : decode cX7_digest 213 = .ok (.lstore_n 1, 1) := by decide +kernel
theorem dX7_digest_214 : decode cX7_digest 214 = .ok (.ldc2_w 242, 3) := by decide +kernel
theorem dX7_digest_217 : decode cX7_digest 217 = .ok (.lload_n 1, 1) := by decide +kernel
theorem dX7_digest_218 : decode cX7_digest 218 = .ok (.lmul, 1) := by decide +kernel
theorem dX7_digest_219 : decode cX7_digest 219 = .ok (.aload_n 0, 1) := by decide +kernel
theorem dX7_digest_220 : decode cX7_digest 220 = .ok (.iconst 0, 1) := by decide +kernel
theorem dX7_digest_221 : decode cX7_digest 221 = .ok (.bipush 10, 2) := by decide +kernel
theorem dX7_digest_223 : decode cX7_digest 223 = .ok (.iconst 0, 1) := by decide +kernel
theorem dX7_digest_224 : decode cX7_digest 224 = .ok (.iconst 0, 1) := by decide +kernel
theorem dX7_digest_225 : decode cX7_digest 225 = .ok (.invokevirtual 256, 3) := by decide +kernel
theorem dX7_digest_228 : decode cX7_digest 228 = .ok (.i2l, 1) := by decide +kernel
theorem dX7_digest_229 : decode cX7_digest 229 = .ok (.ladd, 1) := by decide +kernel
theorem dX7_digest_230 : decode cX7_digest 230 = .ok (.lstore_n 1, 1) := by decide +kernel
theorem dX7_digest_231 : decode cX7_digest 231 = .ok (.ldc2_w 242, 3) := by decide +kernel
theorem dX7_digest_234 : decode cX7_digest 234 = .ok (.lload_n 1, 1) := by decide +kernel
theorem dX7_digest_235 : decode cX7_digest 235 = .ok (.lmul, 1) := by decide +kernel
theorem dX7_digest_236 : decode cX7_digest 236 = .ok (.aload_n 0, 1) := by decide +kernel
theorem dX7_digest_237 : decode cX7_digest 237 = .ok (.iconst 1, 1) := by decide +kernel
theorem dX7_digest_238 : decode cX7_digest 238 = .ok (.iconst 2, 1) := by decide +kernel
theorem dX7_digest_239 : decode cX7_digest 239 = .ok (.iconst 3, 1) := by decide +kernel
theorem dX7_digest_240 : decode cX7_digest 240 = .ok (.iconst 4, 1) := by decide +kernel
theorem dX7_digest_241 : decode cX7_digest 241 = .ok (.invokevirtual 256, 3) := by decide +kernel
theorem dX7_digest_244 : decode cX7_digest 244 = .ok (.i2l, 1) := by decide +kernel
theorem dX7_digest_245 : decode cX7_digest 245 = .ok (.ladd, 1) := by decide +kernel
theorem dX7_digest_246 : decode cX7_digest 246 = .ok (.lreturn, 1) := by decide +kernel
end
section
theorem dL_law_0 : decode cL_law 0 = .ok (.new 7, 3) := by decide +kernel
theorem dL_law_3 : decode cL_law 3 = .ok (.dup, 1) := by decide +kernel
theorem dL_law_4 : decode cL_law 4 = .ok (.invokespecial 9, 3) := by decide +kernel
theorem dL_law_7 : decode cL_law 7 = .ok (.astore_n 1, 1) := by decide +kernel
theorem dL_law_8 : decode cL_law 8 = .ok (.new 10, 3) := by decide +kernel
theorem dL_law_11 : decode cL_law 11 = .ok (.dup, 1) := by decide +kernel
theorem dL_law_12 : decode cL_law 12 = .ok (.invokespecial 12, 3) := by decide +kernel
theorem dL_law_15 : decode cL_law 15 = .ok (.astore_n 2, 1) := by decide +kernel
theorem dL_law_16 : decode cL_law 16 = .ok (.iconst 0, 1) := by decide +kernel
theorem dL_law_17 : decode cL_law 17 = .ok (.istore_n 3, 1) := by decide +kernel
theorem dL_law_18 : decode cL_law 18 = .ok (.iload_n 3, 1) := by decide +kernel
theorem dL_law_19 : decode cL_law 19 = .ok (.aload_n 0, 1) := by decide +kernel
theorem dL_law_20 : decode cL_law 20 = .ok (.arraylength, 1) := by decide +kernel
theorem dL_law_21 : decode cL_law 21 = .ok (.bipush 7, 2) := by decide +kernel
theorem dL_law_23 : decode cL_law 23 = .ok (.isub, 1) := by decide +kernel
theorem dL_law_24 : decode cL_law 24 = .ok (.if_icmp .gt 1186, 3) := by decide +kernel
theorem dL_law_27 : decode cL_law 27 = .ok (.aload_n 0, 1) := by decide +kernel
theorem dL_law_28 : decode cL_law 28 = .ok (.iload_n 3, 1) := by decide +kernel
theorem dL_law_29 : decode cL_law 29 = .ok (.iaload, 1) := by decide +kernel
theorem dL_law_30 : decode cL_law 30 = .ok (.bipush 31, 2) := by decide +kernel
theorem dL_law_32 : decode cL_law 32 = .ok (.iand, 1) := by decide +kernel
theorem dL_law_33 : decode cL_law 33 = .ok (.tableswitch 1171 0 28 #[131, 206, 229, 282, 315, 348, 361, 394, 437, 480, 533, 576, 609, 662, 685, 728, 751, 784, 817, 830, 853, 876, 919, 942, 995, 1038, 1101, 1134, 1157], 131) := by decide +kernel
theorem dL_law_164 : decode cL_law 164 = .ok (.aload_n 1, 1) := by decide +kernel
theorem dL_law_165 : decode cL_law 165 = .ok (.aload_n 0, 1) := by decide +kernel
theorem dL_law_166 : decode cL_law 166 = .ok (.iload_n 3, 1) := by decide +kernel
theorem dL_law_167 : decode cL_law 167 = .ok (.iconst 1, 1) := by decide +kernel
theorem dL_law_168 : decode cL_law 168 = .ok (.iadd, 1) := by decide +kernel
theorem dL_law_169 : decode cL_law 169 = .ok (.iaload, 1) := by decide +kernel
theorem dL_law_170 : decode cL_law 170 = .ok (.aload_n 0, 1) := by decide +kernel
theorem dL_law_171 : decode cL_law 171 = .ok (.iload_n 3, 1) := by decide +kernel
theorem dL_law_172 : decode cL_law 172 = .ok (.iconst 2, 1) := by decide +kernel
theorem dL_law_173 : decode cL_law 173 = .ok (.iadd, 1) := by decide +kernel
theorem dL_law_174 : decode cL_law 174 = .ok (.iaload, 1) := by decide +kernel
theorem dL_law_175 : decode cL_law 175 = .ok (.aload_n 0, 1) := by decide +kernel
theorem dL_law_176 : decode cL_law 176 = .ok (.iload_n 3, 1) := by decide +kernel
theorem dL_law_177 : decode cL_law 177 = .ok (.iconst 3, 1) := by decide +kernel
theorem dL_law_178 : decode cL_law 178 = .ok (.iadd, 1) := by decide +kernel
theorem dL_law_179 : decode cL_law 179 = .ok (.iaload, 1) := by decide +kernel
theorem dL_law_180 : decode cL_law 180 = .ok (.aload_n 0, 1) := by decide +kernel
theorem dL_law_181 : decode cL_law 181 = .ok (.iload_n 3, 1) := by decide +kernel
theorem dL_law_182 : decode cL_law 182 = .ok (.iconst 4, 1) := by decide +kernel
theorem dL_law_183 : decode cL_law 183 = .ok (.iadd, 1) := by decide +kernel
theorem dL_law_184 : decode cL_law 184 = .ok (.iaload, 1) := by decide +kernel
theorem dL_law_185 : decode cL_law 185 = .ok (.aload_n 0, 1) := by decide +kernel
theorem dL_law_186 : decode cL_law 186 = .ok (.iload_n 3, 1) := by decide +kernel
theorem dL_law_187 : decode cL_law 187 = .ok (.iconst 5, 1) := by decide +kernel
theorem dL_law_188 : decode cL_law 188 = .ok (.iadd, 1) := by decide +kernel
theorem dL_law_189 : decode cL_law 189 = .ok (.iaload, 1) := by decide +kernel
theorem dL_law_190 : decode cL_law 190 = .ok (.aload_n 0, 1) := by decide +kernel
theorem dL_law_191 : decode cL_law 191 = .ok (.iload_n 3, 1) := by decide +kernel
theorem dL_law_192 : decode cL_law 192 = .ok (.bipush 6, 2) := by decide +kernel
theorem dL_law_194 : decode cL_law 194 = .ok (.iadd, 1) := by decide +kernel
theorem dL_law_195 : decode cL_law 195 = .ok (.iaload, 1) := by decide +kernel
theorem dL_law_196 : decode cL_law 196 = .ok (.invokevirtual 13, 3) := by decide +kernel
theorem dL_law_199 : decode cL_law 199 = .ok (.aload_n 2, 1) := by decide +kernel
theorem dL_law_200 : decode cL_law 200 = .ok (.aload_n 0, 1) := by decide +kernel
theorem dL_law_201 : decode cL_law 201 = .ok (.iload_n 3, 1) := by decide +kernel
theorem dL_law_202 : decode cL_law 202 = .ok (.iconst 1, 1) := by decide +kernel
theorem dL_law_203 : decode cL_law 203 = .ok (.iadd, 1) := by decide +kernel
theorem dL_law_204 : decode cL_law 204 = .ok (.iaload, 1) := by decide +kernel
theorem dL_law_205 : decode cL_law 205 = .ok (.aload_n 0, 1) := by decide +kernel
theorem dL_law_206 : decode cL_law 206 = .ok (.iload_n 3, 1) := by decide +kernel
theorem dL_law_207 : decode cL_law 207 = .ok (.iconst 2, 1) := by decide +kernel
theorem dL_law_208 : decode cL_law 208 = .ok (.iadd, 1) := by decide +kernel
theorem dL_law_209 : decode cL_law 209 = .ok (.iaload, 1) := by decide +kernel
theorem dL_law_210 : decode cL_law 210 = .ok (.aload_n 0, 1) := by decide +kernel
theorem dL_law_211 : decode cL_law 211 = .ok (.iload_n 3, 1) := by decide +kernel
theorem dL_law_212 : decode cL_law 212 = .ok (.iconst 3, 1) := by decide +kernel
theorem dL_law_213 : decode cL_law 213 = .ok (.iadd, 1) := by decide +kernel
theorem dL_law_214 : decode cL_law 214 = .ok (.iaload, 1) := by decide +kernel
theorem dL_law_215 : decode cL_law 215 = .ok (.aload_n 0, 1) := by decide +kernel
theorem dL_law_216 : decode cL_law 216 = .ok (.iload_n 3, 1) := by decide +kernel
theorem dL_law_217 : decode cL_law 217 = .ok (.iconst 4, 1) := by decide +kernel
theorem dL_law_218 : decode cL_law 218 = .ok (.iadd, 1) := by decide +kernel
theorem dL_law_219 : decode cL_law 219 = .ok (.iaload, 1) := by decide +kernel
theorem dL_law_220 : decode cL_law 220 = .ok (.aload_n 0, 1) := by decide +kernel
theorem dL_law_221 : decode cL_law 221 = .ok (.iload_n 3, 1) := by decide +kernel
theorem dL_law_222 : decode cL_law 222 = .ok (.iconst 5, 1) := by decide +kernel
theorem dL_law_223 : decode cL_law 223 = .ok (.iadd, 1) := by decide +kernel
theorem dL_law_224 : decode cL_law 224 = .ok (.iaload, 1) := by decide +kernel
theorem dL_law_225 : decode cL_law 225 = .ok (.aload_n 0, 1) := by decide +kernel
theorem dL_law_226 : decode cL_law 226 = .ok (.iload_n 3, 1) := by decide +kernel
theorem dL_law_227 : decode cL_law 227 = .ok (.bipush 6, 2) := by decide +kernel
theorem dL_law_229 : decode cL_law 229 = .ok (.iadd, 1) := by decide +kernel
theorem dL_law_230 : decode cL_law 230 = .ok (.iaload, 1) := by decide +kernel
theorem dL_law_231 : decode cL_law 231 = .ok (.invokevirtual 17, 3) := by decide +kernel
theorem dL_law_234 : decode cL_law 234 = .ok (.if_icmp .eq 970, 3) := by decide +kernel
theorem dL_law_237 : decode cL_law 237 = .ok (.iconst 0, 1) := by decide +kernel
theorem dL_law_238 : decode cL_law 238 = .ok (.ireturn, 1) := by decide +kernel
theorem dL_law_239 : decode cL_law 239 = .ok (.aload_n 1, 1) := by decide +kernel
theorem dL_law_240 : decode cL_law 240 = .ok (.aload_n 0, 1) := by decide +kernel
theorem dL_law_241 : decode cL_law 241 = .ok (.iload_n 3, 1) := by decide +kernel
theorem dL_law_242 : decode cL_law 242 = .ok (.iconst 1, 1) := by decide +kernel
theorem dL_law_243 : decode cL_law 243 = .ok (.iadd, 1) := by decide +kernel
theorem dL_law_244 : decode cL_law 244 = .ok (.iaload, 1) := by decide +kernel
theorem dL_law_245 : decode cL_law 245 = .ok (.invokevirtual 18, 3) := by decide +kernel
theorem dL_law_248 : decode cL_law 248 = .ok (.aload_n 2, 1) := by decide +kernel
theorem dL_law_249 : decode cL_law 249 = .ok (.aload_n 0, 1) := by decide +kernel
theorem dL_law_250 : decode cL_law 250 = .ok (.iload_n 3, 1) := by decide +kernel
theorem dL_law_251 : decode cL_law 251 = .ok (.iconst 1, 1) := by decide +kernel
theorem dL_law_252 : decode cL_law 252 = .ok (.iadd, 1) := by decide +kernel
theorem dL_law_253 : decode cL_law 253 = .ok (.iaload, 1) := by decide +kernel
theorem dL_law_254 : decode cL_law 254 = .ok (.invokevirtual 22, 3) := by decide +kernel
theorem dL_law_257 : decode cL_law 257 = .ok (.if_icmp .eq 947, 3) := by decide +kernel
theorem dL_law_260 : decode cL_law 260 = .ok (.iconst 0, 1) := by decide +kernel
theorem dL_law_261 : decode cL_law 261 = .ok (.ireturn, 1) := by decide +kernel
theorem dL_law_262 : decode cL_law 262 = .ok (.aload_n 1, 1) := by decide +kernel
theorem dL_law_263 : decode cL_law 263 = .ok (.aload_n 0, 1) := by decide +kernel
theorem dL_law_264 : decode cL_law 264 = .ok (.iload_n 3, 1) := by decide +kernel
theorem dL_law_265 : decode cL_law 265 = .ok (.iconst 1, 1) := by decide +kernel
theorem dL_law_266 : decode cL_law 266 = .ok (.iadd, 1) := by decide +kernel
theorem dL_law_267 : decode cL_law 267 = .ok (.iaload, 1) := by decide +kernel
theorem dL_law_268 : decode cL_law 268 = .ok (.aload_n 0, 1) := by decide +kernel
theorem dL_law_269 : decode cL_law 269 = .ok (.iload_n 3, 1) := by decide +kernel
theorem dL_law_270 : decode cL_law 270 = .ok (.iconst 2, 1) := by decide +kernel
theorem dL_law_271 : decode cL_law 271 = .ok (.iadd, 1) := by decide +kernel
theorem dL_law_272 : decode cL_law 272 = .ok (.iaload, 1) := by decide +kernel
theorem dL_law_273 : decode cL_law 273 = .ok (.aload_n 0, 1) := by decide +kernel
theorem dL_law_274 : decode cL_law 274 = .ok (.iload_n 3, 1) := by decide +kernel
theorem dL_law_275 : decode cL_law 275 = .ok (.iconst 3, 1) := by decide +kernel
theorem dL_law_276 : decode cL_law 276 = .ok (.iadd, 1) := by decide +kernel
theorem dL_law_277 : decode cL_law 277 = .ok (.iaload, 1) := by decide +kernel
theorem dL_law_278 : decode cL_law 278 = .ok (.aload_n 0, 1) := by decide +kernel
theorem dL_law_279 : decode cL_law 279 = .ok (.iload_n 3, 1) := by decide +kernel
theorem dL_law_280 : decode cL_law 280 = .ok (.iconst 4, 1) := by decide +kernel
theorem dL_law_281 : decode cL_law 281 = .ok (.iadd, 1) := by decide +kernel
theorem dL_law_282 : decode cL_law 282 = .ok (.iaload, 1) := by decide +kernel
theorem dL_law_283 : decode cL_law 283 = .ok (.invokevirtual 23, 3) := by decide +kernel
theorem dL_law_286 : decode cL_law 286 = .ok (.aload_n 2, 1) := by decide +kernel
theorem dL_law_287 : decode cL_law 287 = .ok (.aload_n 0, 1) := by decide +kernel
theorem dL_law_288 : decode cL_law 288 = .ok (.iload_n 3, 1) := by decide +kernel
theorem dL_law_289 : decode cL_law 289 = .ok (.iconst 1, 1) := by decide +kernel
theorem dL_law_290 : decode cL_law 290 = .ok (.iadd, 1) := by decide +kernel
theorem dL_law_291 : decode cL_law 291 = .ok (.iaload, 1) := by decide +kernel
theorem dL_law_292 : decode cL_law 292 = .ok (.aload_n 0, 1) := by decide +kernel
theorem dL_law_293 : decode cL_law 293 = .ok (.iload_n 3, 1) := by decide +kernel
theorem dL_law_294 : decode cL_law 294 = .ok (.iconst 2, 1) := by decide +kernel
theorem dL_law_295 : decode cL_law 295 = .ok (.iadd, 1) := by decide +kernel
theorem dL_law_296 : decode cL_law 296 = .ok (.iaload, 1) := by decide +kernel
theorem dL_law_297 : decode cL_law 297 = .ok (.aload_n 0, 1) := by decide +kernel
theorem dL_law_298 : decode cL_law 298 = .ok (.iload_n 3, 1) := by decide +kernel
theorem dL_law_299 : decode cL_law 299 = .ok (.iconst 3, 1) := by decide +kernel
theorem dL_law_300 : decode cL_law 300 = .ok (.iadd, 1) := by decide +kernel
theorem dL_law_301 : decode cL_law 301 = .ok (.iaload, 1) := by decide +kernel
theorem dL_law_302 : decode cL_law 302 = .ok (.aload_n 0, 1) := by decide +kernel
theorem dL_law_303 : decode cL_law 303 = .ok (.iload_n 3, 1) := by decide +kernel
theorem dL_law_304 : decode cL_law 304 = .ok (.iconst 4, 1) := by decide +kernel
theorem dL_law_305 : decode cL_law 305 = .ok (.iadd, 1) := by decide +kernel
theorem dL_law_306 : decode cL_law 306 = .ok (.iaload, 1) := by decide +kernel
theorem dL_law_307 : decode cL_law 307 = .ok (.invokevirtual 27, 3) := by decide +kernel
theorem dL_law_310 : decode cL_law 310 = .ok (.if_icmp .eq 894, 3) := by decide +kernel
theorem dL_law_313 : decode cL_law 313 = .ok (.iconst 0, 1) := by decide +kernel
theorem dL_law_314 : decode cL_law 314 = .ok (.ireturn, 1) := by decide +kernel
theorem dL_law_315 : decode cL_law 315 = .ok (.aload_n 1, 1) := by decide +kernel
theorem dL_law_316 : decode cL_law 316 = .ok (.aload_n 0, 1) := by decide +kernel
theorem dL_law_317 : decode cL_law 317 = .ok (.iload_n 3, 1) := by decide +kernel
theorem dL_law_318 : decode cL_law 318 = .ok (.iconst 1, 1) := by decide +kernel
theorem dL_law_319 : decode cL_law 319 = .ok (.iadd, 1) := by decide +kernel
theorem dL_law_320 : decode cL_law 320 = .ok (.iaload, 1) := by decide +kernel
theorem dL_law_321 : decode cL_law 321 = .ok (.aload_n 0, 1) := by decide +kernel
theorem dL_law_322 : decode cL_law 322 = .ok (.iload_n 3, 1) := by decide +kernel
theorem dL_law_323 : decode cL_law 323 = .ok (.iconst 2, 1) := by decide +kernel
theorem dL_law_324 : decode cL_law 324 = .ok (.iadd, 1) := by decide +kernel
theorem dL_law_325 : decode cL_law 325 = .ok (.iaload, 1) := by decide +kernel
theorem dL_law_326 : decode cL_law 326 = .ok (.invokevirtual 28, 3) := by decide +kernel
theorem dL_law_329 : decode cL_law 329 = .ok (.aload_n 2, 1) := by decide +kernel
theorem dL_law_330 : decode cL_law 330 = .ok (.aload_n 0, 1) := by decide +kernel
theorem dL_law_331 : decode cL_law 331 = .ok (.iload_n 3, 1) := by decide +kernel
theorem dL_law_332 : decode cL_law 332 = .ok (.iconst 1, 1) := by decide +kernel
theorem dL_law_333 : decode cL_law 333 = .ok (.iadd, 1) := by decide +kernel
theorem dL_law_334 : decode cL_law 334 = .ok (.iaload, 1) := by decide +kernel
theorem dL_law_335 : decode cL_law 335 = .ok (.aload_n 0, 1) := by decide +kernel
theorem dL_law_336 : decode cL_law 336 = .ok (.iload_n 3, 1) := by decide +kernel
theorem dL_law_337 : decode cL_law 337 = .ok (.iconst 2, 1) := by decide +kernel
theorem dL_law_338 : decode cL_law 338 = .ok (.iadd, 1) := by decide +kernel
theorem dL_law_339 : decode cL_law 339 = .ok (.iaload, 1) := by decide +kernel
theorem dL_law_340 : decode cL_law 340 = .ok (.invokevirtual 32, 3) := by decide +kernel
theorem dL_law_343 : decode cL_law 343 = .ok (.if_icmp .eq 861, 3) := by decide +kernel
theorem dL_law_346 : decode cL_law 346 = .ok (.iconst 0, 1) := by decide +kernel
theorem dL_law_347 : decode cL_law 347 = .ok (.ireturn, 1) := by decide +kernel
theorem dL_law_348 : decode cL_law 348 = .ok (.aload_n 1, 1) := by decide +kernel
theorem dL_law_349 : decode cL_law 349 = .ok (.aload_n 0, 1) := by decide +kernel
theorem dL_law_350 : decode cL_law 350 = .ok (.iload_n 3, 1) := by decide +kernel
theorem dL_law_351 : decode cL_law 351 = .ok (.iconst 1, 1) := by decide +kernel
theorem dL_law_352 : decode cL_law 352 = .ok (.iadd, 1) := by decide +kernel
theorem dL_law_353 : decode cL_law 353 = .ok (.iaload, 1) := by decide +kernel
theorem dL_law_354 : decode cL_law 354 = .ok (.aload_n 0, 1) := by decide +kernel
theorem dL_law_355 : decode cL_law 355 = .ok (.iload_n 3, 1) := by decide +kernel
theorem dL_law_356 : decode cL_law 356 = .ok (.iconst 2, 1) := by decide +kernel
theorem dL_law_357 : decode cL_law 357 = .ok (.iadd, 1) := by decide +kernel
theorem dL_law_358 : decode cL_law 358 = .ok (.iaload, 1) := by decide +kernel
theorem dL_law_359 : decode cL_law 359 = .ok (.invokevirtual 33, 3) := by decide +kernel
theorem dL_law_362 : decode cL_law 362 = .ok (.aload_n 2, 1) := by decide +kernel
theorem dL_law_363 : decode cL_law 363 = .ok (.aload_n 0, 1) := by decide +kernel
theorem dL_law_364 : decode cL_law 364 = .ok (.iload_n 3, 1) := by decide +kernel
theorem dL_law_365 : decode cL_law 365 = .ok (.iconst 1, 1) := by decide +kernel
theorem dL_law_366 : decode cL_law 366 = .ok (.iadd, 1) := by decide +kernel
theorem dL_law_367 : decode cL_law 367 = .ok (.iaload, 1) := by decide +kernel
theorem dL_law_368 : decode cL_law 368 = .ok (.aload_n 0, 1) := by decide +kernel
theorem dL_law_369 : decode cL_law 369 = .ok (.iload_n 3, 1) := by decide +kernel
theorem dL_law_370 : decode cL_law 370 = .ok (.iconst 2, 1) := by decide +kernel
theorem dL_law_371 : decode cL_law 371 = .ok (.iadd, 1) := by decide +kernel
theorem dL_law_372 : decode cL_law 372 = .ok (.iaload, 1) := by decide +kernel
theorem dL_law_373 : decode cL_law 373 = .ok (.invokevirtual 36, 3) := by decide +kernel
theorem dL_law_376 : decode cL_law 376 = .ok (.if_icmp .eq 828, 3) := by decide +kernel
theorem dL_law_379 : decode cL_law 379 = .ok (.iconst 0, 1) := by decide +kernel
theorem dL_law_380 : decode cL_law 380 = .ok (.ireturn, 1) := by decide +kernel
theorem dL_law_381 : decode cL_law 381 = .ok (.aload_n 1, 1) := by decide +kernel
theorem dL_law_382 : decode cL_law 382 = .ok (.invokevirtual 37, 3) := by decide +kernel
theorem dL_law_385 : decode cL_law 385 = .ok (.aload_n 2, 1) := by decide +kernel
theorem dL_law_386 : decode cL_law 386 = .ok (.invokevirtual 41, 3) := by decide +kernel
theorem dL_law_389 : decode cL_law 389 = .ok (.if_icmp .eq 815, 3) := by decide +kernel
theorem dL_law_392 : decode cL_law 392 = .ok (.iconst 0, 1) := by decide +kernel
theorem dL_law_393 : decode cL_law 393 = .ok (.ireturn, 1) := by decide +kernel
theorem dL_law_394 : decode cL_law 394 = .ok (.aload_n 1, 1) := by decide +kernel
theorem dL_law_395 : decode cL_law 395 = .ok (.aload_n 0, 1) := by decide +kernel
theorem dL_law_396 : decode cL_law 396 = .ok (.iload_n 3, 1) := by decide +kernel
theorem dL_law_397 : decode cL_law 397 = .ok (.iconst 1, 1) := by decide +kernel
theorem dL_law_398 : decode cL_law 398 = .ok (.iadd, 1) := by decide +kernel
theorem dL_law_399 : decode cL_law 399 = .ok (.iaload, 1) := by decide +kernel
theorem dL_law_400 : decode cL_law 400 = .ok (.aload_n 0, 1) := by decide +kernel
theorem dL_law_401 : decode cL_law 401 = .ok (.iload_n 3, 1) := by decide +kernel
theorem dL_law_402 : decode cL_law 402 = .ok (.iconst 2, 1) := by decide +kernel
theorem dL_law_403 : decode cL_law 403 = .ok (.iadd, 1) := by decide +kernel
theorem dL_law_404 : decode cL_law 404 = .ok (.iaload, 1) := by decide +kernel
theorem dL_law_405 : decode cL_law 405 = .ok (.invokevirtual 42, 3) := by decide +kernel
theorem dL_law_408 : decode cL_law 408 = .ok (.aload_n 2, 1) := by decide +kernel
theorem dL_law_409 : decode cL_law 409 = .ok (.aload_n 0, 1) := by decide +kernel
theorem dL_law_410 : decode cL_law 410 = .ok (.iload_n 3, 1) := by decide +kernel
theorem dL_law_411 : decode cL_law 411 = .ok (.iconst 1, 1) := by decide +kernel
theorem dL_law_412 : decode cL_law 412 = .ok (.iadd, 1) := by decide +kernel
theorem dL_law_413 : decode cL_law 413 = .ok (.iaload, 1) := by decide +kernel
theorem dL_law_414 : decode cL_law 414 = .ok (.aload_n 0, 1) := by decide +kernel
theorem dL_law_415 : decode cL_law 415 = .ok (.iload_n 3, 1) := by decide +kernel
theorem dL_law_416 : decode cL_law 416 = .ok (.iconst 2, 1) := by decide +kernel
theorem dL_law_417 : decode cL_law 417 = .ok (.iadd, 1) := by decide +kernel
theorem dL_law_418 : decode cL_law 418 = .ok (.iaload, 1) := by decide +kernel
theorem dL_law_419 : decode cL_law 419 = .ok (.invokevirtual 45, 3) := by decide +kernel
theorem dL_law_422 : decode cL_law 422 = .ok (.if_icmp .eq 782, 3) := by decide +kernel
theorem dL_law_425 : decode cL_law 425 = .ok (.iconst 0, 1) := by decide +kernel
theorem dL_law_426 : decode cL_law 426 = .ok (.ireturn, 1) := by decide +kernel
theorem dL_law_427 : decode cL_law 427 = .ok (.aload_n 1, 1) := by decide +kernel
theorem dL_law_428 : decode cL_law 428 = .ok (.aload_n 0, 1) := by decide +kernel
theorem dL_law_429 : decode cL_law 429 = .ok (.iload_n 3, 1) := by decide +kernel
theorem dL_law_430 : decode cL_law 430 = .ok (.iconst 1, 1) := by decide +kernel
theorem dL_law_431 : decode cL_law 431 = .ok (.iadd, 1) := by decide +kernel
theorem dL_law_432 : decode cL_law 432 = .ok (.iaload, 1) := by decide +kernel
theorem dL_law_433 : decode cL_law 433 = .ok (.aload_n 0, 1) := by decide +kernel
theorem dL_law_434 : decode cL_law 434 = .ok (.iload_n 3, 1) := by decide +kernel
theorem dL_law_435 : decode cL_law 435 = .ok (.iconst 2, 1) := by decide +kernel
theorem dL_law_436 : decode cL_law 436 = .ok (.iadd, 1) := by decide +kernel
theorem dL_law_437 : decode cL_law 437 = .ok (.iaload, 1) := by decide +kernel
theorem dL_law_438 : decode cL_law 438 = .ok (.aload_n 0, 1) := by decide +kernel
theorem dL_law_439 : decode cL_law 439 = .ok (.iload_n 3, 1) := by decide +kernel
theorem dL_law_440 : decode cL_law 440 = .ok (.iconst 3, 1) := by decide +kernel
theorem dL_law_441 : decode cL_law 441 = .ok (.iadd, 1) := by decide +kernel
theorem dL_law_442 : decode cL_law 442 = .ok (.iaload, 1) := by decide +kernel
theorem dL_law_443 : decode cL_law 443 = .ok (.invokevirtual 46, 3) := by decide +kernel
theorem dL_law_446 : decode cL_law 446 = .ok (.aload_n 2, 1) := by decide +kernel
theorem dL_law_447 : decode cL_law 447 = .ok (.aload_n 0, 1) := by decide +kernel
theorem dL_law_448 : decode cL_law 448 = .ok (.iload_n 3, 1) := by decide +kernel
theorem dL_law_449 : decode cL_law 449 = .ok (.iconst 1, 1) := by decide +kernel
theorem dL_law_450 : decode cL_law 450 = .ok (.iadd, 1) := by decide +kernel
theorem dL_law_451 : decode cL_law 451 = .ok (.iaload, 1) := by decide +kernel
theorem dL_law_452 : decode cL_law 452 = .ok (.aload_n 0, 1) := by decide +kernel
theorem dL_law_453 : decode cL_law 453 = .ok (.iload_n 3, 1) := by decide +kernel
theorem dL_law_454 : decode cL_law 454 = .ok (.iconst 2, 1) := by decide +kernel
theorem dL_law_455 : decode cL_law 455 = .ok (.iadd, 1) := by decide +kernel
theorem dL_law_456 : decode cL_law 456 = .ok (.iaload, 1) := by decide +kernel
theorem dL_law_457 : decode cL_law 457 = .ok (.aload_n 0, 1) := by decide +kernel
theorem dL_law_458 : decode cL_law 458 = .ok (.iload_n 3, 1) := by decide +kernel
theorem dL_law_459 : decode cL_law 459 = .ok (.iconst 3, 1) := by decide +kernel
theorem dL_law_460 : decode cL_law 460 = .ok (.iadd, 1) := by decide +kernel
theorem dL_law_461 : decode cL_law 461 = .ok (.iaload, 1) := by decide +kernel
theorem dL_law_462 : decode cL_law 462 = .ok (.invokevirtual 50, 3) := by decide +kernel
theorem dL_law_465 : decode cL_law 465 = .ok (.if_icmp .eq 739, 3) := by decide +kernel
theorem dL_law_468 : decode cL_law 468 = .ok (.iconst 0, 1) := by decide +kernel
theorem dL_law_469 : decode cL_law 469 = .ok (.ireturn, 1) := by decide +kernel
theorem dL_law_470 : decode cL_law 470 = .ok (.aload_n 1, 1) := by decide +kernel
theorem dL_law_471 : decode cL_law 471 = .ok (.aload_n 0, 1) := by decide +kernel
theorem dL_law_472 : decode cL_law 472 = .ok (.iload_n 3, 1) := by decide +kernel
theorem dL_law_473 : decode cL_law 473 = .ok (.iconst 1, 1) := by decide +kernel
theorem dL_law_474 : decode cL_law 474 = .ok (.iadd, 1) := by decide +kernel
theorem dL_law_475 : decode cL_law 475 = .ok (.iaload, 1) := by decide +kernel
theorem dL_law_476 : decode cL_law 476 = .ok (.aload_n 0, 1) := by decide +kernel
theorem dL_law_477 : decode cL_law 477 = .ok (.iload_n 3, 1) := by decide +kernel
theorem dL_law_478 : decode cL_law 478 = .ok (.iconst 2, 1) := by decide +kernel
theorem dL_law_479 : decode cL_law 479 = .ok (.iadd, 1) := by decide +kernel
theorem dL_law_480 : decode cL_law 480 = .ok (.iaload, 1) := by decide +kernel
theorem dL_law_481 : decode cL_law 481 = .ok (.aload_n 0, 1) := by decide +kernel
theorem dL_law_482 : decode cL_law 482 = .ok (.iload_n 3, 1) := by decide +kernel
theorem dL_law_483 : decode cL_law 483 = .ok (.iconst 3, 1) := by decide +kernel
theorem dL_law_484 : decode cL_law 484 = .ok (.iadd, 1) := by decide +kernel
theorem dL_law_485 : decode cL_law 485 = .ok (.iaload, 1) := by decide +kernel
theorem dL_law_486 : decode cL_law 486 = .ok (.invokevirtual 51, 3) := by decide +kernel
theorem dL_law_489 : decode cL_law 489 = .ok (.aload_n 2, 1) := by decide +kernel
theorem dL_law_490 : decode cL_law 490 = .ok (.aload_n 0, 1) := by decide +kernel
theorem dL_law_491 : decode cL_law 491 = .ok (.iload_n 3, 1) := by decide +kernel
theorem dL_law_492 : decode cL_law 492 = .ok (.iconst 1, 1) := by decide +kernel
theorem dL_law_493 : decode cL_law 493 = .ok (.iadd, 1) := by decide +kernel
theorem dL_law_494 : decode cL_law 494 = .ok (.iaload, 1) := by decide +kernel
theorem dL_law_495 : decode cL_law 495 = .ok (.aload_n 0, 1) := by decide +kernel
theorem dL_law_496 : decode cL_law 496 = .ok (.iload_n 3, 1) := by decide +kernel
theorem dL_law_497 : decode cL_law 497 = .ok (.iconst 2, 1) := by decide +kernel
theorem dL_law_498 : decode cL_law 498 = .ok (.iadd, 1) := by decide +kernel
theorem dL_law_499 : decode cL_law 499 = .ok (.iaload, 1) := by decide +kernel
theorem dL_law_500 : decode cL_law 500 = .ok (.aload_n 0, 1) := by decide +kernel
theorem dL_law_501 : decode cL_law 501 = .ok (.iload_n 3, 1) := by decide +kernel
theorem dL_law_502 : decode cL_law 502 = .ok (.iconst 3, 1) := by decide +kernel
theorem dL_law_503 : decode cL_law 503 = .ok (.iadd, 1) := by decide +kernel
theorem dL_law_504 : decode cL_law 504 = .ok (.iaload, 1) := by decide +kernel
theorem dL_law_505 : decode cL_law 505 = .ok (.invokevirtual 54, 3) := by decide +kernel
theorem dL_law_508 : decode cL_law 508 = .ok (.if_icmp .eq 696, 3) := by decide +kernel
theorem dL_law_511 : decode cL_law 511 = .ok (.iconst 0, 1) := by decide +kernel
theorem dL_law_512 : decode cL_law 512 = .ok (.ireturn, 1) := by decide +kernel
theorem dL_law_513 : decode cL_law 513 = .ok (.aload_n 1, 1) := by decide +kernel
theorem dL_law_514 : decode cL_law 514 = .ok (.aload_n 0, 1) := by decide +kernel
theorem dL_law_515 : decode cL_law 515 = .ok (.iload_n 3, 1) := by decide +kernel
theorem dL_law_516 : decode cL_law 516 = .ok (.iconst 1, 1) := by decide +kernel
theorem dL_law_517 : decode cL_law 517 = .ok (.iadd, 1) := by decide +kernel
theorem dL_law_518 : decode cL_law 518 = .ok (.iaload, 1) := by decide +kernel
theorem dL_law_519 : decode cL_law 519 = .ok (.aload_n 0, 1) := by decide +kernel
theorem dL_law_520 : decode cL_law 520 = .ok (.iload_n 3, 1) := by decide +kernel
theorem dL_law_521 : decode cL_law 521 = .ok (.iconst 2, 1) := by decide +kernel
theorem dL_law_522 : decode cL_law 522 = .ok (.iadd, 1) := by decide +kernel
theorem dL_law_523 : decode cL_law 523 = .ok (.iaload, 1) := by decide +kernel
theorem dL_law_524 : decode cL_law 524 = .ok (.aload_n 0, 1) := by decide +kernel
theorem dL_law_525 : decode cL_law 525 = .ok (.iload_n 3, 1) := by decide +kernel
theorem dL_law_526 : decode cL_law 526 = .ok (.iconst 3, 1) := by decide +kernel
theorem dL_law_527 : decode cL_law 527 = .ok (.iadd, 1) := by decide +kernel
theorem dL_law_528 : decode cL_law 528 = .ok (.iaload, 1) := by decide +kernel
theorem dL_law_529 : decode cL_law 529 = .ok (.aload_n 0, 1) := by decide +kernel
theorem dL_law_530 : decode cL_law 530 = .ok (.iload_n 3, 1) := by decide +kernel
theorem dL_law_531 : decode cL_law 531 = .ok (.iconst 4, 1) := by decide +kernel
theorem dL_law_532 : decode cL_law 532 = .ok (.iadd, 1) := by decide +kernel
theorem dL_law_533 : decode cL_law 533 = .ok (.iaload, 1) := by decide +kernel
theorem dL_law_534 : decode cL_law 534 = .ok (.invokevirtual 55, 3) := by decide +kernel
theorem dL_law_537 : decode cL_law 537 = .ok (.aload_n 2, 1) := by decide +kernel
theorem dL_law_538 : decode cL_law 538 = .ok (.aload_n 0, 1) := by decide +kernel
theorem dL_law_539 : decode cL_law 539 = .ok (.iload_n 3, 1) := by decide +kernel
theorem dL_law_540 : decode cL_law 540 = .ok (.iconst 1, 1) := by decide +kernel
theorem dL_law_541 : decode cL_law 541 = .ok (.iadd, 1) := by decide +kernel
theorem dL_law_542 : decode cL_law 542 = .ok (.iaload, 1) := by decide +kernel
theorem dL_law_543 : decode cL_law 543 = .ok (.aload_n 0, 1) := by decide +kernel
theorem dL_law_544 : decode cL_law 544 = .ok (.iload_n 3, 1) := by decide +kernel
theorem dL_law_545 : decode cL_law 545 = .ok (.iconst 2, 1) := by decide +kernel
theorem dL_law_546 : decode cL_law 546 = .ok (.iadd, 1) := by decide +kernel
theorem dL_law_547 : decode cL_law 547 = .ok (.iaload, 1) := by decide +kernel
theorem dL_law_548 : decode cL_law 548 = .ok (.aload_n 0, 1) := by decide +kernel
theorem dL_law_549 : decode cL_law 549 = .ok (.iload_n 3, 1) := by decide +kernel
theorem dL_law_550 : decode cL_law 550 = .ok (.iconst 3, 1) := by decide +kernel
theorem dL_law_551 : decode cL_law 551 = .ok (.iadd, 1) := by decide +kernel
theorem dL_law_552 : decode cL_law 552 = .ok (.iaload, 1) := by decide +kernel
theorem dL_law_553 : decode cL_law 553 = .ok (.aload_n 0, 1) := by decide +kernel
theorem dL_law_554 : decode cL_law 554 = .ok (.iload_n 3, 1) := by decide +kernel
theorem dL_law_555 : decode cL_law 555 = .ok (.iconst 4, 1) := by decide +kernel
theorem dL_law_556 : decode cL_law 556 = .ok (.iadd, 1) := by decide +kernel
theorem dL_law_557 : decode cL_law 557 = .ok (.iaload, 1) := by decide +kernel
theorem dL_law_558 : decode cL_law 558 = .ok (.invokevirtual 58, 3) := by decide +kernel
theorem dL_law_561 : decode cL_law 561 = .ok (.if_icmp .eq 643, 3) := by decide +kernel
theorem dL_law_564 : decode cL_law 564 = .ok (.iconst 0, 1) := by decide +kernel
theorem dL_law_565 : decode cL_law 565 = .ok (.ireturn, 1) := by decide +kernel
theorem dL_law_566 : decode cL_law 566 = .ok (.aload_n 1, 1) := by decide +kernel
theorem dL_law_567 : decode cL_law 567 = .ok (.aload_n 0, 1) := by decide +kernel
theorem dL_law_568 : decode cL_law 568 = .ok (.iload_n 3, 1) := by decide +kernel
theorem dL_law_569 : decode cL_law 569 = .ok (.iconst 1, 1) := by decide +kernel
theorem dL_law_570 : decode cL_law 570 = .ok (.iadd, 1) := by decide +kernel
theorem dL_law_571 : decode cL_law 571 = .ok (.iaload, 1) := by decide +kernel
theorem dL_law_572 : decode cL_law 572 = .ok (.aload_n 0, 1) := by decide +kernel
theorem dL_law_573 : decode cL_law 573 = .ok (.iload_n 3, 1) := by decide +kernel
theorem dL_law_574 : decode cL_law 574 = .ok (.iconst 2, 1) := by decide +kernel
theorem dL_law_575 : decode cL_law 575 = .ok (.iadd, 1) := by decide +kernel
theorem dL_law_576 : decode cL_law 576 = .ok (.iaload, 1) := by decide +kernel
theorem dL_law_577 : decode cL_law 577 = .ok (.aload_n 0, 1) := by decide +kernel
theorem dL_law_578 : decode cL_law 578 = .ok (.iload_n 3, 1) := by decide +kernel
theorem dL_law_579 : decode cL_law 579 = .ok (.iconst 3, 1) := by decide +kernel
theorem dL_law_580 : decode cL_law 580 = .ok (.iadd, 1) := by decide +kernel
theorem dL_law_581 : decode cL_law 581 = .ok (.iaload, 1) := by decide +kernel
theorem dL_law_582 : decode cL_law 582 = .ok (.invokevirtual 59, 3) := by decide +kernel
theorem dL_law_585 : decode cL_law 585 = .ok (.aload_n 2, 1) := by decide +kernel
theorem dL_law_586 : decode cL_law 586 = .ok (.aload_n 0, 1) := by decide +kernel
theorem dL_law_587 : decode cL_law 587 = .ok (.iload_n 3, 1) := by decide +kernel
theorem dL_law_588 : decode cL_law 588 = .ok (.iconst 1, 1) := by decide +kernel
theorem dL_law_589 : decode cL_law 589 = .ok (.iadd, 1) := by decide +kernel
theorem dL_law_590 : decode cL_law 590 = .ok (.iaload, 1) := by decide +kernel
theorem dL_law_591 : decode cL_law 591 = .ok (.aload_n 0, 1) := by decide +kernel
theorem dL_law_592 : decode cL_law 592 = .ok (.iload_n 3, 1) := by decide +kernel
theorem dL_law_593 : decode cL_law 593 = .ok (.iconst 2, 1) := by decide +kernel
theorem dL_law_594 : decode cL_law 594 = .ok (.iadd, 1) := by decide +kernel
theorem dL_law_595 : decode cL_law 595 = .ok (.iaload, 1) := by decide +kernel
theorem dL_law_596 : decode cL_law 596 = .ok (.aload_n 0, 1) := by decide +kernel
theorem dL_law_597 : decode cL_law 597 = .ok (.iload_n 3, 1) := by decide +kernel
theorem dL_law_598 : decode cL_law 598 = .ok (.iconst 3, 1) := by decide +kernel
theorem dL_law_599 : decode cL_law 599 = .ok (.iadd, 1) := by decide +kernel
theorem dL_law_600 : decode cL_law 600 = .ok (.iaload, 1) := by decide +kernel
theorem dL_law_601 : decode cL_law 601 = .ok (.invokevirtual 62, 3) := by decide +kernel
theorem dL_law_604 : decode cL_law 604 = .ok (.if_icmp .eq 600, 3) := by decide +kernel
theorem dL_law_607 : decode cL_law 607 = .ok (.iconst 0, 1) := by decide +kernel
theorem dL_law_608 : decode cL_law 608 = .ok (.ireturn, 1) := by decide +kernel
theorem dL_law_609 : decode cL_law 609 = .ok (.aload_n 1, 1) := by decide +kernel
theorem dL_law_610 : decode cL_law 610 = .ok (.aload_n 0, 1) := by decide +kernel
theorem dL_law_611 : decode cL_law 611 = .ok (.iload_n 3, 1) := by decide +kernel
theorem dL_law_612 : decode cL_law 612 = .ok (.iconst 1, 1) := by decide +kernel
theorem dL_law_613 : decode cL_law 613 = .ok (.iadd, 1) := by decide +kernel
theorem dL_law_614 : decode cL_law 614 = .ok (.iaload, 1) := by decide +kernel
theorem dL_law_615 : decode cL_law 615 = .ok (.aload_n 0, 1) := by decide +kernel
theorem dL_law_616 : decode cL_law 616 = .ok (.iload_n 3, 1) := by decide +kernel
theorem dL_law_617 : decode cL_law 617 = .ok (.iconst 2, 1) := by decide +kernel
theorem dL_law_618 : decode cL_law 618 = .ok (.iadd, 1) := by decide +kernel
theorem dL_law_619 : decode cL_law 619 = .ok (.iaload, 1) := by decide +kernel
theorem dL_law_620 : decode cL_law 620 = .ok (.invokevirtual 63, 3) := by decide +kernel
theorem dL_law_623 : decode cL_law 623 = .ok (.aload_n 2, 1) := by decide +kernel
theorem dL_law_624 : decode cL_law 624 = .ok (.aload_n 0, 1) := by decide +kernel
theorem dL_law_625 : decode cL_law 625 = .ok (.iload_n 3, 1) := by decide +kernel
theorem dL_law_626 : decode cL_law 626 = .ok (.iconst 1, 1) := by decide +kernel
theorem dL_law_627 : decode cL_law 627 = .ok (.iadd, 1) := by decide +kernel
theorem dL_law_628 : decode cL_law 628 = .ok (.iaload, 1) := by decide +kernel
theorem dL_law_629 : decode cL_law 629 = .ok (.aload_n 0, 1) := by decide +kernel
theorem dL_law_630 : decode cL_law 630 = .ok (.iload_n 3, 1) := by decide +kernel
theorem dL_law_631 : decode cL_law 631 = .ok (.iconst 2, 1) := by decide +kernel
theorem dL_law_632 : decode cL_law 632 = .ok (.iadd, 1) := by decide +kernel
theorem dL_law_633 : decode cL_law 633 = .ok (.iaload, 1) := by decide +kernel
theorem dL_law_634 : decode cL_law 634 = .ok (.invokevirtual 66, 3) := by decide +kernel
theorem dL_law_637 : decode cL_law 637 = .ok (.if_icmp .eq 567, 3) := by decide +kernel
theorem dL_law_640 : decode cL_law 640 = .ok (.iconst 0, 1) := by decide +kernel
theorem dL_law_641 : decode cL_law 641 = .ok (.ireturn, 1) := by decide +kernel
theorem dL_law_642 : decode cL_law 642 = .ok (.aload_n 1, 1) := by decide +kernel
theorem dL_law_643 : decode cL_law 643 = .ok (.aload_n 0, 1) := by decide +kernel
theorem dL_law_644 : decode cL_law 644 = .ok (.iload_n 3, 1) := by decide +kernel
theorem dL_law_645 : decode cL_law 645 = .ok (.iconst 1, 1) := by decide +kernel
theorem dL_law_646 : decode cL_law 646 = .ok (.iadd, 1) := by decide +kernel
theorem dL_law_647 : decode cL_law 647 = .ok (.iaload, 1) := by decide +kernel
theorem dL_law_648 : decode cL_law 648 = .ok (.aload_n 0, 1) := by decide +kernel
theorem dL_law_649 : decode cL_law 649 = .ok (.iload_n 3, 1) := by decide +kernel
theorem dL_law_650 : decode cL_law 650 = .ok (.iconst 2, 1) := by decide +kernel
theorem dL_law_651 : decode cL_law 651 = .ok (.iadd, 1) := by decide +kernel
theorem dL_law_652 : decode cL_law 652 = .ok (.iaload, 1) := by decide +kernel
theorem dL_law_653 : decode cL_law 653 = .ok (.aload_n 0, 1) := by decide +kernel
theorem dL_law_654 : decode cL_law 654 = .ok (.iload_n 3, 1) := by decide +kernel
theorem dL_law_655 : decode cL_law 655 = .ok (.iconst 3, 1) := by decide +kernel
theorem dL_law_656 : decode cL_law 656 = .ok (.iadd, 1) := by decide +kernel
theorem dL_law_657 : decode cL_law 657 = .ok (.iaload, 1) := by decide +kernel
theorem dL_law_658 : decode cL_law 658 = .ok (.aload_n 0, 1) := by decide +kernel
theorem dL_law_659 : decode cL_law 659 = .ok (.iload_n 3, 1) := by decide +kernel
theorem dL_law_660 : decode cL_law 660 = .ok (.iconst 4, 1) := by decide +kernel
theorem dL_law_661 : decode cL_law 661 = .ok (.iadd, 1) := by decide +kernel
theorem dL_law_662 : decode cL_law 662 = .ok (.iaload, 1) := by decide +kernel
theorem dL_law_663 : decode cL_law 663 = .ok (.invokevirtual 67, 3) := by decide +kernel
theorem dL_law_666 : decode cL_law 666 = .ok (.aload_n 2, 1) := by decide +kernel
theorem dL_law_667 : decode cL_law 667 = .ok (.aload_n 0, 1) := by decide +kernel
theorem dL_law_668 : decode cL_law 668 = .ok (.iload_n 3, 1) := by decide +kernel
theorem dL_law_669 : decode cL_law 669 = .ok (.iconst 1, 1) := by decide +kernel
theorem dL_law_670 : decode cL_law 670 = .ok (.iadd, 1) := by decide +kernel
theorem dL_law_671 : decode cL_law 671 = .ok (.iaload, 1) := by decide +kernel
theorem dL_law_672 : decode cL_law 672 = .ok (.aload_n 0, 1) := by decide +kernel
theorem dL_law_673 : decode cL_law 673 = .ok (.iload_n 3, 1) := by decide +kernel
theorem dL_law_674 : decode cL_law 674 = .ok (.iconst 2, 1) := by decide +kernel
theorem dL_law_675 : decode cL_law 675 = .ok (.iadd, 1) := by decide +kernel
theorem dL_law_676 : decode cL_law 676 = .ok (.iaload, 1) := by decide +kernel
theorem dL_law_677 : decode cL_law 677 = .ok (.aload_n 0, 1) := by decide +kernel
theorem dL_law_678 : decode cL_law 678 = .ok (.iload_n 3, 1) := by decide +kernel
theorem dL_law_679 : decode cL_law 679 = .ok (.iconst 3, 1) := by decide +kernel
theorem dL_law_680 : decode cL_law 680 = .ok (.iadd, 1) := by decide +kernel
theorem dL_law_681 : decode cL_law 681 = .ok (.iaload, 1) := by decide +kernel
theorem dL_law_682 : decode cL_law 682 = .ok (.aload_n 0, 1) := by decide +kernel
theorem dL_law_683 : decode cL_law 683 = .ok (.iload_n 3, 1) := by decide +kernel
theorem dL_law_684 : decode cL_law 684 = .ok (.iconst 4, 1) := by decide +kernel
theorem dL_law_685 : decode cL_law 685 = .ok (.iadd, 1) := by decide +kernel
theorem dL_law_686 : decode cL_law 686 = .ok (.iaload, 1) := by decide +kernel
theorem dL_law_687 : decode cL_law 687 = .ok (.invokevirtual 70, 3) := by decide +kernel
theorem dL_law_690 : decode cL_law 690 = .ok (.if_icmp .eq 514, 3) := by decide +kernel
theorem dL_law_693 : decode cL_law 693 = .ok (.iconst 0, 1) := by decide +kernel
theorem dL_law_694 : decode cL_law 694 = .ok (.ireturn, 1) := by decide +kernel
theorem dL_law_695 : decode cL_law 695 = .ok (.aload_n 1, 1) := by decide +kernel
theorem dL_law_696 : decode cL_law 696 = .ok (.aload_n 0, 1) := by decide +kernel
theorem dL_law_697 : decode cL_law 697 = .ok (.iload_n 3, 1) := by decide +kernel
theorem dL_law_698 : decode cL_law 698 = .ok (.iconst 1, 1) := by decide +kernel
theorem dL_law_699 : decode cL_law 699 = .ok (.iadd, 1) := by decide +kernel
theorem dL_law_700 : decode cL_law 700 = .ok (.iaload, 1) := by decide +kernel
theorem dL_law_701 : decode cL_law 701 = .ok (.invokevirtual 71, 3) := by decide +kernel
theorem dL_law_704 : decode cL_law 704 = .ok (.aload_n 2, 1) := by decide +kernel
theorem dL_law_705 : decode cL_law 705 = .ok (.aload_n 0, 1) := by decide +kernel
theorem dL_law_706 : decode cL_law 706 = .ok (.iload_n 3, 1) := by decide +kernel
theorem dL_law_707 : decode cL_law 707 = .ok (.iconst 1, 1) := by decide +kernel
theorem dL_law_708 : decode cL_law 708 = .ok (.iadd, 1) := by decide +kernel
theorem dL_law_709 : decode cL_law 709 = .ok (.iaload, 1) := by decide +kernel
theorem dL_law_710 : decode cL_law 710 = .ok (.invokevirtual 74, 3) := by decide +kernel
theorem dL_law_713 : decode cL_law 713 = .ok (.if_icmp .eq 491, 3) := by decide +kernel
theorem dL_law_716 : decode cL_law 716 = .ok (.iconst 0, 1) := by decide +kernel
theorem dL_law_717 : decode cL_law 717 = .ok (.ireturn, 1) := by decide +kernel
theorem dL_law_718 : decode cL_law 718 = .ok (.aload_n 1, 1) := by decide +kernel
theorem dL_law_719 : decode cL_law 719 = .ok (.aload_n 0, 1) := by decide +kernel
theorem dL_law_720 : decode cL_law 720 = .ok (.iload_n 3, 1) := by decide +kernel
theorem dL_law_721 : decode cL_law 721 = .ok (.iconst 1, 1) := by decide +kernel
theorem dL_law_722 : decode cL_law 722 = .ok (.iadd, 1) := by decide +kernel
theorem dL_law_723 : decode cL_law 723 = .ok (.iaload, 1) := by decide +kernel
theorem dL_law_724 : decode cL_law 724 = .ok (.aload_n 0, 1) := by decide +kernel
theorem dL_law_725 : decode cL_law 725 = .ok (.iload_n 3, 1) := by decide +kernel
theorem dL_law_726 : decode cL_law 726 = .ok (.iconst 2, 1) := by decide +kernel
theorem dL_law_727 : decode cL_law 727 = .ok (.iadd, 1) := by decide +kernel
theorem dL_law_728 : decode cL_law 728 = .ok (.iaload, 1) := by decide +kernel
theorem dL_law_729 : decode cL_law 729 = .ok (.aload_n 0, 1) := by decide +kernel
theorem dL_law_730 : decode cL_law 730 = .ok (.iload_n 3, 1) := by decide +kernel
theorem dL_law_731 : decode cL_law 731 = .ok (.iconst 3, 1) := by decide +kernel
theorem dL_law_732 : decode cL_law 732 = .ok (.iadd, 1) := by decide +kernel
theorem dL_law_733 : decode cL_law 733 = .ok (.iaload, 1) := by decide +kernel
theorem dL_law_734 : decode cL_law 734 = .ok (.invokevirtual 75, 3) := by decide +kernel
theorem dL_law_737 : decode cL_law 737 = .ok (.aload_n 2, 1) := by decide +kernel
theorem dL_law_738 : decode cL_law 738 = .ok (.aload_n 0, 1) := by decide +kernel
theorem dL_law_739 : decode cL_law 739 = .ok (.iload_n 3, 1) := by decide +kernel
theorem dL_law_740 : decode cL_law 740 = .ok (.iconst 1, 1) := by decide +kernel
theorem dL_law_741 : decode cL_law 741 = .ok (.iadd, 1) := by decide +kernel
theorem dL_law_742 : decode cL_law 742 = .ok (.iaload, 1) := by decide +kernel
theorem dL_law_743 : decode cL_law 743 = .ok (.aload_n 0, 1) := by decide +kernel
theorem dL_law_744 : decode cL_law 744 = .ok (.iload_n 3, 1) := by decide +kernel
theorem dL_law_745 : decode cL_law 745 = .ok (.iconst 2, 1) := by decide +kernel
theorem dL_law_746 : decode cL_law 746 = .ok (.iadd, 1) := by decide +kernel
theorem dL_law_747 : decode cL_law 747 = .ok (.iaload, 1) := by decide +kernel
theorem dL_law_748 : decode cL_law 748 = .ok (.aload_n 0, 1) := by decide +kernel
theorem dL_law_749 : decode cL_law 749 = .ok (.iload_n 3, 1) := by decide +kernel
theorem dL_law_750 : decode cL_law 750 = .ok (.iconst 3, 1) := by decide +kernel
theorem dL_law_751 : decode cL_law 751 = .ok (.iadd, 1) := by decide +kernel
theorem dL_law_752 : decode cL_law 752 = .ok (.iaload, 1) := by decide +kernel
theorem dL_law_753 : decode cL_law 753 = .ok (.invokevirtual 78, 3) := by decide +kernel
theorem dL_law_756 : decode cL_law 756 = .ok (.if_icmp .eq 448, 3) := by decide +kernel
theorem dL_law_759 : decode cL_law 759 = .ok (.iconst 0, 1) := by decide +kernel
theorem dL_law_760 : decode cL_law 760 = .ok (.ireturn, 1) := by decide +kernel
theorem dL_law_761 : decode cL_law 761 = .ok (.aload_n 1, 1) := by decide +kernel
theorem dL_law_762 : decode cL_law 762 = .ok (.aload_n 0, 1) := by decide +kernel
theorem dL_law_763 : decode cL_law 763 = .ok (.iload_n 3, 1) := by decide +kernel
theorem dL_law_764 : decode cL_law 764 = .ok (.iconst 1, 1) := by decide +kernel
theorem dL_law_765 : decode cL_law 765 = .ok (.iadd, 1) := by decide +kernel
theorem dL_law_766 : decode cL_law 766 = .ok (.iaload, 1) := by decide +kernel
theorem dL_law_767 : decode cL_law 767 = .ok (.invokevirtual 79, 3) := by decide +kernel
theorem dL_law_770 : decode cL_law 770 = .ok (.aload_n 2, 1) := by decide +kernel
theorem dL_law_771 : decode cL_law 771 = .ok (.aload_n 0, 1) := by decide +kernel
theorem dL_law_772 : decode cL_law 772 = .ok (.iload_n 3, 1) := by decide +kernel
theorem dL_law_773 : decode cL_law 773 = .ok (.iconst 1, 1) := by decide +kernel
theorem dL_law_774 : decode cL_law 774 = .ok (.iadd, 1) := by decide +kernel
theorem dL_law_775 : decode cL_law 775 = .ok (.iaload, 1) := by decide +kernel
theorem dL_law_776 : decode cL_law 776 = .ok (.invokevirtual 82, 3) := by decide +kernel
theorem dL_law_779 : decode cL_law 779 = .ok (.if_icmp .eq 425, 3) := by decide +kernel
theorem dL_law_782 : decode cL_law 782 = .ok (.iconst 0, 1) := by decide +kernel
theorem dL_law_783 : decode cL_law 783 = .ok (.ireturn, 1) := by decide +kernel
theorem dL_law_784 : decode cL_law 784 = .ok (.aload_n 1, 1) := by decide +kernel
theorem dL_law_785 : decode cL_law 785 = .ok (.aload_n 0, 1) := by decide +kernel
theorem dL_law_786 : decode cL_law 786 = .ok (.iload_n 3, 1) := by decide +kernel
theorem dL_law_787 : decode cL_law 787 = .ok (.iconst 1, 1) := by decide +kernel
theorem dL_law_788 : decode cL_law 788 = .ok (.iadd, 1) := by decide +kernel
theorem dL_law_789 : decode cL_law 789 = .ok (.iaload, 1) := by decide +kernel
theorem dL_law_790 : decode cL_law 790 = .ok (.aload_n 0, 1) := by decide +kernel
theorem dL_law_791 : decode cL_law 791 = .ok (.iload_n 3, 1) := by decide +kernel
theorem dL_law_792 : decode cL_law 792 = .ok (.iconst 2, 1) := by decide +kernel
theorem dL_law_793 : decode cL_law 793 = .ok (.iadd, 1) := by decide +kernel
theorem dL_law_794 : decode cL_law 794 = .ok (.iaload, 1) := by decide +kernel
theorem dL_law_795 : decode cL_law 795 = .ok (.invokevirtual 83, 3) := by decide +kernel
theorem dL_law_798 : decode cL_law 798 = .ok (.aload_n 2, 1) := by decide +kernel
theorem dL_law_799 : decode cL_law 799 = .ok (.aload_n 0, 1) := by decide +kernel
theorem dL_law_800 : decode cL_law 800 = .ok (.iload_n 3, 1) := by decide +kernel
theorem dL_law_801 : decode cL_law 801 = .ok (.iconst 1, 1) := by decide +kernel
theorem dL_law_802 : decode cL_law 802 = .ok (.iadd, 1) := by decide +kernel
theorem dL_law_803 : decode cL_law 803 = .ok (.iaload, 1) := by decide +kernel
theorem dL_law_804 : decode cL_law 804 = .ok (.aload_n 0, 1) := by decide +kernel
theorem dL_law_805 : decode cL_law 805 = .ok (.iload_n 3, 1) := by decide +kernel
theorem dL_law_806 : decode cL_law 806 = .ok (.iconst 2, 1) := by decide +kernel
theorem dL_law_807 : decode cL_law 807 = .ok (.iadd, 1) := by decide +kernel
theorem dL_law_808 : decode cL_law 808 = .ok (.iaload, 1) := by decide +kernel
theorem dL_law_809 : decode cL_law 809 = .ok (.invokevirtual 86, 3) := by decide +kernel
theorem dL_law_812 : decode cL_law 812 = .ok (.if_icmp .eq 392, 3) := by decide +kernel
theorem dL_law_815 : decode cL_law 815 = .ok (.iconst 0, 1) := by decide +kernel
theorem dL_law_816 : decode cL_law 816 = .ok (.ireturn, 1) := by decide +kernel
theorem dL_law_817 : decode cL_law 817 = .ok (.aload_n 1, 1) := by decide +kernel
theorem dL_law_818 : decode cL_law 818 = .ok (.aload_n 0, 1) := by decide +kernel
theorem dL_law_819 : decode cL_law 819 = .ok (.iload_n 3, 1) := by decide +kernel
theorem dL_law_820 : decode cL_law 820 = .ok (.iconst 1, 1) := by decide +kernel
theorem dL_law_821 : decode cL_law 821 = .ok (.iadd, 1) := by decide +kernel
theorem dL_law_822 : decode cL_law 822 = .ok (.iaload, 1) := by decide +kernel
theorem dL_law_823 : decode cL_law 823 = .ok (.aload_n 0, 1) := by decide +kernel
theorem dL_law_824 : decode cL_law 824 = .ok (.iload_n 3, 1) := by decide +kernel
theorem dL_law_825 : decode cL_law 825 = .ok (.iconst 2, 1) := by decide +kernel
theorem dL_law_826 : decode cL_law 826 = .ok (.iadd, 1) := by decide +kernel
theorem dL_law_827 : decode cL_law 827 = .ok (.iaload, 1) := by decide +kernel
theorem dL_law_828 : decode cL_law 828 = .ok (.invokevirtual 87, 3) := by decide +kernel
theorem dL_law_831 : decode cL_law 831 = .ok (.aload_n 2, 1) := by decide +kernel
theorem dL_law_832 : decode cL_law 832 = .ok (.aload_n 0, 1) := by decide +kernel
theorem dL_law_833 : decode cL_law 833 = .ok (.iload_n 3, 1) := by decide +kernel
theorem dL_law_834 : decode cL_law 834 = .ok (.iconst 1, 1) := by decide +kernel
theorem dL_law_835 : decode cL_law 835 = .ok (.iadd, 1) := by decide +kernel
theorem dL_law_836 : decode cL_law 836 = .ok (.iaload, 1) := by decide +kernel
theorem dL_law_837 : decode cL_law 837 = .ok (.aload_n 0, 1) := by decide +kernel
theorem dL_law_838 : decode cL_law 838 = .ok (.iload_n 3, 1) := by decide +kernel
theorem dL_law_839 : decode cL_law 839 = .ok (.iconst 2, 1) := by decide +kernel
theorem dL_law_840 : decode cL_law 840 = .ok (.iadd, 1) := by decide +kernel
theorem dL_law_841 : decode cL_law 841 = .ok (.iaload, 1) := by decide +kernel
theorem dL_law_842 : decode cL_law 842 = .ok (.invokevirtual 90, 3) := by decide +kernel
theorem dL_law_845 : decode cL_law 845 = .ok (.if_icmp .eq 359, 3) := by decide +kernel
theorem dL_law_848 : decode cL_law 848 = .ok (.iconst 0, 1) := by decide +kernel
theorem dL_law_849 : decode cL_law 849 = .ok (.ireturn, 1) := by decide +kernel
theorem dL_law_850 : decode cL_law 850 = .ok (.aload_n 1, 1) := by decide +kernel
theorem dL_law_851 : decode cL_law 851 = .ok (.invokevirtual 91, 3) := by decide +kernel
theorem dL_law_854 : decode cL_law 854 = .ok (.aload_n 2, 1) := by decide +kernel
theorem dL_law_855 : decode cL_law 855 = .ok (.invokevirtual 94, 3) := by decide +kernel
theorem dL_law_858 : decode cL_law 858 = .ok (.if_icmp .eq 346, 3) := by decide +kernel
theorem dL_law_861 : decode cL_law 861 = .ok (.iconst 0, 1) := by decide +kernel
theorem dL_law_862 : decode cL_law 862 = .ok (.ireturn, 1) := by decide +kernel
theorem dL_law_863 : decode cL_law 863 = .ok (.aload_n 1, 1) := by decide +kernel
theorem dL_law_864 : decode cL_law 864 = .ok (.aload_n 0, 1) := by decide +kernel
theorem dL_law_865 : decode cL_law 865 = .ok (.iload_n 3, 1) := by decide +kernel
theorem dL_law_866 : decode cL_law 866 = .ok (.iconst 1, 1) := by decide +kernel
theorem dL_law_867 : decode cL_law 867 = .ok (.iadd, 1) := by decide +kernel
theorem dL_law_868 : decode cL_law 868 = .ok (.iaload, 1) := by decide +kernel
theorem dL_law_869 : decode cL_law 869 = .ok (.invokevirtual 95, 3) := by decide +kernel
theorem dL_law_872 : decode cL_law 872 = .ok (.aload_n 2, 1) := by decide +kernel
theorem dL_law_873 : decode cL_law 873 = .ok (.aload_n 0, 1) := by decide +kernel
theorem dL_law_874 : decode cL_law 874 = .ok (.iload_n 3, 1) := by decide +kernel
theorem dL_law_875 : decode cL_law 875 = .ok (.iconst 1, 1) := by decide +kernel
theorem dL_law_876 : decode cL_law 876 = .ok (.iadd, 1) := by decide +kernel
theorem dL_law_877 : decode cL_law 877 = .ok (.iaload, 1) := by decide +kernel
theorem dL_law_878 : decode cL_law 878 = .ok (.invokevirtual 98, 3) := by decide +kernel
theorem dL_law_881 : decode cL_law 881 = .ok (.if_icmp .eq 323, 3) := by decide +kernel
theorem dL_law_884 : decode cL_law 884 = .ok (.iconst 0, 1) := by decide +kernel
theorem dL_law_885 : decode cL_law 885 = .ok (.ireturn, 1) := by decide +kernel
theorem dL_law_886 : decode cL_law 886 = .ok (.aload_n 1, 1) := by decide +kernel
theorem dL_law_887 : decode cL_law 887 = .ok (.aload_n 0, 1) := by decide +kernel
theorem dL_law_888 : decode cL_law 888 = .ok (.iload_n 3, 1) := by decide +kernel
theorem dL_law_889 : decode cL_law 889 = .ok (.iconst 1, 1) := by decide +kernel
theorem dL_law_890 : decode cL_law 890 = .ok (.iadd, 1) := by decide +kernel
theorem dL_law_891 : decode cL_law 891 = .ok (.iaload, 1) := by decide +kernel
theorem dL_law_892 : decode cL_law 892 = .ok (.invokevirtual 99, 3) := by decide +kernel
theorem dL_law_895 : decode cL_law 895 = .ok (.aload_n 2, 1) := by decide +kernel
theorem dL_law_896 : decode cL_law 896 = .ok (.aload_n 0, 1) := by decide +kernel
theorem dL_law_897 : decode cL_law 897 = .ok (.iload_n 3, 1) := by decide +kernel
theorem dL_law_898 : decode cL_law 898 = .ok (.iconst 1, 1) := by decide +kernel
theorem dL_law_899 : decode cL_law 899 = .ok (.iadd, 1) := by decide +kernel
theorem dL_law_900 : decode cL_law 900 = .ok (.iaload, 1) := by decide +kernel
theorem dL_law_901 : decode cL_law 901 = .ok (.invokevirtual 102, 3) := by decide +kernel
theorem dL_law_904 : decode cL_law 904 = .ok (.if_icmp .eq 300, 3) := by decide +kernel
theorem dL_law_907 : decode cL_law 907 = .ok (.iconst 0, 1) := by decide +kernel
theorem dL_law_908 : decode cL_law 908 = .ok (.ireturn, 1) := by decide +kernel
theorem dL_law_909 : decode cL_law 909 = .ok (.aload_n 1, 1) := by decide +kernel
theorem dL_law_910 : decode cL_law 910 = .ok (.aload_n 0, 1) := by decide +kernel
theorem dL_law_911 : decode cL_law 911 = .ok (.iload_n 3, 1) := by decide +kernel
theorem dL_law_912 : decode cL_law 912 = .ok (.iconst 1, 1) := by decide +kernel
theorem dL_law_913 : decode cL_law 913 = .ok (.iadd, 1) := by decide +kernel
theorem dL_law_914 : decode cL_law 914 = .ok (.iaload, 1) := by decide +kernel
theorem dL_law_915 : decode cL_law 915 = .ok (.aload_n 0, 1) := by decide +kernel
theorem dL_law_916 : decode cL_law 916 = .ok (.iload_n 3, 1) := by decide +kernel
theorem dL_law_917 : decode cL_law 917 = .ok (.iconst 2, 1) := by decide +kernel
theorem dL_law_918 : decode cL_law 918 = .ok (.iadd, 1) := by decide +kernel
theorem dL_law_919 : decode cL_law 919 = .ok (.iaload, 1) := by decide +kernel
theorem dL_law_920 : decode cL_law 920 = .ok (.aload_n 0, 1) := by decide +kernel
theorem dL_law_921 : decode cL_law 921 = .ok (.iload_n 3, 1) := by decide +kernel
theorem dL_law_922 : decode cL_law 922 = .ok (.iconst 3, 1) := by decide +kernel
theorem dL_law_923 : decode cL_law 923 = .ok (.iadd, 1) := by decide +kernel
theorem dL_law_924 : decode cL_law 924 = .ok (.iaload, 1) := by decide +kernel
theorem dL_law_925 : decode cL_law 925 = .ok (.invokevirtual 103, 3) := by decide +kernel
theorem dL_law_928 : decode cL_law 928 = .ok (.aload_n 2, 1) := by decide +kernel
theorem dL_law_929 : decode cL_law 929 = .ok (.aload_n 0, 1) := by decide +kernel
theorem dL_law_930 : decode cL_law 930 = .ok (.iload_n 3, 1) := by decide +kernel
theorem dL_law_931 : decode cL_law 931 = .ok (.iconst 1, 1) := by decide +kernel
theorem dL_law_932 : decode cL_law 932 = .ok (.iadd, 1) := by decide +kernel
theorem dL_law_933 : decode cL_law 933 = .ok (.iaload, 1) := by decide +kernel
theorem dL_law_934 : decode cL_law 934 = .ok (.aload_n 0, 1) := by decide +kernel
theorem dL_law_935 : decode cL_law 935 = .ok (.iload_n 3, 1) := by decide +kernel
theorem dL_law_936 : decode cL_law 936 = .ok (.iconst 2, 1) := by decide +kernel
theorem dL_law_937 : decode cL_law 937 = .ok (.iadd, 1) := by decide +kernel
theorem dL_law_938 : decode cL_law 938 = .ok (.iaload, 1) := by decide +kernel
theorem dL_law_939 : decode cL_law 939 = .ok (.aload_n 0, 1) := by decide +kernel
theorem dL_law_940 : decode cL_law 940 = .ok (.iload_n 3, 1) := by decide +kernel
theorem dL_law_941 : decode cL_law 941 = .ok (.iconst 3, 1) := by decide +kernel
theorem dL_law_942 : decode cL_law 942 = .ok (.iadd, 1) := by decide +kernel
theorem dL_law_943 : decode cL_law 943 = .ok (.iaload, 1) := by decide +kernel
theorem dL_law_944 : decode cL_law 944 = .ok (.invokevirtual 106, 3) := by decide +kernel
theorem dL_law_947 : decode cL_law 947 = .ok (.if_icmp .eq 257, 3) := by decide +kernel
theorem dL_law_950 : decode cL_law 950 = .ok (.iconst 0, 1) := by decide +kernel
theorem dL_law_951 : decode cL_law 951 = .ok (.ireturn, 1) := by decide +kernel
theorem dL_law_952 : decode cL_law 952 = .ok (.aload_n 1, 1) := by decide +kernel
theorem dL_law_953 : decode cL_law 953 = .ok (.aload_n 0, 1) := by decide +kernel
theorem dL_law_954 : decode cL_law 954 = .ok (.iload_n 3, 1) := by decide +kernel
theorem dL_law_955 : decode cL_law 955 = .ok (.iconst 1, 1) := by decide +kernel
theorem dL_law_956 : decode cL_law 956 = .ok (.iadd, 1) := by decide +kernel
theorem dL_law_957 : decode cL_law 957 = .ok (.iaload, 1) := by decide +kernel
theorem dL_law_958 : decode cL_law 958 = .ok (.invokevirtual 107, 3) := by decide +kernel
theorem dL_law_961 : decode cL_law 961 = .ok (.aload_n 2, 1) := by decide +kernel
theorem dL_law_962 : decode cL_law 962 = .ok (.aload_n 0, 1) := by decide +kernel
theorem dL_law_963 : decode cL_law 963 = .ok (.iload_n 3, 1) := by decide +kernel
theorem dL_law_964 : decode cL_law 964 = .ok (.iconst 1, 1) := by decide +kernel
theorem dL_law_965 : decode cL_law 965 = .ok (.iadd, 1) := by decide +kernel
theorem dL_law_966 : decode cL_law 966 = .ok (.iaload, 1) := by decide +kernel
theorem dL_law_967 : decode cL_law 967 = .ok (.invokevirtual 110, 3) := by decide +kernel
theorem dL_law_970 : decode cL_law 970 = .ok (.if_icmp .eq 234, 3) := by decide +kernel
theorem dL_law_973 : decode cL_law 973 = .ok (.iconst 0, 1) := by decide +kernel
theorem dL_law_974 : decode cL_law 974 = .ok (.ireturn, 1) := by decide +kernel
theorem dL_law_975 : decode cL_law 975 = .ok (.aload_n 1, 1) := by decide +kernel
theorem dL_law_976 : decode cL_law 976 = .ok (.aload_n 0, 1) := by decide +kernel
theorem dL_law_977 : decode cL_law 977 = .ok (.iload_n 3, 1) := by decide +kernel
theorem dL_law_978 : decode cL_law 978 = .ok (.iconst 1, 1) := by decide +kernel
theorem dL_law_979 : decode cL_law 979 = .ok (.iadd, 1) := by decide +kernel
theorem dL_law_980 : decode cL_law 980 = .ok (.iaload, 1) := by decide +kernel
theorem dL_law_981 : decode cL_law 981 = .ok (.aload_n 0, 1) := by decide +kernel
theorem dL_law_982 : decode cL_law 982 = .ok (.iload_n 3, 1) := by decide +kernel
theorem dL_law_983 : decode cL_law 983 = .ok (.iconst 2, 1) := by decide +kernel
theorem dL_law_984 : decode cL_law 984 = .ok (.iadd, 1) := by decide +kernel
theorem dL_law_985 : decode cL_law 985 = .ok (.iaload, 1) := by decide +kernel
theorem dL_law_986 : decode cL_law 986 = .ok (.aload_n 0, 1) := by decide +kernel
theorem dL_law_987 : decode cL_law 987 = .ok (.iload_n 3, 1) := by decide +kernel
theorem dL_law_988 : decode cL_law 988 = .ok (.iconst 3, 1) := by decide +kernel
theorem dL_law_989 : decode cL_law 989 = .ok (.iadd, 1) := by decide +kernel
theorem dL_law_990 : decode cL_law 990 = .ok (.iaload, 1) := by decide +kernel
theorem dL_law_991 : decode cL_law 991 = .ok (.aload_n 0, 1) := by decide +kernel
theorem dL_law_992 : decode cL_law 992 = .ok (.iload_n 3, 1) := by decide +kernel
theorem dL_law_993 : decode cL_law 993 = .ok (.iconst 4, 1) := by decide +kernel
theorem dL_law_994 : decode cL_law 994 = .ok (.iadd, 1) := by decide +kernel
theorem dL_law_995 : decode cL_law 995 = .ok (.iaload, 1) := by decide +kernel
theorem dL_law_996 : decode cL_law 996 = .ok (.invokevirtual 111, 3) := by decide +kernel
theorem dL_law_999 : decode cL_law 999 = .ok (.aload_n 2, 1) := by decide +kernel
theorem dL_law_1000 : decode cL_law 1000 = .ok (.aload_n 0, 1) := by decide +kernel
theorem dL_law_1001 : decode cL_law 1001 = .ok (.iload_n 3, 1) := by decide +kernel
theorem dL_law_1002 : decode cL_law 1002 = .ok (.iconst 1, 1) := by decide +kernel
theorem dL_law_1003 : decode cL_law 1003 = .ok (.iadd, 1) := by decide +kernel
theorem dL_law_1004 : decode cL_law 1004 = .ok (.iaload, 1) := by decide +kernel
theorem dL_law_1005 : decode cL_law 1005 = .ok (.aload_n 0, 1) := by decide +kernel
theorem dL_law_1006 : decode cL_law 1006 = .ok (.iload_n 3, 1) := by decide +kernel
theorem dL_law_1007 : decode cL_law 1007 = .ok (.iconst 2, 1) := by decide +kernel
theorem dL_law_1008 : decode cL_law 1008 = .ok (.iadd, 1) := by decide +kernel
theorem dL_law_1009 : decode cL_law 1009 = .ok (.iaload, 1) := by decide +kernel
theorem dL_law_1010 : decode cL_law 1010 = .ok (.aload_n 0, 1) := by decide +kernel
theorem dL_law_1011 : decode cL_law 1011 = .ok (.iload_n 3, 1) := by decide +kernel
theorem dL_law_1012 : decode cL_law 1012 = .ok (.iconst 3, 1) := by decide +kernel
theorem dL_law_1013 : decode cL_law 1013 = .ok (.iadd, 1) := by decide +kernel
theorem dL_law_1014 : decode cL_law 1014 = .ok (.iaload, 1) := by decide +kernel
theorem dL_law_1015 : decode cL_law 1015 = .ok (.aload_n 0, 1) := by decide +kernel
theorem dL_law_1016 : decode cL_law 1016 = .ok (.iload_n 3, 1) := by decide +kernel
theorem dL_law_1017 : decode cL_law 1017 = .ok (.iconst 4, 1) := by decide +kernel
theorem dL_law_1018 : decode cL_law 1018 = .ok (.iadd, 1) := by decide +kernel
theorem dL_law_1019 : decode cL_law 1019 = .ok (.iaload, 1) := by decide +kernel
theorem dL_law_1020 : decode cL_law 1020 = .ok (.invokevirtual 114, 3) := by decide +kernel
theorem dL_law_1023 : decode cL_law 1023 = .ok (.if_icmp .eq 181, 3) := by decide +kernel
theorem dL_law_1026 : decode cL_law 1026 = .ok (.iconst 0, 1) := by decide +kernel
theorem dL_law_1027 : decode cL_law 1027 = .ok (.ireturn, 1) := by decide +kernel
theorem dL_law_1028 : decode cL_law 1028 = .ok (.aload_n 1, 1) := by decide +kernel
theorem dL_law_1029 : decode cL_law 1029 = .ok (.aload_n 0, 1) := by decide +kernel
theorem dL_law_1030 : decode cL_law 1030 = .ok (.iload_n 3, 1) := by decide +kernel
theorem dL_law_1031 : decode cL_law 1031 = .ok (.iconst 1, 1) := by decide +kernel
theorem dL_law_1032 : decode cL_law 1032 = .ok (.iadd, 1) := by decide +kernel
theorem dL_law_1033 : decode cL_law 1033 = .ok (.iaload, 1) := by decide +kernel
theorem dL_law_1034 : decode cL_law 1034 = .ok (.aload_n 0, 1) := by decide +kernel
theorem dL_law_1035 : decode cL_law 1035 = .ok (.iload_n 3, 1) := by decide +kernel
theorem dL_law_1036 : decode cL_law 1036 = .ok (.iconst 2, 1) := by decide +kernel
theorem dL_law_1037 : decode cL_law 1037 = .ok (.iadd, 1) := by decide +kernel
theorem dL_law_1038 : decode cL_law 1038 = .ok (.iaload, 1) := by decide +kernel
theorem dL_law_1039 : decode cL_law 1039 = .ok (.aload_n 0, 1) := by decide +kernel
theorem dL_law_1040 : decode cL_law 1040 = .ok (.iload_n 3, 1) := by decide +kernel
theorem dL_law_1041 : decode cL_law 1041 = .ok (.iconst 3, 1) := by decide +kernel
theorem dL_law_1042 : decode cL_law 1042 = .ok (.iadd, 1) := by decide +kernel
theorem dL_law_1043 : decode cL_law 1043 = .ok (.iaload, 1) := by decide +kernel
theorem dL_law_1044 : decode cL_law 1044 = .ok (.invokevirtual 115, 3) := by decide +kernel
theorem dL_law_1047 : decode cL_law 1047 = .ok (.aload_n 2, 1) := by decide +kernel
theorem dL_law_1048 : decode cL_law 1048 = .ok (.aload_n 0, 1) := by decide +kernel
theorem dL_law_1049 : decode cL_law 1049 = .ok (.iload_n 3, 1) := by decide +kernel
theorem dL_law_1050 : decode cL_law 1050 = .ok (.iconst 1, 1) := by decide +kernel
theorem dL_law_1051 : decode cL_law 1051 = .ok (.iadd, 1) := by decide +kernel
theorem dL_law_1052 : decode cL_law 1052 = .ok (.iaload, 1) := by decide +kernel
theorem dL_law_1053 : decode cL_law 1053 = .ok (.aload_n 0, 1) := by decide +kernel
theorem dL_law_1054 : decode cL_law 1054 = .ok (.iload_n 3, 1) := by decide +kernel
theorem dL_law_1055 : decode cL_law 1055 = .ok (.iconst 2, 1) := by decide +kernel
theorem dL_law_1056 : decode cL_law 1056 = .ok (.iadd, 1) := by decide +kernel
theorem dL_law_1057 : decode cL_law 1057 = .ok (.iaload, 1) := by decide +kernel
theorem dL_law_1058 : decode cL_law 1058 = .ok (.aload_n 0, 1) := by decide +kernel
theorem dL_law_1059 : decode cL_law 1059 = .ok (.iload_n 3, 1) := by decide +kernel
theorem dL_law_1060 : decode cL_law 1060 = .ok (.iconst 3, 1) := by decide +kernel
theorem dL_law_1061 : decode cL_law 1061 = .ok (.iadd, 1) := by decide +kernel
theorem dL_law_1062 : decode cL_law 1062 = .ok (.iaload, 1) := by decide +kernel
theorem dL_law_1063 : decode cL_law 1063 = .ok (.invokevirtual 118, 3) := by decide +kernel
theorem dL_law_1066 : decode cL_law 1066 = .ok (.if_icmp .eq 138, 3) := by decide +kernel
theorem dL_law_1069 : decode cL_law 1069 = .ok (.iconst 0, 1) := by decide +kernel
theorem dL_law_1070 : decode cL_law 1070 = .ok (.ireturn, 1) := by decide +kernel
theorem dL_law_1071 : decode cL_law 1071 = .ok (.aload_n 1, 1) := by decide +kernel
theorem dL_law_1072 : decode cL_law 1072 = .ok (.aload_n 0, 1) := by decide +kernel
theorem dL_law_1073 : decode cL_law 1073 = .ok (.iload_n 3, 1) := by decide +kernel
theorem dL_law_1074 : decode cL_law 1074 = .ok (.iconst 1, 1) := by decide +kernel
theorem dL_law_1075 : decode cL_law 1075 = .ok (.iadd, 1) := by decide +kernel
theorem dL_law_1076 : decode cL_law 1076 = .ok (.iaload, 1) := by decide +kernel
theorem dL_law_1077 : decode cL_law 1077 = .ok (.aload_n 0, 1) := by decide +kernel
theorem dL_law_1078 : decode cL_law 1078 = .ok (.iload_n 3, 1) := by decide +kernel
theorem dL_law_1079 : decode cL_law 1079 = .ok (.iconst 2, 1) := by decide +kernel
theorem dL_law_1080 : decode cL_law 1080 = .ok (.iadd, 1) := by decide +kernel
theorem dL_law_1081 : decode cL_law 1081 = .ok (.iaload, 1) := by decide +kernel
theorem dL_law_1082 : decode cL_law 1082 = .ok (.aload_n 0, 1) := by decide +kernel
theorem dL_law_1083 : decode cL_law 1083 = .ok (.iload_n 3, 1) := by decide +kernel
theorem dL_law_1084 : decode cL_law 1084 = .ok (.iconst 3, 1) := by decide +kernel
theorem dL_law_1085 : decode cL_law 1085 = .ok (.iadd, 1) := by decide +kernel
theorem dL_law_1086 : decode cL_law 1086 = .ok (.iaload, 1) := by decide +kernel
theorem dL_law_1087 : decode cL_law 1087 = .ok (.aload_n 0, 1) := by decide +kernel
theorem dL_law_1088 : decode cL_law 1088 = .ok (.iload_n 3, 1) := by decide +kernel
theorem dL_law_1089 : decode cL_law 1089 = .ok (.iconst 4, 1) := by decide +kernel
theorem dL_law_1090 : decode cL_law 1090 = .ok (.iadd, 1) := by decide +kernel
theorem dL_law_1091 : decode cL_law 1091 = .ok (.iaload, 1) := by decide +kernel
theorem dL_law_1092 : decode cL_law 1092 = .ok (.aload_n 0, 1) := by decide +kernel
theorem dL_law_1093 : decode cL_law 1093 = .ok (.iload_n 3, 1) := by decide +kernel
theorem dL_law_1094 : decode cL_law 1094 = .ok (.iconst 5, 1) := by decide +kernel
theorem dL_law_1095 : decode cL_law 1095 = .ok (.iadd, 1) := by decide +kernel
theorem dL_law_1096 : decode cL_law 1096 = .ok (.iaload, 1) := by decide +kernel
theorem dL_law_1097 : decode cL_law 1097 = .ok (.invokevirtual 119, 3) := by decide +kernel
theorem dL_law_1100 : decode cL_law 1100 = .ok (.aload_n 2, 1) := by decide +kernel
theorem dL_law_1101 : decode cL_law 1101 = .ok (.aload_n 0, 1) := by decide +kernel
theorem dL_law_1102 : decode cL_law 1102 = .ok (.iload_n 3, 1) := by decide +kernel
theorem dL_law_1103 : decode cL_law 1103 = .ok (.iconst 1, 1) := by decide +kernel
theorem dL_law_1104 : decode cL_law 1104 = .ok (.iadd, 1) := by decide +kernel
theorem dL_law_1105 : decode cL_law 1105 = .ok (.iaload, 1) := by decide +kernel
theorem dL_law_1106 : decode cL_law 1106 = .ok (.aload_n 0, 1) := by decide +kernel
theorem dL_law_1107 : decode cL_law 1107 = .ok (.iload_n 3, 1) := by decide +kernel
theorem dL_law_1108 : decode cL_law 1108 = .ok (.iconst 2, 1) := by decide +kernel
theorem dL_law_1109 : decode cL_law 1109 = .ok (.iadd, 1) := by decide +kernel
theorem dL_law_1110 : decode cL_law 1110 = .ok (.iaload, 1) := by decide +kernel
theorem dL_law_1111 : decode cL_law 1111 = .ok (.aload_n 0, 1) := by decide +kernel
theorem dL_law_1112 : decode cL_law 1112 = .ok (.iload_n 3, 1) := by decide +kernel
theorem dL_law_1113 : decode cL_law 1113 = .ok (.iconst 3, 1) := by decide +kernel
theorem dL_law_1114 : decode cL_law 1114 = .ok (.iadd, 1) := by decide +kernel
theorem dL_law_1115 : decode cL_law 1115 = .ok (.iaload, 1) := by decide +kernel
theorem dL_law_1116 : decode cL_law 1116 = .ok (.aload_n 0, 1) := by decide +kernel
theorem dL_law_1117 : decode cL_law 1117 = .ok (.iload_n 3, 1) := by decide +kernel
theorem dL_law_1118 : decode cL_law 1118 = .ok (.iconst 4, 1) := by decide +kernel
theorem dL_law_1119 : decode cL_law 1119 = .ok (.iadd, 1) := by decide +kernel
theorem dL_law_1120 : decode cL_law 1120 = .ok (.iaload, 1) := by decide +kernel
theorem dL_law_1121 : decode cL_law 1121 = .ok (.aload_n 0, 1) := by decide +kernel
theorem dL_law_1122 : decode cL_law 1122 = .ok (.iload_n 3, 1) := by decide +kernel
theorem dL_law_1123 : decode cL_law 1123 = .ok (.iconst 5, 1) := by decide +kernel
theorem dL_law_1124 : decode cL_law 1124 = .ok (.iadd, 1) := by decide +kernel
theorem dL_law_1125 : decode cL_law 1125 = .ok (.iaload, 1) := by decide +kernel
theorem dL_law_1126 : decode cL_law 1126 = .ok (.invokevirtual 123, 3) := by decide +kernel
theorem dL_law_1129 : decode cL_law 1129 = .ok (.if_icmp .eq 75, 3) := by decide +kernel
theorem dL_law_1132 : decode cL_law 1132 = .ok (.iconst 0, 1) := by decide +kernel
theorem dL_law_1133 : decode cL_law 1133 = .ok (.ireturn, 1) := by decide +kernel
theorem dL_law_1134 : decode cL_law 1134 = .ok (.aload_n 1, 1) := by decide +kernel
theorem dL_law_1135 : decode cL_law 1135 = .ok (.aload_n 0, 1) := by decide +kernel
theorem dL_law_1136 : decode cL_law 1136 = .ok (.iload_n 3, 1) := by decide +kernel
theorem dL_law_1137 : decode cL_law 1137 = .ok (.iconst 1, 1) := by decide +kernel
theorem dL_law_1138 : decode cL_law 1138 = .ok (.iadd, 1) := by decide +kernel
theorem dL_law_1139 : decode cL_law 1139 = .ok (.iaload, 1) := by decide +kernel
theorem dL_law_1140 : decode cL_law 1140 = .ok (.aload_n 0, 1) := by decide +kernel
theorem dL_law_1141 : decode cL_law 1141 = .ok (.iload_n 3, 1) := by decide +kernel
theorem dL_law_1142 : decode cL_law 1142 = .ok (.iconst 2, 1) := by decide +kernel
theorem dL_law_1143 : decode cL_law 1143 = .ok (.iadd, 1) := by decide +kernel
theorem dL_law_1144 : decode cL_law 1144 = .ok (.iaload, 1) := by decide +kernel
theorem dL_law_1145 : decode cL_law 1145 = .ok (.invokevirtual 124, 3) := by decide +kernel
theorem dL_law_1148 : decode cL_law 1148 = .ok (.aload_n 2, 1) := by decide +kernel
theorem dL_law_1149 : decode cL_law 1149 = .ok (.aload_n 0, 1) := by decide +kernel
theorem dL_law_1150 : decode cL_law 1150 = .ok (.iload_n 3, 1) := by decide +kernel
theorem dL_law_1151 : decode cL_law 1151 = .ok (.iconst 1, 1) := by decide +kernel
theorem dL_law_1152 : decode cL_law 1152 = .ok (.iadd, 1) := by decide +kernel
theorem dL_law_1153 : decode cL_law 1153 = .ok (.iaload, 1) := by decide +kernel
theorem dL_law_1154 : decode cL_law 1154 = .ok (.aload_n 0, 1) := by decide +kernel
theorem dL_law_1155 : decode cL_law 1155 = .ok (.iload_n 3, 1) := by decide +kernel
theorem dL_law_1156 : decode cL_law 1156 = .ok (.iconst 2, 1) := by decide +kernel
theorem dL_law_1157 : decode cL_law 1157 = .ok (.iadd, 1) := by decide +kernel
theorem dL_law_1158 : decode cL_law 1158 = .ok (.iaload, 1) := by decide +kernel
theorem dL_law_1159 : decode cL_law 1159 = .ok (.invokevirtual 127, 3) := by decide +kernel
theorem dL_law_1162 : decode cL_law 1162 = .ok (.if_icmp .eq 42, 3) := by decide +kernel
theorem dL_law_1165 : decode cL_law 1165 = .ok (.iconst 0, 1) := by decide +kernel
theorem dL_law_1166 : decode cL_law 1166 = .ok (.ireturn, 1) := by decide +kernel
theorem dL_law_1167 : decode cL_law 1167 = .ok (.aload_n 1, 1) := by decide +kernel
theorem dL_law_1168 : decode cL_law 1168 = .ok (.aload_n 0, 1) := by decide +kernel
theorem dL_law_1169 : decode cL_law 1169 = .ok (.iload_n 3, 1) := by decide +kernel
theorem dL_law_1170 : decode cL_law 1170 = .ok (.iconst 1, 1) := by decide +kernel
theorem dL_law_1171 : decode cL_law 1171 = .ok (.iadd, 1) := by decide +kernel
theorem dL_law_1172 : decode cL_law 1172 = .ok (.iaload, 1) := by decide +kernel
theorem dL_law_1173 : decode cL_law 1173 = .ok (.invokevirtual 128, 3) := by decide +kernel
theorem dL_law_1176 : decode cL_law 1176 = .ok (.aload_n 2, 1) := by decide +kernel
theorem dL_law_1177 : decode cL_law 1177 = .ok (.aload_n 0, 1) := by decide +kernel
theorem dL_law_1178 : decode cL_law 1178 = .ok (.iload_n 3, 1) := by decide +kernel
theorem dL_law_1179 : decode cL_law 1179 = .ok (.iconst 1, 1) := by decide +kernel
theorem dL_law_1180 : decode cL_law 1180 = .ok (.iadd, 1) := by decide +kernel
theorem dL_law_1181 : decode cL_law 1181 = .ok (.iaload, 1) := by decide +kernel
theorem dL_law_1182 : decode cL_law 1182 = .ok (.invokevirtual 131, 3) := by decide +kernel
theorem dL_law_1185 : decode cL_law 1185 = .ok (.if_icmp .eq 19, 3) := by decide +kernel
theorem dL_law_1188 : decode cL_law 1188 = .ok (.iconst 0, 1) := by decide +kernel
theorem dL_law_1189 : decode cL_law 1189 = .ok (.ireturn, 1) := by decide +kernel
theorem dL_law_1190 : decode cL_law 1190 = .ok (.aload_n 1, 1) := by decide +kernel
theorem dL_law_1191 : decode cL_law 1191 = .ok (.invokevirtual 132, 3) := by decide +kernel
theorem dL_law_1194 : decode cL_law 1194 = .ok (.aload_n 2, 1) := by decide +kernel
theorem dL_law_1195 : decode cL_law 1195 = .ok (.invokevirtual 136, 3) := by decide +kernel
theorem dL_law_1198 : decode cL_law 1198 = .ok (.lcmp, 1) := by decide +kernel
theorem dL_law_1199 : decode cL_law 1199 = .ok (.ifCond .eq 5, 3) := by decide +kernel
theorem dL_law_1202 : decode cL_law 1202 = .ok (.iconst 0, 1) := by decide +kernel
theorem dL_law_1203 : decode cL_law 1203 = .ok (.ireturn, 1) := by decide +kernel
theorem dL_law_1204 : decode cL_law 1204 = .ok (.iinc 3 7, 3) := by decide +kernel
theorem dL_law_1207 : decode cL_law 1207 = .ok (.goto (-1189), 3) := by decide +kernel
theorem dL_law_1210 : decode cL_law 1210 = .ok (.iconst 1, 1) := by decide +kernel
theorem dL_law_1211 : decode cL_law 1211 = .ok (.ireturn, 1) := by decide +kernel
end
section
/-- the words that hold at every later state -/
def jtb : List Cond := lw_tbl.filter goodWord
theorem jin {w : Cond} (h : w ∈ lw_tbl) (g : goodWord w = true) : w ∈ jtb := List.mem_filter.mpr ⟨h, g⟩
def jnest (s : State) : Prop := va_Nw (.methodLinkNest RX4 32 yX6_isBelow "CutListDesk") s ∧ va_Nw (.methodLinkNest RX3 51 yX6_isBelow "CutListDesk") s
abbrev jMI : Type := MethodName × ByteArray × Nat × Option FieldType
def jcl : List vw_C := [(RX1, TX1, 2), (RX2, TX2, 5), (RX3, TX3, 2), (RX4, TX4, 4), (RX5, TX5, 5), (RX6, TX6, 8), (RX7, TX7, 21)]
def jFL (own : String) (idx ci k : Nat) : Prop := ∃ (C : String) (T : u_T) (N : Nat), jcl[ci]? = some (C, T, N) ∧ k < N ∧ (∀ w ∈ u_ws C T N, w ∈ jtb) ∧ Cond.fieldLink own idx (T k).1 (T k).2.1 (T k).2.2.1 ∈ jtb
/-- a field that is written outside a constructor -/
def jFP (own : String) (idx ci k : Nat) (ty : FieldType) : Prop := ∃ (C : String) (T : u_T) (N : Nat) (ty0 : Nat → FieldType), jcl[ci]? = some (C, T, N) ∧ k < N ∧ (∀ w ∈ u_ws C T N, w ∈ jtb) ∧ Cond.fieldLink own idx (T k).1 (T k).2.1 (T k).2.2.1 ∈ jtb ∧ (∀ k, k < N → parseFieldDescriptor (T k).2.2.1 = some (ty0 k)) ∧ (∀ a, a < N → ∀ b, b < N → a ≠ b → (T a).2.1 ≠ (T b).2.1) ∧ (T k).2.2.2 = false ∧ parseFieldDescriptor (T k).2.2.1 = some ty
def jM (M : jMI) : Prop := plainName M.1.cls = true ∧ Cond.code M.1 M.2.1 M.2.2.1 M.2.2.2 ∈ jtb ∧ Cond.initialized M.1.cls ∈ jtb ∧ (M.1.cls ≠ "java/lang/invoke/MethodHandle" ∧ M.1.cls ≠ "java/lang/invoke/VarHandle") ∧ M.2.2.1 ≤ 16
def jMV (own : String) (idx : Nat) (M : jMI) (n : Nat) : Prop := Cond.methodLink own idx M.1 ∈ jtb ∧ Cond.instanceMethod M.1 ∈ jtb ∧ Cond.selects M.1.cls M.1 M.1 ∈ jtb ∧ (parseMethodDescriptor M.1.desc).map (fun d => d.parameters.length) = some n
def jMS (own : String) (idx : Nat) (M : jMI) (n : Nat) : Prop := Cond.methodLink own idx M.1 ∈ jtb ∧ Cond.static M.1 ∈ jtb ∧ (parseMethodDescriptor M.1.desc).map (fun d => d.parameters.length) = some n
def jMN (own : String) (idx : Nat) (M : jMI) (n : Nat) (host : String) : Prop := (∀ s, jnest s → va_Nw (Cond.methodLinkNest own idx M.1 host) s) ∧ Cond.static M.1 ∈ jtb ∧ (parseMethodDescriptor M.1.desc).map (fun d => d.parameters.length) = some n
theorem in_X1 : ∀ w ∈ u_ws RX1 TX1 2, w ∈ jtb := fun w h => jin ((by decide +kernel : ∀ w ∈ u_ws RX1 TX1 2, w ∈ lw_tbl) w h) ((by decide +kernel : ∀ w ∈ u_ws RX1 TX1 2, goodWord w = true) w h)
theorem in_X2 : ∀ w ∈ u_ws RX2 TX2 5, w ∈ jtb := fun w h => jin ((by decide +kernel : ∀ w ∈ u_ws RX2 TX2 5, w ∈ lw_tbl) w h) ((by decide +kernel : ∀ w ∈ u_ws RX2 TX2 5, goodWord w = true) w h)
theorem in_X3 : ∀ w ∈ u_ws RX3 TX3 2, w ∈ jtb := fun w h => jin ((by decide +kernel : ∀ w ∈ u_ws RX3 TX3 2, w ∈ lw_tbl) w h) ((by decide +kernel : ∀ w ∈ u_ws RX3 TX3 2, goodWord w = true) w h)
theorem in_X4 : ∀ w ∈ u_ws RX4 TX4 4, w ∈ jtb := fun w h => jin ((by decide +kernel : ∀ w ∈ u_ws RX4 TX4 4, w ∈ lw_tbl) w h) ((by decide +kernel : ∀ w ∈ u_ws RX4 TX4 4, goodWord w = true) w h)
theorem in_X5 : ∀ w ∈ u_ws RX5 TX5 5, w ∈ jtb := fun w h => jin ((by decide +kernel : ∀ w ∈ u_ws RX5 TX5 5, w ∈ lw_tbl) w h) ((by decide +kernel : ∀ w ∈ u_ws RX5 TX5 5, goodWord w = true) w h)
theorem in_X6 : ∀ w ∈ u_ws RX6 TX6 8, w ∈ jtb := fun w h => jin ((by decide +kernel : ∀ w ∈ u_ws RX6 TX6 8, w ∈ lw_tbl) w h) ((by decide +kernel : ∀ w ∈ u_ws RX6 TX6 8, goodWord w = true) w h)
theorem in_X7 : ∀ w ∈ u_ws RX7 TX7 21, w ∈ jtb := fun w h => jin ((by decide +kernel : ∀ w ∈ u_ws RX7 TX7 21, w ∈ lw_tbl) w h) ((by decide +kernel : ∀ w ∈ u_ws RX7 TX7 21, goodWord w = true) w h)
theorem jgood : GoodIn jtb jtb := fun _ h => ⟨h, good_of_word (List.mem_filter.mp h).2⟩
abbrev mX0_rate : jMI := (yX0_rate, cX0_rate, 1, (some .int))
theorem jmX0_rate : jM mX0_rate := ⟨by decide, (jin (List.mem_of_getElem? (i := 389) (by decide +kernel)) rfl), (jin (List.mem_of_getElem? (i := 69) (by decide +kernel)) rfl), ⟨by decide, by decide⟩, by decide⟩
abbrev mX0_part : jMI := (yX0_part, cX0_part, 6, (some .int))
theorem jmX0_part : jM mX0_part := ⟨by decide, (jin (List.mem_of_getElem? (i := 386) (by decide +kernel)) rfl), (jin (List.mem_of_getElem? (i := 69) (by decide +kernel)) rfl), ⟨by decide, by decide⟩, by decide⟩
abbrev mX0_leftOutBefore : jMI := (yX0_leftOutBefore, cX0_leftOutBefore, 3, (some .int))
theorem jmX0_leftOutBefore : jM mX0_leftOutBefore := ⟨by decide, (jin (List.mem_of_getElem? (i := 392) (by decide +kernel)) rfl), (jin (List.mem_of_getElem? (i := 69) (by decide +kernel)) rfl), ⟨by decide, by decide⟩, by decide⟩
abbrev mX0_isLeftOut : jMI := (yX0_isLeftOut, cX0_isLeftOut, 3, (some .boolean))
theorem jmX0_isLeftOut : jM mX0_isLeftOut := ⟨by decide, (jin (List.mem_of_getElem? (i := 400) (by decide +kernel)) rfl), (jin (List.mem_of_getElem? (i := 69) (by decide +kernel)) rfl), ⟨by decide, by decide⟩, by decide⟩
abbrev mX0_frame : jMI := (yX0_frame, cX0_frame, 5, (some .int))
theorem jmX0_frame : jM mX0_frame := ⟨by decide, (jin (List.mem_of_getElem? (i := 403) (by decide +kernel)) rfl), (jin (List.mem_of_getElem? (i := 69) (by decide +kernel)) rfl), ⟨by decide, by decide⟩, by decide⟩
abbrev mX1_init : jMI := (yX1_init, cX1_init, 2, none)
theorem jmX1_init : jM mX1_init := ⟨by decide, (jin (List.mem_of_getElem? (i := 132) (by decide +kernel)) rfl), (jin (List.mem_of_getElem? (i := 64) (by decide +kernel)) rfl), ⟨by decide, by decide⟩, by decide⟩
abbrev mX1_isFull : jMI := (yX1_isFull, cX1_isFull, 1, (some .boolean))
theorem jmX1_isFull : jM mX1_isFull := ⟨by decide, (jin (List.mem_of_getElem? (i := 250) (by decide +kernel)) rfl), (jin (List.mem_of_getElem? (i := 64) (by decide +kernel)) rfl), ⟨by decide, by decide⟩, by decide⟩
abbrev mX1_append : jMI := (yX1_append, cX1_append, 7, none)
theorem jmX1_append : jM mX1_append := ⟨by decide, (jin (List.mem_of_getElem? (i := 254) (by decide +kernel)) rfl), (jin (List.mem_of_getElem? (i := 64) (by decide +kernel)) rfl), ⟨by decide, by decide⟩, by decide⟩
abbrev mX1_begin : jMI := (yX1_begin, cX1_begin, 4, (some .int))
theorem jmX1_begin : jM mX1_begin := ⟨by decide, (jin (List.mem_of_getElem? (i := 312) (by decide +kernel)) rfl), (jin (List.mem_of_getElem? (i := 64) (by decide +kernel)) rfl), ⟨by decide, by decide⟩, by decide⟩
abbrev mX1_frames : jMI := (yX1_frames, cX1_frames, 1, (some .int))
theorem jmX1_frames : jM mX1_frames := ⟨by decide, (jin (List.mem_of_getElem? (i := 469) (by decide +kernel)) rfl), (jin (List.mem_of_getElem? (i := 64) (by decide +kernel)) rfl), ⟨by decide, by decide⟩, by decide⟩
abbrev mX1_holder : jMI := (yX1_holder, cX1_holder, 4, (some .int))
theorem jmX1_holder : jM mX1_holder := ⟨by decide, (jin (List.mem_of_getElem? (i := 332) (by decide +kernel)) rfl), (jin (List.mem_of_getElem? (i := 64) (by decide +kernel)) rfl), ⟨by decide, by decide⟩, by decide⟩
abbrev mX1_times : jMI := (yX1_times, cX1_times, 5, (some .int))
theorem jmX1_times : jM mX1_times := ⟨by decide, (jin (List.mem_of_getElem? (i := 346) (by decide +kernel)) rfl), (jin (List.mem_of_getElem? (i := 64) (by decide +kernel)) rfl), ⟨by decide, by decide⟩, by decide⟩
abbrev mX1_firstShowing : jMI := (yX1_firstShowing, cX1_firstShowing, 5, (some .int))
theorem jmX1_firstShowing : jM mX1_firstShowing := ⟨by decide, (jin (List.mem_of_getElem? (i := 358) (by decide +kernel)) rfl), (jin (List.mem_of_getElem? (i := 64) (by decide +kernel)) rfl), ⟨by decide, by decide⟩, by decide⟩
abbrev mX1_shownFrames : jMI := (yX1_shownFrames, cX1_shownFrames, 6, (some .int))
theorem jmX1_shownFrames : jM mX1_shownFrames := ⟨by decide, (jin (List.mem_of_getElem? (i := 459) (by decide +kernel)) rfl), (jin (List.mem_of_getElem? (i := 64) (by decide +kernel)) rfl), ⟨by decide, by decide⟩, by decide⟩
abbrev mX2_init : jMI := (yX2_init, cX2_init, 1, none)
theorem jmX2_init : jM mX2_init := ⟨by decide, (jin (List.mem_of_getElem? (i := 139) (by decide +kernel)) rfl), (jin (List.mem_of_getElem? (i := 65) (by decide +kernel)) rfl), ⟨by decide, by decide⟩, by decide⟩
abbrev mX2_part : jMI := (yX2_part, cX2_part, 2, (some .int))
theorem jmX2_part : jM mX2_part := ⟨by decide, (jin (List.mem_of_getElem? (i := 271) (by decide +kernel)) rfl), (jin (List.mem_of_getElem? (i := 65) (by decide +kernel)) rfl), ⟨by decide, by decide⟩, by decide⟩
abbrev mX2_become : jMI := (yX2_become, cX2_become, 3, none)
theorem jmX2_become : jM mX2_become := ⟨by decide, (jin (List.mem_of_getElem? (i := 275) (by decide +kernel)) rfl), (jin (List.mem_of_getElem? (i := 65) (by decide +kernel)) rfl), ⟨by decide, by decide⟩, by decide⟩
abbrev mX2_frameAt : jMI := (yX2_frameAt, cX2_frameAt, 2, (some .int))
theorem jmX2_frameAt : jM mX2_frameAt := ⟨by decide, (jin (List.mem_of_getElem? (i := 320) (by decide +kernel)) rfl), (jin (List.mem_of_getElem? (i := 65) (by decide +kernel)) rfl), ⟨by decide, by decide⟩, by decide⟩
abbrev mX2_first : jMI := (yX2_first, cX2_first, 1, (some .int))
theorem jmX2_first : jM mX2_first := ⟨by decide, (jin (List.mem_of_getElem? (i := 316) (by decide +kernel)) rfl), (jin (List.mem_of_getElem? (i := 65) (by decide +kernel)) rfl), ⟨by decide, by decide⟩, by decide⟩
abbrev mX2_last : jMI := (yX2_last, cX2_last, 1, (some .int))
theorem jmX2_last : jM mX2_last := ⟨by decide, (jin (List.mem_of_getElem? (i := 324) (by decide +kernel)) rfl), (jin (List.mem_of_getElem? (i := 65) (by decide +kernel)) rfl), ⟨by decide, by decide⟩, by decide⟩
abbrev mX2_reach : jMI := (yX2_reach, cX2_reach, 1, (some .int))
theorem jmX2_reach : jM mX2_reach := ⟨by decide, (jin (List.mem_of_getElem? (i := 371) (by decide +kernel)) rfl), (jin (List.mem_of_getElem? (i := 65) (by decide +kernel)) rfl), ⟨by decide, by decide⟩, by decide⟩
abbrev mX2_different : jMI := (yX2_different, cX2_different, 1, (some .int))
theorem jmX2_different : jM mX2_different := ⟨by decide, (jin (List.mem_of_getElem? (i := 377) (by decide +kernel)) rfl), (jin (List.mem_of_getElem? (i := 65) (by decide +kernel)) rfl), ⟨by decide, by decide⟩, by decide⟩
abbrev mX2_firstAtLeast : jMI := (yX2_firstAtLeast, cX2_firstAtLeast, 3, (some .int))
theorem jmX2_firstAtLeast : jM mX2_firstAtLeast := ⟨by decide, (jin (List.mem_of_getElem? (i := 354) (by decide +kernel)) rfl), (jin (List.mem_of_getElem? (i := 65) (by decide +kernel)) rfl), ⟨by decide, by decide⟩, by decide⟩
abbrev mX2_firstShowing : jMI := (yX2_firstShowing, cX2_firstShowing, 3, (some .int))
theorem jmX2_firstShowing : jM mX2_firstShowing := ⟨by decide, (jin (List.mem_of_getElem? (i := 362) (by decide +kernel)) rfl), (jin (List.mem_of_getElem? (i := 65) (by decide +kernel)) rfl), ⟨by decide, by decide⟩, by decide⟩
abbrev mX2_times : jMI := (yX2_times, cX2_times, 2, (some .int))
theorem jmX2_times : jM mX2_times := ⟨by decide, (jin (List.mem_of_getElem? (i := 350) (by decide +kernel)) rfl), (jin (List.mem_of_getElem? (i := 65) (by decide +kernel)) rfl), ⟨by decide, by decide⟩, by decide⟩
abbrev mX2_isLike : jMI := (yX2_isLike, cX2_isLike, 2, (some .boolean))
theorem jmX2_isLike : jM mX2_isLike := ⟨by decide, (jin (List.mem_of_getElem? (i := 494) (by decide +kernel)) rfl), (jin (List.mem_of_getElem? (i := 65) (by decide +kernel)) rfl), ⟨by decide, by decide⟩, by decide⟩
abbrev mX3_init : jMI := (yX3_init, cX3_init, 1, none)
theorem jmX3_init : jM mX3_init := ⟨by decide, (jin (List.mem_of_getElem? (i := 119) (by decide +kernel)) rfl), (jin (List.mem_of_getElem? (i := 63) (by decide +kernel)) rfl), ⟨by decide, by decide⟩, by decide⟩
abbrev mX3_pair : jMI := (yX3_pair, cX3_pair, 3, none)
theorem jmX3_pair : jM mX3_pair := ⟨by decide, (jin (List.mem_of_getElem? (i := 481) (by decide +kernel)) rfl), (jin (List.mem_of_getElem? (i := 63) (by decide +kernel)) rfl), ⟨by decide, by decide⟩, by decide⟩
abbrev mX3_takeEach : jMI := (yX3_takeEach, cX3_takeEach, 5, none)
theorem jmX3_takeEach : jM mX3_takeEach := ⟨by decide, (jin (List.mem_of_getElem? (i := 486) (by decide +kernel)) rfl), (jin (List.mem_of_getElem? (i := 63) (by decide +kernel)) rfl), ⟨by decide, by decide⟩, by decide⟩
abbrev mX3_takeFor : jMI := (yX3_takeFor, cX3_takeFor, 8, none)
theorem jmX3_takeFor : jM mX3_takeFor := ⟨by decide, (jin (List.mem_of_getElem? (i := 490) (by decide +kernel)) rfl), (jin (List.mem_of_getElem? (i := 63) (by decide +kernel)) rfl), ⟨by decide, by decide⟩, by decide⟩
abbrev mX3_partner : jMI := (yX3_partner, cX3_partner, 2, (some .int))
theorem jmX3_partner : jM mX3_partner := ⟨by decide, (jin (List.mem_of_getElem? (i := 502) (by decide +kernel)) rfl), (jin (List.mem_of_getElem? (i := 63) (by decide +kernel)) rfl), ⟨by decide, by decide⟩, by decide⟩
abbrev mX3_kind : jMI := (yX3_kind, cX3_kind, 5, (some .int))
theorem jmX3_kind : jM mX3_kind := ⟨by decide, (jin (List.mem_of_getElem? (i := 498) (by decide +kernel)) rfl), (jin (List.mem_of_getElem? (i := 63) (by decide +kernel)) rfl), ⟨by decide, by decide⟩, by decide⟩
abbrev mX3_later : jMI := (yX3_later, cX3_later, 5, (some .int))
theorem jmX3_later : jM mX3_later := ⟨by decide, (jin (List.mem_of_getElem? (i := 509) (by decide +kernel)) rfl), (jin (List.mem_of_getElem? (i := 63) (by decide +kernel)) rfl), ⟨by decide, by decide⟩, by decide⟩
abbrev mX4_init : jMI := (yX4_init, cX4_init, 1, none)
theorem jmX4_init : jM mX4_init := ⟨by decide, (jin (List.mem_of_getElem? (i := 182) (by decide +kernel)) rfl), (jin (List.mem_of_getElem? (i := 66) (by decide +kernel)) rfl), ⟨by decide, by decide⟩, by decide⟩
abbrev mX4_begin : jMI := (yX4_begin, cX4_begin, 3, none)
theorem jmX4_begin : jM mX4_begin := ⟨by decide, (jin (List.mem_of_getElem? (i := 549) (by decide +kernel)) rfl), (jin (List.mem_of_getElem? (i := 66) (by decide +kernel)) rfl), ⟨by decide, by decide⟩, by decide⟩
abbrev mX4_fault : jMI := (yX4_fault, cX4_fault, 3, (some .int))
theorem jmX4_fault : jM mX4_fault := ⟨by decide, (jin (List.mem_of_getElem? (i := 562) (by decide +kernel)) rfl), (jin (List.mem_of_getElem? (i := 66) (by decide +kernel)) rfl), ⟨by decide, by decide⟩, by decide⟩
abbrev mX4_hasItems : jMI := (yX4_hasItems, cX4_hasItems, 3, (some .boolean))
theorem jmX4_hasItems : jM mX4_hasItems := ⟨by decide, (jin (List.mem_of_getElem? (i := 579) (by decide +kernel)) rfl), (jin (List.mem_of_getElem? (i := 66) (by decide +kernel)) rfl), ⟨by decide, by decide⟩, by decide⟩
abbrev mX4_item : jMI := (yX4_item, cX4_item, 2, (some .int))
theorem jmX4_item : jM mX4_item := ⟨by decide, (jin (List.mem_of_getElem? (i := 303) (by decide +kernel)) rfl), (jin (List.mem_of_getElem? (i := 66) (by decide +kernel)) rfl), ⟨by decide, by decide⟩, by decide⟩
abbrev mX4_store : jMI := (yX4_store, cX4_store, 3, none)
theorem jmX4_store : jM mX4_store := ⟨by decide, (jin (List.mem_of_getElem? (i := 566) (by decide +kernel)) rfl), (jin (List.mem_of_getElem? (i := 66) (by decide +kernel)) rfl), ⟨by decide, by decide⟩, by decide⟩
abbrev mX5_init : jMI := (yX5_init, cX5_init, 2, none)
theorem jmX5_init : jM mX5_init := ⟨by decide, (jin (List.mem_of_getElem? (i := 91) (by decide +kernel)) rfl), (jin (List.mem_of_getElem? (i := 62) (by decide +kernel)) rfl), ⟨by decide, by decide⟩, by decide⟩
abbrev mX5_isFull : jMI := (yX5_isFull, cX5_isFull, 1, (some .boolean))
theorem jmX5_isFull : jM mX5_isFull := ⟨by decide, (jin (List.mem_of_getElem? (i := 422) (by decide +kernel)) rfl), (jin (List.mem_of_getElem? (i := 62) (by decide +kernel)) rfl), ⟨by decide, by decide⟩, by decide⟩
abbrev mX5_insert : jMI := (yX5_insert, cX5_insert, 6, none)
theorem jmX5_insert : jM mX5_insert := ⟨by decide, (jin (List.mem_of_getElem? (i := 418) (by decide +kernel)) rfl), (jin (List.mem_of_getElem? (i := 62) (by decide +kernel)) rfl), ⟨by decide, by decide⟩, by decide⟩
abbrev mX5_append : jMI := (yX5_append, cX5_append, 4, none)
theorem jmX5_append : jM mX5_append := ⟨by decide, (jin (List.mem_of_getElem? (i := 532) (by decide +kernel)) rfl), (jin (List.mem_of_getElem? (i := 62) (by decide +kernel)) rfl), ⟨by decide, by decide⟩, by decide⟩
abbrev mX5_isBehind : jMI := (yX5_isBehind, cX5_isBehind, 4, (some .boolean))
theorem jmX5_isBehind : jM mX5_isBehind := ⟨by decide, (jin (List.mem_of_getElem? (i := 426) (by decide +kernel)) rfl), (jin (List.mem_of_getElem? (i := 62) (by decide +kernel)) rfl), ⟨by decide, by decide⟩, by decide⟩
abbrev mX5_move : jMI := (yX5_move, cX5_move, 3, none)
theorem jmX5_move : jM mX5_move := ⟨by decide, (jin (List.mem_of_getElem? (i := 430) (by decide +kernel)) rfl), (jin (List.mem_of_getElem? (i := 62) (by decide +kernel)) rfl), ⟨by decide, by decide⟩, by decide⟩
abbrev mX5_fill : jMI := (yX5_fill, cX5_fill, 6, none)
theorem jmX5_fill : jM mX5_fill := ⟨by decide, (jin (List.mem_of_getElem? (i := 434) (by decide +kernel)) rfl), (jin (List.mem_of_getElem? (i := 62) (by decide +kernel)) rfl), ⟨by decide, by decide⟩, by decide⟩
abbrev mX5_join : jMI := (yX5_join, cX5_join, 4, none)
theorem jmX5_join : jM mX5_join := ⟨by decide, (jin (List.mem_of_getElem? (i := 438) (by decide +kernel)) rfl), (jin (List.mem_of_getElem? (i := 62) (by decide +kernel)) rfl), ⟨by decide, by decide⟩, by decide⟩
abbrev mX5_frames : jMI := (yX5_frames, cX5_frames, 3, (some .int))
theorem jmX5_frames : jM mX5_frames := ⟨by decide, (jin (List.mem_of_getElem? (i := 455) (by decide +kernel)) rfl), (jin (List.mem_of_getElem? (i := 62) (by decide +kernel)) rfl), ⟨by decide, by decide⟩, by decide⟩
abbrev mX5_nth : jMI := (yX5_nth, cX5_nth, 5, (some .int))
theorem jmX5_nth : jM mX5_nth := ⟨by decide, (jin (List.mem_of_getElem? (i := 536) (by decide +kernel)) rfl), (jin (List.mem_of_getElem? (i := 62) (by decide +kernel)) rfl), ⟨by decide, by decide⟩, by decide⟩
abbrev mX6_init : jMI := (yX6_init, cX6_init, 2, none)
theorem jmX6_init : jM mX6_init := ⟨by decide, (jin (List.mem_of_getElem? (i := 76) (by decide +kernel)) rfl), (jin (List.mem_of_getElem? (i := 61) (by decide +kernel)) rfl), ⟨by decide, by decide⟩, by decide⟩
abbrev mX6_edit : jMI := (yX6_edit, cX6_edit, 8, (some .int))
theorem jmX6_edit : jM mX6_edit := ⟨by decide, (jin (List.mem_of_getElem? (i := 233) (by decide +kernel)) rfl), (jin (List.mem_of_getElem? (i := 61) (by decide +kernel)) rfl), ⟨by decide, by decide⟩, by decide⟩
abbrev mX6_back : jMI := (yX6_back, cX6_back, 3, (some .int))
theorem jmX6_back : jM mX6_back := ⟨by decide, (jin (List.mem_of_getElem? (i := 259) (by decide +kernel)) rfl), (jin (List.mem_of_getElem? (i := 61) (by decide +kernel)) rfl), ⟨by decide, by decide⟩, by decide⟩
abbrev mX6_trim : jMI := (yX6_trim, cX6_trim, 7, (some .int))
theorem jmX6_trim : jM mX6_trim := ⟨by decide, (jin (List.mem_of_getElem? (i := 263) (by decide +kernel)) rfl), (jin (List.mem_of_getElem? (i := 61) (by decide +kernel)) rfl), ⟨by decide, by decide⟩, by decide⟩
abbrev mX6_set : jMI := (yX6_set, cX6_set, 4, (some .int))
theorem jmX6_set : jM mX6_set := ⟨by decide, (jin (List.mem_of_getElem? (i := 279) (by decide +kernel)) rfl), (jin (List.mem_of_getElem? (i := 61) (by decide +kernel)) rfl), ⟨by decide, by decide⟩, by decide⟩
abbrev mX6_reel : jMI := (yX6_reel, cX6_reel, 4, (some .int))
theorem jmX6_reel : jM mX6_reel := ⟨by decide, (jin (List.mem_of_getElem? (i := 283) (by decide +kernel)) rfl), (jin (List.mem_of_getElem? (i := 61) (by decide +kernel)) rfl), ⟨by decide, by decide⟩, by decide⟩
abbrev mX6_swap : jMI := (yX6_swap, cX6_swap, 2, (some .int))
theorem jmX6_swap : jM mX6_swap := ⟨by decide, (jin (List.mem_of_getElem? (i := 288) (by decide +kernel)) rfl), (jin (List.mem_of_getElem? (i := 61) (by decide +kernel)) rfl), ⟨by decide, by decide⟩, by decide⟩
abbrev mX6_read : jMI := (yX6_read, cX6_read, 7, (some .int))
theorem jmX6_read : jM mX6_read := ⟨by decide, (jin (List.mem_of_getElem? (i := 292) (by decide +kernel)) rfl), (jin (List.mem_of_getElem? (i := 61) (by decide +kernel)) rfl), ⟨by decide, by decide⟩, by decide⟩
abbrev mX6_appendFrom : jMI := (yX6_appendFrom, cX6_appendFrom, 8, (some .boolean))
theorem jmX6_appendFrom : jM mX6_appendFrom := ⟨by decide, (jin (List.mem_of_getElem? (i := 299) (by decide +kernel)) rfl), (jin (List.mem_of_getElem? (i := 61) (by decide +kernel)) rfl), ⟨by decide, by decide⟩, by decide⟩
abbrev mX6_mayBeEdit : jMI := (yX6_mayBeEdit, cX6_mayBeEdit, 5, (some .boolean))
theorem jmX6_mayBeEdit : jM mX6_mayBeEdit := ⟨by decide, (jin (List.mem_of_getElem? (i := 239) (by decide +kernel)) rfl), (jin (List.mem_of_getElem? (i := 61) (by decide +kernel)) rfl), ⟨by decide, by decide⟩, by decide⟩
abbrev mX6_mayBePart : jMI := (yX6_mayBePart, cX6_mayBePart, 2, (some .boolean))
theorem jmX6_mayBePart : jM mX6_mayBePart := ⟨by decide, (jin (List.mem_of_getElem? (i := 242) (by decide +kernel)) rfl), (jin (List.mem_of_getElem? (i := 61) (by decide +kernel)) rfl), ⟨by decide, by decide⟩, by decide⟩
abbrev mX6_isBelow : jMI := (yX6_isBelow, cX6_isBelow, 2, (some .boolean))
theorem jmX6_isBelow : jM mX6_isBelow := ⟨by decide, (jin (List.mem_of_getElem? (i := 236) (by decide +kernel)) rfl), (jin (List.mem_of_getElem? (i := 61) (by decide +kernel)) rfl), ⟨by decide, by decide⟩, by decide⟩
abbrev mX6_isEdit : jMI := (yX6_isEdit, cX6_isEdit, 3, (some .boolean))
theorem jmX6_isEdit : jM mX6_isEdit := ⟨by decide, (jin (List.mem_of_getElem? (i := 267) (by decide +kernel)) rfl), (jin (List.mem_of_getElem? (i := 61) (by decide +kernel)) rfl), ⟨by decide, by decide⟩, by decide⟩
abbrev mX6_found : jMI := (yX6_found, cX6_found, 2, (some .int))
theorem jmX6_found : jM mX6_found := ⟨by decide, (jin (List.mem_of_getElem? (i := 296) (by decide +kernel)) rfl), (jin (List.mem_of_getElem? (i := 61) (by decide +kernel)) rfl), ⟨by decide, by decide⟩, by decide⟩
abbrev mX6_info : jMI := (yX6_info, cX6_info, 6, (some .int))
theorem jmX6_info : jM mX6_info := ⟨by decide, (jin (List.mem_of_getElem? (i := 308) (by decide +kernel)) rfl), (jin (List.mem_of_getElem? (i := 61) (by decide +kernel)) rfl), ⟨by decide, by decide⟩, by decide⟩
abbrev mX6_shows : jMI := (yX6_shows, cX6_shows, 8, (some .int))
theorem jmX6_shows : jM mX6_shows := ⟨by decide, (jin (List.mem_of_getElem? (i := 328) (by decide +kernel)) rfl), (jin (List.mem_of_getElem? (i := 61) (by decide +kernel)) rfl), ⟨by decide, by decide⟩, by decide⟩
abbrev mX6_seen : jMI := (yX6_seen, cX6_seen, 5, (some .int))
theorem jmX6_seen : jM mX6_seen := ⟨by decide, (jin (List.mem_of_getElem? (i := 341) (by decide +kernel)) rfl), (jin (List.mem_of_getElem? (i := 61) (by decide +kernel)) rfl), ⟨by decide, by decide⟩, by decide⟩
abbrev mX6_still : jMI := (yX6_still, cX6_still, 5, (some .int))
theorem jmX6_still : jM mX6_still := ⟨by decide, (jin (List.mem_of_getElem? (i := 367) (by decide +kernel)) rfl), (jin (List.mem_of_getElem? (i := 61) (by decide +kernel)) rfl), ⟨by decide, by decide⟩, by decide⟩
abbrev mX6_lengthOf : jMI := (yX6_lengthOf, cX6_lengthOf, 2, (some .int))
theorem jmX6_lengthOf : jM mX6_lengthOf := ⟨by decide, (jin (List.mem_of_getElem? (i := 337) (by decide +kernel)) rfl), (jin (List.mem_of_getElem? (i := 61) (by decide +kernel)) rfl), ⟨by decide, by decide⟩, by decide⟩
abbrev mX6_told : jMI := (yX6_told, cX6_told, 3, (some .int))
theorem jmX6_told : jM mX6_told := ⟨by decide, (jin (List.mem_of_getElem? (i := 382) (by decide +kernel)) rfl), (jin (List.mem_of_getElem? (i := 61) (by decide +kernel)) rfl), ⟨by decide, by decide⟩, by decide⟩
abbrev mX6_number : jMI := (yX6_number, cX6_number, 6, (some .int))
theorem jmX6_number : jM mX6_number := ⟨by decide, (jin (List.mem_of_getElem? (i := 396) (by decide +kernel)) rfl), (jin (List.mem_of_getElem? (i := 61) (by decide +kernel)) rfl), ⟨by decide, by decide⟩, by decide⟩
abbrev mX6_pulls : jMI := (yX6_pulls, cX6_pulls, 2, (some .int))
theorem jmX6_pulls : jM mX6_pulls := ⟨by decide, (jin (List.mem_of_getElem? (i := 407) (by decide +kernel)) rfl), (jin (List.mem_of_getElem? (i := 61) (by decide +kernel)) rfl), ⟨by decide, by decide⟩, by decide⟩
abbrev mX6_pull : jMI := (yX6_pull, cX6_pull, 5, (some .int))
theorem jmX6_pull : jM mX6_pull := ⟨by decide, (jin (List.mem_of_getElem? (i := 443) (by decide +kernel)) rfl), (jin (List.mem_of_getElem? (i := 61) (by decide +kernel)) rfl), ⟨by decide, by decide⟩, by decide⟩
abbrev mX6_waste : jMI := (yX6_waste, cX6_waste, 2, (some .int))
theorem jmX6_waste : jM mX6_waste := ⟨by decide, (jin (List.mem_of_getElem? (i := 451) (by decide +kernel)) rfl), (jin (List.mem_of_getElem? (i := 61) (by decide +kernel)) rfl), ⟨by decide, by decide⟩, by decide⟩
abbrev mX6_total : jMI := (yX6_total, cX6_total, 3, (some .int))
theorem jmX6_total : jM mX6_total := ⟨by decide, (jin (List.mem_of_getElem? (i := 465) (by decide +kernel)) rfl), (jin (List.mem_of_getElem? (i := 61) (by decide +kernel)) rfl), ⟨by decide, by decide⟩, by decide⟩
abbrev mX6_lackingOfAll : jMI := (yX6_lackingOfAll, cX6_lackingOfAll, 4, (some .int))
theorem jmX6_lackingOfAll : jM mX6_lackingOfAll := ⟨by decide, (jin (List.mem_of_getElem? (i := 473) (by decide +kernel)) rfl), (jin (List.mem_of_getElem? (i := 61) (by decide +kernel)) rfl), ⟨by decide, by decide⟩, by decide⟩
abbrev mX6_lacking : jMI := (yX6_lacking, cX6_lacking, 4, (some .int))
theorem jmX6_lacking : jM mX6_lacking := ⟨by decide, (jin (List.mem_of_getElem? (i := 447) (by decide +kernel)) rfl), (jin (List.mem_of_getElem? (i := 61) (by decide +kernel)) rfl), ⟨by decide, by decide⟩, by decide⟩
abbrev mX6_gather : jMI := (yX6_gather, cX6_gather, 8, (some (.object "CutListDesk$Spans")))
theorem jmX6_gather : jM mX6_gather := ⟨by decide, (jin (List.mem_of_getElem? (i := 411) (by decide +kernel)) rfl), (jin (List.mem_of_getElem? (i := 61) (by decide +kernel)) rfl), ⟨by decide, by decide⟩, by decide⟩
abbrev mX6_compare : jMI := (yX6_compare, cX6_compare, 3, (some .int))
theorem jmX6_compare : jM mX6_compare := ⟨by decide, (jin (List.mem_of_getElem? (i := 477) (by decide +kernel)) rfl), (jin (List.mem_of_getElem? (i := 61) (by decide +kernel)) rfl), ⟨by decide, by decide⟩, by decide⟩
abbrev mX6_gone : jMI := (yX6_gone, cX6_gone, 1, (some .int))
theorem jmX6_gone : jM mX6_gone := ⟨by decide, (jin (List.mem_of_getElem? (i := 513) (by decide +kernel)) rfl), (jin (List.mem_of_getElem? (i := 61) (by decide +kernel)) rfl), ⟨by decide, by decide⟩, by decide⟩
abbrev mX6_anew : jMI := (yX6_anew, cX6_anew, 2, (some .int))
theorem jmX6_anew : jM mX6_anew := ⟨by decide, (jin (List.mem_of_getElem? (i := 517) (by decide +kernel)) rfl), (jin (List.mem_of_getElem? (i := 61) (by decide +kernel)) rfl), ⟨by decide, by decide⟩, by decide⟩
abbrev mX6_saving : jMI := (yX6_saving, cX6_saving, 6, (some .int))
theorem jmX6_saving : jM mX6_saving := ⟨by decide, (jin (List.mem_of_getElem? (i := 541) (by decide +kernel)) rfl), (jin (List.mem_of_getElem? (i := 61) (by decide +kernel)) rfl), ⟨by decide, by decide⟩, by decide⟩
abbrev mX6_keptEdits : jMI := (yX6_keptEdits, cX6_keptEdits, 3, (some .int))
theorem jmX6_keptEdits : jM mX6_keptEdits := ⟨by decide, (jin (List.mem_of_getElem? (i := 595) (by decide +kernel)) rfl), (jin (List.mem_of_getElem? (i := 61) (by decide +kernel)) rfl), ⟨by decide, by decide⟩, by decide⟩
abbrev mX6_gatherFresh : jMI := (yX6_gatherFresh, cX6_gatherFresh, 6, none)
theorem jmX6_gatherFresh : jM mX6_gatherFresh := ⟨by decide, (jin (List.mem_of_getElem? (i := 521) (by decide +kernel)) rfl), (jin (List.mem_of_getElem? (i := 61) (by decide +kernel)) rfl), ⟨by decide, by decide⟩, by decide⟩
abbrev mX6_addWithout : jMI := (yX6_addWithout, cX6_addWithout, 7, none)
theorem jmX6_addWithout : jM mX6_addWithout := ⟨by decide, (jin (List.mem_of_getElem? (i := 528) (by decide +kernel)) rfl), (jin (List.mem_of_getElem? (i := 61) (by decide +kernel)) rfl), ⟨by decide, by decide⟩, by decide⟩
abbrev mX6_sheet : jMI := (yX6_sheet, cX6_sheet, 4, (some .int))
theorem jmX6_sheet : jM mX6_sheet := ⟨by decide, (jin (List.mem_of_getElem? (i := 545) (by decide +kernel)) rfl), (jin (List.mem_of_getElem? (i := 61) (by decide +kernel)) rfl), ⟨by decide, by decide⟩, by decide⟩
abbrev mX6_lose : jMI := (yX6_lose, cX6_lose, 3, (some .int))
theorem jmX6_lose : jM mX6_lose := ⟨by decide, (jin (List.mem_of_getElem? (i := 554) (by decide +kernel)) rfl), (jin (List.mem_of_getElem? (i := 61) (by decide +kernel)) rfl), ⟨by decide, by decide⟩, by decide⟩
abbrev mX6_put : jMI := (yX6_put, cX6_put, 6, (some .int))
theorem jmX6_put : jM mX6_put := ⟨by decide, (jin (List.mem_of_getElem? (i := 558) (by decide +kernel)) rfl), (jin (List.mem_of_getElem? (i := 61) (by decide +kernel)) rfl), ⟨by decide, by decide⟩, by decide⟩
abbrev mX6_get : jMI := (yX6_get, cX6_get, 5, (some .int))
theorem jmX6_get : jM mX6_get := ⟨by decide, (jin (List.mem_of_getElem? (i := 570) (by decide +kernel)) rfl), (jin (List.mem_of_getElem? (i := 61) (by decide +kernel)) rfl), ⟨by decide, by decide⟩, by decide⟩
abbrev mX6_copy : jMI := (yX6_copy, cX6_copy, 8, (some .int))
theorem jmX6_copy : jM mX6_copy := ⟨by decide, (jin (List.mem_of_getElem? (i := 575) (by decide +kernel)) rfl), (jin (List.mem_of_getElem? (i := 61) (by decide +kernel)) rfl), ⟨by decide, by decide⟩, by decide⟩
abbrev mX6_write : jMI := (yX6_write, cX6_write, 7, (some .int))
theorem jmX6_write : jM mX6_write := ⟨by decide, (jin (List.mem_of_getElem? (i := 586) (by decide +kernel)) rfl), (jin (List.mem_of_getElem? (i := 61) (by decide +kernel)) rfl), ⟨by decide, by decide⟩, by decide⟩
abbrev mX6_count : jMI := (yX6_count, cX6_count, 2, (some .int))
theorem jmX6_count : jM mX6_count := ⟨by decide, (jin (List.mem_of_getElem? (i := 590) (by decide +kernel)) rfl), (jin (List.mem_of_getElem? (i := 61) (by decide +kernel)) rfl), ⟨by decide, by decide⟩, by decide⟩
abbrev mX6_digest : jMI := (yX6_digest, cX6_digest, 5, (some .long))
theorem jmX6_digest : jM mX6_digest := ⟨by decide, (jin (List.mem_of_getElem? (i := 600) (by decide +kernel)) rfl), (jin (List.mem_of_getElem? (i := 61) (by decide +kernel)) rfl), ⟨by decide, by decide⟩, by decide⟩
abbrev mX6_digestOfEdits : jMI := (yX6_digestOfEdits, cX6_digestOfEdits, 8, (some .long))
theorem jmX6_digestOfEdits : jM mX6_digestOfEdits := ⟨by decide, (jin (List.mem_of_getElem? (i := 607) (by decide +kernel)) rfl), (jin (List.mem_of_getElem? (i := 61) (by decide +kernel)) rfl), ⟨by decide, by decide⟩, by decide⟩
abbrev mX6_digestOfList : jMI := (yX6_digestOfList, cX6_digestOfList, 8, (some .long))
theorem jmX6_digestOfList : jM mX6_digestOfList := ⟨by decide, (jin (List.mem_of_getElem? (i := 613) (by decide +kernel)) rfl), (jin (List.mem_of_getElem? (i := 61) (by decide +kernel)) rfl), ⟨by decide, by decide⟩, by decide⟩
abbrev mX6_digestOfTold : jMI := (yX6_digestOfTold, cX6_digestOfTold, 7, (some .long))
theorem jmX6_digestOfTold : jM mX6_digestOfTold := ⟨by decide, (jin (List.mem_of_getElem? (i := 625) (by decide +kernel)) rfl), (jin (List.mem_of_getElem? (i := 61) (by decide +kernel)) rfl), ⟨by decide, by decide⟩, by decide⟩
abbrev mX7_init : jMI := (yX7_init, cX7_init, 2, none)
theorem jmX7_init : jM mX7_init := ⟨by decide, (jin (List.mem_of_getElem? (i := 632) (by decide +kernel)) rfl), (jin (List.mem_of_getElem? (i := 68) (by decide +kernel)) rfl), ⟨by decide, by decide⟩, by decide⟩
abbrev mX7_in : jMI := (yX7_in, cX7_in, 3, (some .boolean))
theorem jmX7_in : jM mX7_in := ⟨by decide, (jin (List.mem_of_getElem? (i := 709) (by decide +kernel)) rfl), (jin (List.mem_of_getElem? (i := 68) (by decide +kernel)) rfl), ⟨by decide, by decide⟩, by decide⟩
abbrev mX7_isIn : jMI := (yX7_isIn, cX7_isIn, 2, (some .boolean))
theorem jmX7_isIn : jM mX7_isIn := ⟨by decide, (jin (List.mem_of_getElem? (i := 925) (by decide +kernel)) rfl), (jin (List.mem_of_getElem? (i := 68) (by decide +kernel)) rfl), ⟨by decide, by decide⟩, by decide⟩
abbrev mX7_max : jMI := (yX7_max, cX7_max, 2, (some .int))
theorem jmX7_max : jM mX7_max := ⟨by decide, (jin (List.mem_of_getElem? (i := 847) (by decide +kernel)) rfl), (jin (List.mem_of_getElem? (i := 68) (by decide +kernel)) rfl), ⟨by decide, by decide⟩, by decide⟩
abbrev mX7_min : jMI := (yX7_min, cX7_min, 2, (some .int))
theorem jmX7_min : jM mX7_min := ⟨by decide, (jin (List.mem_of_getElem? (i := 858) (by decide +kernel)) rfl), (jin (List.mem_of_getElem? (i := 68) (by decide +kernel)) rfl), ⟨by decide, by decide⟩, by decide⟩
abbrev mX7_isList : jMI := (yX7_isList, cX7_isList, 1, (some .boolean))
theorem jmX7_isList : jM mX7_isList := ⟨by decide, (jin (List.mem_of_getElem? (i := 706) (by decide +kernel)) rfl), (jin (List.mem_of_getElem? (i := 68) (by decide +kernel)) rfl), ⟨by decide, by decide⟩, by decide⟩
abbrev mX7_isReel : jMI := (yX7_isReel, cX7_isReel, 1, (some .boolean))
theorem jmX7_isReel : jM mX7_isReel := ⟨by decide, (jin (List.mem_of_getElem? (i := 716) (by decide +kernel)) rfl), (jin (List.mem_of_getElem? (i := 68) (by decide +kernel)) rfl), ⟨by decide, by decide⟩, by decide⟩
abbrev mX7_isWell : jMI := (yX7_isWell, cX7_isWell, 2, (some .boolean))
theorem jmX7_isWell : jM mX7_isWell := ⟨by decide, (jin (List.mem_of_getElem? (i := 719) (by decide +kernel)) rfl), (jin (List.mem_of_getElem? (i := 68) (by decide +kernel)) rfl), ⟨by decide, by decide⟩, by decide⟩
abbrev mX7_adds : jMI := (yX7_adds, cX7_adds, 8, (some .int))
theorem jmX7_adds : jM mX7_adds := ⟨by decide, (jin (List.mem_of_getElem? (i := 713) (by decide +kernel)) rfl), (jin (List.mem_of_getElem? (i := 68) (by decide +kernel)) rfl), ⟨by decide, by decide⟩, by decide⟩
abbrev mX7_edit : jMI := (yX7_edit, cX7_edit, 7, (some .int))
theorem jmX7_edit : jM mX7_edit := ⟨by decide, (jin (List.mem_of_getElem? (i := 703) (by decide +kernel)) rfl), (jin (List.mem_of_getElem? (i := 68) (by decide +kernel)) rfl), ⟨by decide, by decide⟩, by decide⟩
abbrev mX7_back : jMI := (yX7_back, cX7_back, 2, (some .int))
theorem jmX7_back : jM mX7_back := ⟨by decide, (jin (List.mem_of_getElem? (i := 724) (by decide +kernel)) rfl), (jin (List.mem_of_getElem? (i := 68) (by decide +kernel)) rfl), ⟨by decide, by decide⟩, by decide⟩
abbrev mX7_isEdit : jMI := (yX7_isEdit, cX7_isEdit, 3, (some .boolean))
theorem jmX7_isEdit : jM mX7_isEdit := ⟨by decide, (jin (List.mem_of_getElem? (i := 732) (by decide +kernel)) rfl), (jin (List.mem_of_getElem? (i := 68) (by decide +kernel)) rfl), ⟨by decide, by decide⟩, by decide⟩
abbrev mX7_trim : jMI := (yX7_trim, cX7_trim, 7, (some .int))
theorem jmX7_trim : jM mX7_trim := ⟨by decide, (jin (List.mem_of_getElem? (i := 728) (by decide +kernel)) rfl), (jin (List.mem_of_getElem? (i := 68) (by decide +kernel)) rfl), ⟨by decide, by decide⟩, by decide⟩
abbrev mX7_isSetting : jMI := (yX7_isSetting, cX7_isSetting, 2, (some .boolean))
theorem jmX7_isSetting : jM mX7_isSetting := ⟨by decide, (jin (List.mem_of_getElem? (i := 739) (by decide +kernel)) rfl), (jin (List.mem_of_getElem? (i := 68) (by decide +kernel)) rfl), ⟨by decide, by decide⟩, by decide⟩
abbrev mX7_set : jMI := (yX7_set, cX7_set, 4, (some .int))
theorem jmX7_set : jM mX7_set := ⟨by decide, (jin (List.mem_of_getElem? (i := 736) (by decide +kernel)) rfl), (jin (List.mem_of_getElem? (i := 68) (by decide +kernel)) rfl), ⟨by decide, by decide⟩, by decide⟩
abbrev mX7_reel : jMI := (yX7_reel, cX7_reel, 4, (some .int))
theorem jmX7_reel : jM mX7_reel := ⟨by decide, (jin (List.mem_of_getElem? (i := 743) (by decide +kernel)) rfl), (jin (List.mem_of_getElem? (i := 68) (by decide +kernel)) rfl), ⟨by decide, by decide⟩, by decide⟩
abbrev mX7_swaps : jMI := (yX7_swaps, cX7_swaps, 3, none)
theorem jmX7_swaps : jM mX7_swaps := ⟨by decide, (jin (List.mem_of_getElem? (i := 751) (by decide +kernel)) rfl), (jin (List.mem_of_getElem? (i := 68) (by decide +kernel)) rfl), ⟨by decide, by decide⟩, by decide⟩
abbrev mX7_swap : jMI := (yX7_swap, cX7_swap, 2, (some .int))
theorem jmX7_swap : jM mX7_swap := ⟨by decide, (jin (List.mem_of_getElem? (i := 748) (by decide +kernel)) rfl), (jin (List.mem_of_getElem? (i := 68) (by decide +kernel)) rfl), ⟨by decide, by decide⟩, by decide⟩
abbrev mX7_read : jMI := (yX7_read, cX7_read, 5, (some .int))
theorem jmX7_read : jM mX7_read := ⟨by decide, (jin (List.mem_of_getElem? (i := 755) (by decide +kernel)) rfl), (jin (List.mem_of_getElem? (i := 68) (by decide +kernel)) rfl), ⟨by decide, by decide⟩, by decide⟩
abbrev mX7_frameOf : jMI := (yX7_frameOf, cX7_frameOf, 3, (some .int))
theorem jmX7_frameOf : jM mX7_frameOf := ⟨by decide, (jin (List.mem_of_getElem? (i := 782) (by decide +kernel)) rfl), (jin (List.mem_of_getElem? (i := 68) (by decide +kernel)) rfl), ⟨by decide, by decide⟩, by decide⟩
abbrev mX7_lastOf : jMI := (yX7_lastOf, cX7_lastOf, 2, (some .int))
theorem jmX7_lastOf : jM mX7_lastOf := ⟨by decide, (jin (List.mem_of_getElem? (i := 778) (by decide +kernel)) rfl), (jin (List.mem_of_getElem? (i := 68) (by decide +kernel)) rfl), ⟨by decide, by decide⟩, by decide⟩
abbrev mX7_beginOf : jMI := (yX7_beginOf, cX7_beginOf, 5, (some .int))
theorem jmX7_beginOf : jM mX7_beginOf := ⟨by decide, (jin (List.mem_of_getElem? (i := 774) (by decide +kernel)) rfl), (jin (List.mem_of_getElem? (i := 68) (by decide +kernel)) rfl), ⟨by decide, by decide⟩, by decide⟩
abbrev mX7_infoOf : jMI := (yX7_infoOf, cX7_infoOf, 5, (some .int))
theorem jmX7_infoOf : jM mX7_infoOf := ⟨by decide, (jin (List.mem_of_getElem? (i := 770) (by decide +kernel)) rfl), (jin (List.mem_of_getElem? (i := 68) (by decide +kernel)) rfl), ⟨by decide, by decide⟩, by decide⟩
abbrev mX7_info : jMI := (yX7_info, cX7_info, 4, (some .int))
theorem jmX7_info : jM mX7_info := ⟨by decide, (jin (List.mem_of_getElem? (i := 766) (by decide +kernel)) rfl), (jin (List.mem_of_getElem? (i := 68) (by decide +kernel)) rfl), ⟨by decide, by decide⟩, by decide⟩
abbrev mX7_showsOf : jMI := (yX7_showsOf, cX7_showsOf, 8, (some .int))
theorem jmX7_showsOf : jM mX7_showsOf := ⟨by decide, (jin (List.mem_of_getElem? (i := 790) (by decide +kernel)) rfl), (jin (List.mem_of_getElem? (i := 68) (by decide +kernel)) rfl), ⟨by decide, by decide⟩, by decide⟩
abbrev mX7_shows : jMI := (yX7_shows, cX7_shows, 4, (some .int))
theorem jmX7_shows : jM mX7_shows := ⟨by decide, (jin (List.mem_of_getElem? (i := 786) (by decide +kernel)) rfl), (jin (List.mem_of_getElem? (i := 68) (by decide +kernel)) rfl), ⟨by decide, by decide⟩, by decide⟩
abbrev mX7_seenOf : jMI := (yX7_seenOf, cX7_seenOf, 12, (some .int))
theorem jmX7_seenOf : jM mX7_seenOf := ⟨by decide, (jin (List.mem_of_getElem? (i := 799) (by decide +kernel)) rfl), (jin (List.mem_of_getElem? (i := 68) (by decide +kernel)) rfl), ⟨by decide, by decide⟩, by decide⟩
abbrev mX7_seen : jMI := (yX7_seen, cX7_seen, 5, (some .int))
theorem jmX7_seen : jM mX7_seen := ⟨by decide, (jin (List.mem_of_getElem? (i := 794) (by decide +kernel)) rfl), (jin (List.mem_of_getElem? (i := 68) (by decide +kernel)) rfl), ⟨by decide, by decide⟩, by decide⟩
abbrev mX7_stillOf : jMI := (yX7_stillOf, cX7_stillOf, 5, (some .int))
theorem jmX7_stillOf : jM mX7_stillOf := ⟨by decide, (jin (List.mem_of_getElem? (i := 807) (by decide +kernel)) rfl), (jin (List.mem_of_getElem? (i := 68) (by decide +kernel)) rfl), ⟨by decide, by decide⟩, by decide⟩
abbrev mX7_still : jMI := (yX7_still, cX7_still, 4, (some .int))
theorem jmX7_still : jM mX7_still := ⟨by decide, (jin (List.mem_of_getElem? (i := 803) (by decide +kernel)) rfl), (jin (List.mem_of_getElem? (i := 68) (by decide +kernel)) rfl), ⟨by decide, by decide⟩, by decide⟩
abbrev mX7_aSecond : jMI := (yX7_aSecond, cX7_aSecond, 1, (some .int))
theorem jmX7_aSecond : jM mX7_aSecond := ⟨by decide, (jin (List.mem_of_getElem? (i := 824) (by decide +kernel)) rfl), (jin (List.mem_of_getElem? (i := 68) (by decide +kernel)) rfl), ⟨by decide, by decide⟩, by decide⟩
abbrev mX7_numbered : jMI := (yX7_numbered, cX7_numbered, 4, (some .int))
theorem jmX7_numbered : jM mX7_numbered := ⟨by decide, (jin (List.mem_of_getElem? (i := 820) (by decide +kernel)) rfl), (jin (List.mem_of_getElem? (i := 68) (by decide +kernel)) rfl), ⟨by decide, by decide⟩, by decide⟩
abbrev mX7_toldOf : jMI := (yX7_toldOf, cX7_toldOf, 5, (some .int))
theorem jmX7_toldOf : jM mX7_toldOf := ⟨by decide, (jin (List.mem_of_getElem? (i := 816) (by decide +kernel)) rfl), (jin (List.mem_of_getElem? (i := 68) (by decide +kernel)) rfl), ⟨by decide, by decide⟩, by decide⟩
abbrev mX7_told : jMI := (yX7_told, cX7_told, 3, (some .int))
theorem jmX7_told : jM mX7_told := ⟨by decide, (jin (List.mem_of_getElem? (i := 811) (by decide +kernel)) rfl), (jin (List.mem_of_getElem? (i := 68) (by decide +kernel)) rfl), ⟨by decide, by decide⟩, by decide⟩
abbrev mX7_numberOf : jMI := (yX7_numberOf, cX7_numberOf, 7, (some .int))
theorem jmX7_numberOf : jM mX7_numberOf := ⟨by decide, (jin (List.mem_of_getElem? (i := 832) (by decide +kernel)) rfl), (jin (List.mem_of_getElem? (i := 68) (by decide +kernel)) rfl), ⟨by decide, by decide⟩, by decide⟩
abbrev mX7_number : jMI := (yX7_number, cX7_number, 5, (some .int))
theorem jmX7_number : jM mX7_number := ⟨by decide, (jin (List.mem_of_getElem? (i := 828) (by decide +kernel)) rfl), (jin (List.mem_of_getElem? (i := 68) (by decide +kernel)) rfl), ⟨by decide, by decide⟩, by decide⟩
abbrev mX7_copies : jMI := (yX7_copies, cX7_copies, 3, none)
theorem jmX7_copies : jM mX7_copies := ⟨by decide, (jin (List.mem_of_getElem? (i := 862) (by decide +kernel)) rfl), (jin (List.mem_of_getElem? (i := 68) (by decide +kernel)) rfl), ⟨by decide, by decide⟩, by decide⟩
abbrev mX7_areNear : jMI := (yX7_areNear, cX7_areNear, 3, (some .boolean))
theorem jmX7_areNear : jM mX7_areNear := ⟨by decide, (jin (List.mem_of_getElem? (i := 855) (by decide +kernel)) rfl), (jin (List.mem_of_getElem? (i := 68) (by decide +kernel)) rfl), ⟨by decide, by decide⟩, by decide⟩
abbrev mX7_joins : jMI := (yX7_joins, cX7_joins, 6, (some .boolean))
theorem jmX7_joins : jM mX7_joins := ⟨by decide, (jin (List.mem_of_getElem? (i := 851) (by decide +kernel)) rfl), (jin (List.mem_of_getElem? (i := 68) (by decide +kernel)) rfl), ⟨by decide, by decide⟩, by decide⟩
abbrev mX7_isAhead : jMI := (yX7_isAhead, cX7_isAhead, 3, (some .boolean))
theorem jmX7_isAhead : jM mX7_isAhead := ⟨by decide, (jin (List.mem_of_getElem? (i := 870) (by decide +kernel)) rfl), (jin (List.mem_of_getElem? (i := 68) (by decide +kernel)) rfl), ⟨by decide, by decide⟩, by decide⟩
abbrev mX7_orders : jMI := (yX7_orders, cX7_orders, 10, none)
theorem jmX7_orders : jM mX7_orders := ⟨by decide, (jin (List.mem_of_getElem? (i := 866) (by decide +kernel)) rfl), (jin (List.mem_of_getElem? (i := 68) (by decide +kernel)) rfl), ⟨by decide, by decide⟩, by decide⟩
abbrev mX7_pullsOf : jMI := (yX7_pullsOf, cX7_pullsOf, 6, none)
theorem jmX7_pullsOf : jM mX7_pullsOf := ⟨by decide, (jin (List.mem_of_getElem? (i := 844) (by decide +kernel)) rfl), (jin (List.mem_of_getElem? (i := 68) (by decide +kernel)) rfl), ⟨by decide, by decide⟩, by decide⟩
abbrev mX7_manyPulls : jMI := (yX7_manyPulls, cX7_manyPulls, 2, (some .int))
theorem jmX7_manyPulls : jM mX7_manyPulls := ⟨by decide, (jin (List.mem_of_getElem? (i := 840) (by decide +kernel)) rfl), (jin (List.mem_of_getElem? (i := 68) (by decide +kernel)) rfl), ⟨by decide, by decide⟩, by decide⟩
abbrev mX7_pulls : jMI := (yX7_pulls, cX7_pulls, 2, (some .int))
theorem jmX7_pulls : jM mX7_pulls := ⟨by decide, (jin (List.mem_of_getElem? (i := 836) (by decide +kernel)) rfl), (jin (List.mem_of_getElem? (i := 68) (by decide +kernel)) rfl), ⟨by decide, by decide⟩, by decide⟩
abbrev mX7_lacking : jMI := (yX7_lacking, cX7_lacking, 2, (some .int))
theorem jmX7_lacking : jM mX7_lacking := ⟨by decide, (jin (List.mem_of_getElem? (i := 882) (by decide +kernel)) rfl), (jin (List.mem_of_getElem? (i := 68) (by decide +kernel)) rfl), ⟨by decide, by decide⟩, by decide⟩
abbrev mX7_pullFor : jMI := (yX7_pullFor, cX7_pullFor, 6, (some .int))
theorem jmX7_pullFor : jM mX7_pullFor := ⟨by decide, (jin (List.mem_of_getElem? (i := 878) (by decide +kernel)) rfl), (jin (List.mem_of_getElem? (i := 68) (by decide +kernel)) rfl), ⟨by decide, by decide⟩, by decide⟩
abbrev mX7_pull : jMI := (yX7_pull, cX7_pull, 4, (some .int))
theorem jmX7_pull : jM mX7_pull := ⟨by decide, (jin (List.mem_of_getElem? (i := 874) (by decide +kernel)) rfl), (jin (List.mem_of_getElem? (i := 68) (by decide +kernel)) rfl), ⟨by decide, by decide⟩, by decide⟩
abbrev mX7_framesNow : jMI := (yX7_framesNow, cX7_framesNow, 4, (some .int))
theorem jmX7_framesNow : jM mX7_framesNow := ⟨by decide, (jin (List.mem_of_getElem? (i := 894) (by decide +kernel)) rfl), (jin (List.mem_of_getElem? (i := 68) (by decide +kernel)) rfl), ⟨by decide, by decide⟩, by decide⟩
abbrev mX7_isShown : jMI := (yX7_isShown, cX7_isShown, 6, (some .boolean))
theorem jmX7_isShown : jM mX7_isShown := ⟨by decide, (jin (List.mem_of_getElem? (i := 902) (by decide +kernel)) rfl), (jin (List.mem_of_getElem? (i := 68) (by decide +kernel)) rfl), ⟨by decide, by decide⟩, by decide⟩
abbrev mX7_freshOf : jMI := (yX7_freshOf, cX7_freshOf, 9, (some .int))
theorem jmX7_freshOf : jM mX7_freshOf := ⟨by decide, (jin (List.mem_of_getElem? (i := 898) (by decide +kernel)) rfl), (jin (List.mem_of_getElem? (i := 68) (by decide +kernel)) rfl), ⟨by decide, by decide⟩, by decide⟩
abbrev mX7_wasteOf : jMI := (yX7_wasteOf, cX7_wasteOf, 4, (some .int))
theorem jmX7_wasteOf : jM mX7_wasteOf := ⟨by decide, (jin (List.mem_of_getElem? (i := 890) (by decide +kernel)) rfl), (jin (List.mem_of_getElem? (i := 68) (by decide +kernel)) rfl), ⟨by decide, by decide⟩, by decide⟩
abbrev mX7_waste : jMI := (yX7_waste, cX7_waste, 2, (some .int))
theorem jmX7_waste : jM mX7_waste := ⟨by decide, (jin (List.mem_of_getElem? (i := 886) (by decide +kernel)) rfl), (jin (List.mem_of_getElem? (i := 68) (by decide +kernel)) rfl), ⟨by decide, by decide⟩, by decide⟩
abbrev mX7_totalOf : jMI := (yX7_totalOf, cX7_totalOf, 5, (some .int))
theorem jmX7_totalOf : jM mX7_totalOf := ⟨by decide, (jin (List.mem_of_getElem? (i := 910) (by decide +kernel)) rfl), (jin (List.mem_of_getElem? (i := 68) (by decide +kernel)) rfl), ⟨by decide, by decide⟩, by decide⟩
abbrev mX7_total : jMI := (yX7_total, cX7_total, 3, (some .int))
theorem jmX7_total : jM mX7_total := ⟨by decide, (jin (List.mem_of_getElem? (i := 906) (by decide +kernel)) rfl), (jin (List.mem_of_getElem? (i := 68) (by decide +kernel)) rfl), ⟨by decide, by decide⟩, by decide⟩
abbrev mX7_isLike : jMI := (yX7_isLike, cX7_isLike, 3, (some .boolean))
theorem jmX7_isLike : jM mX7_isLike := ⟨by decide, (jin (List.mem_of_getElem? (i := 929) (by decide +kernel)) rfl), (jin (List.mem_of_getElem? (i := 68) (by decide +kernel)) rfl), ⟨by decide, by decide⟩, by decide⟩
abbrev mX7_compares : jMI := (yX7_compares, cX7_compares, 5, none)
theorem jmX7_compares : jM mX7_compares := ⟨by decide, (jin (List.mem_of_getElem? (i := 922) (by decide +kernel)) rfl), (jin (List.mem_of_getElem? (i := 68) (by decide +kernel)) rfl), ⟨by decide, by decide⟩, by decide⟩
abbrev mX7_kindOf : jMI := (yX7_kindOf, cX7_kindOf, 3, (some .int))
theorem jmX7_kindOf : jM mX7_kindOf := ⟨by decide, (jin (List.mem_of_getElem? (i := 933) (by decide +kernel)) rfl), (jin (List.mem_of_getElem? (i := 68) (by decide +kernel)) rfl), ⟨by decide, by decide⟩, by decide⟩
abbrev mX7_compareOf : jMI := (yX7_compareOf, cX7_compareOf, 4, (some .int))
theorem jmX7_compareOf : jM mX7_compareOf := ⟨by decide, (jin (List.mem_of_getElem? (i := 918) (by decide +kernel)) rfl), (jin (List.mem_of_getElem? (i := 68) (by decide +kernel)) rfl), ⟨by decide, by decide⟩, by decide⟩
abbrev mX7_compare : jMI := (yX7_compare, cX7_compare, 3, (some .int))
theorem jmX7_compare : jM mX7_compare := ⟨by decide, (jin (List.mem_of_getElem? (i := 914) (by decide +kernel)) rfl), (jin (List.mem_of_getElem? (i := 68) (by decide +kernel)) rfl), ⟨by decide, by decide⟩, by decide⟩
abbrev mX7_goneOf : jMI := (yX7_goneOf, cX7_goneOf, 1, (some .int))
theorem jmX7_goneOf : jM mX7_goneOf := ⟨by decide, (jin (List.mem_of_getElem? (i := 941) (by decide +kernel)) rfl), (jin (List.mem_of_getElem? (i := 68) (by decide +kernel)) rfl), ⟨by decide, by decide⟩, by decide⟩
abbrev mX7_gone : jMI := (yX7_gone, cX7_gone, 1, (some .int))
theorem jmX7_gone : jM mX7_gone := ⟨by decide, (jin (List.mem_of_getElem? (i := 937) (by decide +kernel)) rfl), (jin (List.mem_of_getElem? (i := 68) (by decide +kernel)) rfl), ⟨by decide, by decide⟩, by decide⟩
abbrev mX7_isPulled : jMI := (yX7_isPulled, cX7_isPulled, 5, (some .boolean))
theorem jmX7_isPulled : jM mX7_isPulled := ⟨by decide, (jin (List.mem_of_getElem? (i := 953) (by decide +kernel)) rfl), (jin (List.mem_of_getElem? (i := 68) (by decide +kernel)) rfl), ⟨by decide, by decide⟩, by decide⟩
abbrev mX7_anewOf : jMI := (yX7_anewOf, cX7_anewOf, 7, (some .int))
theorem jmX7_anewOf : jM mX7_anewOf := ⟨by decide, (jin (List.mem_of_getElem? (i := 949) (by decide +kernel)) rfl), (jin (List.mem_of_getElem? (i := 68) (by decide +kernel)) rfl), ⟨by decide, by decide⟩, by decide⟩
abbrev mX7_anew : jMI := (yX7_anew, cX7_anew, 2, (some .int))
theorem jmX7_anew : jM mX7_anew := ⟨by decide, (jin (List.mem_of_getElem? (i := 945) (by decide +kernel)) rfl), (jin (List.mem_of_getElem? (i := 68) (by decide +kernel)) rfl), ⟨by decide, by decide⟩, by decide⟩
abbrev mX7_savingOf : jMI := (yX7_savingOf, cX7_savingOf, 7, (some .int))
theorem jmX7_savingOf : jM mX7_savingOf := ⟨by decide, (jin (List.mem_of_getElem? (i := 962) (by decide +kernel)) rfl), (jin (List.mem_of_getElem? (i := 68) (by decide +kernel)) rfl), ⟨by decide, by decide⟩, by decide⟩
abbrev mX7_saving : jMI := (yX7_saving, cX7_saving, 2, (some .int))
theorem jmX7_saving : jM mX7_saving := ⟨by decide, (jin (List.mem_of_getElem? (i := 958) (by decide +kernel)) rfl), (jin (List.mem_of_getElem? (i := 68) (by decide +kernel)) rfl), ⟨by decide, by decide⟩, by decide⟩
abbrev mX7_meets : jMI := (yX7_meets, cX7_meets, 2, (some .int))
theorem jmX7_meets : jM mX7_meets := ⟨by decide, (jin (List.mem_of_getElem? (i := 762) (by decide +kernel)) rfl), (jin (List.mem_of_getElem? (i := 68) (by decide +kernel)) rfl), ⟨by decide, by decide⟩, by decide⟩
abbrev mX7_isSheet : jMI := (yX7_isSheet, cX7_isSheet, 1, (some .boolean))
theorem jmX7_isSheet : jM mX7_isSheet := ⟨by decide, (jin (List.mem_of_getElem? (i := 758) (by decide +kernel)) rfl), (jin (List.mem_of_getElem? (i := 68) (by decide +kernel)) rfl), ⟨by decide, by decide⟩, by decide⟩
abbrev mX7_sheet : jMI := (yX7_sheet, cX7_sheet, 5, (some .int))
theorem jmX7_sheet : jM mX7_sheet := ⟨by decide, (jin (List.mem_of_getElem? (i := 966) (by decide +kernel)) rfl), (jin (List.mem_of_getElem? (i := 68) (by decide +kernel)) rfl), ⟨by decide, by decide⟩, by decide⟩
abbrev mX7_lose : jMI := (yX7_lose, cX7_lose, 2, (some .int))
theorem jmX7_lose : jM mX7_lose := ⟨by decide, (jin (List.mem_of_getElem? (i := 970) (by decide +kernel)) rfl), (jin (List.mem_of_getElem? (i := 68) (by decide +kernel)) rfl), ⟨by decide, by decide⟩, by decide⟩
abbrev mX7_lacks : jMI := (yX7_lacks, cX7_lacks, 4, (some .int))
theorem jmX7_lacks : jM mX7_lacks := ⟨by decide, (jin (List.mem_of_getElem? (i := 978) (by decide +kernel)) rfl), (jin (List.mem_of_getElem? (i := 68) (by decide +kernel)) rfl), ⟨by decide, by decide⟩, by decide⟩
abbrev mX7_keep : jMI := (yX7_keep, cX7_keep, 4, none)
theorem jmX7_keep : jM mX7_keep := ⟨by decide, (jin (List.mem_of_getElem? (i := 982) (by decide +kernel)) rfl), (jin (List.mem_of_getElem? (i := 68) (by decide +kernel)) rfl), ⟨by decide, by decide⟩, by decide⟩
abbrev mX7_put : jMI := (yX7_put, cX7_put, 6, (some .int))
theorem jmX7_put : jM mX7_put := ⟨by decide, (jin (List.mem_of_getElem? (i := 974) (by decide +kernel)) rfl), (jin (List.mem_of_getElem? (i := 68) (by decide +kernel)) rfl), ⟨by decide, by decide⟩, by decide⟩
abbrev mX7_get : jMI := (yX7_get, cX7_get, 5, (some .int))
theorem jmX7_get : jM mX7_get := ⟨by decide, (jin (List.mem_of_getElem? (i := 986) (by decide +kernel)) rfl), (jin (List.mem_of_getElem? (i := 68) (by decide +kernel)) rfl), ⟨by decide, by decide⟩, by decide⟩
abbrev mX7_copy : jMI := (yX7_copy, cX7_copy, 7, (some .int))
theorem jmX7_copy : jM mX7_copy := ⟨by decide, (jin (List.mem_of_getElem? (i := 991) (by decide +kernel)) rfl), (jin (List.mem_of_getElem? (i := 68) (by decide +kernel)) rfl), ⟨by decide, by decide⟩, by decide⟩
abbrev mX7_write : jMI := (yX7_write, cX7_write, 5, (some .int))
theorem jmX7_write : jM mX7_write := ⟨by decide, (jin (List.mem_of_getElem? (i := 995) (by decide +kernel)) rfl), (jin (List.mem_of_getElem? (i := 68) (by decide +kernel)) rfl), ⟨by decide, by decide⟩, by decide⟩
abbrev mX7_keptOf : jMI := (yX7_keptOf, cX7_keptOf, 3, (some .int))
theorem jmX7_keptOf : jM mX7_keptOf := ⟨by decide, (jin (List.mem_of_getElem? (i := 1003) (by decide +kernel)) rfl), (jin (List.mem_of_getElem? (i := 68) (by decide +kernel)) rfl), ⟨by decide, by decide⟩, by decide⟩
abbrev mX7_count : jMI := (yX7_count, cX7_count, 2, (some .int))
theorem jmX7_count : jM mX7_count := ⟨by decide, (jin (List.mem_of_getElem? (i := 999) (by decide +kernel)) rfl), (jin (List.mem_of_getElem? (i := 68) (by decide +kernel)) rfl), ⟨by decide, by decide⟩, by decide⟩
abbrev mX7_listDigest : jMI := (yX7_listDigest, cX7_listDigest, 8, (some .long))
theorem jmX7_listDigest : jM mX7_listDigest := ⟨by decide, (jin (List.mem_of_getElem? (i := 1014) (by decide +kernel)) rfl), (jin (List.mem_of_getElem? (i := 68) (by decide +kernel)) rfl), ⟨by decide, by decide⟩, by decide⟩
abbrev mX7_toldDigest : jMI := (yX7_toldDigest, cX7_toldDigest, 7, (some .long))
theorem jmX7_toldDigest : jM mX7_toldDigest := ⟨by decide, (jin (List.mem_of_getElem? (i := 1018) (by decide +kernel)) rfl), (jin (List.mem_of_getElem? (i := 68) (by decide +kernel)) rfl), ⟨by decide, by decide⟩, by decide⟩
abbrev mX7_digest : jMI := (yX7_digest, cX7_digest, 5, (some .long))
theorem jmX7_digest : jM mX7_digest := ⟨by decide, (jin (List.mem_of_getElem? (i := 1007) (by decide +kernel)) rfl), (jin (List.mem_of_getElem? (i := 68) (by decide +kernel)) rfl), ⟨by decide, by decide⟩, by decide⟩
abbrev mJ7_fill_53178 : jMI := (yJ7_fill_53178, cJ7_fill_53178, 4, none)
theorem jmJ7_fill_53178 : jM mJ7_fill_53178 := ⟨by decide, (jin (List.mem_of_getElem? (i := 204) (by decide +kernel)) rfl), (jin (List.mem_of_getElem? (i := 67) (by decide +kernel)) rfl), ⟨by decide, by decide⟩, by decide⟩
theorem fl_X6_11 : jFL RX6 11 5 0 := ⟨RX6, TX6, 8, rfl, by decide, in_X6, (jin (List.mem_of_getElem? (i := 205) (by decide +kernel)) rfl)⟩
theorem fl_X6_15 : jFL RX6 15 5 1 := ⟨RX6, TX6, 8, rfl, by decide, in_X6, (jin (List.mem_of_getElem? (i := 206) (by decide +kernel)) rfl)⟩
theorem fl_X6_22 : jFL RX6 22 5 2 := ⟨RX6, TX6, 8, rfl, by decide, in_X6, (jin (List.mem_of_getElem? (i := 207) (by decide +kernel)) rfl)⟩
theorem fl_X6_27 : jFL RX6 27 5 3 := ⟨RX6, TX6, 8, rfl, by decide, in_X6, (jin (List.mem_of_getElem? (i := 208) (by decide +kernel)) rfl)⟩
theorem fl_X6_33 : jFL RX6 33 5 4 := ⟨RX6, TX6, 8, rfl, by decide, in_X6, (jin (List.mem_of_getElem? (i := 209) (by decide +kernel)) rfl)⟩
theorem fl_X6_40 : jFL RX6 40 5 5 := ⟨RX6, TX6, 8, rfl, by decide, in_X6, (jin (List.mem_of_getElem? (i := 210) (by decide +kernel)) rfl)⟩
theorem fl_X6_47 : jFL RX6 47 5 6 := ⟨RX6, TX6, 8, rfl, by decide, in_X6, (jin (List.mem_of_getElem? (i := 211) (by decide +kernel)) rfl)⟩
theorem fl_X6_76 : jFL RX6 76 0 1 := ⟨RX1, TX1, 2, rfl, by decide, in_X1, (jin (List.mem_of_getElem? (i := 172) (by decide +kernel)) rfl)⟩
theorem fl_X6_86 : jFL RX6 86 0 0 := ⟨RX1, TX1, 2, rfl, by decide, in_X1, (jin (List.mem_of_getElem? (i := 170) (by decide +kernel)) rfl)⟩
theorem fl_X6_101 : jFL RX6 101 3 1 := ⟨RX4, TX4, 4, rfl, by decide, in_X4, (jin (List.mem_of_getElem? (i := 187) (by decide +kernel)) rfl)⟩
theorem fl_X6_108 : jFL RX6 108 3 3 := ⟨RX4, TX4, 4, rfl, by decide, in_X4, (jin (List.mem_of_getElem? (i := 191) (by decide +kernel)) rfl)⟩
theorem fl_X6_122 : jFL RX6 122 5 7 := ⟨RX6, TX6, 8, rfl, by decide, in_X6, (jin (List.mem_of_getElem? (i := 212) (by decide +kernel)) rfl)⟩
theorem fl_X6_125 : jFL RX6 125 1 0 := ⟨RX2, TX2, 5, rfl, by decide, in_X2, (jin (List.mem_of_getElem? (i := 143) (by decide +kernel)) rfl)⟩
theorem fl_X6_128 : jFL RX6 128 1 1 := ⟨RX2, TX2, 5, rfl, by decide, in_X2, (jin (List.mem_of_getElem? (i := 146) (by decide +kernel)) rfl)⟩
theorem fl_X6_131 : jFL RX6 131 1 2 := ⟨RX2, TX2, 5, rfl, by decide, in_X2, (jin (List.mem_of_getElem? (i := 150) (by decide +kernel)) rfl)⟩
theorem fl_X6_134 : jFL RX6 134 1 3 := ⟨RX2, TX2, 5, rfl, by decide, in_X2, (jin (List.mem_of_getElem? (i := 153) (by decide +kernel)) rfl)⟩
theorem fl_X6_137 : jFL RX6 137 1 4 := ⟨RX2, TX2, 5, rfl, by decide, in_X2, (jin (List.mem_of_getElem? (i := 156) (by decide +kernel)) rfl)⟩
theorem fl_X6_194 : jFL RX6 194 4 4 := ⟨RX5, TX5, 5, rfl, by decide, in_X5, (jin (List.mem_of_getElem? (i := 102) (by decide +kernel)) rfl)⟩
theorem fl_X6_195 : jFL RX6 195 4 0 := ⟨RX5, TX5, 5, rfl, by decide, in_X5, (jin (List.mem_of_getElem? (i := 94) (by decide +kernel)) rfl)⟩
theorem fl_X6_198 : jFL RX6 198 4 1 := ⟨RX5, TX5, 5, rfl, by decide, in_X5, (jin (List.mem_of_getElem? (i := 96) (by decide +kernel)) rfl)⟩
theorem fl_X6_201 : jFL RX6 201 4 2 := ⟨RX5, TX5, 5, rfl, by decide, in_X5, (jin (List.mem_of_getElem? (i := 98) (by decide +kernel)) rfl)⟩
theorem fl_X6_204 : jFL RX6 204 4 3 := ⟨RX5, TX5, 5, rfl, by decide, in_X5, (jin (List.mem_of_getElem? (i := 100) (by decide +kernel)) rfl)⟩
theorem fl_X6_248 : jFL RX6 248 2 1 := ⟨RX3, TX3, 2, rfl, by decide, in_X3, (jin (List.mem_of_getElem? (i := 123) (by decide +kernel)) rfl)⟩
theorem fl_X6_276 : jFL RX6 276 3 2 := ⟨RX4, TX4, 4, rfl, by decide, in_X4, (jin (List.mem_of_getElem? (i := 189) (by decide +kernel)) rfl)⟩
theorem fl_X6_282 : jFL RX6 282 3 0 := ⟨RX4, TX4, 4, rfl, by decide, in_X4, (jin (List.mem_of_getElem? (i := 185) (by decide +kernel)) rfl)⟩
theorem fs_X6_19 : Cond.fieldLink RX6 19 RX6 "HIGHEST_SETTING" "[I" ∈ jtb := (jin (List.mem_of_getElem? (i := 82) (by decide +kernel)) rfl)
theorem fs_X6_116 : Cond.fieldLink RX6 116 RX6 "HIGHEST_PART" "[I" ∈ jtb := (jin (List.mem_of_getElem? (i := 243) (by decide +kernel)) rfl)
theorem fs_X6_119 : Cond.fieldLink RX6 119 RX6 "LEAST_PART" "[I" ∈ jtb := (jin (List.mem_of_getElem? (i := 245) (by decide +kernel)) rfl)
theorem ms_X6_54 : jMS RX6 54 mJ7_fill_53178 2 := ⟨(jin (List.mem_of_getElem? (i := 202) (by decide +kernel)) rfl), (jin (List.mem_of_getElem? (i := 203) (by decide +kernel)) rfl), by decide +kernel⟩
theorem ms_X6_60 : jMS RX6 60 mX6_isBelow 2 := ⟨(jin (List.mem_of_getElem? (i := 234) (by decide +kernel)) rfl), (jin (List.mem_of_getElem? (i := 235) (by decide +kernel)) rfl), by decide +kernel⟩
theorem ms_X6_64 : jMS RX6 64 mX6_mayBeEdit 5 := ⟨(jin (List.mem_of_getElem? (i := 237) (by decide +kernel)) rfl), (jin (List.mem_of_getElem? (i := 238) (by decide +kernel)) rfl), by decide +kernel⟩
theorem ms_X6_83 : jMS RX6 83 mX6_mayBePart 2 := ⟨(jin (List.mem_of_getElem? (i := 240) (by decide +kernel)) rfl), (jin (List.mem_of_getElem? (i := 241) (by decide +kernel)) rfl), by decide +kernel⟩
theorem ms_X6_109 : jMS RX6 109 mX6_appendFrom 3 := ⟨(jin (List.mem_of_getElem? (i := 297) (by decide +kernel)) rfl), (jin (List.mem_of_getElem? (i := 298) (by decide +kernel)) rfl), by decide +kernel⟩
theorem ms_X6_174 : jMS RX6 174 mX0_part 3 := ⟨(jin (List.mem_of_getElem? (i := 384) (by decide +kernel)) rfl), (jin (List.mem_of_getElem? (i := 385) (by decide +kernel)) rfl), by decide +kernel⟩
theorem ms_X6_179 : jMS RX6 179 mX0_rate 1 := ⟨(jin (List.mem_of_getElem? (i := 397) (by decide +kernel)) rfl), (jin (List.mem_of_getElem? (i := 388) (by decide +kernel)) rfl), by decide +kernel⟩
theorem ms_X6_182 : jMS RX6 182 mX0_isLeftOut 3 := ⟨(jin (List.mem_of_getElem? (i := 398) (by decide +kernel)) rfl), (jin (List.mem_of_getElem? (i := 399) (by decide +kernel)) rfl), by decide +kernel⟩
theorem ms_X6_186 : jMS RX6 186 mX0_frame 4 := ⟨(jin (List.mem_of_getElem? (i := 401) (by decide +kernel)) rfl), (jin (List.mem_of_getElem? (i := 402) (by decide +kernel)) rfl), by decide +kernel⟩
theorem ms_X6_222 : Cond.methodLink RX6 222 Lib.Math.max.name ∈ jtb := (jin (List.mem_of_getElem? (i := 412) (by decide +kernel)) rfl)
theorem ms_X6_257 : Cond.methodLink RX6 257 Lib.Math.min.name ∈ jtb := (jin (List.mem_of_getElem? (i := 522) (by decide +kernel)) rfl)
theorem ms_X6_285 : Cond.methodLink RX6 285 arraycopyName ∈ jtb := (jin (List.mem_of_getElem? (i := 580) (by decide +kernel)) rfl)
theorem mv_X6_68 : jMV RX6 68 mX1_isFull 0 := ⟨(jin (List.mem_of_getElem? (i := 247) (by decide +kernel)) rfl), (jin (List.mem_of_getElem? (i := 248) (by decide +kernel)) rfl), (jin (List.mem_of_getElem? (i := 249) (by decide +kernel)) rfl), by decide +kernel⟩
theorem mv_X6_72 : jMV RX6 72 mX1_append 5 := ⟨(jin (List.mem_of_getElem? (i := 251) (by decide +kernel)) rfl), (jin (List.mem_of_getElem? (i := 252) (by decide +kernel)) rfl), (jin (List.mem_of_getElem? (i := 253) (by decide +kernel)) rfl), by decide +kernel⟩
theorem mv_X6_80 : jMV RX6 80 mX6_isEdit 2 := ⟨(jin (List.mem_of_getElem? (i := 264) (by decide +kernel)) rfl), (jin (List.mem_of_getElem? (i := 266) (by decide +kernel)) rfl), (jin (List.mem_of_getElem? (i := 0) (by decide +kernel)) rfl), by decide +kernel⟩
theorem mv_X6_90 : jMV RX6 90 mX2_part 1 := ⟨(jin (List.mem_of_getElem? (i := 268) (by decide +kernel)) rfl), (jin (List.mem_of_getElem? (i := 269) (by decide +kernel)) rfl), (jin (List.mem_of_getElem? (i := 270) (by decide +kernel)) rfl), by decide +kernel⟩
theorem mv_X6_96 : jMV RX6 96 mX2_become 2 := ⟨(jin (List.mem_of_getElem? (i := 272) (by decide +kernel)) rfl), (jin (List.mem_of_getElem? (i := 273) (by decide +kernel)) rfl), (jin (List.mem_of_getElem? (i := 274) (by decide +kernel)) rfl), by decide +kernel⟩
theorem mv_X6_105 : jMV RX6 105 mX6_found 1 := ⟨(jin (List.mem_of_getElem? (i := 293) (by decide +kernel)) rfl), (jin (List.mem_of_getElem? (i := 295) (by decide +kernel)) rfl), (jin (List.mem_of_getElem? (i := 1) (by decide +kernel)) rfl), by decide +kernel⟩
theorem mv_X6_113 : jMV RX6 113 mX4_item 1 := ⟨(jin (List.mem_of_getElem? (i := 300) (by decide +kernel)) rfl), (jin (List.mem_of_getElem? (i := 301) (by decide +kernel)) rfl), (jin (List.mem_of_getElem? (i := 302) (by decide +kernel)) rfl), by decide +kernel⟩
theorem mv_X6_140 : jMV RX6 140 mX1_begin 1 := ⟨(jin (List.mem_of_getElem? (i := 309) (by decide +kernel)) rfl), (jin (List.mem_of_getElem? (i := 310) (by decide +kernel)) rfl), (jin (List.mem_of_getElem? (i := 311) (by decide +kernel)) rfl), by decide +kernel⟩
theorem mv_X6_143 : jMV RX6 143 mX2_first 0 := ⟨(jin (List.mem_of_getElem? (i := 313) (by decide +kernel)) rfl), (jin (List.mem_of_getElem? (i := 314) (by decide +kernel)) rfl), (jin (List.mem_of_getElem? (i := 315) (by decide +kernel)) rfl), by decide +kernel⟩
theorem mv_X6_147 : jMV RX6 147 mX2_last 0 := ⟨(jin (List.mem_of_getElem? (i := 321) (by decide +kernel)) rfl), (jin (List.mem_of_getElem? (i := 322) (by decide +kernel)) rfl), (jin (List.mem_of_getElem? (i := 323) (by decide +kernel)) rfl), by decide +kernel⟩
theorem mv_X6_150 : jMV RX6 150 mX1_holder 1 := ⟨(jin (List.mem_of_getElem? (i := 329) (by decide +kernel)) rfl), (jin (List.mem_of_getElem? (i := 330) (by decide +kernel)) rfl), (jin (List.mem_of_getElem? (i := 331) (by decide +kernel)) rfl), by decide +kernel⟩
theorem mv_X6_153 : jMV RX6 153 mX2_frameAt 1 := ⟨(jin (List.mem_of_getElem? (i := 333) (by decide +kernel)) rfl), (jin (List.mem_of_getElem? (i := 318) (by decide +kernel)) rfl), (jin (List.mem_of_getElem? (i := 319) (by decide +kernel)) rfl), by decide +kernel⟩
theorem mv_X6_156 : jMV RX6 156 mX6_lengthOf 1 := ⟨(jin (List.mem_of_getElem? (i := 334) (by decide +kernel)) rfl), (jin (List.mem_of_getElem? (i := 336) (by decide +kernel)) rfl), (jin (List.mem_of_getElem? (i := 2) (by decide +kernel)) rfl), by decide +kernel⟩
theorem mv_X6_160 : jMV RX6 160 mX1_times 2 := ⟨(jin (List.mem_of_getElem? (i := 343) (by decide +kernel)) rfl), (jin (List.mem_of_getElem? (i := 344) (by decide +kernel)) rfl), (jin (List.mem_of_getElem? (i := 345) (by decide +kernel)) rfl), by decide +kernel⟩
theorem mv_X6_164 : jMV RX6 164 mX1_firstShowing 2 := ⟨(jin (List.mem_of_getElem? (i := 355) (by decide +kernel)) rfl), (jin (List.mem_of_getElem? (i := 356) (by decide +kernel)) rfl), (jin (List.mem_of_getElem? (i := 357) (by decide +kernel)) rfl), by decide +kernel⟩
theorem mv_X6_167 : jMV RX6 167 mX2_reach 0 := ⟨(jin (List.mem_of_getElem? (i := 368) (by decide +kernel)) rfl), (jin (List.mem_of_getElem? (i := 369) (by decide +kernel)) rfl), (jin (List.mem_of_getElem? (i := 370) (by decide +kernel)) rfl), by decide +kernel⟩
theorem mv_X6_170 : jMV RX6 170 mX2_different 0 := ⟨(jin (List.mem_of_getElem? (i := 374) (by decide +kernel)) rfl), (jin (List.mem_of_getElem? (i := 375) (by decide +kernel)) rfl), (jin (List.mem_of_getElem? (i := 376) (by decide +kernel)) rfl), by decide +kernel⟩
theorem mv_X6_190 : jMV RX6 190 mX6_gather 2 := ⟨(jin (List.mem_of_getElem? (i := 408) (by decide +kernel)) rfl), (jin (List.mem_of_getElem? (i := 410) (by decide +kernel)) rfl), (jin (List.mem_of_getElem? (i := 4) (by decide +kernel)) rfl), by decide +kernel⟩
theorem mv_X6_207 : jMV RX6 207 mX6_lacking 2 := ⟨(jin (List.mem_of_getElem? (i := 444) (by decide +kernel)) rfl), (jin (List.mem_of_getElem? (i := 446) (by decide +kernel)) rfl), (jin (List.mem_of_getElem? (i := 9) (by decide +kernel)) rfl), by decide +kernel⟩
theorem mv_X6_211 : jMV RX6 211 mX5_frames 0 := ⟨(jin (List.mem_of_getElem? (i := 452) (by decide +kernel)) rfl), (jin (List.mem_of_getElem? (i := 453) (by decide +kernel)) rfl), (jin (List.mem_of_getElem? (i := 454) (by decide +kernel)) rfl), by decide +kernel⟩
theorem mv_X6_214 : jMV RX6 214 mX1_shownFrames 0 := ⟨(jin (List.mem_of_getElem? (i := 456) (by decide +kernel)) rfl), (jin (List.mem_of_getElem? (i := 457) (by decide +kernel)) rfl), (jin (List.mem_of_getElem? (i := 458) (by decide +kernel)) rfl), by decide +kernel⟩
theorem mv_X6_217 : jMV RX6 217 mX1_frames 0 := ⟨(jin (List.mem_of_getElem? (i := 466) (by decide +kernel)) rfl), (jin (List.mem_of_getElem? (i := 467) (by decide +kernel)) rfl), (jin (List.mem_of_getElem? (i := 468) (by decide +kernel)) rfl), by decide +kernel⟩
theorem mv_X6_218 : jMV RX6 218 mX6_lackingOfAll 1 := ⟨(jin (List.mem_of_getElem? (i := 470) (by decide +kernel)) rfl), (jin (List.mem_of_getElem? (i := 472) (by decide +kernel)) rfl), (jin (List.mem_of_getElem? (i := 10) (by decide +kernel)) rfl), by decide +kernel⟩
theorem mv_X6_227 : jMV RX6 227 mX5_insert 4 := ⟨(jin (List.mem_of_getElem? (i := 415) (by decide +kernel)) rfl), (jin (List.mem_of_getElem? (i := 416) (by decide +kernel)) rfl), (jin (List.mem_of_getElem? (i := 417) (by decide +kernel)) rfl), by decide +kernel⟩
theorem mv_X6_231 : jMV RX6 231 mX5_join 1 := ⟨(jin (List.mem_of_getElem? (i := 435) (by decide +kernel)) rfl), (jin (List.mem_of_getElem? (i := 436) (by decide +kernel)) rfl), (jin (List.mem_of_getElem? (i := 437) (by decide +kernel)) rfl), by decide +kernel⟩
theorem mv_X6_234 : jMV RX6 234 mX3_pair 2 := ⟨(jin (List.mem_of_getElem? (i := 478) (by decide +kernel)) rfl), (jin (List.mem_of_getElem? (i := 479) (by decide +kernel)) rfl), (jin (List.mem_of_getElem? (i := 480) (by decide +kernel)) rfl), by decide +kernel⟩
theorem mv_X6_238 : jMV RX6 238 mX3_kind 3 := ⟨(jin (List.mem_of_getElem? (i := 495) (by decide +kernel)) rfl), (jin (List.mem_of_getElem? (i := 496) (by decide +kernel)) rfl), (jin (List.mem_of_getElem? (i := 497) (by decide +kernel)) rfl), by decide +kernel⟩
theorem mv_X6_242 : jMV RX6 242 mX3_partner 1 := ⟨(jin (List.mem_of_getElem? (i := 505) (by decide +kernel)) rfl), (jin (List.mem_of_getElem? (i := 500) (by decide +kernel)) rfl), (jin (List.mem_of_getElem? (i := 501) (by decide +kernel)) rfl), by decide +kernel⟩
theorem mv_X6_245 : jMV RX6 245 mX3_later 3 := ⟨(jin (List.mem_of_getElem? (i := 506) (by decide +kernel)) rfl), (jin (List.mem_of_getElem? (i := 507) (by decide +kernel)) rfl), (jin (List.mem_of_getElem? (i := 508) (by decide +kernel)) rfl), by decide +kernel⟩
theorem mv_X6_251 : jMV RX6 251 mX6_gatherFresh 0 := ⟨(jin (List.mem_of_getElem? (i := 518) (by decide +kernel)) rfl), (jin (List.mem_of_getElem? (i := 520) (by decide +kernel)) rfl), (jin (List.mem_of_getElem? (i := 13) (by decide +kernel)) rfl), by decide +kernel⟩
theorem mv_X6_254 : jMV RX6 254 mX5_nth 1 := ⟨(jin (List.mem_of_getElem? (i := 533) (by decide +kernel)) rfl), (jin (List.mem_of_getElem? (i := 534) (by decide +kernel)) rfl), (jin (List.mem_of_getElem? (i := 535) (by decide +kernel)) rfl), by decide +kernel⟩
theorem mv_X6_260 : jMV RX6 260 mX6_addWithout 4 := ⟨(jin (List.mem_of_getElem? (i := 525) (by decide +kernel)) rfl), (jin (List.mem_of_getElem? (i := 527) (by decide +kernel)) rfl), (jin (List.mem_of_getElem? (i := 14) (by decide +kernel)) rfl), by decide +kernel⟩
theorem mv_X6_264 : jMV RX6 264 mX5_append 3 := ⟨(jin (List.mem_of_getElem? (i := 529) (by decide +kernel)) rfl), (jin (List.mem_of_getElem? (i := 530) (by decide +kernel)) rfl), (jin (List.mem_of_getElem? (i := 531) (by decide +kernel)) rfl), by decide +kernel⟩
theorem mv_X6_267 : jMV RX6 267 mX4_begin 2 := ⟨(jin (List.mem_of_getElem? (i := 546) (by decide +kernel)) rfl), (jin (List.mem_of_getElem? (i := 547) (by decide +kernel)) rfl), (jin (List.mem_of_getElem? (i := 548) (by decide +kernel)) rfl), by decide +kernel⟩
theorem mv_X6_269 : jMV RX6 269 mX4_fault 2 := ⟨(jin (List.mem_of_getElem? (i := 559) (by decide +kernel)) rfl), (jin (List.mem_of_getElem? (i := 560) (by decide +kernel)) rfl), (jin (List.mem_of_getElem? (i := 561) (by decide +kernel)) rfl), by decide +kernel⟩
theorem mv_X6_272 : jMV RX6 272 mX4_store 2 := ⟨(jin (List.mem_of_getElem? (i := 563) (by decide +kernel)) rfl), (jin (List.mem_of_getElem? (i := 564) (by decide +kernel)) rfl), (jin (List.mem_of_getElem? (i := 565) (by decide +kernel)) rfl), by decide +kernel⟩
theorem mv_X6_279 : jMV RX6 279 mX4_hasItems 2 := ⟨(jin (List.mem_of_getElem? (i := 576) (by decide +kernel)) rfl), (jin (List.mem_of_getElem? (i := 577) (by decide +kernel)) rfl), (jin (List.mem_of_getElem? (i := 578) (by decide +kernel)) rfl), by decide +kernel⟩
theorem mv_X6_291 : jMV RX6 291 mX6_pulls 1 := ⟨(jin (List.mem_of_getElem? (i := 591) (by decide +kernel)) rfl), (jin (List.mem_of_getElem? (i := 405) (by decide +kernel)) rfl), (jin (List.mem_of_getElem? (i := 406) (by decide +kernel)) rfl), by decide +kernel⟩
theorem mv_X6_294 : jMV RX6 294 mX6_keptEdits 0 := ⟨(jin (List.mem_of_getElem? (i := 592) (by decide +kernel)) rfl), (jin (List.mem_of_getElem? (i := 594) (by decide +kernel)) rfl), (jin (List.mem_of_getElem? (i := 15) (by decide +kernel)) rfl), by decide +kernel⟩
theorem mv_X6_297 : jMV RX6 297 mX6_anew 1 := ⟨(jin (List.mem_of_getElem? (i := 596) (by decide +kernel)) rfl), (jin (List.mem_of_getElem? (i := 515) (by decide +kernel)) rfl), (jin (List.mem_of_getElem? (i := 516) (by decide +kernel)) rfl), by decide +kernel⟩
theorem mv_X6_304 : jMV RX6 304 mX6_count 1 := ⟨(jin (List.mem_of_getElem? (i := 603) (by decide +kernel)) rfl), (jin (List.mem_of_getElem? (i := 588) (by decide +kernel)) rfl), (jin (List.mem_of_getElem? (i := 589) (by decide +kernel)) rfl), by decide +kernel⟩
theorem mv_X6_307 : jMV RX6 307 mX6_digestOfEdits 2 := ⟨(jin (List.mem_of_getElem? (i := 604) (by decide +kernel)) rfl), (jin (List.mem_of_getElem? (i := 606) (by decide +kernel)) rfl), (jin (List.mem_of_getElem? (i := 16) (by decide +kernel)) rfl), by decide +kernel⟩
theorem mv_X6_311 : jMV RX6 311 mX6_digestOfList 2 := ⟨(jin (List.mem_of_getElem? (i := 610) (by decide +kernel)) rfl), (jin (List.mem_of_getElem? (i := 612) (by decide +kernel)) rfl), (jin (List.mem_of_getElem? (i := 17) (by decide +kernel)) rfl), by decide +kernel⟩
theorem mv_X6_314 : jMV RX6 314 mX6_compare 2 := ⟨(jin (List.mem_of_getElem? (i := 619) (by decide +kernel)) rfl), (jin (List.mem_of_getElem? (i := 475) (by decide +kernel)) rfl), (jin (List.mem_of_getElem? (i := 476) (by decide +kernel)) rfl), by decide +kernel⟩
theorem mv_X6_317 : jMV RX6 317 mX6_gone 0 := ⟨(jin (List.mem_of_getElem? (i := 620) (by decide +kernel)) rfl), (jin (List.mem_of_getElem? (i := 511) (by decide +kernel)) rfl), (jin (List.mem_of_getElem? (i := 512) (by decide +kernel)) rfl), by decide +kernel⟩
theorem mv_X6_320 : jMV RX6 320 mX6_saving 1 := ⟨(jin (List.mem_of_getElem? (i := 621) (by decide +kernel)) rfl), (jin (List.mem_of_getElem? (i := 539) (by decide +kernel)) rfl), (jin (List.mem_of_getElem? (i := 540) (by decide +kernel)) rfl), by decide +kernel⟩
theorem mv_X6_323 : jMV RX6 323 mX6_digestOfTold 2 := ⟨(jin (List.mem_of_getElem? (i := 622) (by decide +kernel)) rfl), (jin (List.mem_of_getElem? (i := 624) (by decide +kernel)) rfl), (jin (List.mem_of_getElem? (i := 18) (by decide +kernel)) rfl), by decide +kernel⟩
theorem mv_X6_326 : jMV RX6 326 mX6_number 4 := ⟨(jin (List.mem_of_getElem? (i := 627) (by decide +kernel)) rfl), (jin (List.mem_of_getElem? (i := 394) (by decide +kernel)) rfl), (jin (List.mem_of_getElem? (i := 395) (by decide +kernel)) rfl), by decide +kernel⟩
theorem mv_X6_329 : jMV RX6 329 mX6_info 3 := ⟨(jin (List.mem_of_getElem? (i := 608) (by decide +kernel)) rfl), (jin (List.mem_of_getElem? (i := 306) (by decide +kernel)) rfl), (jin (List.mem_of_getElem? (i := 307) (by decide +kernel)) rfl), by decide +kernel⟩
theorem mv_X6_332 : jMV RX6 332 mX6_still 3 := ⟨(jin (List.mem_of_getElem? (i := 609) (by decide +kernel)) rfl), (jin (List.mem_of_getElem? (i := 365) (by decide +kernel)) rfl), (jin (List.mem_of_getElem? (i := 366) (by decide +kernel)) rfl), by decide +kernel⟩
theorem mv_X6_335 : jMV RX6 335 mX6_pull 3 := ⟨(jin (List.mem_of_getElem? (i := 614) (by decide +kernel)) rfl), (jin (List.mem_of_getElem? (i := 441) (by decide +kernel)) rfl), (jin (List.mem_of_getElem? (i := 442) (by decide +kernel)) rfl), by decide +kernel⟩
theorem mv_X6_338 : jMV RX6 338 mX6_waste 1 := ⟨(jin (List.mem_of_getElem? (i := 615) (by decide +kernel)) rfl), (jin (List.mem_of_getElem? (i := 449) (by decide +kernel)) rfl), (jin (List.mem_of_getElem? (i := 450) (by decide +kernel)) rfl), by decide +kernel⟩
theorem mv_X6_341 : jMV RX6 341 mX6_total 2 := ⟨(jin (List.mem_of_getElem? (i := 616) (by decide +kernel)) rfl), (jin (List.mem_of_getElem? (i := 463) (by decide +kernel)) rfl), (jin (List.mem_of_getElem? (i := 464) (by decide +kernel)) rfl), by decide +kernel⟩
theorem mv_X6_344 : jMV RX6 344 mX6_shows 3 := ⟨(jin (List.mem_of_getElem? (i := 617) (by decide +kernel)) rfl), (jin (List.mem_of_getElem? (i := 326) (by decide +kernel)) rfl), (jin (List.mem_of_getElem? (i := 327) (by decide +kernel)) rfl), by decide +kernel⟩
theorem mv_X6_347 : jMV RX6 347 mX6_seen 4 := ⟨(jin (List.mem_of_getElem? (i := 618) (by decide +kernel)) rfl), (jin (List.mem_of_getElem? (i := 339) (by decide +kernel)) rfl), (jin (List.mem_of_getElem? (i := 340) (by decide +kernel)) rfl), by decide +kernel⟩
theorem mv_X6_350 : jMV RX6 350 mX6_told 2 := ⟨(jin (List.mem_of_getElem? (i := 626) (by decide +kernel)) rfl), (jin (List.mem_of_getElem? (i := 380) (by decide +kernel)) rfl), (jin (List.mem_of_getElem? (i := 381) (by decide +kernel)) rfl), by decide +kernel⟩
theorem kc_X6_53 : Cond.constant RX6 53 (nI 100000) ∈ jtb := (jin (List.mem_of_getElem? (i := 201) (by decide +kernel)) rfl)
theorem kc_X6_100 : Cond.constant RX6 100 (nI 200000) ∈ jtb := (jin (List.mem_of_getElem? (i := 284) (by decide +kernel)) rfl)
theorem kc_X6_159 : Cond.constant RX6 159 (nI 300000) ∈ jtb := (jin (List.mem_of_getElem? (i := 342) (by decide +kernel)) rfl)
theorem kc_X6_173 : Cond.constant RX6 173 (nI 10000000) ∈ jtb := (jin (List.mem_of_getElem? (i := 383) (by decide +kernel)) rfl)
theorem kl_X6_300 : Cond.constantLong RX6 300 17 ∈ jtb := (jin (List.mem_of_getElem? (i := 601) (by decide +kernel)) rfl)
theorem kl_X6_302 : Cond.constantLong RX6 302 31 ∈ jtb := (jin (List.mem_of_getElem? (i := 602) (by decide +kernel)) rfl)
theorem kc_X6_275 : Cond.constant RX6 275 (-2147483648) ∈ jtb := (jin (List.mem_of_getElem? (i := 571) (by decide +kernel)) rfl)
theorem fp_X6_76 : jFP RX6 76 0 1 .int := ⟨RX1, TX1, 2, tyX1, rfl, by decide, in_X1, (jin (List.mem_of_getElem? (i := 172) (by decide +kernel)) rfl), tyX1_ok, nmX1, rfl, by decide +kernel⟩
theorem fp_X6_101 : jFP RX6 101 3 1 .boolean := ⟨RX4, TX4, 4, tyX4, rfl, by decide, in_X4, (jin (List.mem_of_getElem? (i := 187) (by decide +kernel)) rfl), tyX4_ok, nmX4, rfl, by decide +kernel⟩
theorem fp_X6_122 : jFP RX6 122 5 7 .int := ⟨RX6, TX6, 8, tyX6, rfl, by decide, in_X6, (jin (List.mem_of_getElem? (i := 212) (by decide +kernel)) rfl), tyX6_ok, nmX6, rfl, by decide +kernel⟩
theorem fp_X6_194 : jFP RX6 194 4 4 .int := ⟨RX5, TX5, 5, tyX5, rfl, by decide, in_X5, (jin (List.mem_of_getElem? (i := 102) (by decide +kernel)) rfl), tyX5_ok, nmX5, rfl, by decide +kernel⟩
theorem ms_X0_9 : jMS RX0 9 mX0_rate 1 := ⟨(jin (List.mem_of_getElem? (i := 387) (by decide +kernel)) rfl), (jin (List.mem_of_getElem? (i := 388) (by decide +kernel)) rfl), by decide +kernel⟩
theorem ms_X0_13 : jMS RX0 13 mX0_leftOutBefore 1 := ⟨(jin (List.mem_of_getElem? (i := 390) (by decide +kernel)) rfl), (jin (List.mem_of_getElem? (i := 391) (by decide +kernel)) rfl), by decide +kernel⟩
theorem fl_X1_11 : jFL RX1 11 0 0 := ⟨RX1, TX1, 2, rfl, by decide, in_X1, (jin (List.mem_of_getElem? (i := 168) (by decide +kernel)) rfl)⟩
theorem fl_X1_18 : jFL RX1 18 0 1 := ⟨RX1, TX1, 2, rfl, by decide, in_X1, (jin (List.mem_of_getElem? (i := 171) (by decide +kernel)) rfl)⟩
theorem fl_X1_26 : jFL RX1 26 1 0 := ⟨RX2, TX2, 5, rfl, by decide, in_X2, (jin (List.mem_of_getElem? (i := 141) (by decide +kernel)) rfl)⟩
theorem fl_X1_32 : jFL RX1 32 1 2 := ⟨RX2, TX2, 5, rfl, by decide, in_X2, (jin (List.mem_of_getElem? (i := 148) (by decide +kernel)) rfl)⟩
theorem mv_X1_22 : jMV RX1 22 mX1_isFull 0 := ⟨(jin (List.mem_of_getElem? (i := 255) (by decide +kernel)) rfl), (jin (List.mem_of_getElem? (i := 248) (by decide +kernel)) rfl), (jin (List.mem_of_getElem? (i := 249) (by decide +kernel)) rfl), by decide +kernel⟩
theorem mv_X1_41 : jMV RX1 41 mX1_begin 1 := ⟨(jin (List.mem_of_getElem? (i := 363) (by decide +kernel)) rfl), (jin (List.mem_of_getElem? (i := 310) (by decide +kernel)) rfl), (jin (List.mem_of_getElem? (i := 311) (by decide +kernel)) rfl), by decide +kernel⟩
theorem mv_X1_45 : jMV RX1 45 mX2_times 1 := ⟨(jin (List.mem_of_getElem? (i := 347) (by decide +kernel)) rfl), (jin (List.mem_of_getElem? (i := 348) (by decide +kernel)) rfl), (jin (List.mem_of_getElem? (i := 349) (by decide +kernel)) rfl), by decide +kernel⟩
theorem mv_X1_48 : jMV RX1 48 mX2_firstShowing 1 := ⟨(jin (List.mem_of_getElem? (i := 359) (by decide +kernel)) rfl), (jin (List.mem_of_getElem? (i := 360) (by decide +kernel)) rfl), (jin (List.mem_of_getElem? (i := 361) (by decide +kernel)) rfl), by decide +kernel⟩
theorem mv_X1_51 : jMV RX1 51 mX2_frameAt 1 := ⟨(jin (List.mem_of_getElem? (i := 460) (by decide +kernel)) rfl), (jin (List.mem_of_getElem? (i := 318) (by decide +kernel)) rfl), (jin (List.mem_of_getElem? (i := 319) (by decide +kernel)) rfl), by decide +kernel⟩
theorem mv_X1_54 : jMV RX1 54 mX1_firstShowing 2 := ⟨(jin (List.mem_of_getElem? (i := 461) (by decide +kernel)) rfl), (jin (List.mem_of_getElem? (i := 356) (by decide +kernel)) rfl), (jin (List.mem_of_getElem? (i := 357) (by decide +kernel)) rfl), by decide +kernel⟩
theorem fp_X1_18 : jFP RX1 18 0 1 .int := ⟨RX1, TX1, 2, tyX1, rfl, by decide, in_X1, (jin (List.mem_of_getElem? (i := 171) (by decide +kernel)) rfl), tyX1_ok, nmX1, rfl, by decide +kernel⟩
theorem fp_X1_26 : jFP RX1 26 1 0 .int := ⟨RX2, TX2, 5, tyX2, rfl, by decide, in_X2, (jin (List.mem_of_getElem? (i := 141) (by decide +kernel)) rfl), tyX2_ok, nmX2, rfl, by decide +kernel⟩
theorem fp_X1_29 : jFP RX1 29 1 1 .int := ⟨RX2, TX2, 5, tyX2, rfl, by decide, in_X2, (jin (List.mem_of_getElem? (i := 145) (by decide +kernel)) rfl), tyX2_ok, nmX2, rfl, by decide +kernel⟩
theorem fp_X1_32 : jFP RX1 32 1 2 .int := ⟨RX2, TX2, 5, tyX2, rfl, by decide, in_X2, (jin (List.mem_of_getElem? (i := 148) (by decide +kernel)) rfl), tyX2_ok, nmX2, rfl, by decide +kernel⟩
theorem fp_X1_35 : jFP RX1 35 1 3 .int := ⟨RX2, TX2, 5, tyX2, rfl, by decide, in_X2, (jin (List.mem_of_getElem? (i := 152) (by decide +kernel)) rfl), tyX2_ok, nmX2, rfl, by decide +kernel⟩
theorem fp_X1_38 : jFP RX1 38 1 4 .int := ⟨RX2, TX2, 5, tyX2, rfl, by decide, in_X2, (jin (List.mem_of_getElem? (i := 155) (by decide +kernel)) rfl), tyX2_ok, nmX2, rfl, by decide +kernel⟩
theorem fl_X2_9 : jFL RX2 9 1 2 := ⟨RX2, TX2, 5, rfl, by decide, in_X2, (jin (List.mem_of_getElem? (i := 147) (by decide +kernel)) rfl)⟩
theorem fl_X2_15 : jFL RX2 15 1 4 := ⟨RX2, TX2, 5, rfl, by decide, in_X2, (jin (List.mem_of_getElem? (i := 154) (by decide +kernel)) rfl)⟩
theorem fl_X2_18 : jFL RX2 18 1 1 := ⟨RX2, TX2, 5, rfl, by decide, in_X2, (jin (List.mem_of_getElem? (i := 144) (by decide +kernel)) rfl)⟩
theorem fl_X2_21 : jFL RX2 21 1 3 := ⟨RX2, TX2, 5, rfl, by decide, in_X2, (jin (List.mem_of_getElem? (i := 151) (by decide +kernel)) rfl)⟩
theorem fl_X2_41 : jFL RX2 41 1 0 := ⟨RX2, TX2, 5, rfl, by decide, in_X2, (jin (List.mem_of_getElem? (i := 142) (by decide +kernel)) rfl)⟩
theorem mv_X2_24 : jMV RX2 24 mX2_frameAt 1 := ⟨(jin (List.mem_of_getElem? (i := 317) (by decide +kernel)) rfl), (jin (List.mem_of_getElem? (i := 318) (by decide +kernel)) rfl), (jin (List.mem_of_getElem? (i := 319) (by decide +kernel)) rfl), by decide +kernel⟩
theorem mv_X2_28 : jMV RX2 28 mX2_last 0 := ⟨(jin (List.mem_of_getElem? (i := 372) (by decide +kernel)) rfl), (jin (List.mem_of_getElem? (i := 322) (by decide +kernel)) rfl), (jin (List.mem_of_getElem? (i := 323) (by decide +kernel)) rfl), by decide +kernel⟩
theorem mv_X2_32 : jMV RX2 32 mX2_first 0 := ⟨(jin (List.mem_of_getElem? (i := 373) (by decide +kernel)) rfl), (jin (List.mem_of_getElem? (i := 314) (by decide +kernel)) rfl), (jin (List.mem_of_getElem? (i := 315) (by decide +kernel)) rfl), by decide +kernel⟩
theorem mv_X2_35 : jMV RX2 35 mX2_reach 0 := ⟨(jin (List.mem_of_getElem? (i := 378) (by decide +kernel)) rfl), (jin (List.mem_of_getElem? (i := 369) (by decide +kernel)) rfl), (jin (List.mem_of_getElem? (i := 370) (by decide +kernel)) rfl), by decide +kernel⟩
theorem mv_X2_38 : jMV RX2 38 mX2_firstAtLeast 1 := ⟨(jin (List.mem_of_getElem? (i := 351) (by decide +kernel)) rfl), (jin (List.mem_of_getElem? (i := 353) (by decide +kernel)) rfl), (jin (List.mem_of_getElem? (i := 3) (by decide +kernel)) rfl), by decide +kernel⟩
theorem fp_X2_9 : jFP RX2 9 1 2 .int := ⟨RX2, TX2, 5, tyX2, rfl, by decide, in_X2, (jin (List.mem_of_getElem? (i := 147) (by decide +kernel)) rfl), tyX2_ok, nmX2, rfl, by decide +kernel⟩
theorem fp_X2_15 : jFP RX2 15 1 4 .int := ⟨RX2, TX2, 5, tyX2, rfl, by decide, in_X2, (jin (List.mem_of_getElem? (i := 154) (by decide +kernel)) rfl), tyX2_ok, nmX2, rfl, by decide +kernel⟩
theorem fp_X2_18 : jFP RX2 18 1 1 .int := ⟨RX2, TX2, 5, tyX2, rfl, by decide, in_X2, (jin (List.mem_of_getElem? (i := 144) (by decide +kernel)) rfl), tyX2_ok, nmX2, rfl, by decide +kernel⟩
theorem fp_X2_21 : jFP RX2 21 1 3 .int := ⟨RX2, TX2, 5, tyX2, rfl, by decide, in_X2, (jin (List.mem_of_getElem? (i := 151) (by decide +kernel)) rfl), tyX2_ok, nmX2, rfl, by decide +kernel⟩
theorem fl_X3_9 : jFL RX3 9 2 0 := ⟨RX3, TX3, 2, rfl, by decide, in_X3, (jin (List.mem_of_getElem? (i := 121) (by decide +kernel)) rfl)⟩
theorem fl_X3_21 : jFL RX3 21 2 1 := ⟨RX3, TX3, 2, rfl, by decide, in_X3, (jin (List.mem_of_getElem? (i := 122) (by decide +kernel)) rfl)⟩
theorem fl_X3_29 : jFL RX3 29 0 1 := ⟨RX1, TX1, 2, rfl, by decide, in_X1, (jin (List.mem_of_getElem? (i := 173) (by decide +kernel)) rfl)⟩
theorem fl_X3_34 : jFL RX3 34 0 0 := ⟨RX1, TX1, 2, rfl, by decide, in_X1, (jin (List.mem_of_getElem? (i := 169) (by decide +kernel)) rfl)⟩
theorem fl_X3_48 : jFL RX3 48 1 2 := ⟨RX2, TX2, 5, rfl, by decide, in_X2, (jin (List.mem_of_getElem? (i := 149) (by decide +kernel)) rfl)⟩
theorem ms_X3_15 : jMS RX3 15 mJ7_fill_53178 2 := ⟨(jin (List.mem_of_getElem? (i := 482) (by decide +kernel)) rfl), (jin (List.mem_of_getElem? (i := 203) (by decide +kernel)) rfl), by decide +kernel⟩
theorem ms_X3_51 : jMN RX3 51 mX6_isBelow 2 "CutListDesk" := ⟨fun _ h => h.2, (jin (List.mem_of_getElem? (i := 235) (by decide +kernel)) rfl), by decide +kernel⟩
theorem mv_X3_25 : jMV RX3 25 mX3_takeEach 3 := ⟨(jin (List.mem_of_getElem? (i := 483) (by decide +kernel)) rfl), (jin (List.mem_of_getElem? (i := 485) (by decide +kernel)) rfl), (jin (List.mem_of_getElem? (i := 11) (by decide +kernel)) rfl), by decide +kernel⟩
theorem mv_X3_38 : jMV RX3 38 mX3_takeFor 4 := ⟨(jin (List.mem_of_getElem? (i := 487) (by decide +kernel)) rfl), (jin (List.mem_of_getElem? (i := 489) (by decide +kernel)) rfl), (jin (List.mem_of_getElem? (i := 12) (by decide +kernel)) rfl), by decide +kernel⟩
theorem mv_X3_42 : jMV RX3 42 mX2_isLike 1 := ⟨(jin (List.mem_of_getElem? (i := 491) (by decide +kernel)) rfl), (jin (List.mem_of_getElem? (i := 492) (by decide +kernel)) rfl), (jin (List.mem_of_getElem? (i := 493) (by decide +kernel)) rfl), by decide +kernel⟩
theorem mv_X3_55 : jMV RX3 55 mX3_partner 1 := ⟨(jin (List.mem_of_getElem? (i := 499) (by decide +kernel)) rfl), (jin (List.mem_of_getElem? (i := 500) (by decide +kernel)) rfl), (jin (List.mem_of_getElem? (i := 501) (by decide +kernel)) rfl), by decide +kernel⟩
theorem mv_X3_59 : jMV RX3 59 mX1_begin 1 := ⟨(jin (List.mem_of_getElem? (i := 504) (by decide +kernel)) rfl), (jin (List.mem_of_getElem? (i := 310) (by decide +kernel)) rfl), (jin (List.mem_of_getElem? (i := 311) (by decide +kernel)) rfl), by decide +kernel⟩
theorem fp_X3_21 : jFP RX3 21 2 1 .int := ⟨RX3, TX3, 2, tyX3, rfl, by decide, in_X3, (jin (List.mem_of_getElem? (i := 122) (by decide +kernel)) rfl), tyX3_ok, nmX3, rfl, by decide +kernel⟩
theorem fl_X4_9 : jFL RX4 9 3 0 := ⟨RX4, TX4, 4, rfl, by decide, in_X4, (jin (List.mem_of_getElem? (i := 184) (by decide +kernel)) rfl)⟩
theorem fl_X4_15 : jFL RX4 15 3 1 := ⟨RX4, TX4, 4, rfl, by decide, in_X4, (jin (List.mem_of_getElem? (i := 186) (by decide +kernel)) rfl)⟩
theorem fl_X4_19 : jFL RX4 19 3 2 := ⟨RX4, TX4, 4, rfl, by decide, in_X4, (jin (List.mem_of_getElem? (i := 188) (by decide +kernel)) rfl)⟩
theorem fl_X4_23 : jFL RX4 23 3 3 := ⟨RX4, TX4, 4, rfl, by decide, in_X4, (jin (List.mem_of_getElem? (i := 190) (by decide +kernel)) rfl)⟩
theorem ms_X4_26 : jMS RX4 26 mJ7_fill_53178 2 := ⟨(jin (List.mem_of_getElem? (i := 550) (by decide +kernel)) rfl), (jin (List.mem_of_getElem? (i := 203) (by decide +kernel)) rfl), by decide +kernel⟩
theorem ms_X4_32 : jMN RX4 32 mX6_isBelow 2 "CutListDesk" := ⟨fun _ h => h.1, (jin (List.mem_of_getElem? (i := 235) (by decide +kernel)) rfl), by decide +kernel⟩
theorem fp_X4_15 : jFP RX4 15 3 1 .boolean := ⟨RX4, TX4, 4, tyX4, rfl, by decide, in_X4, (jin (List.mem_of_getElem? (i := 186) (by decide +kernel)) rfl), tyX4_ok, nmX4, rfl, by decide +kernel⟩
theorem fp_X4_19 : jFP RX4 19 3 2 .int := ⟨RX4, TX4, 4, tyX4, rfl, by decide, in_X4, (jin (List.mem_of_getElem? (i := 188) (by decide +kernel)) rfl), tyX4_ok, nmX4, rfl, by decide +kernel⟩
theorem fp_X4_23 : jFP RX4 23 3 3 .int := ⟨RX4, TX4, 4, tyX4, rfl, by decide, in_X4, (jin (List.mem_of_getElem? (i := 190) (by decide +kernel)) rfl), tyX4_ok, nmX4, rfl, by decide +kernel⟩
theorem fl_X5_9 : jFL RX5 9 4 0 := ⟨RX5, TX5, 5, rfl, by decide, in_X5, (jin (List.mem_of_getElem? (i := 93) (by decide +kernel)) rfl)⟩
theorem fl_X5_15 : jFL RX5 15 4 1 := ⟨RX5, TX5, 5, rfl, by decide, in_X5, (jin (List.mem_of_getElem? (i := 95) (by decide +kernel)) rfl)⟩
theorem fl_X5_18 : jFL RX5 18 4 2 := ⟨RX5, TX5, 5, rfl, by decide, in_X5, (jin (List.mem_of_getElem? (i := 97) (by decide +kernel)) rfl)⟩
theorem fl_X5_21 : jFL RX5 21 4 3 := ⟨RX5, TX5, 5, rfl, by decide, in_X5, (jin (List.mem_of_getElem? (i := 99) (by decide +kernel)) rfl)⟩
theorem fl_X5_24 : jFL RX5 24 4 4 := ⟨RX5, TX5, 5, rfl, by decide, in_X5, (jin (List.mem_of_getElem? (i := 101) (by decide +kernel)) rfl)⟩
theorem ms_X5_44 : Cond.methodLink RX5 44 Lib.Math.max.name ∈ jtb := (jin (List.mem_of_getElem? (i := 439) (by decide +kernel)) rfl)
theorem mv_X5_28 : jMV RX5 28 mX5_isFull 0 := ⟨(jin (List.mem_of_getElem? (i := 419) (by decide +kernel)) rfl), (jin (List.mem_of_getElem? (i := 421) (by decide +kernel)) rfl), (jin (List.mem_of_getElem? (i := 5) (by decide +kernel)) rfl), by decide +kernel⟩
theorem mv_X5_32 : jMV RX5 32 mX5_isBehind 3 := ⟨(jin (List.mem_of_getElem? (i := 423) (by decide +kernel)) rfl), (jin (List.mem_of_getElem? (i := 425) (by decide +kernel)) rfl), (jin (List.mem_of_getElem? (i := 6) (by decide +kernel)) rfl), by decide +kernel⟩
theorem mv_X5_36 : jMV RX5 36 mX5_move 2 := ⟨(jin (List.mem_of_getElem? (i := 427) (by decide +kernel)) rfl), (jin (List.mem_of_getElem? (i := 429) (by decide +kernel)) rfl), (jin (List.mem_of_getElem? (i := 7) (by decide +kernel)) rfl), by decide +kernel⟩
theorem mv_X5_40 : jMV RX5 40 mX5_fill 5 := ⟨(jin (List.mem_of_getElem? (i := 431) (by decide +kernel)) rfl), (jin (List.mem_of_getElem? (i := 433) (by decide +kernel)) rfl), (jin (List.mem_of_getElem? (i := 8) (by decide +kernel)) rfl), by decide +kernel⟩
theorem kc_X5_50 : Cond.constant RX5 50 (nI 1000000) ∈ jtb := (jin (List.mem_of_getElem? (i := 537) (by decide +kernel)) rfl)
theorem fp_X5_24 : jFP RX5 24 4 4 .int := ⟨RX5, TX5, 5, tyX5, rfl, by decide, in_X5, (jin (List.mem_of_getElem? (i := 101) (by decide +kernel)) rfl), tyX5_ok, nmX5, rfl, by decide +kernel⟩
theorem mv_L_13 : jMV RL 13 mX6_edit 6 := ⟨(jin (List.mem_of_getElem? (i := 230) (by decide +kernel)) rfl), (jin (List.mem_of_getElem? (i := 231) (by decide +kernel)) rfl), (jin (List.mem_of_getElem? (i := 232) (by decide +kernel)) rfl), by decide +kernel⟩
theorem mv_L_17 : jMV RL 17 mX7_edit 6 := ⟨(jin (List.mem_of_getElem? (i := 700) (by decide +kernel)) rfl), (jin (List.mem_of_getElem? (i := 701) (by decide +kernel)) rfl), (jin (List.mem_of_getElem? (i := 702) (by decide +kernel)) rfl), by decide +kernel⟩
theorem mv_L_18 : jMV RL 18 mX6_back 1 := ⟨(jin (List.mem_of_getElem? (i := 256) (by decide +kernel)) rfl), (jin (List.mem_of_getElem? (i := 257) (by decide +kernel)) rfl), (jin (List.mem_of_getElem? (i := 258) (by decide +kernel)) rfl), by decide +kernel⟩
theorem mv_L_22 : jMV RL 22 mX7_back 1 := ⟨(jin (List.mem_of_getElem? (i := 721) (by decide +kernel)) rfl), (jin (List.mem_of_getElem? (i := 722) (by decide +kernel)) rfl), (jin (List.mem_of_getElem? (i := 723) (by decide +kernel)) rfl), by decide +kernel⟩
theorem mv_L_23 : jMV RL 23 mX6_trim 4 := ⟨(jin (List.mem_of_getElem? (i := 260) (by decide +kernel)) rfl), (jin (List.mem_of_getElem? (i := 261) (by decide +kernel)) rfl), (jin (List.mem_of_getElem? (i := 262) (by decide +kernel)) rfl), by decide +kernel⟩
theorem mv_L_27 : jMV RL 27 mX7_trim 4 := ⟨(jin (List.mem_of_getElem? (i := 725) (by decide +kernel)) rfl), (jin (List.mem_of_getElem? (i := 726) (by decide +kernel)) rfl), (jin (List.mem_of_getElem? (i := 727) (by decide +kernel)) rfl), by decide +kernel⟩
theorem mv_L_28 : jMV RL 28 mX6_set 2 := ⟨(jin (List.mem_of_getElem? (i := 276) (by decide +kernel)) rfl), (jin (List.mem_of_getElem? (i := 277) (by decide +kernel)) rfl), (jin (List.mem_of_getElem? (i := 278) (by decide +kernel)) rfl), by decide +kernel⟩
theorem mv_L_32 : jMV RL 32 mX7_set 2 := ⟨(jin (List.mem_of_getElem? (i := 733) (by decide +kernel)) rfl), (jin (List.mem_of_getElem? (i := 734) (by decide +kernel)) rfl), (jin (List.mem_of_getElem? (i := 735) (by decide +kernel)) rfl), by decide +kernel⟩
theorem mv_L_33 : jMV RL 33 mX6_reel 2 := ⟨(jin (List.mem_of_getElem? (i := 280) (by decide +kernel)) rfl), (jin (List.mem_of_getElem? (i := 281) (by decide +kernel)) rfl), (jin (List.mem_of_getElem? (i := 282) (by decide +kernel)) rfl), by decide +kernel⟩
theorem mv_L_36 : jMV RL 36 mX7_reel 2 := ⟨(jin (List.mem_of_getElem? (i := 740) (by decide +kernel)) rfl), (jin (List.mem_of_getElem? (i := 741) (by decide +kernel)) rfl), (jin (List.mem_of_getElem? (i := 742) (by decide +kernel)) rfl), by decide +kernel⟩
theorem mv_L_37 : jMV RL 37 mX6_swap 0 := ⟨(jin (List.mem_of_getElem? (i := 285) (by decide +kernel)) rfl), (jin (List.mem_of_getElem? (i := 286) (by decide +kernel)) rfl), (jin (List.mem_of_getElem? (i := 287) (by decide +kernel)) rfl), by decide +kernel⟩
theorem mv_L_41 : jMV RL 41 mX7_swap 0 := ⟨(jin (List.mem_of_getElem? (i := 745) (by decide +kernel)) rfl), (jin (List.mem_of_getElem? (i := 746) (by decide +kernel)) rfl), (jin (List.mem_of_getElem? (i := 747) (by decide +kernel)) rfl), by decide +kernel⟩
theorem mv_L_42 : jMV RL 42 mX6_read 2 := ⟨(jin (List.mem_of_getElem? (i := 289) (by decide +kernel)) rfl), (jin (List.mem_of_getElem? (i := 290) (by decide +kernel)) rfl), (jin (List.mem_of_getElem? (i := 291) (by decide +kernel)) rfl), by decide +kernel⟩
theorem mv_L_45 : jMV RL 45 mX7_read 2 := ⟨(jin (List.mem_of_getElem? (i := 752) (by decide +kernel)) rfl), (jin (List.mem_of_getElem? (i := 753) (by decide +kernel)) rfl), (jin (List.mem_of_getElem? (i := 754) (by decide +kernel)) rfl), by decide +kernel⟩
theorem mv_L_46 : jMV RL 46 mX6_info 3 := ⟨(jin (List.mem_of_getElem? (i := 305) (by decide +kernel)) rfl), (jin (List.mem_of_getElem? (i := 306) (by decide +kernel)) rfl), (jin (List.mem_of_getElem? (i := 307) (by decide +kernel)) rfl), by decide +kernel⟩
theorem mv_L_50 : jMV RL 50 mX7_info 3 := ⟨(jin (List.mem_of_getElem? (i := 763) (by decide +kernel)) rfl), (jin (List.mem_of_getElem? (i := 764) (by decide +kernel)) rfl), (jin (List.mem_of_getElem? (i := 765) (by decide +kernel)) rfl), by decide +kernel⟩
theorem mv_L_51 : jMV RL 51 mX6_shows 3 := ⟨(jin (List.mem_of_getElem? (i := 325) (by decide +kernel)) rfl), (jin (List.mem_of_getElem? (i := 326) (by decide +kernel)) rfl), (jin (List.mem_of_getElem? (i := 327) (by decide +kernel)) rfl), by decide +kernel⟩
theorem mv_L_54 : jMV RL 54 mX7_shows 3 := ⟨(jin (List.mem_of_getElem? (i := 783) (by decide +kernel)) rfl), (jin (List.mem_of_getElem? (i := 784) (by decide +kernel)) rfl), (jin (List.mem_of_getElem? (i := 785) (by decide +kernel)) rfl), by decide +kernel⟩
theorem mv_L_55 : jMV RL 55 mX6_seen 4 := ⟨(jin (List.mem_of_getElem? (i := 338) (by decide +kernel)) rfl), (jin (List.mem_of_getElem? (i := 339) (by decide +kernel)) rfl), (jin (List.mem_of_getElem? (i := 340) (by decide +kernel)) rfl), by decide +kernel⟩
theorem mv_L_58 : jMV RL 58 mX7_seen 4 := ⟨(jin (List.mem_of_getElem? (i := 791) (by decide +kernel)) rfl), (jin (List.mem_of_getElem? (i := 792) (by decide +kernel)) rfl), (jin (List.mem_of_getElem? (i := 793) (by decide +kernel)) rfl), by decide +kernel⟩
theorem mv_L_59 : jMV RL 59 mX6_still 3 := ⟨(jin (List.mem_of_getElem? (i := 364) (by decide +kernel)) rfl), (jin (List.mem_of_getElem? (i := 365) (by decide +kernel)) rfl), (jin (List.mem_of_getElem? (i := 366) (by decide +kernel)) rfl), by decide +kernel⟩
theorem mv_L_62 : jMV RL 62 mX7_still 3 := ⟨(jin (List.mem_of_getElem? (i := 800) (by decide +kernel)) rfl), (jin (List.mem_of_getElem? (i := 801) (by decide +kernel)) rfl), (jin (List.mem_of_getElem? (i := 802) (by decide +kernel)) rfl), by decide +kernel⟩
theorem mv_L_63 : jMV RL 63 mX6_told 2 := ⟨(jin (List.mem_of_getElem? (i := 379) (by decide +kernel)) rfl), (jin (List.mem_of_getElem? (i := 380) (by decide +kernel)) rfl), (jin (List.mem_of_getElem? (i := 381) (by decide +kernel)) rfl), by decide +kernel⟩
theorem mv_L_66 : jMV RL 66 mX7_told 2 := ⟨(jin (List.mem_of_getElem? (i := 808) (by decide +kernel)) rfl), (jin (List.mem_of_getElem? (i := 809) (by decide +kernel)) rfl), (jin (List.mem_of_getElem? (i := 810) (by decide +kernel)) rfl), by decide +kernel⟩
theorem mv_L_67 : jMV RL 67 mX6_number 4 := ⟨(jin (List.mem_of_getElem? (i := 393) (by decide +kernel)) rfl), (jin (List.mem_of_getElem? (i := 394) (by decide +kernel)) rfl), (jin (List.mem_of_getElem? (i := 395) (by decide +kernel)) rfl), by decide +kernel⟩
theorem mv_L_70 : jMV RL 70 mX7_number 4 := ⟨(jin (List.mem_of_getElem? (i := 825) (by decide +kernel)) rfl), (jin (List.mem_of_getElem? (i := 826) (by decide +kernel)) rfl), (jin (List.mem_of_getElem? (i := 827) (by decide +kernel)) rfl), by decide +kernel⟩
theorem mv_L_71 : jMV RL 71 mX6_pulls 1 := ⟨(jin (List.mem_of_getElem? (i := 404) (by decide +kernel)) rfl), (jin (List.mem_of_getElem? (i := 405) (by decide +kernel)) rfl), (jin (List.mem_of_getElem? (i := 406) (by decide +kernel)) rfl), by decide +kernel⟩
theorem mv_L_74 : jMV RL 74 mX7_pulls 1 := ⟨(jin (List.mem_of_getElem? (i := 833) (by decide +kernel)) rfl), (jin (List.mem_of_getElem? (i := 834) (by decide +kernel)) rfl), (jin (List.mem_of_getElem? (i := 835) (by decide +kernel)) rfl), by decide +kernel⟩
theorem mv_L_75 : jMV RL 75 mX6_pull 3 := ⟨(jin (List.mem_of_getElem? (i := 440) (by decide +kernel)) rfl), (jin (List.mem_of_getElem? (i := 441) (by decide +kernel)) rfl), (jin (List.mem_of_getElem? (i := 442) (by decide +kernel)) rfl), by decide +kernel⟩
theorem mv_L_78 : jMV RL 78 mX7_pull 3 := ⟨(jin (List.mem_of_getElem? (i := 871) (by decide +kernel)) rfl), (jin (List.mem_of_getElem? (i := 872) (by decide +kernel)) rfl), (jin (List.mem_of_getElem? (i := 873) (by decide +kernel)) rfl), by decide +kernel⟩
theorem mv_L_79 : jMV RL 79 mX6_waste 1 := ⟨(jin (List.mem_of_getElem? (i := 448) (by decide +kernel)) rfl), (jin (List.mem_of_getElem? (i := 449) (by decide +kernel)) rfl), (jin (List.mem_of_getElem? (i := 450) (by decide +kernel)) rfl), by decide +kernel⟩
theorem mv_L_82 : jMV RL 82 mX7_waste 1 := ⟨(jin (List.mem_of_getElem? (i := 883) (by decide +kernel)) rfl), (jin (List.mem_of_getElem? (i := 884) (by decide +kernel)) rfl), (jin (List.mem_of_getElem? (i := 885) (by decide +kernel)) rfl), by decide +kernel⟩
theorem mv_L_83 : jMV RL 83 mX6_total 2 := ⟨(jin (List.mem_of_getElem? (i := 462) (by decide +kernel)) rfl), (jin (List.mem_of_getElem? (i := 463) (by decide +kernel)) rfl), (jin (List.mem_of_getElem? (i := 464) (by decide +kernel)) rfl), by decide +kernel⟩
theorem mv_L_86 : jMV RL 86 mX7_total 2 := ⟨(jin (List.mem_of_getElem? (i := 903) (by decide +kernel)) rfl), (jin (List.mem_of_getElem? (i := 904) (by decide +kernel)) rfl), (jin (List.mem_of_getElem? (i := 905) (by decide +kernel)) rfl), by decide +kernel⟩
theorem mv_L_87 : jMV RL 87 mX6_compare 2 := ⟨(jin (List.mem_of_getElem? (i := 474) (by decide +kernel)) rfl), (jin (List.mem_of_getElem? (i := 475) (by decide +kernel)) rfl), (jin (List.mem_of_getElem? (i := 476) (by decide +kernel)) rfl), by decide +kernel⟩
theorem mv_L_90 : jMV RL 90 mX7_compare 2 := ⟨(jin (List.mem_of_getElem? (i := 911) (by decide +kernel)) rfl), (jin (List.mem_of_getElem? (i := 912) (by decide +kernel)) rfl), (jin (List.mem_of_getElem? (i := 913) (by decide +kernel)) rfl), by decide +kernel⟩
theorem mv_L_91 : jMV RL 91 mX6_gone 0 := ⟨(jin (List.mem_of_getElem? (i := 510) (by decide +kernel)) rfl), (jin (List.mem_of_getElem? (i := 511) (by decide +kernel)) rfl), (jin (List.mem_of_getElem? (i := 512) (by decide +kernel)) rfl), by decide +kernel⟩
theorem mv_L_94 : jMV RL 94 mX7_gone 0 := ⟨(jin (List.mem_of_getElem? (i := 934) (by decide +kernel)) rfl), (jin (List.mem_of_getElem? (i := 935) (by decide +kernel)) rfl), (jin (List.mem_of_getElem? (i := 936) (by decide +kernel)) rfl), by decide +kernel⟩
theorem mv_L_95 : jMV RL 95 mX6_anew 1 := ⟨(jin (List.mem_of_getElem? (i := 514) (by decide +kernel)) rfl), (jin (List.mem_of_getElem? (i := 515) (by decide +kernel)) rfl), (jin (List.mem_of_getElem? (i := 516) (by decide +kernel)) rfl), by decide +kernel⟩
theorem mv_L_98 : jMV RL 98 mX7_anew 1 := ⟨(jin (List.mem_of_getElem? (i := 942) (by decide +kernel)) rfl), (jin (List.mem_of_getElem? (i := 943) (by decide +kernel)) rfl), (jin (List.mem_of_getElem? (i := 944) (by decide +kernel)) rfl), by decide +kernel⟩
theorem mv_L_99 : jMV RL 99 mX6_saving 1 := ⟨(jin (List.mem_of_getElem? (i := 538) (by decide +kernel)) rfl), (jin (List.mem_of_getElem? (i := 539) (by decide +kernel)) rfl), (jin (List.mem_of_getElem? (i := 540) (by decide +kernel)) rfl), by decide +kernel⟩
theorem mv_L_102 : jMV RL 102 mX7_saving 1 := ⟨(jin (List.mem_of_getElem? (i := 955) (by decide +kernel)) rfl), (jin (List.mem_of_getElem? (i := 956) (by decide +kernel)) rfl), (jin (List.mem_of_getElem? (i := 957) (by decide +kernel)) rfl), by decide +kernel⟩
theorem mv_L_103 : jMV RL 103 mX6_sheet 3 := ⟨(jin (List.mem_of_getElem? (i := 542) (by decide +kernel)) rfl), (jin (List.mem_of_getElem? (i := 543) (by decide +kernel)) rfl), (jin (List.mem_of_getElem? (i := 544) (by decide +kernel)) rfl), by decide +kernel⟩
theorem mv_L_106 : jMV RL 106 mX7_sheet 3 := ⟨(jin (List.mem_of_getElem? (i := 963) (by decide +kernel)) rfl), (jin (List.mem_of_getElem? (i := 964) (by decide +kernel)) rfl), (jin (List.mem_of_getElem? (i := 965) (by decide +kernel)) rfl), by decide +kernel⟩
theorem mv_L_107 : jMV RL 107 mX6_lose 1 := ⟨(jin (List.mem_of_getElem? (i := 551) (by decide +kernel)) rfl), (jin (List.mem_of_getElem? (i := 552) (by decide +kernel)) rfl), (jin (List.mem_of_getElem? (i := 553) (by decide +kernel)) rfl), by decide +kernel⟩
theorem mv_L_110 : jMV RL 110 mX7_lose 1 := ⟨(jin (List.mem_of_getElem? (i := 967) (by decide +kernel)) rfl), (jin (List.mem_of_getElem? (i := 968) (by decide +kernel)) rfl), (jin (List.mem_of_getElem? (i := 969) (by decide +kernel)) rfl), by decide +kernel⟩
theorem mv_L_111 : jMV RL 111 mX6_put 4 := ⟨(jin (List.mem_of_getElem? (i := 555) (by decide +kernel)) rfl), (jin (List.mem_of_getElem? (i := 556) (by decide +kernel)) rfl), (jin (List.mem_of_getElem? (i := 557) (by decide +kernel)) rfl), by decide +kernel⟩
theorem mv_L_114 : jMV RL 114 mX7_put 4 := ⟨(jin (List.mem_of_getElem? (i := 971) (by decide +kernel)) rfl), (jin (List.mem_of_getElem? (i := 972) (by decide +kernel)) rfl), (jin (List.mem_of_getElem? (i := 973) (by decide +kernel)) rfl), by decide +kernel⟩
theorem mv_L_115 : jMV RL 115 mX6_get 3 := ⟨(jin (List.mem_of_getElem? (i := 567) (by decide +kernel)) rfl), (jin (List.mem_of_getElem? (i := 568) (by decide +kernel)) rfl), (jin (List.mem_of_getElem? (i := 569) (by decide +kernel)) rfl), by decide +kernel⟩
theorem mv_L_118 : jMV RL 118 mX7_get 3 := ⟨(jin (List.mem_of_getElem? (i := 983) (by decide +kernel)) rfl), (jin (List.mem_of_getElem? (i := 984) (by decide +kernel)) rfl), (jin (List.mem_of_getElem? (i := 985) (by decide +kernel)) rfl), by decide +kernel⟩
theorem mv_L_119 : jMV RL 119 mX6_copy 5 := ⟨(jin (List.mem_of_getElem? (i := 572) (by decide +kernel)) rfl), (jin (List.mem_of_getElem? (i := 573) (by decide +kernel)) rfl), (jin (List.mem_of_getElem? (i := 574) (by decide +kernel)) rfl), by decide +kernel⟩
theorem mv_L_123 : jMV RL 123 mX7_copy 5 := ⟨(jin (List.mem_of_getElem? (i := 988) (by decide +kernel)) rfl), (jin (List.mem_of_getElem? (i := 989) (by decide +kernel)) rfl), (jin (List.mem_of_getElem? (i := 990) (by decide +kernel)) rfl), by decide +kernel⟩
theorem mv_L_124 : jMV RL 124 mX6_write 2 := ⟨(jin (List.mem_of_getElem? (i := 583) (by decide +kernel)) rfl), (jin (List.mem_of_getElem? (i := 584) (by decide +kernel)) rfl), (jin (List.mem_of_getElem? (i := 585) (by decide +kernel)) rfl), by decide +kernel⟩
theorem mv_L_127 : jMV RL 127 mX7_write 2 := ⟨(jin (List.mem_of_getElem? (i := 992) (by decide +kernel)) rfl), (jin (List.mem_of_getElem? (i := 993) (by decide +kernel)) rfl), (jin (List.mem_of_getElem? (i := 994) (by decide +kernel)) rfl), by decide +kernel⟩
theorem mv_L_128 : jMV RL 128 mX6_count 1 := ⟨(jin (List.mem_of_getElem? (i := 587) (by decide +kernel)) rfl), (jin (List.mem_of_getElem? (i := 588) (by decide +kernel)) rfl), (jin (List.mem_of_getElem? (i := 589) (by decide +kernel)) rfl), by decide +kernel⟩
theorem mv_L_131 : jMV RL 131 mX7_count 1 := ⟨(jin (List.mem_of_getElem? (i := 996) (by decide +kernel)) rfl), (jin (List.mem_of_getElem? (i := 997) (by decide +kernel)) rfl), (jin (List.mem_of_getElem? (i := 998) (by decide +kernel)) rfl), by decide +kernel⟩
theorem mv_L_132 : jMV RL 132 mX6_digest 0 := ⟨(jin (List.mem_of_getElem? (i := 597) (by decide +kernel)) rfl), (jin (List.mem_of_getElem? (i := 598) (by decide +kernel)) rfl), (jin (List.mem_of_getElem? (i := 599) (by decide +kernel)) rfl), by decide +kernel⟩
theorem mv_L_136 : jMV RL 136 mX7_digest 0 := ⟨(jin (List.mem_of_getElem? (i := 1004) (by decide +kernel)) rfl), (jin (List.mem_of_getElem? (i := 1005) (by decide +kernel)) rfl), (jin (List.mem_of_getElem? (i := 1006) (by decide +kernel)) rfl), by decide +kernel⟩
theorem fl_X7_7 : jFL RX7 7 6 0 := ⟨RX7, TX7, 21, rfl, by decide, in_X7, (jin (List.mem_of_getElem? (i := 635) (by decide +kernel)) rfl)⟩
theorem fl_X7_13 : jFL RX7 13 6 1 := ⟨RX7, TX7, 21, rfl, by decide, in_X7, (jin (List.mem_of_getElem? (i := 636) (by decide +kernel)) rfl)⟩
theorem fl_X7_16 : jFL RX7 16 6 2 := ⟨RX7, TX7, 21, rfl, by decide, in_X7, (jin (List.mem_of_getElem? (i := 637) (by decide +kernel)) rfl)⟩
theorem fl_X7_19 : jFL RX7 19 6 3 := ⟨RX7, TX7, 21, rfl, by decide, in_X7, (jin (List.mem_of_getElem? (i := 638) (by decide +kernel)) rfl)⟩
theorem fl_X7_22 : jFL RX7 22 6 4 := ⟨RX7, TX7, 21, rfl, by decide, in_X7, (jin (List.mem_of_getElem? (i := 639) (by decide +kernel)) rfl)⟩
theorem fl_X7_25 : jFL RX7 25 6 5 := ⟨RX7, TX7, 21, rfl, by decide, in_X7, (jin (List.mem_of_getElem? (i := 640) (by decide +kernel)) rfl)⟩
theorem fl_X7_28 : jFL RX7 28 6 6 := ⟨RX7, TX7, 21, rfl, by decide, in_X7, (jin (List.mem_of_getElem? (i := 641) (by decide +kernel)) rfl)⟩
theorem fl_X7_31 : jFL RX7 31 6 7 := ⟨RX7, TX7, 21, rfl, by decide, in_X7, (jin (List.mem_of_getElem? (i := 642) (by decide +kernel)) rfl)⟩
theorem fl_X7_34 : jFL RX7 34 6 8 := ⟨RX7, TX7, 21, rfl, by decide, in_X7, (jin (List.mem_of_getElem? (i := 643) (by decide +kernel)) rfl)⟩
theorem fl_X7_37 : jFL RX7 37 6 9 := ⟨RX7, TX7, 21, rfl, by decide, in_X7, (jin (List.mem_of_getElem? (i := 644) (by decide +kernel)) rfl)⟩
theorem fl_X7_40 : jFL RX7 40 6 10 := ⟨RX7, TX7, 21, rfl, by decide, in_X7, (jin (List.mem_of_getElem? (i := 645) (by decide +kernel)) rfl)⟩
theorem fl_X7_43 : jFL RX7 43 6 11 := ⟨RX7, TX7, 21, rfl, by decide, in_X7, (jin (List.mem_of_getElem? (i := 646) (by decide +kernel)) rfl)⟩
theorem fl_X7_46 : jFL RX7 46 6 12 := ⟨RX7, TX7, 21, rfl, by decide, in_X7, (jin (List.mem_of_getElem? (i := 647) (by decide +kernel)) rfl)⟩
theorem fl_X7_49 : jFL RX7 49 6 13 := ⟨RX7, TX7, 21, rfl, by decide, in_X7, (jin (List.mem_of_getElem? (i := 648) (by decide +kernel)) rfl)⟩
theorem fl_X7_52 : jFL RX7 52 6 15 := ⟨RX7, TX7, 21, rfl, by decide, in_X7, (jin (List.mem_of_getElem? (i := 650) (by decide +kernel)) rfl)⟩
theorem fl_X7_56 : jFL RX7 56 6 16 := ⟨RX7, TX7, 21, rfl, by decide, in_X7, (jin (List.mem_of_getElem? (i := 651) (by decide +kernel)) rfl)⟩
theorem fl_X7_59 : jFL RX7 59 6 17 := ⟨RX7, TX7, 21, rfl, by decide, in_X7, (jin (List.mem_of_getElem? (i := 652) (by decide +kernel)) rfl)⟩
theorem fl_X7_62 : jFL RX7 62 6 18 := ⟨RX7, TX7, 21, rfl, by decide, in_X7, (jin (List.mem_of_getElem? (i := 653) (by decide +kernel)) rfl)⟩
theorem fl_X7_65 : jFL RX7 65 6 19 := ⟨RX7, TX7, 21, rfl, by decide, in_X7, (jin (List.mem_of_getElem? (i := 654) (by decide +kernel)) rfl)⟩
theorem fl_X7_196 : jFL RX7 196 6 14 := ⟨RX7, TX7, 21, rfl, by decide, in_X7, (jin (List.mem_of_getElem? (i := 649) (by decide +kernel)) rfl)⟩
theorem fl_X7_228 : jFL RX7 228 6 20 := ⟨RX7, TX7, 21, rfl, by decide, in_X7, (jin (List.mem_of_getElem? (i := 655) (by decide +kernel)) rfl)⟩
theorem ms_X7_69 : jMS RX7 69 mX7_in 3 := ⟨(jin (List.mem_of_getElem? (i := 707) (by decide +kernel)) rfl), (jin (List.mem_of_getElem? (i := 708) (by decide +kernel)) rfl), by decide +kernel⟩
theorem ms_X7_74 : jMS RX7 74 mX7_isReel 1 := ⟨(jin (List.mem_of_getElem? (i := 714) (by decide +kernel)) rfl), (jin (List.mem_of_getElem? (i := 715) (by decide +kernel)) rfl), by decide +kernel⟩
theorem ms_X7_78 : jMS RX7 78 mX7_isWell 2 := ⟨(jin (List.mem_of_getElem? (i := 717) (by decide +kernel)) rfl), (jin (List.mem_of_getElem? (i := 718) (by decide +kernel)) rfl), by decide +kernel⟩
theorem ms_X7_82 : jMS RX7 82 mX7_isList 1 := ⟨(jin (List.mem_of_getElem? (i := 704) (by decide +kernel)) rfl), (jin (List.mem_of_getElem? (i := 705) (by decide +kernel)) rfl), by decide +kernel⟩
theorem ms_X7_92 : jMS RX7 92 mX7_isSetting 2 := ⟨(jin (List.mem_of_getElem? (i := 737) (by decide +kernel)) rfl), (jin (List.mem_of_getElem? (i := 738) (by decide +kernel)) rfl), by decide +kernel⟩
theorem ms_X7_96 : jMS RX7 96 mX7_swaps 1 := ⟨(jin (List.mem_of_getElem? (i := 749) (by decide +kernel)) rfl), (jin (List.mem_of_getElem? (i := 750) (by decide +kernel)) rfl), by decide +kernel⟩
theorem ms_X7_100 : jMS RX7 100 mX7_isSheet 1 := ⟨(jin (List.mem_of_getElem? (i := 756) (by decide +kernel)) rfl), (jin (List.mem_of_getElem? (i := 757) (by decide +kernel)) rfl), by decide +kernel⟩
theorem ms_X7_149 : jMS RX7 149 mX7_min 2 := ⟨(jin (List.mem_of_getElem? (i := 856) (by decide +kernel)) rfl), (jin (List.mem_of_getElem? (i := 857) (by decide +kernel)) rfl), by decide +kernel⟩
theorem ms_X7_152 : jMS RX7 152 mX7_max 2 := ⟨(jin (List.mem_of_getElem? (i := 845) (by decide +kernel)) rfl), (jin (List.mem_of_getElem? (i := 846) (by decide +kernel)) rfl), by decide +kernel⟩
theorem ms_X7_200 : jMS RX7 200 mX7_isIn 2 := ⟨(jin (List.mem_of_getElem? (i := 923) (by decide +kernel)) rfl), (jin (List.mem_of_getElem? (i := 924) (by decide +kernel)) rfl), by decide +kernel⟩
theorem mv_X7_85 : jMV RX7 85 mX7_adds 6 := ⟨(jin (List.mem_of_getElem? (i := 710) (by decide +kernel)) rfl), (jin (List.mem_of_getElem? (i := 712) (by decide +kernel)) rfl), (jin (List.mem_of_getElem? (i := 19) (by decide +kernel)) rfl), by decide +kernel⟩
theorem mv_X7_89 : jMV RX7 89 mX7_isEdit 2 := ⟨(jin (List.mem_of_getElem? (i := 729) (by decide +kernel)) rfl), (jin (List.mem_of_getElem? (i := 731) (by decide +kernel)) rfl), (jin (List.mem_of_getElem? (i := 20) (by decide +kernel)) rfl), by decide +kernel⟩
theorem mv_X7_103 : jMV RX7 103 mX7_meets 1 := ⟨(jin (List.mem_of_getElem? (i := 759) (by decide +kernel)) rfl), (jin (List.mem_of_getElem? (i := 761) (by decide +kernel)) rfl), (jin (List.mem_of_getElem? (i := 21) (by decide +kernel)) rfl), by decide +kernel⟩
theorem mv_X7_107 : jMV RX7 107 mX7_frameOf 2 := ⟨(jin (List.mem_of_getElem? (i := 779) (by decide +kernel)) rfl), (jin (List.mem_of_getElem? (i := 781) (by decide +kernel)) rfl), (jin (List.mem_of_getElem? (i := 25) (by decide +kernel)) rfl), by decide +kernel⟩
theorem mv_X7_111 : jMV RX7 111 mX7_beginOf 2 := ⟨(jin (List.mem_of_getElem? (i := 771) (by decide +kernel)) rfl), (jin (List.mem_of_getElem? (i := 773) (by decide +kernel)) rfl), (jin (List.mem_of_getElem? (i := 23) (by decide +kernel)) rfl), by decide +kernel⟩
theorem mv_X7_114 : jMV RX7 114 mX7_lastOf 1 := ⟨(jin (List.mem_of_getElem? (i := 775) (by decide +kernel)) rfl), (jin (List.mem_of_getElem? (i := 777) (by decide +kernel)) rfl), (jin (List.mem_of_getElem? (i := 24) (by decide +kernel)) rfl), by decide +kernel⟩
theorem mv_X7_117 : jMV RX7 117 mX7_infoOf 3 := ⟨(jin (List.mem_of_getElem? (i := 767) (by decide +kernel)) rfl), (jin (List.mem_of_getElem? (i := 769) (by decide +kernel)) rfl), (jin (List.mem_of_getElem? (i := 22) (by decide +kernel)) rfl), by decide +kernel⟩
theorem mv_X7_121 : jMV RX7 121 mX7_showsOf 3 := ⟨(jin (List.mem_of_getElem? (i := 787) (by decide +kernel)) rfl), (jin (List.mem_of_getElem? (i := 789) (by decide +kernel)) rfl), (jin (List.mem_of_getElem? (i := 26) (by decide +kernel)) rfl), by decide +kernel⟩
theorem mv_X7_125 : jMV RX7 125 mX7_seenOf 4 := ⟨(jin (List.mem_of_getElem? (i := 796) (by decide +kernel)) rfl), (jin (List.mem_of_getElem? (i := 798) (by decide +kernel)) rfl), (jin (List.mem_of_getElem? (i := 27) (by decide +kernel)) rfl), by decide +kernel⟩
theorem mv_X7_129 : jMV RX7 129 mX7_stillOf 2 := ⟨(jin (List.mem_of_getElem? (i := 804) (by decide +kernel)) rfl), (jin (List.mem_of_getElem? (i := 806) (by decide +kernel)) rfl), (jin (List.mem_of_getElem? (i := 28) (by decide +kernel)) rfl), by decide +kernel⟩
theorem mv_X7_132 : jMV RX7 132 mX7_numbered 1 := ⟨(jin (List.mem_of_getElem? (i := 817) (by decide +kernel)) rfl), (jin (List.mem_of_getElem? (i := 819) (by decide +kernel)) rfl), (jin (List.mem_of_getElem? (i := 30) (by decide +kernel)) rfl), by decide +kernel⟩
theorem mv_X7_135 : jMV RX7 135 mX7_aSecond 0 := ⟨(jin (List.mem_of_getElem? (i := 821) (by decide +kernel)) rfl), (jin (List.mem_of_getElem? (i := 823) (by decide +kernel)) rfl), (jin (List.mem_of_getElem? (i := 31) (by decide +kernel)) rfl), by decide +kernel⟩
theorem mv_X7_140 : jMV RX7 140 mX7_toldOf 2 := ⟨(jin (List.mem_of_getElem? (i := 813) (by decide +kernel)) rfl), (jin (List.mem_of_getElem? (i := 815) (by decide +kernel)) rfl), (jin (List.mem_of_getElem? (i := 29) (by decide +kernel)) rfl), by decide +kernel⟩
theorem mv_X7_143 : jMV RX7 143 mX7_numberOf 4 := ⟨(jin (List.mem_of_getElem? (i := 829) (by decide +kernel)) rfl), (jin (List.mem_of_getElem? (i := 831) (by decide +kernel)) rfl), (jin (List.mem_of_getElem? (i := 32) (by decide +kernel)) rfl), by decide +kernel⟩
theorem mv_X7_146 : jMV RX7 146 mX7_areNear 2 := ⟨(jin (List.mem_of_getElem? (i := 852) (by decide +kernel)) rfl), (jin (List.mem_of_getElem? (i := 854) (by decide +kernel)) rfl), (jin (List.mem_of_getElem? (i := 36) (by decide +kernel)) rfl), by decide +kernel⟩
theorem mv_X7_155 : jMV RX7 155 mX7_copies 2 := ⟨(jin (List.mem_of_getElem? (i := 859) (by decide +kernel)) rfl), (jin (List.mem_of_getElem? (i := 861) (by decide +kernel)) rfl), (jin (List.mem_of_getElem? (i := 37) (by decide +kernel)) rfl), by decide +kernel⟩
theorem mv_X7_159 : jMV RX7 159 mX7_isAhead 2 := ⟨(jin (List.mem_of_getElem? (i := 867) (by decide +kernel)) rfl), (jin (List.mem_of_getElem? (i := 869) (by decide +kernel)) rfl), (jin (List.mem_of_getElem? (i := 39) (by decide +kernel)) rfl), by decide +kernel⟩
theorem mv_X7_162 : jMV RX7 162 mX7_joins 1 := ⟨(jin (List.mem_of_getElem? (i := 848) (by decide +kernel)) rfl), (jin (List.mem_of_getElem? (i := 850) (by decide +kernel)) rfl), (jin (List.mem_of_getElem? (i := 35) (by decide +kernel)) rfl), by decide +kernel⟩
theorem mv_X7_165 : jMV RX7 165 mX7_orders 1 := ⟨(jin (List.mem_of_getElem? (i := 863) (by decide +kernel)) rfl), (jin (List.mem_of_getElem? (i := 865) (by decide +kernel)) rfl), (jin (List.mem_of_getElem? (i := 38) (by decide +kernel)) rfl), by decide +kernel⟩
theorem mv_X7_169 : jMV RX7 169 mX7_pullsOf 2 := ⟨(jin (List.mem_of_getElem? (i := 841) (by decide +kernel)) rfl), (jin (List.mem_of_getElem? (i := 843) (by decide +kernel)) rfl), (jin (List.mem_of_getElem? (i := 34) (by decide +kernel)) rfl), by decide +kernel⟩
theorem mv_X7_172 : jMV RX7 172 mX7_manyPulls 1 := ⟨(jin (List.mem_of_getElem? (i := 837) (by decide +kernel)) rfl), (jin (List.mem_of_getElem? (i := 839) (by decide +kernel)) rfl), (jin (List.mem_of_getElem? (i := 33) (by decide +kernel)) rfl), by decide +kernel⟩
theorem mv_X7_175 : jMV RX7 175 mX7_lacking 1 := ⟨(jin (List.mem_of_getElem? (i := 879) (by decide +kernel)) rfl), (jin (List.mem_of_getElem? (i := 881) (by decide +kernel)) rfl), (jin (List.mem_of_getElem? (i := 41) (by decide +kernel)) rfl), by decide +kernel⟩
theorem mv_X7_178 : jMV RX7 178 mX7_pullFor 3 := ⟨(jin (List.mem_of_getElem? (i := 875) (by decide +kernel)) rfl), (jin (List.mem_of_getElem? (i := 877) (by decide +kernel)) rfl), (jin (List.mem_of_getElem? (i := 40) (by decide +kernel)) rfl), by decide +kernel⟩
theorem mv_X7_181 : jMV RX7 181 mX7_isShown 3 := ⟨(jin (List.mem_of_getElem? (i := 899) (by decide +kernel)) rfl), (jin (List.mem_of_getElem? (i := 901) (by decide +kernel)) rfl), (jin (List.mem_of_getElem? (i := 45) (by decide +kernel)) rfl), by decide +kernel⟩
theorem mv_X7_184 : jMV RX7 184 mX7_framesNow 1 := ⟨(jin (List.mem_of_getElem? (i := 891) (by decide +kernel)) rfl), (jin (List.mem_of_getElem? (i := 893) (by decide +kernel)) rfl), (jin (List.mem_of_getElem? (i := 43) (by decide +kernel)) rfl), by decide +kernel⟩
theorem mv_X7_187 : jMV RX7 187 mX7_freshOf 2 := ⟨(jin (List.mem_of_getElem? (i := 895) (by decide +kernel)) rfl), (jin (List.mem_of_getElem? (i := 897) (by decide +kernel)) rfl), (jin (List.mem_of_getElem? (i := 44) (by decide +kernel)) rfl), by decide +kernel⟩
theorem mv_X7_190 : jMV RX7 190 mX7_wasteOf 1 := ⟨(jin (List.mem_of_getElem? (i := 887) (by decide +kernel)) rfl), (jin (List.mem_of_getElem? (i := 889) (by decide +kernel)) rfl), (jin (List.mem_of_getElem? (i := 42) (by decide +kernel)) rfl), by decide +kernel⟩
theorem mv_X7_193 : jMV RX7 193 mX7_totalOf 2 := ⟨(jin (List.mem_of_getElem? (i := 907) (by decide +kernel)) rfl), (jin (List.mem_of_getElem? (i := 909) (by decide +kernel)) rfl), (jin (List.mem_of_getElem? (i := 46) (by decide +kernel)) rfl), by decide +kernel⟩
theorem mv_X7_203 : jMV RX7 203 mX7_isLike 2 := ⟨(jin (List.mem_of_getElem? (i := 926) (by decide +kernel)) rfl), (jin (List.mem_of_getElem? (i := 928) (by decide +kernel)) rfl), (jin (List.mem_of_getElem? (i := 49) (by decide +kernel)) rfl), by decide +kernel⟩
theorem mv_X7_206 : jMV RX7 206 mX7_compares 0 := ⟨(jin (List.mem_of_getElem? (i := 919) (by decide +kernel)) rfl), (jin (List.mem_of_getElem? (i := 921) (by decide +kernel)) rfl), (jin (List.mem_of_getElem? (i := 48) (by decide +kernel)) rfl), by decide +kernel⟩
theorem mv_X7_209 : jMV RX7 209 mX7_kindOf 1 := ⟨(jin (List.mem_of_getElem? (i := 930) (by decide +kernel)) rfl), (jin (List.mem_of_getElem? (i := 932) (by decide +kernel)) rfl), (jin (List.mem_of_getElem? (i := 50) (by decide +kernel)) rfl), by decide +kernel⟩
theorem mv_X7_212 : jMV RX7 212 mX7_compareOf 2 := ⟨(jin (List.mem_of_getElem? (i := 915) (by decide +kernel)) rfl), (jin (List.mem_of_getElem? (i := 917) (by decide +kernel)) rfl), (jin (List.mem_of_getElem? (i := 47) (by decide +kernel)) rfl), by decide +kernel⟩
theorem mv_X7_215 : jMV RX7 215 mX7_goneOf 0 := ⟨(jin (List.mem_of_getElem? (i := 938) (by decide +kernel)) rfl), (jin (List.mem_of_getElem? (i := 940) (by decide +kernel)) rfl), (jin (List.mem_of_getElem? (i := 51) (by decide +kernel)) rfl), by decide +kernel⟩
theorem mv_X7_218 : jMV RX7 218 mX7_isPulled 2 := ⟨(jin (List.mem_of_getElem? (i := 950) (by decide +kernel)) rfl), (jin (List.mem_of_getElem? (i := 952) (by decide +kernel)) rfl), (jin (List.mem_of_getElem? (i := 53) (by decide +kernel)) rfl), by decide +kernel⟩
theorem mv_X7_222 : jMV RX7 222 mX7_anewOf 1 := ⟨(jin (List.mem_of_getElem? (i := 946) (by decide +kernel)) rfl), (jin (List.mem_of_getElem? (i := 948) (by decide +kernel)) rfl), (jin (List.mem_of_getElem? (i := 52) (by decide +kernel)) rfl), by decide +kernel⟩
theorem mv_X7_225 : jMV RX7 225 mX7_savingOf 1 := ⟨(jin (List.mem_of_getElem? (i := 959) (by decide +kernel)) rfl), (jin (List.mem_of_getElem? (i := 961) (by decide +kernel)) rfl), (jin (List.mem_of_getElem? (i := 54) (by decide +kernel)) rfl), by decide +kernel⟩
theorem mv_X7_231 : jMV RX7 231 mX7_lacks 3 := ⟨(jin (List.mem_of_getElem? (i := 975) (by decide +kernel)) rfl), (jin (List.mem_of_getElem? (i := 977) (by decide +kernel)) rfl), (jin (List.mem_of_getElem? (i := 55) (by decide +kernel)) rfl), by decide +kernel⟩
theorem mv_X7_234 : jMV RX7 234 mX7_keep 3 := ⟨(jin (List.mem_of_getElem? (i := 979) (by decide +kernel)) rfl), (jin (List.mem_of_getElem? (i := 981) (by decide +kernel)) rfl), (jin (List.mem_of_getElem? (i := 56) (by decide +kernel)) rfl), by decide +kernel⟩
theorem mv_X7_239 : jMV RX7 239 mX7_keptOf 0 := ⟨(jin (List.mem_of_getElem? (i := 1000) (by decide +kernel)) rfl), (jin (List.mem_of_getElem? (i := 1002) (by decide +kernel)) rfl), (jin (List.mem_of_getElem? (i := 57) (by decide +kernel)) rfl), by decide +kernel⟩
theorem mv_X7_246 : jMV RX7 246 mX7_count 1 := ⟨(jin (List.mem_of_getElem? (i := 1010) (by decide +kernel)) rfl), (jin (List.mem_of_getElem? (i := 997) (by decide +kernel)) rfl), (jin (List.mem_of_getElem? (i := 998) (by decide +kernel)) rfl), by decide +kernel⟩
theorem mv_X7_249 : jMV RX7 249 mX7_listDigest 2 := ⟨(jin (List.mem_of_getElem? (i := 1011) (by decide +kernel)) rfl), (jin (List.mem_of_getElem? (i := 1013) (by decide +kernel)) rfl), (jin (List.mem_of_getElem? (i := 58) (by decide +kernel)) rfl), by decide +kernel⟩
theorem mv_X7_253 : jMV RX7 253 mX7_toldDigest 2 := ⟨(jin (List.mem_of_getElem? (i := 1015) (by decide +kernel)) rfl), (jin (List.mem_of_getElem? (i := 1017) (by decide +kernel)) rfl), (jin (List.mem_of_getElem? (i := 59) (by decide +kernel)) rfl), by decide +kernel⟩
theorem mv_X7_256 : jMV RX7 256 mX7_number 4 := ⟨(jin (List.mem_of_getElem? (i := 1019) (by decide +kernel)) rfl), (jin (List.mem_of_getElem? (i := 826) (by decide +kernel)) rfl), (jin (List.mem_of_getElem? (i := 827) (by decide +kernel)) rfl), by decide +kernel⟩
theorem kc_X7_68 : Cond.constant RX7 68 (nI 100000) ∈ jtb := (jin (List.mem_of_getElem? (i := 634) (by decide +kernel)) rfl)
theorem kc_X7_73 : Cond.constant RX7 73 (nI 199999) ∈ jtb := (jin (List.mem_of_getElem? (i := 720) (by decide +kernel)) rfl)
theorem kc_X7_95 : Cond.constant RX7 95 (nI 200000) ∈ jtb := (jin (List.mem_of_getElem? (i := 744) (by decide +kernel)) rfl)
theorem kc_X7_124 : Cond.constant RX7 124 (nI 299999) ∈ jtb := (jin (List.mem_of_getElem? (i := 795) (by decide +kernel)) rfl)
theorem kc_X7_139 : Cond.constant RX7 139 (nI 9999999) ∈ jtb := (jin (List.mem_of_getElem? (i := 812) (by decide +kernel)) rfl)
theorem kc_X7_221 : Cond.constant RX7 221 (nI 1000000) ∈ jtb := (jin (List.mem_of_getElem? (i := 954) (by decide +kernel)) rfl)
theorem kc_X7_238 : Cond.constant RX7 238 (-2147483648) ∈ jtb := (jin (List.mem_of_getElem? (i := 987) (by decide +kernel)) rfl)
theorem kl_X7_242 : Cond.constantLong RX7 242 31 ∈ jtb := (jin (List.mem_of_getElem? (i := 1009) (by decide +kernel)) rfl)
theorem kl_X7_244 : Cond.constantLong RX7 244 17 ∈ jtb := (jin (List.mem_of_getElem? (i := 1008) (by decide +kernel)) rfl)
theorem fp_X7_196 : jFP RX7 196 6 14 .int := ⟨RX7, TX7, 21, tyX7, rfl, by decide, in_X7, (jin (List.mem_of_getElem? (i := 649) (by decide +kernel)) rfl), tyX7_ok, nmX7, rfl, by decide +kernel⟩
theorem fp_X7_228 : jFP RX7 228 6 20 .int := ⟨RX7, TX7, 21, tyX7, rfl, by decide, in_X7, (jin (List.mem_of_getElem? (i := 655) (by decide +kernel)) rfl), tyX7_ok, nmX7, rfl, by decide +kernel⟩
theorem jx_max_s : Cond.static Lib.Math.max.name ∈ jtb := (jin (List.mem_of_getElem? (i := 413) (by decide +kernel)) rfl)
theorem jx_max_c : Cond.code Lib.Math.max.name Lib.Math.max.code 2 (some .int) ∈ jtb := (jin (List.mem_of_getElem? (i := 414) (by decide +kernel)) rfl)
theorem jx_min_s : Cond.static Lib.Math.min.name ∈ jtb := (jin (List.mem_of_getElem? (i := 523) (by decide +kernel)) rfl)
theorem jx_min_c : Cond.code Lib.Math.min.name Lib.Math.min.code 2 (some .int) ∈ jtb := (jin (List.mem_of_getElem? (i := 524) (by decide +kernel)) rfl)
theorem jx_math_i : Cond.initialized "java/lang/Math" ∈ jtb := (jin (List.mem_of_getElem? (i := 70) (by decide +kernel)) rfl)
theorem jx_cpy_n : Cond.native arraycopyName ∈ jtb := (jin (List.mem_of_getElem? (i := 582) (by decide +kernel)) rfl)
theorem jx_cpy_s : Cond.static arraycopyName ∈ jtb := (jin (List.mem_of_getElem? (i := 581) (by decide +kernel)) rfl)
theorem jx_sys_i : Cond.initialized "java/lang/System" ∈ jtb := (jin (List.mem_of_getElem? (i := 71) (by decide +kernel)) rfl)
end
section
/-! A LOGIC OVER AN ABSTRACT HEAP. Cells bear numbers 0 to 70 (jad X gives the addresses); a heap is a function from numbers to cells;
J says: from here the method comes to a return whose answer and heap satisfy Q. -/
abbrev jn : Nat := 71
abbrev Cx : Type := (Nat → ClassId) × (Nat → Nat → Nat) × (Nat → ClassId) × (Nat → Nat) × Nat × (Nat → Int32)
abbrev AE : Type := (Nat × Nat × (Nat → Int32)) ⊕ ((Nat × Nat × (Nat → Option Nat)) ⊕ (Nat × List Value))
abbrev HF : Type := Nat → AE
abbrev oA (t n : Nat) (f : Nat → Int32) : AE := .inl (t, n, f)
abbrev oR (t n : Nat) (f : Nat → Option Nat) : AE := .inr (.inl (t, n, f))
abbrev oB (ci : Nat) (fs : List Value) : AE := .inr (.inr (ci, fs))
def jD (X : Cx) : va_G := (X.1, X.2.1)
def jK (X : Cx) : Nat → ClassId := X.2.2.1
def jad (X : Cx) : Nat → Nat := X.2.2.2.1
def jL (X : Cx) : Nat := X.2.2.2.2.1
def jx (X : Cx) : Nat → Int32 := X.2.2.2.2.2
def jty (X : Cx) : List (ClassId × FieldType) := [(jK X 0, .int), (jK X 1, .boolean), (jK X 2, .object RX2), (jK X 3, .object RX1), (jK X 4, .object RX4), (jK X 5, .object RX5)]
def mv (X : Cx) (v : Value) : Value := match v with
  | .ref i => .ref (jad X i)
  | w => w
theorem mv_cat (X : Cx) (v : Value) : (mv X v).category = v.category := by cases v <;> rfl
theorem mv_cats (X : Cx) (st : List Value) : (st.map (mv X)).map (fun v => v.category) = st.map (fun v => v.category) := by
  induction st with
  | nil => rfl
  | cons v t ih => simp only [List.map_cons, mv_cat, ih]
def encE (X : Cx) (c : AE) : va_E := match c with
  | .inl (t, n, f) => .inl (jK X t, n, .inl f)
  | .inr (.inl (t, n, f)) => .inl (jK X t, n, .inr (.inr (.inr (.inr (fun j => (f j).map (jad X))))))
  | .inr (.inr (ci, fs)) => .inr (ci, fs.map (mv X))
def wl (X : Cx) (h : HF) : va_W := (List.range jn).map (fun i => (jad X i, encE X (h i)))
def jS (X : Cx) : Nat → Prop := fun q => ∃ i, i < jn ∧ q = jad X i
def hu (h : HF) (i : Nat) (c : AE) : HF := fun j => if j = i then c else h j
def hAt (h : HF) (a : Nat) (c : AE) : Prop := a < jn ∧ h a = c
theorem hu_same {h : HF} {i : Nat} {c : AE} : hu h i c i = c := if_pos rfl
theorem hu_ne {h : HF} {i j : Nat} {c : AE} (n : j ≠ i) : hu h i c j = h j := if_neg n
theorem hAt_same {h : HF} {a : Nat} {c c' : AE} (p : hAt h a c) : hAt (hu h a c') a c' := ⟨p.1, hu_same⟩
theorem hAt_ne {h : HF} {a b : Nat} {c c' : AE} (p : hAt h a c) (n : a ≠ b) : hAt (hu h b c') a c := ⟨p.1, (hu_ne n).trans p.2⟩
theorem wl_at {X : Cx} {h : HF} {i : Nat} (hi : i < jn) : (wl X h)[i]? = some (jad X i, encE X (h i)) := by
  simp only [wl, List.getElem?_map, List.getElem?_range hi, Option.map_some]
theorem wl_none {X : Cx} {h : HF} {i : Nat} (hi : ¬ i < jn) : (wl X h)[i]? = none := by
  rw [List.getElem?_eq_none_iff]
  simp only [wl, List.length_map, List.length_range]
  omega
theorem wl_set {X : Cx} {h : HF} {i : Nat} {c : AE} (hi : i < jn) : (wl X h).set i (jad X i, encE X c) = wl X (hu h i c) := by
  apply List.ext_getElem?
  intro k
  by_cases hk : k < jn
  · rw [wl_at hk]
    by_cases e : k = i
    · subst e
      rw [List.getElem?_set_self (by simp only [wl, List.length_map, List.length_range]; exact hk), hu_same]
    · rw [List.getElem?_set_ne (Ne.symm e), wl_at hk, hu_ne e]
  · rw [wl_none hk, List.getElem?_eq_none_iff]
    simp only [wl, List.length_set, List.length_map, List.length_range]
    omega
def jinj (X : Cx) : Prop := ∀ i j, i < jn → j < jn → jad X i = jad X j → i = j
theorem wl_D {X : Cx} {h : HF} (hi : jinj X) : va_D (jS X) (wl X h) := by
  refine ⟨fun i j p q h1 h2 hpq => ?_, fun k q hk => ?_⟩
  · by_cases a : i < jn
    · by_cases b : j < jn
      · rw [wl_at a] at h1
        rw [wl_at b] at h2
        cases h1
        cases h2
        exact hi i j a b hpq
      · rw [wl_none b] at h2; cases h2
    · rw [wl_none a] at h1; cases h1
  · by_cases a : k < jn
    · rw [wl_at a] at hk
      cases hk
      exact ⟨k, a, rfl⟩
    · rw [wl_none a] at hk; cases hk
/-- the static rows: HIGHEST_SETTING, LEAST_PART, HIGHEST_PART -/
def jt0 (j : Nat) : Int32 := if j = 0 then 2 else 500
def jt1 (j : Nat) : Int32 := if j = 0 then 0 else if j = 1 then 1 else if j = 2 then 0 else 1
def jt2 (j : Nat) : Int32 := if j = 0 then 199999 else if j = 1 then 500 else 6
def jst (X : Cx) (U : State) (H : Heap) : Prop :=
  (va_Z RX6 "HIGHEST_SETTING" "[I" (.ref (jad X 1000)) (jS X) U H ∧ va_T .int (jad X 1000) 3 (fun j => .int (jt0 j)) (jS X) U H) ∧
  (va_Z RX6 "LEAST_PART" "[I" (.ref (jad X 1001)) (jS X) U H ∧ va_T .int (jad X 1001) 4 (fun j => .int (jt1 j)) (jS X) U H) ∧
  (va_Z RX6 "HIGHEST_PART" "[I" (.ref (jad X 1002)) (jS X) U H ∧ va_T .int (jad X 1002) 4 (fun j => .int (jt2 j)) (jS X) U H) ∧
  (va_X (jad X 2000) (jL X) (jx X) U H ∧ jad X 2000 < H.size ∧ ¬ jS X (jad X 2000))
theorem jst.moved {X : Cx} {u U : State} {H : Heap} (hvm : u.vm.Alike U.vm) (h : jst X u H) : jst X U H :=
  ⟨⟨h.1.1.moved hvm, h.1.2.moved hvm⟩, ⟨h.2.1.1.moved hvm, h.2.1.2.moved hvm⟩, ⟨h.2.2.1.1.moved hvm, h.2.2.1.2.moved hvm⟩, h.2.2.2.1.moved hvm, h.2.2.2.2⟩
theorem jst.kept {X : Cx} {U : State} {H H1 : Heap} (h : jst X U H) (hz : H.size ≤ H1.size) (hq : ∀ a : Nat, a < H.size → ¬ jS X a → H1[a]? = H[a]?) : jst X U H1 :=
  ⟨⟨h.1.1.kept hq, h.1.2.kept hq⟩, ⟨h.2.1.1.kept hq, h.2.1.2.kept hq⟩, ⟨h.2.2.1.1.kept hq, h.2.2.1.2.kept hq⟩, h.2.2.2.1.kept (hq _ h.2.2.2.2.1 h.2.2.2.2.2), Nat.lt_of_lt_of_le h.2.2.2.2.1 hz, h.2.2.2.2.2⟩
def jW (X : Cx) (h : HF) (U : State) : Prop := va_P (jD X) jcl (wl X h) U.heap ∧ va_K (jD X) jcl (jty X) U ∧ jinj X ∧ jst X U U.heap ∧ jnest U
/-- the locals, by their places; none: not known -/
def jls (X : Cx) (i : Nat) (ls : List (Option Value)) : List (Nat × Value) := match ls with
  | [] => []
  | none :: t => jls X (i + 1) t
  | some v :: t => (i, mv X v) :: jls X (i + 1) t
theorem jls_mem {X : Cx} {ls : List (Option Value)} {i : Nat} {q : Nat × Value} : q ∈ jls X i ls ↔ ∃ (j : Nat) (v : Value), ls[j]? = some (some v) ∧ q = (i + j, mv X v) := by
  induction ls generalizing i with
  | nil => simp [jls]
  | cons x t ih =>
    cases x with
    | none =>
      rw [jls, ih]
      constructor
      · rintro ⟨j, v, h1, h2⟩
        exact ⟨j + 1, v, by simpa using h1, by rw [h2]; congr 1; omega⟩
      · rintro ⟨j, v, h1, h2⟩
        cases j with
        | zero => simp at h1
        | succ j => exact ⟨j, v, by simpa using h1, by rw [h2]; congr 1; omega⟩
    | some w =>
      rw [jls, List.mem_cons, ih]
      constructor
      · rintro (h | ⟨j, v, h1, h2⟩)
        · exact ⟨0, w, rfl, h⟩
        · exact ⟨j + 1, v, by simpa using h1, by rw [h2]; congr 1; omega⟩
      · rintro ⟨j, v, h1, h2⟩
        cases j with
        | zero =>
          left
          simp at h1
          rw [h2, h1]
          rfl
        | succ j =>
          right
          exact ⟨j, v, by simpa using h1, by rw [h2]; congr 1; omega⟩
theorem lv_mono {la : Array Slot} {nL : Nat} {l l' : List (Nat × Value)} (h : lv_has la nL l) (hs : ∀ q ∈ l', q ∈ l) : lv_has la nL l' := ⟨h.1, h.2.1, fun q hq => h.2.2 q (hs q hq)⟩
theorem jls_at {X : Cx} {la : Array Slot} {nL : Nat} {ls : List (Option Value)} (h : lv_has la nL (jls X 0 ls)) {i : Nat} {v : Value} (hv : ls[i]? = some (some v)) : la[i]? = some (.val (mv X v)) :=
  h.2.2 (i, mv X v) (jls_mem.mpr ⟨i, v, hv, by rw [Nat.zero_add]⟩)
/-- nothing of two places stands there -/
def lok (x : Option Value) : Bool := match x with
  | some v => v.category == 1
  | none => true
theorem jls_set1 {X : Cx} {la : Array Slot} {nL : Nat} {ls : List (Option Value)} {i : Nat} {v : Value} (hp : ∀ j, j + 1 = i → ∀ x, ls[j]? = some x → lok x = true)
    (h : lv_has la nL ((i, mv X v) :: (jls X 0 ls).filter (fun q => !(q.1 == i) && !(q.1 + 1 == i && q.2.category == 2)))) : lv_has la nL (jls X 0 (ls.set i (some v))) := by
  refine lv_mono h (fun q hq => ?_)
  obtain ⟨j, w, h1, rfl⟩ := jls_mem.mp hq
  rw [Nat.zero_add]
  by_cases e : j = i
  · subst e
    have hl : j < ls.length := by
      rcases Nat.lt_or_ge j ls.length with z | z
      · exact z
      · rw [List.getElem?_eq_none_iff.mpr (by rw [List.length_set]; exact z)] at h1; cases h1
    rw [List.getElem?_set_self hl] at h1
    cases h1
    exact List.mem_cons_self
  · rw [List.getElem?_set_ne (Ne.symm e)] at h1
    refine List.mem_cons_of_mem _ (List.mem_filter.mpr ⟨jls_mem.mpr ⟨j, w, h1, by rw [Nat.zero_add]⟩, ?_⟩)
    by_cases e2 : j + 1 = i
    · have := hp j e2 _ h1
      simp only [lok, beq_iff_eq] at this
      simp [e, mv_cat, this]
    · simp [e, e2]
theorem jls_set2 {X : Cx} {la : Array Slot} {nL : Nat} {ls : List (Option Value)} {i : Nat} {v : Value} (hp : ∀ j, j + 1 = i → ∀ x, ls[j]? = some x → lok x = true)
    (h : lv_has la nL ((i, mv X v) :: (jls X 0 ls).filter (fun q => !(q.1 == i) && (!(q.1 == i + 1) && !(q.1 + 1 == i && q.2.category == 2))))) : lv_has la nL (jls X 0 ((ls.set i (some v)).set (i + 1) none)) := by
  refine lv_mono h (fun q hq => ?_)
  obtain ⟨j, w, h1, rfl⟩ := jls_mem.mp hq
  rw [Nat.zero_add]
  by_cases e1 : j = i + 1
  · subst e1
    exfalso
    by_cases hl : i + 1 < (ls.set i (some v)).length
    · rw [List.getElem?_set_self hl] at h1; cases h1
    · rw [List.getElem?_eq_none_iff.mpr (by rw [List.length_set]; omega)] at h1; cases h1
  · rw [List.getElem?_set_ne (Ne.symm e1)] at h1
    by_cases e : j = i
    · subst e
      have hl : j < ls.length := by
        rcases Nat.lt_or_ge j ls.length with z | z
        · exact z
        · rw [List.getElem?_eq_none_iff.mpr (by rw [List.length_set]; exact z)] at h1; cases h1
      rw [List.getElem?_set_self hl] at h1
      cases h1
      exact List.mem_cons_self
    · rw [List.getElem?_set_ne (Ne.symm e)] at h1
      refine List.mem_cons_of_mem _ (List.mem_filter.mpr ⟨jls_mem.mpr ⟨j, w, h1, by rw [Nat.zero_add]⟩, ?_⟩)
      by_cases e2 : j + 1 = i
      · have := hp j e2 _ h1
        simp only [lok, beq_iff_eq] at this
        simp [e, e1, mv_cat, this]
      · simp [e, e1, e2]
def jrm (d : Nat) : Room := { frames := d, cells := 0, slots := 0, locals := 35 * d }
def jCtx (X : Cx) (own : String) (cc : ByteArray) (nL d : Nat) (p : Program) (R : Room) (s : State) (m : MethodId) (args : Array Value) (c : Code) (kc ks : Nat) : Prop :=
  p.tables.exec = Jvm.exec ∧ c.code = cc ∧ c.maxLocals = nL ∧ s.vm.findClass own = some m.cls ∧ (∀ w ∈ jtb, w.before args s = true) ∧ va_K (jD X) jcl (jty X) s ∧ jinj X ∧ jst X s s.heap ∧ (d ≤ R.frames ∧ 35 * d ≤ R.locals) ∧ kc ≤ R.cells ∧ ks ≤ R.slots ∧ jnest s
def jrok (cc : ByteArray) (ret : Option FieldType) (pc : Nat) (r : Option Value) : Prop := match r with
  | none => ret = none ∧ decode cc pc = .ok (.return_, 1)
  | some (.int v) => decode cc pc = .ok (.ireturn, 1) ∧ (ret = some .int ∨ (ret = some .boolean ∧ (v = 0 ∨ v = 1)))
  | some (.long _) => ret = some .long ∧ decode cc pc = .ok (.lreturn, 1)
  | some (.ref _) => decode cc pc = .ok (.areturn, 1) ∧ ∃ n, ret = some (.object n)
  | _ => False
def jRet (X : Cx) (cc : ByteArray) (ret : Option FieldType) (Q : Option Value → HF → Prop) (p : Program) (l : Launch) (e : Env) (R : Room) (s : State) (m : MethodId) (args : Array Value) (below : List Frame) (meth : Method) (c : Code) (kc ks : Nat) (Z : State → Prop) : Prop :=
  ∀ (H : Heap) (locs : List Loc) (la : Array Slot) (pc : Nat) (r : Option Value) (h : HF), Q r h → jrok cc ret pc r → va_P (jD X) jcl (wl X h) H → va_S (jS X) s.heap H locs → W p l e R s m args below meth c H locs kc ks Z (F0 m pc la (r.map (mv X)).toList)
def J (X : Cx) (own : String) (cc : ByteArray) (nL d : Nat) (ret : Option FieldType) (Q : Option Value → HF → Prop) (pc : Nat) (ls : List (Option Value)) (st : List Value) (h : HF) : Prop :=
  ∀ (p : Program) (l : Launch) (e : Env) (R : Room) (s : State) (m : MethodId) (args : Array Value) (below : List Frame) (meth : Method) (c : Code) (kc ks : Nat) (Z : State → Prop),
    jCtx X own cc nL d p R s m args c kc ks → jRet X cc ret Q p l e R s m args below meth c kc ks Z →
    ∀ (H : Heap) (locs : List Loc) (la : Array Slot), lv_has la nL (jls X 0 ls) → va_P (jD X) jcl (wl X h) H → va_S (jS X) s.heap H locs → W p l e R s m args below meth c H locs kc ks Z (F0 m pc la (st.map (mv X)))
/-- the contract of a method: from any state that holds h it returns, with Q of the answer and the heap -/
def Ct (X : Cx) (M : jMI) (d : Nat) (args : List Value) (h : HF) (Q : Option Value → HF → Prop) : Prop :=
  ∀ l : Launch, Met l M.1 (Cond.code M.1 M.2.1 M.2.2.1 M.2.2.2 :: jtb) (jrm d) (va_Pc (args.map (mv X)) (jW X h)) (fun _ st oc t => (∃ (r : Option Value) (h' : HF), oc = .returned (r.map (mv X)) ∧ Q r h' ∧ va_P (jD X) jcl (wl X h') t.heap) ∧ va_F (jS X) st t) 0 0 (jS X)
section JL
variable {X : Cx} {own : String} {cc : ByteArray} {nL d : Nat} {ret : Option FieldType} {Q : Option Value → HF → Prop} {pc : Nat} {ls : List (Option Value)} {st : List Value} {h : HF}

theorem J_iadd {a b : Int32} (hd : decode cc pc = .ok (.iadd, 1))  (k : J X own cc nL d ret Q (pc + 1) ls (.int (a + b) :: st) h) : J X own cc nL d ret Q pc ls (.int b :: .int a :: st) h := by
  intro p l e R s m args below meth c kc ks Z C0 hR H locs la hl hP hS
  exact lv_iadd C0.1 C0.2.1 hd (k p l e R s m args below meth c kc ks Z C0 hR H locs la hl hP hS)
theorem J_isub {a b : Int32} (hd : decode cc pc = .ok (.isub, 1))  (k : J X own cc nL d ret Q (pc + 1) ls (.int (a - b) :: st) h) : J X own cc nL d ret Q pc ls (.int b :: .int a :: st) h := by
  intro p l e R s m args below meth c kc ks Z C0 hR H locs la hl hP hS
  exact lv_isub C0.1 C0.2.1 hd (k p l e R s m args below meth c kc ks Z C0 hR H locs la hl hP hS)
theorem J_imul {a b : Int32} (hd : decode cc pc = .ok (.imul, 1))  (k : J X own cc nL d ret Q (pc + 1) ls (.int (a * b) :: st) h) : J X own cc nL d ret Q pc ls (.int b :: .int a :: st) h := by
  intro p l e R s m args below meth c kc ks Z C0 hR H locs la hl hP hS
  exact lv_imul C0.1 C0.2.1 hd (k p l e R s m args below meth c kc ks Z C0 hR H locs la hl hP hS)
theorem J_iand {a b : Int32} (hd : decode cc pc = .ok (.iand, 1))  (k : J X own cc nL d ret Q (pc + 1) ls (.int (a &&& b) :: st) h) : J X own cc nL d ret Q pc ls (.int b :: .int a :: st) h := by
  intro p l e R s m args below meth c kc ks Z C0 hR H locs la hl hP hS
  exact lv_iand C0.1 C0.2.1 hd (k p l e R s m args below meth c kc ks Z C0 hR H locs la hl hP hS)
theorem J_ior {a b : Int32} (hd : decode cc pc = .ok (.ior, 1))  (k : J X own cc nL d ret Q (pc + 1) ls (.int (a ||| b) :: st) h) : J X own cc nL d ret Q pc ls (.int b :: .int a :: st) h := by
  intro p l e R s m args below meth c kc ks Z C0 hR H locs la hl hP hS
  exact lv_ior C0.1 C0.2.1 hd (k p l e R s m args below meth c kc ks Z C0 hR H locs la hl hP hS)
theorem J_ixor {a b : Int32} (hd : decode cc pc = .ok (.ixor, 1))  (k : J X own cc nL d ret Q (pc + 1) ls (.int (a ^^^ b) :: st) h) : J X own cc nL d ret Q pc ls (.int b :: .int a :: st) h := by
  intro p l e R s m args below meth c kc ks Z C0 hR H locs la hl hP hS
  exact lv_ixor C0.1 C0.2.1 hd (k p l e R s m args below meth c kc ks Z C0 hR H locs la hl hP hS)
theorem J_ishl {a b : Int32} (hd : decode cc pc = .ok (.ishl, 1))  (k : J X own cc nL d ret Q (pc + 1) ls (.int (a <<< (b &&& 31)) :: st) h) : J X own cc nL d ret Q pc ls (.int b :: .int a :: st) h := by
  intro p l e R s m args below meth c kc ks Z C0 hR H locs la hl hP hS
  exact lv_ishl C0.1 C0.2.1 hd (k p l e R s m args below meth c kc ks Z C0 hR H locs la hl hP hS)
theorem J_ishr {a b : Int32} (hd : decode cc pc = .ok (.ishr, 1))  (k : J X own cc nL d ret Q (pc + 1) ls (.int (a >>> (b &&& 31)) :: st) h) : J X own cc nL d ret Q pc ls (.int b :: .int a :: st) h := by
  intro p l e R s m args below meth c kc ks Z C0 hR H locs la hl hP hS
  exact lv_ishr C0.1 C0.2.1 hd (k p l e R s m args below meth c kc ks Z C0 hR H locs la hl hP hS)
theorem J_idiv {a b : Int32} (hd : decode cc pc = .ok (.idiv, 1)) (hne : ¬ b = 0) (k : J X own cc nL d ret Q (pc + 1) ls (.int (a / b) :: st) h) : J X own cc nL d ret Q pc ls (.int b :: .int a :: st) h := by
  intro p l e R s m args below meth c kc ks Z C0 hR H locs la hl hP hS
  exact lv_idiv C0.1 C0.2.1 hd hne (k p l e R s m args below meth c kc ks Z C0 hR H locs la hl hP hS)
theorem J_irem {a b : Int32} (hd : decode cc pc = .ok (.irem, 1)) (hne : ¬ b = 0) (k : J X own cc nL d ret Q (pc + 1) ls (.int (a - a / b * b) :: st) h) : J X own cc nL d ret Q pc ls (.int b :: .int a :: st) h := by
  intro p l e R s m args below meth c kc ks Z C0 hR H locs la hl hP hS
  exact lv_irem C0.1 C0.2.1 hd hne (k p l e R s m args below meth c kc ks Z C0 hR H locs la hl hP hS)
theorem J_ineg {a : Int32} (hd : decode cc pc = .ok (.ineg, 1))  (k : J X own cc nL d ret Q (pc + 1) ls (.int (-a) :: st) h) : J X own cc nL d ret Q pc ls (.int a :: st) h := by
  intro p l e R s m args below meth c kc ks Z C0 hR H locs la hl hP hS
  exact lv_ineg C0.1 C0.2.1 hd (k p l e R s m args below meth c kc ks Z C0 hR H locs la hl hP hS)
theorem J_ladd {a b : Int64} (hd : decode cc pc = .ok (.ladd, 1))  (k : J X own cc nL d ret Q (pc + 1) ls (.long (a + b) :: st) h) : J X own cc nL d ret Q pc ls (.long b :: .long a :: st) h := by
  intro p l e R s m args below meth c kc ks Z C0 hR H locs la hl hP hS
  exact lv_ladd C0.1 C0.2.1 hd (k p l e R s m args below meth c kc ks Z C0 hR H locs la hl hP hS)
theorem J_lmul {a b : Int64} (hd : decode cc pc = .ok (.lmul, 1))  (k : J X own cc nL d ret Q (pc + 1) ls (.long (a * b) :: st) h) : J X own cc nL d ret Q pc ls (.long b :: .long a :: st) h := by
  intro p l e R s m args below meth c kc ks Z C0 hR H locs la hl hP hS
  exact lv_lmul C0.1 C0.2.1 hd (k p l e R s m args below meth c kc ks Z C0 hR H locs la hl hP hS)
theorem J_lsub {a b : Int64} (hd : decode cc pc = .ok (.lsub, 1))  (k : J X own cc nL d ret Q (pc + 1) ls (.long (a - b) :: st) h) : J X own cc nL d ret Q pc ls (.long b :: .long a :: st) h := by
  intro p l e R s m args below meth c kc ks Z C0 hR H locs la hl hP hS
  exact lv_lsub C0.1 C0.2.1 hd (k p l e R s m args below meth c kc ks Z C0 hR H locs la hl hP hS)
theorem J_i2l {a : Int32} (hd : decode cc pc = .ok (.i2l, 1))  (k : J X own cc nL d ret Q (pc + 1) ls (.long a.toInt64 :: st) h) : J X own cc nL d ret Q pc ls (.int a :: st) h := by
  intro p l e R s m args below meth c kc ks Z C0 hR H locs la hl hP hS
  exact lv_i2l C0.1 C0.2.1 hd rfl (k p l e R s m args below meth c kc ks Z C0 hR H locs la hl hP hS)
theorem J_i2b {a : Int32} (hd : decode cc pc = .ok (.i2b, 1))  (k : J X own cc nL d ret Q (pc + 1) ls (.int a.toInt8.toInt32 :: st) h) : J X own cc nL d ret Q pc ls (.int a :: st) h := by
  intro p l e R s m args below meth c kc ks Z C0 hR H locs la hl hP hS
  exact lv_i2b C0.1 C0.2.1 hd rfl (k p l e R s m args below meth c kc ks Z C0 hR H locs la hl hP hS)
theorem J_i2s {a : Int32} (hd : decode cc pc = .ok (.i2s, 1))  (k : J X own cc nL d ret Q (pc + 1) ls (.int a.toInt16.toInt32 :: st) h) : J X own cc nL d ret Q pc ls (.int a :: st) h := by
  intro p l e R s m args below meth c kc ks Z C0 hR H locs la hl hP hS
  exact lv_i2s C0.1 C0.2.1 hd rfl (k p l e R s m args below meth c kc ks Z C0 hR H locs la hl hP hS)
theorem J_lcmp {a b : Int64} (hd : decode cc pc = .ok (.lcmp, 1))  (k : J X own cc nL d ret Q (pc + 1) ls (.int (lg_cmp a b) :: st) h) : J X own cc nL d ret Q pc ls (.long b :: .long a :: st) h := by
  intro p l e R s m args below meth c kc ks Z C0 hR H locs la hl hP hS
  exact W.lcmp C0.1 C0.2.1 hd (k p l e R s m args below meth c kc ks Z C0 hR H locs la hl hP hS)
theorem J_iconst {n : Int} {v : Int32} (hd : decode cc pc = .ok (.iconst n, 1)) (hv : Int32.ofInt n = v) (k : J X own cc nL d ret Q (pc + 1) ls (.int v :: st) h) : J X own cc nL d ret Q pc ls st h := by
  intro p l e R s m args below meth c kc ks Z C0 hR H locs la hl hP hS
  exact lv_iconst C0.1 C0.2.1 hd hv (k p l e R s m args below meth c kc ks Z C0 hR H locs la hl hP hS)
theorem J_bipush {n : Int} {v : Int32} (hd : decode cc pc = .ok (.bipush n, 2)) (hv : (Int8.ofInt n).toInt32 = v) (k : J X own cc nL d ret Q (pc + 2) ls (.int v :: st) h) : J X own cc nL d ret Q pc ls st h := by
  intro p l e R s m args below meth c kc ks Z C0 hR H locs la hl hP hS
  exact lv_bipush C0.1 C0.2.1 hd hv (k p l e R s m args below meth c kc ks Z C0 hR H locs la hl hP hS)
theorem J_sipush {n : Int} {v : Int32} (hd : decode cc pc = .ok (.sipush n, 3)) (hv : (Int16.ofInt n).toInt32 = v) (k : J X own cc nL d ret Q (pc + 3) ls (.int v :: st) h) : J X own cc nL d ret Q pc ls st h := by
  intro p l e R s m args below meth c kc ks Z C0 hR H locs la hl hP hS
  exact lv_sipush C0.1 C0.2.1 hd hv (k p l e R s m args below meth c kc ks Z C0 hR H locs la hl hP hS)
theorem J_ldc {i : Nat} {v : Int32} (hd : decode cc pc = .ok (.ldc i, 2)) (hc : Cond.constant own i v ∈ jtb) (k : J X own cc nL d ret Q (pc + 2) ls (.int v :: st) h) : J X own cc nL d ret Q pc ls st h := by
  intro p l e R s m args below meth c kc ks Z C0 hR H locs la hl hP hS
  exact lv_ldc C0.1 C0.2.1 C0.2.2.2.1 (C0.2.2.2.2.1 _ hc) hd (k p l e R s m args below meth c kc ks Z C0 hR H locs la hl hP hS)
theorem J_ldc_w {i : Nat} {v : Int32} (hd : decode cc pc = .ok (.ldc_w i, 3)) (hc : Cond.constant own i v ∈ jtb) (k : J X own cc nL d ret Q (pc + 3) ls (.int v :: st) h) : J X own cc nL d ret Q pc ls st h := by
  intro p l e R s m args below meth c kc ks Z C0 hR H locs la hl hP hS
  exact lv_ldcw C0.1 C0.2.1 C0.2.2.2.1 (C0.2.2.2.2.1 _ hc) hd (k p l e R s m args below meth c kc ks Z C0 hR H locs la hl hP hS)
theorem J_ldc2_w {i : Nat} {v : Int64} (hd : decode cc pc = .ok (.ldc2_w i, 3)) (hc : Cond.constantLong own i v ∈ jtb) (k : J X own cc nL d ret Q (pc + 3) ls (.long v :: st) h) : J X own cc nL d ret Q pc ls st h := by
  intro p l e R s m args below meth c kc ks Z C0 hR H locs la hl hP hS
  exact lv_ldc2 C0.1 C0.2.1 C0.2.2.2.1 (C0.2.2.2.2.1 _ hc) hd (k p l e R s m args below meth c kc ks Z C0 hR H locs la hl hP hS)
theorem J_dup {v : Value} (hd : decode cc pc = .ok (.dup, 1)) (hc : v.category = 1) (k : J X own cc nL d ret Q (pc + 1) ls (v :: v :: st) h) : J X own cc nL d ret Q pc ls (v :: st) h := by
  intro p l e R s m args below meth c kc ks Z C0 hR H locs la hl hP hS
  exact lv_dup C0.1 C0.2.1 hd ((mv_cat X v).trans hc) (k p l e R s m args below meth c kc ks Z C0 hR H locs la hl hP hS)
theorem J_pop {v : Value} (hd : decode cc pc = .ok (.pop, 1)) (hc : v.category = 1) (k : J X own cc nL d ret Q (pc + 1) ls st h) : J X own cc nL d ret Q pc ls (v :: st) h := by
  intro p l e R s m args below meth c kc ks Z C0 hR H locs la hl hP hS
  exact lv_pop C0.1 C0.2.1 hd ((mv_cat X v).trans hc) (k p l e R s m args below meth c kc ks Z C0 hR H locs la hl hP hS)
theorem J_dup_x1 {v w : Value} (hd : decode cc pc = .ok (.dup_x1, 1)) (hc : v.category = 1) (hc2 : w.category = 1) (k : J X own cc nL d ret Q (pc + 1) ls (v :: w :: v :: st) h) : J X own cc nL d ret Q pc ls (v :: w :: st) h := by
  intro p l e R s m args below meth c kc ks Z C0 hR H locs la hl hP hS
  exact lv_dup_x1 C0.1 C0.2.1 hd ((mv_cat X v).trans hc) ((mv_cat X w).trans hc2) (k p l e R s m args below meth c kc ks Z C0 hR H locs la hl hP hS)
theorem J_dup_x2 {v w z : Value} (hd : decode cc pc = .ok (.dup_x2, 1)) (hc : v.category = 1) (hc2 : w.category = 1) (hc3 : z.category = 1) (k : J X own cc nL d ret Q (pc + 1) ls (v :: w :: z :: v :: st) h) : J X own cc nL d ret Q pc ls (v :: w :: z :: st) h := by
  intro p l e R s m args below meth c kc ks Z C0 hR H locs la hl hP hS
  exact lv_dup_x2 C0.1 C0.2.1 hd ((mv_cat X v).trans hc) ((mv_cat X w).trans hc2) ((mv_cat X z).trans hc3) (k p l e R s m args below meth c kc ks Z C0 hR H locs la hl hP hS)
theorem J_dup2 {v w : Value} (hd : decode cc pc = .ok (.dup2, 1)) (hc : v.category = 1) (hc2 : w.category = 1) (k : J X own cc nL d ret Q (pc + 1) ls (v :: w :: v :: w :: st) h) : J X own cc nL d ret Q pc ls (v :: w :: st) h := by
  intro p l e R s m args below meth c kc ks Z C0 hR H locs la hl hP hS
  exact lv_dup2_11 C0.1 C0.2.1 hd ((mv_cat X v).trans hc) ((mv_cat X w).trans hc2) (k p l e R s m args below meth c kc ks Z C0 hR H locs la hl hP hS)
theorem J_topi {a b : Int32} (e : a = b) (k : J X own cc nL d ret Q pc ls (.int b :: st) h) : J X own cc nL d ret Q pc ls (.int a :: st) h := e ▸ k
theorem J_goto {off : Int} {tgt : Nat} (hd : decode cc pc = .ok (.goto off, 3)) (ht : (pc : Int) + off = (tgt : Int)) (k : J X own cc nL d ret Q tgt ls st h) : J X own cc nL d ret Q pc ls st h := by
  intro p l e R s m args below meth c kc ks Z C0 hR H locs la hl hP hS
  exact lv_goto C0.1 C0.2.1 hd ht (k p l e R s m args below meth c kc ks Z C0 hR H locs la hl hP hS)
theorem J_if_eq {a : Int32} {off : Int} {tgt : Nat} (hd : decode cc pc = .ok (.ifCond .eq off, 3)) (ht : (pc : Int) + off = (tgt : Int)) (kt : a = 0 → J X own cc nL d ret Q tgt ls st h) (kf : ¬ a = 0 → J X own cc nL d ret Q (pc + 3) ls st h) : J X own cc nL d ret Q pc ls (.int a :: st) h := by
  intro p l e R s m args below meth c kc ks Z C0 hR H locs la hl hP hS
  exact lv_if_eq C0.1 C0.2.1 hd ht (fun z => kt z p l e R s m args below meth c kc ks Z C0 hR H locs la hl hP hS) (fun z => kf z p l e R s m args below meth c kc ks Z C0 hR H locs la hl hP hS)
theorem J_icmp_eq {a b : Int32} {off : Int} {tgt : Nat} (hd : decode cc pc = .ok (.if_icmp .eq off, 3)) (ht : (pc : Int) + off = (tgt : Int)) (kt : a = b → J X own cc nL d ret Q tgt ls st h) (kf : ¬ a = b → J X own cc nL d ret Q (pc + 3) ls st h) : J X own cc nL d ret Q pc ls (.int b :: .int a :: st) h := by
  intro p l e R s m args below meth c kc ks Z C0 hR H locs la hl hP hS
  exact lv_icmp_eq C0.1 C0.2.1 hd ht (fun z => kt z p l e R s m args below meth c kc ks Z C0 hR H locs la hl hP hS) (fun z => kf z p l e R s m args below meth c kc ks Z C0 hR H locs la hl hP hS)
theorem J_if_ne {a : Int32} {off : Int} {tgt : Nat} (hd : decode cc pc = .ok (.ifCond .ne off, 3)) (ht : (pc : Int) + off = (tgt : Int)) (kt : ¬ a = 0 → J X own cc nL d ret Q tgt ls st h) (kf : a = 0 → J X own cc nL d ret Q (pc + 3) ls st h) : J X own cc nL d ret Q pc ls (.int a :: st) h := by
  intro p l e R s m args below meth c kc ks Z C0 hR H locs la hl hP hS
  exact lv_if_ne C0.1 C0.2.1 hd ht (fun z => kt z p l e R s m args below meth c kc ks Z C0 hR H locs la hl hP hS) (fun z => kf z p l e R s m args below meth c kc ks Z C0 hR H locs la hl hP hS)
theorem J_icmp_ne {a b : Int32} {off : Int} {tgt : Nat} (hd : decode cc pc = .ok (.if_icmp .ne off, 3)) (ht : (pc : Int) + off = (tgt : Int)) (kt : ¬ a = b → J X own cc nL d ret Q tgt ls st h) (kf : a = b → J X own cc nL d ret Q (pc + 3) ls st h) : J X own cc nL d ret Q pc ls (.int b :: .int a :: st) h := by
  intro p l e R s m args below meth c kc ks Z C0 hR H locs la hl hP hS
  exact lv_icmp_ne C0.1 C0.2.1 hd ht (fun z => kt z p l e R s m args below meth c kc ks Z C0 hR H locs la hl hP hS) (fun z => kf z p l e R s m args below meth c kc ks Z C0 hR H locs la hl hP hS)
theorem J_if_lt {a : Int32} {off : Int} {tgt : Nat} (hd : decode cc pc = .ok (.ifCond .lt off, 3)) (ht : (pc : Int) + off = (tgt : Int)) (kt : a < 0 → J X own cc nL d ret Q tgt ls st h) (kf : ¬ a < 0 → J X own cc nL d ret Q (pc + 3) ls st h) : J X own cc nL d ret Q pc ls (.int a :: st) h := by
  intro p l e R s m args below meth c kc ks Z C0 hR H locs la hl hP hS
  exact lv_if_lt C0.1 C0.2.1 hd ht (fun z => kt z p l e R s m args below meth c kc ks Z C0 hR H locs la hl hP hS) (fun z => kf z p l e R s m args below meth c kc ks Z C0 hR H locs la hl hP hS)
theorem J_icmp_lt {a b : Int32} {off : Int} {tgt : Nat} (hd : decode cc pc = .ok (.if_icmp .lt off, 3)) (ht : (pc : Int) + off = (tgt : Int)) (kt : a < b → J X own cc nL d ret Q tgt ls st h) (kf : ¬ a < b → J X own cc nL d ret Q (pc + 3) ls st h) : J X own cc nL d ret Q pc ls (.int b :: .int a :: st) h := by
  intro p l e R s m args below meth c kc ks Z C0 hR H locs la hl hP hS
  exact lv_icmp_lt C0.1 C0.2.1 hd ht (fun z => kt z p l e R s m args below meth c kc ks Z C0 hR H locs la hl hP hS) (fun z => kf z p l e R s m args below meth c kc ks Z C0 hR H locs la hl hP hS)
theorem J_if_ge {a : Int32} {off : Int} {tgt : Nat} (hd : decode cc pc = .ok (.ifCond .ge off, 3)) (ht : (pc : Int) + off = (tgt : Int)) (kt : 0 ≤ a → J X own cc nL d ret Q tgt ls st h) (kf : ¬ 0 ≤ a → J X own cc nL d ret Q (pc + 3) ls st h) : J X own cc nL d ret Q pc ls (.int a :: st) h := by
  intro p l e R s m args below meth c kc ks Z C0 hR H locs la hl hP hS
  exact lv_if_ge C0.1 C0.2.1 hd ht (fun z => kt z p l e R s m args below meth c kc ks Z C0 hR H locs la hl hP hS) (fun z => kf z p l e R s m args below meth c kc ks Z C0 hR H locs la hl hP hS)
theorem J_icmp_ge {a b : Int32} {off : Int} {tgt : Nat} (hd : decode cc pc = .ok (.if_icmp .ge off, 3)) (ht : (pc : Int) + off = (tgt : Int)) (kt : b ≤ a → J X own cc nL d ret Q tgt ls st h) (kf : ¬ b ≤ a → J X own cc nL d ret Q (pc + 3) ls st h) : J X own cc nL d ret Q pc ls (.int b :: .int a :: st) h := by
  intro p l e R s m args below meth c kc ks Z C0 hR H locs la hl hP hS
  exact lv_icmp_ge C0.1 C0.2.1 hd ht (fun z => kt z p l e R s m args below meth c kc ks Z C0 hR H locs la hl hP hS) (fun z => kf z p l e R s m args below meth c kc ks Z C0 hR H locs la hl hP hS)
theorem J_if_gt {a : Int32} {off : Int} {tgt : Nat} (hd : decode cc pc = .ok (.ifCond .gt off, 3)) (ht : (pc : Int) + off = (tgt : Int)) (kt : 0 < a → J X own cc nL d ret Q tgt ls st h) (kf : ¬ 0 < a → J X own cc nL d ret Q (pc + 3) ls st h) : J X own cc nL d ret Q pc ls (.int a :: st) h := by
  intro p l e R s m args below meth c kc ks Z C0 hR H locs la hl hP hS
  exact lv_if_gt C0.1 C0.2.1 hd ht (fun z => kt z p l e R s m args below meth c kc ks Z C0 hR H locs la hl hP hS) (fun z => kf z p l e R s m args below meth c kc ks Z C0 hR H locs la hl hP hS)
theorem J_icmp_gt {a b : Int32} {off : Int} {tgt : Nat} (hd : decode cc pc = .ok (.if_icmp .gt off, 3)) (ht : (pc : Int) + off = (tgt : Int)) (kt : b < a → J X own cc nL d ret Q tgt ls st h) (kf : ¬ b < a → J X own cc nL d ret Q (pc + 3) ls st h) : J X own cc nL d ret Q pc ls (.int b :: .int a :: st) h := by
  intro p l e R s m args below meth c kc ks Z C0 hR H locs la hl hP hS
  exact lv_icmp_gt C0.1 C0.2.1 hd ht (fun z => kt z p l e R s m args below meth c kc ks Z C0 hR H locs la hl hP hS) (fun z => kf z p l e R s m args below meth c kc ks Z C0 hR H locs la hl hP hS)
theorem J_if_le {a : Int32} {off : Int} {tgt : Nat} (hd : decode cc pc = .ok (.ifCond .le off, 3)) (ht : (pc : Int) + off = (tgt : Int)) (kt : a ≤ 0 → J X own cc nL d ret Q tgt ls st h) (kf : ¬ a ≤ 0 → J X own cc nL d ret Q (pc + 3) ls st h) : J X own cc nL d ret Q pc ls (.int a :: st) h := by
  intro p l e R s m args below meth c kc ks Z C0 hR H locs la hl hP hS
  exact lv_if_le C0.1 C0.2.1 hd ht (fun z => kt z p l e R s m args below meth c kc ks Z C0 hR H locs la hl hP hS) (fun z => kf z p l e R s m args below meth c kc ks Z C0 hR H locs la hl hP hS)
theorem J_icmp_le {a b : Int32} {off : Int} {tgt : Nat} (hd : decode cc pc = .ok (.if_icmp .le off, 3)) (ht : (pc : Int) + off = (tgt : Int)) (kt : a ≤ b → J X own cc nL d ret Q tgt ls st h) (kf : ¬ a ≤ b → J X own cc nL d ret Q (pc + 3) ls st h) : J X own cc nL d ret Q pc ls (.int b :: .int a :: st) h := by
  intro p l e R s m args below meth c kc ks Z C0 hR H locs la hl hP hS
  exact lv_icmp_le C0.1 C0.2.1 hd ht (fun z => kt z p l e R s m args below meth c kc ks Z C0 hR H locs la hl hP hS) (fun z => kf z p l e R s m args below meth c kc ks Z C0 hR H locs la hl hP hS)
theorem J_tabOut {dflt lo hi : Int} {offs : Array Int} {len : Nat} {a : Int32} {tgt : Nat} (hd : decode cc pc = .ok (.tableswitch dflt lo hi offs, len)) (hz : a.toInt < lo ∨ hi < a.toInt) (ht : (pc : Int) + dflt = (tgt : Int)) (k : J X own cc nL d ret Q tgt ls st h) : J X own cc nL d ret Q pc ls (.int a :: st) h := by
  intro p l e R s m args below meth c kc ks Z C0 hR H locs la hl hP hS
  exact lv_tableOut C0.1 C0.2.1 hd hz ht (k p l e R s m args below meth c kc ks Z C0 hR H locs la hl hP hS)
theorem J_tabIn {dflt lo hi : Int} {offs : Array Int} {len : Nat} {a : Int32} {off : Int} {tgt : Nat} (hd : decode cc pc = .ok (.tableswitch dflt lo hi offs, len)) (h1 : ¬ a.toInt < lo) (h2 : ¬ hi < a.toInt) (ho : offs[(a.toInt - lo).toNat]? = some off) (ht : (pc : Int) + off = (tgt : Int)) (k : J X own cc nL d ret Q tgt ls st h) : J X own cc nL d ret Q pc ls (.int a :: st) h := by
  intro p l e R s m args below meth c kc ks Z C0 hR H locs la hl hP hS
  exact lv_tableIn C0.1 C0.2.1 hd h1 h2 ho ht (k p l e R s m args below meth c kc ks Z C0 hR H locs la hl hP hS)
theorem J_iload {i : Nat} {x : Int32} (hd : decode cc pc = .ok (.iload i, 2)) (hv : ls[i]? = some (some (.int x))) (k : J X own cc nL d ret Q (pc + 2) ls (.int x :: st) h) : J X own cc nL d ret Q pc ls st h := by
  intro p l e R s m args below meth c kc ks Z C0 hR H locs la hl hP hS
  exact lv_iload C0.1 C0.2.1 hd (jls_at hl hv) (k p l e R s m args below meth c kc ks Z C0 hR H locs la hl hP hS)
theorem J_iload_n {n : Fin 4} {i : Nat} {x : Int32} (hd : decode cc pc = .ok (.iload_n n, 1)) (hi : (n : Nat) = i) (hv : ls[i]? = some (some (.int x))) (k : J X own cc nL d ret Q (pc + 1) ls (.int x :: st) h) : J X own cc nL d ret Q pc ls st h := by
  intro p l e R s m args below meth c kc ks Z C0 hR H locs la hl hP hS
  exact lv_iload_n C0.1 C0.2.1 hd hi (jls_at hl hv) (k p l e R s m args below meth c kc ks Z C0 hR H locs la hl hP hS)
theorem J_istore {i : Nat} {x : Int32} (hd : decode cc pc = .ok (.istore i, 2)) (hn : i < nL) (hp : ∀ j, j + 1 = i → ∀ x, ls[j]? = some x → lok x = true) (k : J X own cc nL d ret Q (pc + 2) (ls.set i (some (.int x))) st h) : J X own cc nL d ret Q pc ls (.int x :: st) h := by
  intro p l e R s m args below meth c kc ks Z C0 hR H locs la hl hP hS
  exact lv_istore C0.1 C0.2.1 hd hl hn rfl (fun la hl => k p l e R s m args below meth c kc ks Z C0 hR H locs la (jls_set1 hp hl) hP hS)
theorem J_istore_n {n : Fin 4} {i : Nat} {x : Int32} (hd : decode cc pc = .ok (.istore_n n, 1)) (hi : (n : Nat) = i) (hn : i < nL) (hp : ∀ j, j + 1 = i → ∀ x, ls[j]? = some x → lok x = true) (k : J X own cc nL d ret Q (pc + 1) (ls.set i (some (.int x))) st h) : J X own cc nL d ret Q pc ls (.int x :: st) h := by
  intro p l e R s m args below meth c kc ks Z C0 hR H locs la hl hP hS
  exact lv_istore_n C0.1 C0.2.1 hd hi hl hn rfl (fun la hl => k p l e R s m args below meth c kc ks Z C0 hR H locs la (jls_set1 hp hl) hP hS)
theorem J_lload {i : Nat} {x : Int64} (hd : decode cc pc = .ok (.lload i, 2)) (hv : ls[i]? = some (some (.long x))) (k : J X own cc nL d ret Q (pc + 2) ls (.long x :: st) h) : J X own cc nL d ret Q pc ls st h := by
  intro p l e R s m args below meth c kc ks Z C0 hR H locs la hl hP hS
  exact lv_lload C0.1 C0.2.1 hd (jls_at hl hv) (k p l e R s m args below meth c kc ks Z C0 hR H locs la hl hP hS)
theorem J_lload_n {n : Fin 4} {i : Nat} {x : Int64} (hd : decode cc pc = .ok (.lload_n n, 1)) (hi : (n : Nat) = i) (hv : ls[i]? = some (some (.long x))) (k : J X own cc nL d ret Q (pc + 1) ls (.long x :: st) h) : J X own cc nL d ret Q pc ls st h := by
  intro p l e R s m args below meth c kc ks Z C0 hR H locs la hl hP hS
  exact lv_lload_n C0.1 C0.2.1 hd hi (jls_at hl hv) (k p l e R s m args below meth c kc ks Z C0 hR H locs la hl hP hS)
theorem J_lstore {i : Nat} {x : Int64} (hd : decode cc pc = .ok (.lstore i, 2)) (hn : i + 1 < nL) (hp : ∀ j, j + 1 = i → ∀ x, ls[j]? = some x → lok x = true) (k : J X own cc nL d ret Q (pc + 2) ((ls.set i (some (.long x))).set (i + 1) none) st h) : J X own cc nL d ret Q pc ls (.long x :: st) h := by
  intro p l e R s m args below meth c kc ks Z C0 hR H locs la hl hP hS
  exact lv_lstore C0.1 C0.2.1 hd hl hn rfl (fun la hl => k p l e R s m args below meth c kc ks Z C0 hR H locs la (jls_set2 hp hl) hP hS)
theorem J_lstore_n {n : Fin 4} {i : Nat} {x : Int64} (hd : decode cc pc = .ok (.lstore_n n, 1)) (hi : (n : Nat) = i) (hn : i + 1 < nL) (hp : ∀ j, j + 1 = i → ∀ x, ls[j]? = some x → lok x = true) (k : J X own cc nL d ret Q (pc + 1) ((ls.set i (some (.long x))).set (i + 1) none) st h) : J X own cc nL d ret Q pc ls (.long x :: st) h := by
  intro p l e R s m args below meth c kc ks Z C0 hR H locs la hl hP hS
  exact lv_lstore_n C0.1 C0.2.1 hd hi hl hn rfl (fun la hl => k p l e R s m args below meth c kc ks Z C0 hR H locs la (jls_set2 hp hl) hP hS)
theorem J_aload {i : Nat} {x : Nat} (hd : decode cc pc = .ok (.aload i, 2)) (hv : ls[i]? = some (some (.ref x))) (k : J X own cc nL d ret Q (pc + 2) ls (.ref x :: st) h) : J X own cc nL d ret Q pc ls st h := by
  intro p l e R s m args below meth c kc ks Z C0 hR H locs la hl hP hS
  exact lv_aload C0.1 C0.2.1 hd (jls_at hl hv) (k p l e R s m args below meth c kc ks Z C0 hR H locs la hl hP hS)
theorem J_aload_n {n : Fin 4} {i : Nat} {x : Nat} (hd : decode cc pc = .ok (.aload_n n, 1)) (hi : (n : Nat) = i) (hv : ls[i]? = some (some (.ref x))) (k : J X own cc nL d ret Q (pc + 1) ls (.ref x :: st) h) : J X own cc nL d ret Q pc ls st h := by
  intro p l e R s m args below meth c kc ks Z C0 hR H locs la hl hP hS
  exact lv_aload_n C0.1 C0.2.1 hd hi (jls_at hl hv) (k p l e R s m args below meth c kc ks Z C0 hR H locs la hl hP hS)
theorem J_astore {i : Nat} {x : Nat} (hd : decode cc pc = .ok (.astore i, 2)) (hn : i < nL) (hp : ∀ j, j + 1 = i → ∀ x, ls[j]? = some x → lok x = true) (k : J X own cc nL d ret Q (pc + 2) (ls.set i (some (.ref x))) st h) : J X own cc nL d ret Q pc ls (.ref x :: st) h := by
  intro p l e R s m args below meth c kc ks Z C0 hR H locs la hl hP hS
  exact lv_astore C0.1 C0.2.1 hd hl hn rfl (fun la hl => k p l e R s m args below meth c kc ks Z C0 hR H locs la (jls_set1 hp hl) hP hS)
theorem J_astore_n {n : Fin 4} {i : Nat} {x : Nat} (hd : decode cc pc = .ok (.astore_n n, 1)) (hi : (n : Nat) = i) (hn : i < nL) (hp : ∀ j, j + 1 = i → ∀ x, ls[j]? = some x → lok x = true) (k : J X own cc nL d ret Q (pc + 1) (ls.set i (some (.ref x))) st h) : J X own cc nL d ret Q pc ls (.ref x :: st) h := by
  intro p l e R s m args below meth c kc ks Z C0 hR H locs la hl hP hS
  exact lv_astore_n C0.1 C0.2.1 hd hi hl hn rfl (fun la hl => k p l e R s m args below meth c kc ks Z C0 hR H locs la (jls_set1 hp hl) hP hS)
theorem J_iinc {i : Nat} {n : Int} {x v : Int32} (hd : decode cc pc = .ok (.iinc i n, 3)) (hv : ls[i]? = some (some (.int x))) (he : x + Int32.ofInt n = v) (hn : i < nL) (hp : ∀ j, j + 1 = i → ∀ x, ls[j]? = some x → lok x = true) (k : J X own cc nL d ret Q (pc + 3) (ls.set i (some (.int v))) st h) : J X own cc nL d ret Q pc ls st h := by
  intro p l e R s m args below meth c kc ks Z C0 hR H locs la hl hP hS
  obtain ⟨kk, hkk⟩ := List.getElem?_of_mem (jls_mem.mpr ⟨i, .int x, hv, rfl⟩ : (0 + i, mv X (.int x)) ∈ jls X 0 ls)
  rw [Nat.zero_add] at hkk
  exact lv_iinc C0.1 C0.2.1 hd hl hkk he hn rfl (fun la hl => k p l e R s m args below meth c kc ks Z C0 hR H locs la (jls_set1 hp hl) hP hS)
theorem J_get {idx ci q a : Nat} {fs : List Value} {v : Value} (hd : decode cc pc = .ok (.getfield idx, 3)) (fl : jFL own idx ci q) (hc : hAt h a (oB ci fs)) (hv : fs[q]? = some v) (k : J X own cc nL d ret Q (pc + 3) ls (v :: st) h) : J X own cc nL d ret Q pc ls (.ref a :: st) h := by
  intro p l e R s m args below meth c kc ks Z C0 hR H locs la hl hP hS
  obtain ⟨C, T, N, h1, h2, h3, h4⟩ := fl
  obtain ⟨ha, he⟩ := hc
  exact va_get C0.1 C0.2.1 C0.2.2.2.2.1 h3 C0.2.2.2.1 C0.2.2.2.2.2.1 hP a (fs := fs.map (mv X)) (ci := ci) (by rw [wl_at ha, he]; rfl) h1 q h2 (C0.2.2.2.2.1 _ h4) (fun _ h9 => h9) (v := mv X v) (by rw [List.getElem?_map, hv]; rfl) hd (k p l e R s m args below meth c kc ks Z C0 hR H locs la hl hP hS)
theorem J_put {idx ci q a : Nat} {ty : FieldType} {fs : List Value} {v : Value} (hd : decode cc pc = .ok (.putfield idx, 3)) (fl : jFP own idx ci q ty) (hc : hAt h a (oB ci fs)) (hq : q < fs.length) (hn : narrow ty (mv X v) = mv X v) (hf : fits ty (mv X v) = true) (k : J X own cc nL d ret Q (pc + 3) ls st (hu h a (oB ci (fs.set q v)))) : J X own cc nL d ret Q pc ls (v :: .ref a :: st) h := by
  intro p l e R s m args below meth c kc ks Z C0 hR H locs la hl hP hS
  obtain ⟨C, T, N, ty0, h1, h2, h3, h4, h5, h6, h7, h8⟩ := fl
  obtain ⟨ha, he⟩ := hc
  have hset : (wl X h).set a (jad X a, .inr (ci, (fs.map (mv X)).set q (mv X v))) = wl X (hu h a (oB ci (fs.set q v))) := by
    rw [← wl_set ha]
    show _ = (wl X h).set a (jad X a, .inr (ci, (fs.set q v).map (mv X)))
    rw [List.map_set]
  exact va_put C0.1 C0.2.1 C0.2.2.2.2.1 h3 ty0 h5 h6 C0.2.2.2.1 C0.2.2.2.2.2.1 hP (wl_D C0.2.2.2.2.2.2.1) hS a (fs := fs.map (mv X)) (ci := ci) (by rw [wl_at ha, he]; rfl) h1 q h2 (C0.2.2.2.2.1 _ h4) (fun _ h9 => h9) h7 h8 hn hf (by rw [List.length_map]; exact hq) hd (fun H locs hP _ hS => k p l e R s m args below meth c kc ks Z C0 hR H locs la hl (hset ▸ hP) hS)
theorem J_iald {a n j : Nat} {f : Nat → Int32} {i : Int32} (hd : decode cc pc = .ok (.iaload, 1)) (hc : hAt h a (oA 0 n f)) (hi : i = nI j) (hj : j < n) (hn : n < 2 ^ 31) (k : J X own cc nL d ret Q (pc + 1) ls (.int (f j) :: st) h) : J X own cc nL d ret Q pc ls (.int i :: .ref a :: st) h := by
  intro p l e R s m args below meth c kc ks Z C0 hR H locs la hl hP hS
  subst hi
  obtain ⟨ha, he⟩ := hc
  refine va_iald C0.1 C0.2.1 C0.2.2.2.2.2.1 hP a 0 (f := f) (n := n) (cA := jK X 0) (by rw [wl_at ha, he]; rfl) rfl (vp_in_nI hj hn) hd ?_
  rw [nI_clamp (Nat.lt_trans hj hn)]
  exact (k p l e R s m args below meth c kc ks Z C0 hR H locs la hl hP hS)
theorem J_zald {a n j : Nat} {f : Nat → Int32} {i : Int32} (hd : decode cc pc = .ok (.baload, 1)) (hc : hAt h a (oA 1 n f)) (hi : i = nI j) (hj : j < n) (hn : n < 2 ^ 31) (k : J X own cc nL d ret Q (pc + 1) ls (.int (f j) :: st) h) : J X own cc nL d ret Q pc ls (.int i :: .ref a :: st) h := by
  intro p l e R s m args below meth c kc ks Z C0 hR H locs la hl hP hS
  subst hi
  obtain ⟨ha, he⟩ := hc
  refine va_zald C0.1 C0.2.1 C0.2.2.2.2.2.1 hP a 1 (f := f) (n := n) (cA := jK X 1) (by rw [wl_at ha, he]; rfl) rfl (vp_in_nI hj hn) hd ?_
  rw [nI_clamp (Nat.lt_trans hj hn)]
  exact (k p l e R s m args below meth c kc ks Z C0 hR H locs la hl hP hS)
theorem J_aald {a n j t b : Nat} {f : Nat → Option Nat} {i : Int32} (hd : decode cc pc = .ok (.aaload, 1)) (hc : hAt h a (oR t n f)) (ht : ∃ C, (jty X)[t]? = some (jK X t, .object C)) (hi : i = nI j) (hj : j < n) (hn : n < 2 ^ 31) (hf : f j = some b) (k : J X own cc nL d ret Q (pc + 1) ls (.ref b :: st) h) : J X own cc nL d ret Q pc ls (.int i :: .ref a :: st) h := by
  intro p l e R s m args below meth c kc ks Z C0 hR H locs la hl hP hS
  subst hi
  obtain ⟨ha, he⟩ := hc
  obtain ⟨C, ht⟩ := ht
  refine va_aldq C0.1 C0.2.1 C0.2.2.2.2.2.1 hP a t (f := fun j => (f j).map (jad X)) (n := n) (cA := jK X t) (by rw [wl_at ha, he]; rfl) ht (vp_in_nI hj hn) hd ?_
  rw [nI_clamp (Nat.lt_trans hj hn), hf]
  exact (k p l e R s m args below meth c kc ks Z C0 hR H locs la hl hP hS)
theorem J_alen {a n t : Nat} {f : Nat → Int32} (hd : decode cc pc = .ok (.arraylength, 1)) (hc : hAt h a (oA t n f)) (ht : ∃ ty, (jty X)[t]? = some (jK X t, ty)) (k : J X own cc nL d ret Q (pc + 1) ls (.int (nI n) :: st) h) : J X own cc nL d ret Q pc ls (.ref a :: st) h := by
  intro p l e R s m args below meth c kc ks Z C0 hR H locs la hl hP hS
  obtain ⟨ha, he⟩ := hc
  obtain ⟨ty, ht⟩ := ht
  exact va_alen C0.1 C0.2.1 C0.2.2.2.2.2.1 hP a t (x := (n, .inl f)) (cA := jK X t) (by rw [wl_at ha, he]; rfl) ht (v := nI n) rfl hd (k p l e R s m args below meth c kc ks Z C0 hR H locs la hl hP hS)
theorem J_iast {a n j : Nat} {f : Nat → Int32} {i x : Int32} (hd : decode cc pc = .ok (.iastore, 1)) (hc : hAt h a (oA 0 n f)) (hi : i = nI j) (hj : j < n) (hn : n < 2 ^ 31) (k : J X own cc nL d ret Q (pc + 1) ls st (hu h a (oA 0 n (upd f j x)))) : J X own cc nL d ret Q pc ls (.int x :: .int i :: .ref a :: st) h := by
  intro p l e R s m args below meth c kc ks Z C0 hR H locs la hl hP hS
  subst hi
  obtain ⟨ha, he⟩ := hc
  have hset : (wl X h).set a (jad X a, .inl (jK X 0, n, .inl (upd f j x))) = wl X (hu h a (oA 0 n (upd f j x))) := wl_set (c := oA 0 n (upd f j x)) ha
  refine va_iast C0.1 C0.2.1 C0.2.2.2.2.2.1 hP (wl_D C0.2.2.2.2.2.2.1) hS a 0 (f := f) (n := n) (cA := jK X 0) (by rw [wl_at ha, he]; rfl) rfl (vp_in_nI hj hn) hd ?_
  rw [nI_clamp (Nat.lt_trans hj hn)]
  exact (fun H locs hP _ hS => k p l e R s m args below meth c kc ks Z C0 hR H locs la hl (hset ▸ hP) hS)
theorem J_zast {a n j : Nat} {f : Nat → Int32} {i x : Int32} (hd : decode cc pc = .ok (.bastore, 1)) (hc : hAt h a (oA 1 n f)) (hi : i = nI j) (hj : j < n) (hn : n < 2 ^ 31) (hx : vp_nar .boolean x = x) (k : J X own cc nL d ret Q (pc + 1) ls st (hu h a (oA 1 n (upd f j x)))) : J X own cc nL d ret Q pc ls (.int x :: .int i :: .ref a :: st) h := by
  intro p l e R s m args below meth c kc ks Z C0 hR H locs la hl hP hS
  subst hi
  obtain ⟨ha, he⟩ := hc
  have hset : (wl X h).set a (jad X a, .inl (jK X 1, n, .inl (upd f j x))) = wl X (hu h a (oA 1 n (upd f j x))) := wl_set (c := oA 1 n (upd f j x)) ha
  refine va_zast C0.1 C0.2.1 C0.2.2.2.2.2.1 hP (wl_D C0.2.2.2.2.2.2.1) hS a 1 (f := f) (n := n) (cA := jK X 1) (by rw [wl_at ha, he]; rfl) rfl (vp_in_nI hj hn) hd ?_
  rw [nI_clamp (Nat.lt_trans hj hn), hx]
  exact (fun H locs hP _ hS => k p l e R s m args below meth c kc ks Z C0 hR H locs la hl (hset ▸ hP) hS)
theorem J_aast {a n j t b ci : Nat} {r : vw_C} {vs : List Value} {f : Nat → Option Nat} {i : Int32} (hd : decode cc pc = .ok (.aastore, 1)) (hc : hAt h a (oR t n f)) (hb : hAt h b (oB ci vs)) (hr : jcl[ci]? = some r) (ht : (jty X)[t]? = some (jK X t, .object r.1)) (hi : i = nI j) (hj : j < n) (hn : n < 2 ^ 31) (k : J X own cc nL d ret Q (pc + 1) ls st (hu h a (oR t n (va_up f j (some b))))) : J X own cc nL d ret Q pc ls (.ref b :: .int i :: .ref a :: st) h := by
  intro p l e R s m args below meth c kc ks Z C0 hR H locs la hl hP hS
  subst hi
  obtain ⟨ha, he⟩ := hc
  obtain ⟨hb, hbe⟩ := hb
  have hset : (wl X h).set a (jad X a, .inl (jK X t, n, .inr (.inr (.inr (.inr (va_up (fun j => (f j).map (jad X)) j (some (jad X b)))))))) = wl X (hu h a (oR t n (va_up f j (some b)))) := by
    rw [← wl_set ha]
    show _ = (wl X h).set a (jad X a, .inl (jK X t, n, .inr (.inr (.inr (.inr (fun q => (va_up f j (some b) q).map (jad X)))))))
    have e : va_up (fun j => (f j).map (jad X)) j (some (jad X b)) = fun q => (va_up f j (some b) q).map (jad X) := by
      funext q
      unfold va_up
      split <;> rfl
    rw [e]
  refine va_astq C0.1 C0.2.1 C0.2.2.2.2.2.1 hP (wl_D C0.2.2.2.2.2.2.1) hS a t b ci (f := fun j => (f j).map (jad X)) (n := n) (cA := jK X t) (vs := vs.map (mv X)) (v := jad X b) (by rw [wl_at ha, he]; rfl) ht (by rw [wl_at hb, hbe]; rfl) hr (vp_in_nI hj hn) hd ?_
  rw [nI_clamp (Nat.lt_trans hj hn)]
  exact (fun H locs hP _ hS => k p l e R s m args below meth c kc ks Z C0 hR H locs la hl (hset ▸ hP) hS)
theorem J_gs0 {idx : Nat} (hd : decode cc pc = .ok (.getstatic idx, 3)) (hf : Cond.fieldLink own idx RX6 "HIGHEST_SETTING" "[I" ∈ jtb) (k : J X own cc nL d ret Q (pc + 3) ls (.ref 1000 :: st) h) : J X own cc nL d ret Q pc ls st h := by
  intro p l e R s m args below meth c kc ks Z C0 hR H locs la hl hP hS
  exact va_gets C0.1 C0.2.1 C0.2.2.2.2.2.2.2.1.1.1 hS C0.2.2.2.1 (C0.2.2.2.2.1 _ hf) (fun _ h9 => h9) hd (k p l e R s m args below meth c kc ks Z C0 hR H locs la hl hP hS)
theorem J_tl0 {j : Nat} {i : Int32} (hd : decode cc pc = .ok (.iaload, 1)) (hi : i = nI j) (hj : j < 3) (k : J X own cc nL d ret Q (pc + 1) ls (.int (jt0 j) :: st) h) : J X own cc nL d ret Q pc ls (.int i :: .ref 1000 :: st) h := by
  intro p l e R s m args below meth c kc ks Z C0 hR H locs la hl hP hS
  subst hi
  exact va_ti C0.1 C0.2.1 C0.2.2.2.2.2.2.2.1.1.2 hS (vp_in_nI hj (by decide)) (v := .int (jt0 j)) (by rw [nI_clamp (Nat.lt_trans hj (by decide))]) hd (k p l e R s m args below meth c kc ks Z C0 hR H locs la hl hP hS)
theorem J_tn0 (hd : decode cc pc = .ok (.arraylength, 1)) (k : J X own cc nL d ret Q (pc + 1) ls (.int (nI 3) :: st) h) : J X own cc nL d ret Q pc ls (.ref 1000 :: st) h := by
  intro p l e R s m args below meth c kc ks Z C0 hR H locs la hl hP hS
  exact va_tlen C0.1 C0.2.1 C0.2.2.2.2.2.2.2.1.1.2 hS (v := nI 3) rfl hd (k p l e R s m args below meth c kc ks Z C0 hR H locs la hl hP hS)
theorem J_gs1 {idx : Nat} (hd : decode cc pc = .ok (.getstatic idx, 3)) (hf : Cond.fieldLink own idx RX6 "LEAST_PART" "[I" ∈ jtb) (k : J X own cc nL d ret Q (pc + 3) ls (.ref 1001 :: st) h) : J X own cc nL d ret Q pc ls st h := by
  intro p l e R s m args below meth c kc ks Z C0 hR H locs la hl hP hS
  exact va_gets C0.1 C0.2.1 C0.2.2.2.2.2.2.2.1.2.1.1 hS C0.2.2.2.1 (C0.2.2.2.2.1 _ hf) (fun _ h9 => h9) hd (k p l e R s m args below meth c kc ks Z C0 hR H locs la hl hP hS)
theorem J_tl1 {j : Nat} {i : Int32} (hd : decode cc pc = .ok (.iaload, 1)) (hi : i = nI j) (hj : j < 4) (k : J X own cc nL d ret Q (pc + 1) ls (.int (jt1 j) :: st) h) : J X own cc nL d ret Q pc ls (.int i :: .ref 1001 :: st) h := by
  intro p l e R s m args below meth c kc ks Z C0 hR H locs la hl hP hS
  subst hi
  exact va_ti C0.1 C0.2.1 C0.2.2.2.2.2.2.2.1.2.1.2 hS (vp_in_nI hj (by decide)) (v := .int (jt1 j)) (by rw [nI_clamp (Nat.lt_trans hj (by decide))]) hd (k p l e R s m args below meth c kc ks Z C0 hR H locs la hl hP hS)
theorem J_tn1 (hd : decode cc pc = .ok (.arraylength, 1)) (k : J X own cc nL d ret Q (pc + 1) ls (.int (nI 4) :: st) h) : J X own cc nL d ret Q pc ls (.ref 1001 :: st) h := by
  intro p l e R s m args below meth c kc ks Z C0 hR H locs la hl hP hS
  exact va_tlen C0.1 C0.2.1 C0.2.2.2.2.2.2.2.1.2.1.2 hS (v := nI 4) rfl hd (k p l e R s m args below meth c kc ks Z C0 hR H locs la hl hP hS)
theorem J_gs2 {idx : Nat} (hd : decode cc pc = .ok (.getstatic idx, 3)) (hf : Cond.fieldLink own idx RX6 "HIGHEST_PART" "[I" ∈ jtb) (k : J X own cc nL d ret Q (pc + 3) ls (.ref 1002 :: st) h) : J X own cc nL d ret Q pc ls st h := by
  intro p l e R s m args below meth c kc ks Z C0 hR H locs la hl hP hS
  exact va_gets C0.1 C0.2.1 C0.2.2.2.2.2.2.2.1.2.2.1.1 hS C0.2.2.2.1 (C0.2.2.2.2.1 _ hf) (fun _ h9 => h9) hd (k p l e R s m args below meth c kc ks Z C0 hR H locs la hl hP hS)
theorem J_tl2 {j : Nat} {i : Int32} (hd : decode cc pc = .ok (.iaload, 1)) (hi : i = nI j) (hj : j < 4) (k : J X own cc nL d ret Q (pc + 1) ls (.int (jt2 j) :: st) h) : J X own cc nL d ret Q pc ls (.int i :: .ref 1002 :: st) h := by
  intro p l e R s m args below meth c kc ks Z C0 hR H locs la hl hP hS
  subst hi
  exact va_ti C0.1 C0.2.1 C0.2.2.2.2.2.2.2.1.2.2.1.2 hS (vp_in_nI hj (by decide)) (v := .int (jt2 j)) (by rw [nI_clamp (Nat.lt_trans hj (by decide))]) hd (k p l e R s m args below meth c kc ks Z C0 hR H locs la hl hP hS)
theorem J_tn2 (hd : decode cc pc = .ok (.arraylength, 1)) (k : J X own cc nL d ret Q (pc + 1) ls (.int (nI 4) :: st) h) : J X own cc nL d ret Q pc ls (.ref 1002 :: st) h := by
  intro p l e R s m args below meth c kc ks Z C0 hR H locs la hl hP hS
  exact va_tlen C0.1 C0.2.1 C0.2.2.2.2.2.2.2.1.2.2.1.2 hS (v := nI 4) rfl hd (k p l e R s m args below meth c kc ks Z C0 hR H locs la hl hP hS)
theorem J_sld {j : Nat} {i : Int32} (hd : decode cc pc = .ok (.iaload, 1)) (hi : i = nI j) (hj : j < jL X) (hn : jL X < 2 ^ 31) (k : J X own cc nL d ret Q (pc + 1) ls (.int (jx X j) :: st) h) : J X own cc nL d ret Q pc ls (.int i :: .ref 2000 :: st) h := by
  intro p l e R s m args below meth c kc ks Z C0 hR H locs la hl hP hS
  subst hi
  refine va_sld C0.1 C0.2.1 C0.2.2.2.2.2.2.2.1.2.2.2.1 C0.2.2.2.2.2.2.2.1.2.2.2.2.1 C0.2.2.2.2.2.2.2.1.2.2.2.2.2 hS (vp_in_nI hj hn) hd ?_
  rw [nI_clamp (Nat.lt_trans hj hn)]
  exact (k p l e R s m args below meth c kc ks Z C0 hR H locs la hl hP hS)
theorem J_slen (hd : decode cc pc = .ok (.arraylength, 1)) (k : J X own cc nL d ret Q (pc + 1) ls (.int (nI (jL X)) :: st) h) : J X own cc nL d ret Q pc ls (.ref 2000 :: st) h := by
  intro p l e R s m args below meth c kc ks Z C0 hR H locs la hl hP hS
  exact va_slen C0.1 C0.2.1 C0.2.2.2.2.2.2.2.1.2.2.2.1 C0.2.2.2.2.2.2.2.1.2.2.2.2.1 C0.2.2.2.2.2.2.2.1.2.2.2.2.2 hS hd (k p l e R s m args below meth c kc ks Z C0 hR H locs la hl hP hS)
theorem J_mmax {idx : Nat} {a b : Int32} (hd : decode cc pc = .ok (.invokestatic idx, 3)) (hm : Cond.methodLink own idx Lib.Math.max.name ∈ jtb) (hd0 : 0 < d) (hw : (st.map fun v => v.category).sum ≤ 8) (k : J X own cc nL d ret Q (pc + 3) ls (.int (if a < b then b else a) :: st) h) : J X own cc nL d ret Q pc ls (.int b :: .int a :: st) h := by
  intro p l e R s m args below meth c kc ks Z C0 hR H locs la hl hP hS
  have hts := C0.2.2.2.2.1
  have hrm := C0.2.2.2.2.2.2.2.2.1
  exact va_mmax C0.1 C0.2.1 (C0.2.2.1.trans hl.1.symm) C0.2.2.2.1 (hts _ hm) (hts _ jx_max_s) (hts _ jx_math_i) (hts _ jx_max_c) (by omega) (by rw [mv_cats]; omega) C0.2.2.2.2.2.2.2.2.2.1 C0.2.2.2.2.2.2.2.2.2.2.1 hd (k p l e R s m args below meth c kc ks Z C0 hR H locs la hl hP hS)
theorem J_mmin {idx : Nat} {a b : Int32} (hd : decode cc pc = .ok (.invokestatic idx, 3)) (hm : Cond.methodLink own idx Lib.Math.min.name ∈ jtb) (hd0 : 0 < d) (hw : (st.map fun v => v.category).sum ≤ 8) (k : J X own cc nL d ret Q (pc + 3) ls (.int (if b < a then b else a) :: st) h) : J X own cc nL d ret Q pc ls (.int b :: .int a :: st) h := by
  intro p l e R s m args below meth c kc ks Z C0 hR H locs la hl hP hS
  have hts := C0.2.2.2.2.1
  have hrm := C0.2.2.2.2.2.2.2.2.1
  exact va_mmin C0.1 C0.2.1 (C0.2.2.1.trans hl.1.symm) C0.2.2.2.1 (hts _ hm) (hts _ jx_min_s) (hts _ jx_math_i) (hts _ jx_min_c) (by omega) (by rw [mv_cats]; omega) C0.2.2.2.2.2.2.2.2.2.1 C0.2.2.2.2.2.2.2.2.2.2.1 hd (k p l e R s m args below meth c kc ks Z C0 hR H locs la hl hP hS)
theorem J_iret {v : Int32} (hd : decode cc pc = .ok (.ireturn, 1)) (hr : ret = some .int) (hq : Q (some (.int v)) h) : J X own cc nL d ret Q pc ls [.int v] h := by
  intro p l e R s m args below meth c kc ks Z C0 hR H locs la hl hP hS
  exact hR H locs la pc (some (.int v)) h hq ⟨hd, Or.inl hr⟩ hP hS
theorem J_zret {v : Int32} (hd : decode cc pc = .ok (.ireturn, 1)) (hr : ret = some .boolean) (hv : v = 0 ∨ v = 1) (hq : Q (some (.int v)) h) : J X own cc nL d ret Q pc ls [.int v] h := by
  intro p l e R s m args below meth c kc ks Z C0 hR H locs la hl hP hS
  exact hR H locs la pc (some (.int v)) h hq ⟨hd, Or.inr ⟨hr, hv⟩⟩ hP hS
theorem J_lret {v : Int64} (hd : decode cc pc = .ok (.lreturn, 1)) (hr : ret = some .long) (hq : Q (some (.long v)) h) : J X own cc nL d ret Q pc ls [.long v] h := by
  intro p l e R s m args below meth c kc ks Z C0 hR H locs la hl hP hS
  exact hR H locs la pc (some (.long v)) h hq ⟨hr, hd⟩ hP hS
theorem J_aret {v : Nat} (hd : decode cc pc = .ok (.areturn, 1)) (hr : ∃ n, ret = some (.object n)) (hq : Q (some (.ref v)) h) : J X own cc nL d ret Q pc ls [.ref v] h := by
  intro p l e R s m args below meth c kc ks Z C0 hR H locs la hl hP hS
  exact hR H locs la pc (some (.ref v)) h hq ⟨hd, hr⟩ hP hS
theorem J_vret (hd : decode cc pc = .ok (.return_, 1)) (hr : ret = none) (hq : Q none h) : J X own cc nL d ret Q pc ls [] h := by
  intro p l e R s m args below meth c kc ks Z C0 hR H locs la hl hP hS
  exact hR H locs la pc none h hq ⟨hr, hd⟩ hP hS
theorem J_mono {Q2 : Option Value → HF → Prop} (k : J X own cc nL d ret Q2 pc ls st h) (hq : ∀ r h, Q2 r h → Q r h) : J X own cc nL d ret Q pc ls st h := fun p l e R s m args below meth c kc ks Z C0 hR => k p l e R s m args below meth c kc ks Z C0 (fun H locs la pc r h hQ => hR H locs la pc r h (hq r h hQ))
theorem J_iload_0 {t : List (Option Value)} {x : Int32} (hd : decode cc pc = .ok (.iload_n 0, 1)) (k : J X own cc nL d ret Q (pc + 1) (some (.int x) :: t) (.int x :: st) h) : J X own cc nL d ret Q pc (some (.int x) :: t) st h := J_iload_n hd rfl rfl k
theorem J_istore_0 {y : Option Value} {t : List (Option Value)} {x : Int32} (hd : decode cc pc = .ok (.istore_n 0, 1)) (hn : 0 < nL)  (k : J X own cc nL d ret Q (pc + 1) (some (.int x) :: t) st h) : J X own cc nL d ret Q pc (y :: t) (.int x :: st) h := J_istore_n hd rfl hn (fun j hj => by omega) k
theorem J_lload_0 {t : List (Option Value)} {x : Int64} (hd : decode cc pc = .ok (.lload_n 0, 1)) (k : J X own cc nL d ret Q (pc + 1) (some (.long x) :: t) (.long x :: st) h) : J X own cc nL d ret Q pc (some (.long x) :: t) st h := J_lload_n hd rfl rfl k
theorem J_lstore_0 {y z : Option Value} {t : List (Option Value)} {x : Int64} (hd : decode cc pc = .ok (.lstore_n 0, 1)) (hn : 0 + 1 < nL)  (k : J X own cc nL d ret Q (pc + 1) (some (.long x) :: none :: t) st h) : J X own cc nL d ret Q pc (y :: z :: t) (.long x :: st) h := J_lstore_n hd rfl hn (fun j hj => by omega) k
theorem J_aload_0 {t : List (Option Value)} {x : Nat} (hd : decode cc pc = .ok (.aload_n 0, 1)) (k : J X own cc nL d ret Q (pc + 1) (some (.ref x) :: t) (.ref x :: st) h) : J X own cc nL d ret Q pc (some (.ref x) :: t) st h := J_aload_n hd rfl rfl k
theorem J_astore_0 {y : Option Value} {t : List (Option Value)} {x : Nat} (hd : decode cc pc = .ok (.astore_n 0, 1)) (hn : 0 < nL)  (k : J X own cc nL d ret Q (pc + 1) (some (.ref x) :: t) st h) : J X own cc nL d ret Q pc (y :: t) (.ref x :: st) h := J_astore_n hd rfl hn (fun j hj => by omega) k
theorem J_iinc_0 {t : List (Option Value)} {n : Int} {x v : Int32} (hd : decode cc pc = .ok (.iinc 0 n, 3)) (he : x + Int32.ofInt n = v) (hn : 0 < nL)  (k : J X own cc nL d ret Q (pc + 3) (some (.int v) :: t) st h) : J X own cc nL d ret Q pc (some (.int x) :: t) st h := J_iinc hd rfl he hn (fun j hj => by omega) k
theorem J_inc_0 {t : List (Option Value)} {j : Nat} (hd : decode cc pc = .ok (.iinc 0 1, 3)) (hn : 0 < nL)  (k : J X own cc nL d ret Q (pc + 3) (some (.int (nI (j + 1))) :: t) st h) : J X own cc nL d ret Q pc (some (.int (nI j)) :: t) st h := J_iinc_0 hd (nI_1 j) hn  k
theorem J_iload_1 {a0 : Option Value} {t : List (Option Value)} {x : Int32} (hd : decode cc pc = .ok (.iload_n 1, 1)) (k : J X own cc nL d ret Q (pc + 1) (a0 :: some (.int x) :: t) (.int x :: st) h) : J X own cc nL d ret Q pc (a0 :: some (.int x) :: t) st h := J_iload_n hd rfl rfl k
theorem J_istore_1 {a0 : Option Value} {y : Option Value} {t : List (Option Value)} {x : Int32} (hd : decode cc pc = .ok (.istore_n 1, 1)) (hn : 1 < nL) (hp : lok a0 = true) (k : J X own cc nL d ret Q (pc + 1) (a0 :: some (.int x) :: t) st h) : J X own cc nL d ret Q pc (a0 :: y :: t) (.int x :: st) h := J_istore_n hd rfl hn (fun j hj x hx => by have e : j = 0 := (by omega); subst e; cases hx; exact hp) k
theorem J_lload_1 {a0 : Option Value} {t : List (Option Value)} {x : Int64} (hd : decode cc pc = .ok (.lload_n 1, 1)) (k : J X own cc nL d ret Q (pc + 1) (a0 :: some (.long x) :: t) (.long x :: st) h) : J X own cc nL d ret Q pc (a0 :: some (.long x) :: t) st h := J_lload_n hd rfl rfl k
theorem J_lstore_1 {a0 : Option Value} {y z : Option Value} {t : List (Option Value)} {x : Int64} (hd : decode cc pc = .ok (.lstore_n 1, 1)) (hn : 1 + 1 < nL) (hp : lok a0 = true) (k : J X own cc nL d ret Q (pc + 1) (a0 :: some (.long x) :: none :: t) st h) : J X own cc nL d ret Q pc (a0 :: y :: z :: t) (.long x :: st) h := J_lstore_n hd rfl hn (fun j hj x hx => by have e : j = 0 := (by omega); subst e; cases hx; exact hp) k
theorem J_aload_1 {a0 : Option Value} {t : List (Option Value)} {x : Nat} (hd : decode cc pc = .ok (.aload_n 1, 1)) (k : J X own cc nL d ret Q (pc + 1) (a0 :: some (.ref x) :: t) (.ref x :: st) h) : J X own cc nL d ret Q pc (a0 :: some (.ref x) :: t) st h := J_aload_n hd rfl rfl k
theorem J_astore_1 {a0 : Option Value} {y : Option Value} {t : List (Option Value)} {x : Nat} (hd : decode cc pc = .ok (.astore_n 1, 1)) (hn : 1 < nL) (hp : lok a0 = true) (k : J X own cc nL d ret Q (pc + 1) (a0 :: some (.ref x) :: t) st h) : J X own cc nL d ret Q pc (a0 :: y :: t) (.ref x :: st) h := J_astore_n hd rfl hn (fun j hj x hx => by have e : j = 0 := (by omega); subst e; cases hx; exact hp) k
theorem J_iinc_1 {a0 : Option Value} {t : List (Option Value)} {n : Int} {x v : Int32} (hd : decode cc pc = .ok (.iinc 1 n, 3)) (he : x + Int32.ofInt n = v) (hn : 1 < nL) (hp : lok a0 = true) (k : J X own cc nL d ret Q (pc + 3) (a0 :: some (.int v) :: t) st h) : J X own cc nL d ret Q pc (a0 :: some (.int x) :: t) st h := J_iinc hd rfl he hn (fun j hj x hx => by have e : j = 0 := (by omega); subst e; cases hx; exact hp) k
theorem J_inc_1 {a0 : Option Value} {t : List (Option Value)} {j : Nat} (hd : decode cc pc = .ok (.iinc 1 1, 3)) (hn : 1 < nL) (hp : lok a0 = true) (k : J X own cc nL d ret Q (pc + 3) (a0 :: some (.int (nI (j + 1))) :: t) st h) : J X own cc nL d ret Q pc (a0 :: some (.int (nI j)) :: t) st h := J_iinc_1 hd (nI_1 j) hn hp k
theorem J_iload_2 {a0 a1 : Option Value} {t : List (Option Value)} {x : Int32} (hd : decode cc pc = .ok (.iload_n 2, 1)) (k : J X own cc nL d ret Q (pc + 1) (a0 :: a1 :: some (.int x) :: t) (.int x :: st) h) : J X own cc nL d ret Q pc (a0 :: a1 :: some (.int x) :: t) st h := J_iload_n hd rfl rfl k
theorem J_istore_2 {a0 a1 : Option Value} {y : Option Value} {t : List (Option Value)} {x : Int32} (hd : decode cc pc = .ok (.istore_n 2, 1)) (hn : 2 < nL) (hp : lok a1 = true) (k : J X own cc nL d ret Q (pc + 1) (a0 :: a1 :: some (.int x) :: t) st h) : J X own cc nL d ret Q pc (a0 :: a1 :: y :: t) (.int x :: st) h := J_istore_n hd rfl hn (fun j hj x hx => by have e : j = 1 := (by omega); subst e; cases hx; exact hp) k
theorem J_lload_2 {a0 a1 : Option Value} {t : List (Option Value)} {x : Int64} (hd : decode cc pc = .ok (.lload_n 2, 1)) (k : J X own cc nL d ret Q (pc + 1) (a0 :: a1 :: some (.long x) :: t) (.long x :: st) h) : J X own cc nL d ret Q pc (a0 :: a1 :: some (.long x) :: t) st h := J_lload_n hd rfl rfl k
theorem J_lstore_2 {a0 a1 : Option Value} {y z : Option Value} {t : List (Option Value)} {x : Int64} (hd : decode cc pc = .ok (.lstore_n 2, 1)) (hn : 2 + 1 < nL) (hp : lok a1 = true) (k : J X own cc nL d ret Q (pc + 1) (a0 :: a1 :: some (.long x) :: none :: t) st h) : J X own cc nL d ret Q pc (a0 :: a1 :: y :: z :: t) (.long x :: st) h := J_lstore_n hd rfl hn (fun j hj x hx => by have e : j = 1 := (by omega); subst e; cases hx; exact hp) k
theorem J_aload_2 {a0 a1 : Option Value} {t : List (Option Value)} {x : Nat} (hd : decode cc pc = .ok (.aload_n 2, 1)) (k : J X own cc nL d ret Q (pc + 1) (a0 :: a1 :: some (.ref x) :: t) (.ref x :: st) h) : J X own cc nL d ret Q pc (a0 :: a1 :: some (.ref x) :: t) st h := J_aload_n hd rfl rfl k
theorem J_astore_2 {a0 a1 : Option Value} {y : Option Value} {t : List (Option Value)} {x : Nat} (hd : decode cc pc = .ok (.astore_n 2, 1)) (hn : 2 < nL) (hp : lok a1 = true) (k : J X own cc nL d ret Q (pc + 1) (a0 :: a1 :: some (.ref x) :: t) st h) : J X own cc nL d ret Q pc (a0 :: a1 :: y :: t) (.ref x :: st) h := J_astore_n hd rfl hn (fun j hj x hx => by have e : j = 1 := (by omega); subst e; cases hx; exact hp) k
theorem J_iinc_2 {a0 a1 : Option Value} {t : List (Option Value)} {n : Int} {x v : Int32} (hd : decode cc pc = .ok (.iinc 2 n, 3)) (he : x + Int32.ofInt n = v) (hn : 2 < nL) (hp : lok a1 = true) (k : J X own cc nL d ret Q (pc + 3) (a0 :: a1 :: some (.int v) :: t) st h) : J X own cc nL d ret Q pc (a0 :: a1 :: some (.int x) :: t) st h := J_iinc hd rfl he hn (fun j hj x hx => by have e : j = 1 := (by omega); subst e; cases hx; exact hp) k
theorem J_inc_2 {a0 a1 : Option Value} {t : List (Option Value)} {j : Nat} (hd : decode cc pc = .ok (.iinc 2 1, 3)) (hn : 2 < nL) (hp : lok a1 = true) (k : J X own cc nL d ret Q (pc + 3) (a0 :: a1 :: some (.int (nI (j + 1))) :: t) st h) : J X own cc nL d ret Q pc (a0 :: a1 :: some (.int (nI j)) :: t) st h := J_iinc_2 hd (nI_1 j) hn hp k
theorem J_iload_3 {a0 a1 a2 : Option Value} {t : List (Option Value)} {x : Int32} (hd : decode cc pc = .ok (.iload_n 3, 1)) (k : J X own cc nL d ret Q (pc + 1) (a0 :: a1 :: a2 :: some (.int x) :: t) (.int x :: st) h) : J X own cc nL d ret Q pc (a0 :: a1 :: a2 :: some (.int x) :: t) st h := J_iload_n hd rfl rfl k
theorem J_istore_3 {a0 a1 a2 : Option Value} {y : Option Value} {t : List (Option Value)} {x : Int32} (hd : decode cc pc = .ok (.istore_n 3, 1)) (hn : 3 < nL) (hp : lok a2 = true) (k : J X own cc nL d ret Q (pc + 1) (a0 :: a1 :: a2 :: some (.int x) :: t) st h) : J X own cc nL d ret Q pc (a0 :: a1 :: a2 :: y :: t) (.int x :: st) h := J_istore_n hd rfl hn (fun j hj x hx => by have e : j = 2 := (by omega); subst e; cases hx; exact hp) k
theorem J_lload_3 {a0 a1 a2 : Option Value} {t : List (Option Value)} {x : Int64} (hd : decode cc pc = .ok (.lload_n 3, 1)) (k : J X own cc nL d ret Q (pc + 1) (a0 :: a1 :: a2 :: some (.long x) :: t) (.long x :: st) h) : J X own cc nL d ret Q pc (a0 :: a1 :: a2 :: some (.long x) :: t) st h := J_lload_n hd rfl rfl k
theorem J_lstore_3 {a0 a1 a2 : Option Value} {y z : Option Value} {t : List (Option Value)} {x : Int64} (hd : decode cc pc = .ok (.lstore_n 3, 1)) (hn : 3 + 1 < nL) (hp : lok a2 = true) (k : J X own cc nL d ret Q (pc + 1) (a0 :: a1 :: a2 :: some (.long x) :: none :: t) st h) : J X own cc nL d ret Q pc (a0 :: a1 :: a2 :: y :: z :: t) (.long x :: st) h := J_lstore_n hd rfl hn (fun j hj x hx => by have e : j = 2 := (by omega); subst e; cases hx; exact hp) k
theorem J_aload_3 {a0 a1 a2 : Option Value} {t : List (Option Value)} {x : Nat} (hd : decode cc pc = .ok (.aload_n 3, 1)) (k : J X own cc nL d ret Q (pc + 1) (a0 :: a1 :: a2 :: some (.ref x) :: t) (.ref x :: st) h) : J X own cc nL d ret Q pc (a0 :: a1 :: a2 :: some (.ref x) :: t) st h := J_aload_n hd rfl rfl k
theorem J_astore_3 {a0 a1 a2 : Option Value} {y : Option Value} {t : List (Option Value)} {x : Nat} (hd : decode cc pc = .ok (.astore_n 3, 1)) (hn : 3 < nL) (hp : lok a2 = true) (k : J X own cc nL d ret Q (pc + 1) (a0 :: a1 :: a2 :: some (.ref x) :: t) st h) : J X own cc nL d ret Q pc (a0 :: a1 :: a2 :: y :: t) (.ref x :: st) h := J_astore_n hd rfl hn (fun j hj x hx => by have e : j = 2 := (by omega); subst e; cases hx; exact hp) k
theorem J_iinc_3 {a0 a1 a2 : Option Value} {t : List (Option Value)} {n : Int} {x v : Int32} (hd : decode cc pc = .ok (.iinc 3 n, 3)) (he : x + Int32.ofInt n = v) (hn : 3 < nL) (hp : lok a2 = true) (k : J X own cc nL d ret Q (pc + 3) (a0 :: a1 :: a2 :: some (.int v) :: t) st h) : J X own cc nL d ret Q pc (a0 :: a1 :: a2 :: some (.int x) :: t) st h := J_iinc hd rfl he hn (fun j hj x hx => by have e : j = 2 := (by omega); subst e; cases hx; exact hp) k
theorem J_inc_3 {a0 a1 a2 : Option Value} {t : List (Option Value)} {j : Nat} (hd : decode cc pc = .ok (.iinc 3 1, 3)) (hn : 3 < nL) (hp : lok a2 = true) (k : J X own cc nL d ret Q (pc + 3) (a0 :: a1 :: a2 :: some (.int (nI (j + 1))) :: t) st h) : J X own cc nL d ret Q pc (a0 :: a1 :: a2 :: some (.int (nI j)) :: t) st h := J_iinc_3 hd (nI_1 j) hn hp k
theorem J_iload_4 {a0 a1 a2 a3 : Option Value} {t : List (Option Value)} {x : Int32} (hd : decode cc pc = .ok (.iload 4, 2)) (k : J X own cc nL d ret Q (pc + 2) (a0 :: a1 :: a2 :: a3 :: some (.int x) :: t) (.int x :: st) h) : J X own cc nL d ret Q pc (a0 :: a1 :: a2 :: a3 :: some (.int x) :: t) st h := J_iload hd rfl k
theorem J_istore_4 {a0 a1 a2 a3 : Option Value} {y : Option Value} {t : List (Option Value)} {x : Int32} (hd : decode cc pc = .ok (.istore 4, 2)) (hn : 4 < nL) (hp : lok a3 = true) (k : J X own cc nL d ret Q (pc + 2) (a0 :: a1 :: a2 :: a3 :: some (.int x) :: t) st h) : J X own cc nL d ret Q pc (a0 :: a1 :: a2 :: a3 :: y :: t) (.int x :: st) h := J_istore hd hn (fun j hj x hx => by have e : j = 3 := (by omega); subst e; cases hx; exact hp) k
theorem J_lload_4 {a0 a1 a2 a3 : Option Value} {t : List (Option Value)} {x : Int64} (hd : decode cc pc = .ok (.lload 4, 2)) (k : J X own cc nL d ret Q (pc + 2) (a0 :: a1 :: a2 :: a3 :: some (.long x) :: t) (.long x :: st) h) : J X own cc nL d ret Q pc (a0 :: a1 :: a2 :: a3 :: some (.long x) :: t) st h := J_lload hd rfl k
theorem J_lstore_4 {a0 a1 a2 a3 : Option Value} {y z : Option Value} {t : List (Option Value)} {x : Int64} (hd : decode cc pc = .ok (.lstore 4, 2)) (hn : 4 + 1 < nL) (hp : lok a3 = true) (k : J X own cc nL d ret Q (pc + 2) (a0 :: a1 :: a2 :: a3 :: some (.long x) :: none :: t) st h) : J X own cc nL d ret Q pc (a0 :: a1 :: a2 :: a3 :: y :: z :: t) (.long x :: st) h := J_lstore hd hn (fun j hj x hx => by have e : j = 3 := (by omega); subst e; cases hx; exact hp) k
theorem J_aload_4 {a0 a1 a2 a3 : Option Value} {t : List (Option Value)} {x : Nat} (hd : decode cc pc = .ok (.aload 4, 2)) (k : J X own cc nL d ret Q (pc + 2) (a0 :: a1 :: a2 :: a3 :: some (.ref x) :: t) (.ref x :: st) h) : J X own cc nL d ret Q pc (a0 :: a1 :: a2 :: a3 :: some (.ref x) :: t) st h := J_aload hd rfl k
theorem J_astore_4 {a0 a1 a2 a3 : Option Value} {y : Option Value} {t : List (Option Value)} {x : Nat} (hd : decode cc pc = .ok (.astore 4, 2)) (hn : 4 < nL) (hp : lok a3 = true) (k : J X own cc nL d ret Q (pc + 2) (a0 :: a1 :: a2 :: a3 :: some (.ref x) :: t) st h) : J X own cc nL d ret Q pc (a0 :: a1 :: a2 :: a3 :: y :: t) (.ref x :: st) h := J_astore hd hn (fun j hj x hx => by have e : j = 3 := (by omega); subst e; cases hx; exact hp) k
theorem J_iinc_4 {a0 a1 a2 a3 : Option Value} {t : List (Option Value)} {n : Int} {x v : Int32} (hd : decode cc pc = .ok (.iinc 4 n, 3)) (he : x + Int32.ofInt n = v) (hn : 4 < nL) (hp : lok a3 = true) (k : J X own cc nL d ret Q (pc + 3) (a0 :: a1 :: a2 :: a3 :: some (.int v) :: t) st h) : J X own cc nL d ret Q pc (a0 :: a1 :: a2 :: a3 :: some (.int x) :: t) st h := J_iinc hd rfl he hn (fun j hj x hx => by have e : j = 3 := (by omega); subst e; cases hx; exact hp) k
theorem J_inc_4 {a0 a1 a2 a3 : Option Value} {t : List (Option Value)} {j : Nat} (hd : decode cc pc = .ok (.iinc 4 1, 3)) (hn : 4 < nL) (hp : lok a3 = true) (k : J X own cc nL d ret Q (pc + 3) (a0 :: a1 :: a2 :: a3 :: some (.int (nI (j + 1))) :: t) st h) : J X own cc nL d ret Q pc (a0 :: a1 :: a2 :: a3 :: some (.int (nI j)) :: t) st h := J_iinc_4 hd (nI_1 j) hn hp k
theorem J_iload_5 {a0 a1 a2 a3 a4 : Option Value} {t : List (Option Value)} {x : Int32} (hd : decode cc pc = .ok (.iload 5, 2)) (k : J X own cc nL d ret Q (pc + 2) (a0 :: a1 :: a2 :: a3 :: a4 :: some (.int x) :: t) (.int x :: st) h) : J X own cc nL d ret Q pc (a0 :: a1 :: a2 :: a3 :: a4 :: some (.int x) :: t) st h := J_iload hd rfl k
theorem J_istore_5 {a0 a1 a2 a3 a4 : Option Value} {y : Option Value} {t : List (Option Value)} {x : Int32} (hd : decode cc pc = .ok (.istore 5, 2)) (hn : 5 < nL) (hp : lok a4 = true) (k : J X own cc nL d ret Q (pc + 2) (a0 :: a1 :: a2 :: a3 :: a4 :: some (.int x) :: t) st h) : J X own cc nL d ret Q pc (a0 :: a1 :: a2 :: a3 :: a4 :: y :: t) (.int x :: st) h := J_istore hd hn (fun j hj x hx => by have e : j = 4 := (by omega); subst e; cases hx; exact hp) k
theorem J_lload_5 {a0 a1 a2 a3 a4 : Option Value} {t : List (Option Value)} {x : Int64} (hd : decode cc pc = .ok (.lload 5, 2)) (k : J X own cc nL d ret Q (pc + 2) (a0 :: a1 :: a2 :: a3 :: a4 :: some (.long x) :: t) (.long x :: st) h) : J X own cc nL d ret Q pc (a0 :: a1 :: a2 :: a3 :: a4 :: some (.long x) :: t) st h := J_lload hd rfl k
theorem J_lstore_5 {a0 a1 a2 a3 a4 : Option Value} {y z : Option Value} {t : List (Option Value)} {x : Int64} (hd : decode cc pc = .ok (.lstore 5, 2)) (hn : 5 + 1 < nL) (hp : lok a4 = true) (k : J X own cc nL d ret Q (pc + 2) (a0 :: a1 :: a2 :: a3 :: a4 :: some (.long x) :: none :: t) st h) : J X own cc nL d ret Q pc (a0 :: a1 :: a2 :: a3 :: a4 :: y :: z :: t) (.long x :: st) h := J_lstore hd hn (fun j hj x hx => by have e : j = 4 := (by omega); subst e; cases hx; exact hp) k
theorem J_aload_5 {a0 a1 a2 a3 a4 : Option Value} {t : List (Option Value)} {x : Nat} (hd : decode cc pc = .ok (.aload 5, 2)) (k : J X own cc nL d ret Q (pc + 2) (a0 :: a1 :: a2 :: a3 :: a4 :: some (.ref x) :: t) (.ref x :: st) h) : J X own cc nL d ret Q pc (a0 :: a1 :: a2 :: a3 :: a4 :: some (.ref x) :: t) st h := J_aload hd rfl k
theorem J_astore_5 {a0 a1 a2 a3 a4 : Option Value} {y : Option Value} {t : List (Option Value)} {x : Nat} (hd : decode cc pc = .ok (.astore 5, 2)) (hn : 5 < nL) (hp : lok a4 = true) (k : J X own cc nL d ret Q (pc + 2) (a0 :: a1 :: a2 :: a3 :: a4 :: some (.ref x) :: t) st h) : J X own cc nL d ret Q pc (a0 :: a1 :: a2 :: a3 :: a4 :: y :: t) (.ref x :: st) h := J_astore hd hn (fun j hj x hx => by have e : j = 4 := (by omega); subst e; cases hx; exact hp) k
theorem J_iinc_5 {a0 a1 a2 a3 a4 : Option Value} {t : List (Option Value)} {n : Int} {x v : Int32} (hd : decode cc pc = .ok (.iinc 5 n, 3)) (he : x + Int32.ofInt n = v) (hn : 5 < nL) (hp : lok a4 = true) (k : J X own cc nL d ret Q (pc + 3) (a0 :: a1 :: a2 :: a3 :: a4 :: some (.int v) :: t) st h) : J X own cc nL d ret Q pc (a0 :: a1 :: a2 :: a3 :: a4 :: some (.int x) :: t) st h := J_iinc hd rfl he hn (fun j hj x hx => by have e : j = 4 := (by omega); subst e; cases hx; exact hp) k
theorem J_inc_5 {a0 a1 a2 a3 a4 : Option Value} {t : List (Option Value)} {j : Nat} (hd : decode cc pc = .ok (.iinc 5 1, 3)) (hn : 5 < nL) (hp : lok a4 = true) (k : J X own cc nL d ret Q (pc + 3) (a0 :: a1 :: a2 :: a3 :: a4 :: some (.int (nI (j + 1))) :: t) st h) : J X own cc nL d ret Q pc (a0 :: a1 :: a2 :: a3 :: a4 :: some (.int (nI j)) :: t) st h := J_iinc_5 hd (nI_1 j) hn hp k
theorem J_iload_6 {a0 a1 a2 a3 a4 a5 : Option Value} {t : List (Option Value)} {x : Int32} (hd : decode cc pc = .ok (.iload 6, 2)) (k : J X own cc nL d ret Q (pc + 2) (a0 :: a1 :: a2 :: a3 :: a4 :: a5 :: some (.int x) :: t) (.int x :: st) h) : J X own cc nL d ret Q pc (a0 :: a1 :: a2 :: a3 :: a4 :: a5 :: some (.int x) :: t) st h := J_iload hd rfl k
theorem J_istore_6 {a0 a1 a2 a3 a4 a5 : Option Value} {y : Option Value} {t : List (Option Value)} {x : Int32} (hd : decode cc pc = .ok (.istore 6, 2)) (hn : 6 < nL) (hp : lok a5 = true) (k : J X own cc nL d ret Q (pc + 2) (a0 :: a1 :: a2 :: a3 :: a4 :: a5 :: some (.int x) :: t) st h) : J X own cc nL d ret Q pc (a0 :: a1 :: a2 :: a3 :: a4 :: a5 :: y :: t) (.int x :: st) h := J_istore hd hn (fun j hj x hx => by have e : j = 5 := (by omega); subst e; cases hx; exact hp) k
theorem J_lload_6 {a0 a1 a2 a3 a4 a5 : Option Value} {t : List (Option Value)} {x : Int64} (hd : decode cc pc = .ok (.lload 6, 2)) (k : J X own cc nL d ret Q (pc + 2) (a0 :: a1 :: a2 :: a3 :: a4 :: a5 :: some (.long x) :: t) (.long x :: st) h) : J X own cc nL d ret Q pc (a0 :: a1 :: a2 :: a3 :: a4 :: a5 :: some (.long x) :: t) st h := J_lload hd rfl k
theorem J_lstore_6 {a0 a1 a2 a3 a4 a5 : Option Value} {y z : Option Value} {t : List (Option Value)} {x : Int64} (hd : decode cc pc = .ok (.lstore 6, 2)) (hn : 6 + 1 < nL) (hp : lok a5 = true) (k : J X own cc nL d ret Q (pc + 2) (a0 :: a1 :: a2 :: a3 :: a4 :: a5 :: some (.long x) :: none :: t) st h) : J X own cc nL d ret Q pc (a0 :: a1 :: a2 :: a3 :: a4 :: a5 :: y :: z :: t) (.long x :: st) h := J_lstore hd hn (fun j hj x hx => by have e : j = 5 := (by omega); subst e; cases hx; exact hp) k
theorem J_aload_6 {a0 a1 a2 a3 a4 a5 : Option Value} {t : List (Option Value)} {x : Nat} (hd : decode cc pc = .ok (.aload 6, 2)) (k : J X own cc nL d ret Q (pc + 2) (a0 :: a1 :: a2 :: a3 :: a4 :: a5 :: some (.ref x) :: t) (.ref x :: st) h) : J X own cc nL d ret Q pc (a0 :: a1 :: a2 :: a3 :: a4 :: a5 :: some (.ref x) :: t) st h := J_aload hd rfl k
theorem J_astore_6 {a0 a1 a2 a3 a4 a5 : Option Value} {y : Option Value} {t : List (Option Value)} {x : Nat} (hd : decode cc pc = .ok (.astore 6, 2)) (hn : 6 < nL) (hp : lok a5 = true) (k : J X own cc nL d ret Q (pc + 2) (a0 :: a1 :: a2 :: a3 :: a4 :: a5 :: some (.ref x) :: t) st h) : J X own cc nL d ret Q pc (a0 :: a1 :: a2 :: a3 :: a4 :: a5 :: y :: t) (.ref x :: st) h := J_astore hd hn (fun j hj x hx => by have e : j = 5 := (by omega); subst e; cases hx; exact hp) k
theorem J_iinc_6 {a0 a1 a2 a3 a4 a5 : Option Value} {t : List (Option Value)} {n : Int} {x v : Int32} (hd : decode cc pc = .ok (.iinc 6 n, 3)) (he : x + Int32.ofInt n = v) (hn : 6 < nL) (hp : lok a5 = true) (k : J X own cc nL d ret Q (pc + 3) (a0 :: a1 :: a2 :: a3 :: a4 :: a5 :: some (.int v) :: t) st h) : J X own cc nL d ret Q pc (a0 :: a1 :: a2 :: a3 :: a4 :: a5 :: some (.int x) :: t) st h := J_iinc hd rfl he hn (fun j hj x hx => by have e : j = 5 := (by omega); subst e; cases hx; exact hp) k
theorem J_inc_6 {a0 a1 a2 a3 a4 a5 : Option Value} {t : List (Option Value)} {j : Nat} (hd : decode cc pc = .ok (.iinc 6 1, 3)) (hn : 6 < nL) (hp : lok a5 = true) (k : J X own cc nL d ret Q (pc + 3) (a0 :: a1 :: a2 :: a3 :: a4 :: a5 :: some (.int (nI (j + 1))) :: t) st h) : J X own cc nL d ret Q pc (a0 :: a1 :: a2 :: a3 :: a4 :: a5 :: some (.int (nI j)) :: t) st h := J_iinc_6 hd (nI_1 j) hn hp k
theorem J_iload_7 {a0 a1 a2 a3 a4 a5 a6 : Option Value} {t : List (Option Value)} {x : Int32} (hd : decode cc pc = .ok (.iload 7, 2)) (k : J X own cc nL d ret Q (pc + 2) (a0 :: a1 :: a2 :: a3 :: a4 :: a5 :: a6 :: some (.int x) :: t) (.int x :: st) h) : J X own cc nL d ret Q pc (a0 :: a1 :: a2 :: a3 :: a4 :: a5 :: a6 :: some (.int x) :: t) st h := J_iload hd rfl k
theorem J_istore_7 {a0 a1 a2 a3 a4 a5 a6 : Option Value} {y : Option Value} {t : List (Option Value)} {x : Int32} (hd : decode cc pc = .ok (.istore 7, 2)) (hn : 7 < nL) (hp : lok a6 = true) (k : J X own cc nL d ret Q (pc + 2) (a0 :: a1 :: a2 :: a3 :: a4 :: a5 :: a6 :: some (.int x) :: t) st h) : J X own cc nL d ret Q pc (a0 :: a1 :: a2 :: a3 :: a4 :: a5 :: a6 :: y :: t) (.int x :: st) h := J_istore hd hn (fun j hj x hx => by have e : j = 6 := (by omega); subst e; cases hx; exact hp) k
theorem J_lload_7 {a0 a1 a2 a3 a4 a5 a6 : Option Value} {t : List (Option Value)} {x : Int64} (hd : decode cc pc = .ok (.lload 7, 2)) (k : J X own cc nL d ret Q (pc + 2) (a0 :: a1 :: a2 :: a3 :: a4 :: a5 :: a6 :: some (.long x) :: t) (.long x :: st) h) : J X own cc nL d ret Q pc (a0 :: a1 :: a2 :: a3 :: a4 :: a5 :: a6 :: some (.long x) :: t) st h := J_lload hd rfl k
theorem J_lstore_7 {a0 a1 a2 a3 a4 a5 a6 : Option Value} {y z : Option Value} {t : List (Option Value)} {x : Int64} (hd : decode cc pc = .ok (.lstore 7, 2)) (hn : 7 + 1 < nL) (hp : lok a6 = true) (k : J X own cc nL d ret Q (pc + 2) (a0 :: a1 :: a2 :: a3 :: a4 :: a5 :: a6 :: some (.long x) :: none :: t) st h) : J X own cc nL d ret Q pc (a0 :: a1 :: a2 :: a3 :: a4 :: a5 :: a6 :: y :: z :: t) (.long x :: st) h := J_lstore hd hn (fun j hj x hx => by have e : j = 6 := (by omega); subst e; cases hx; exact hp) k
theorem J_aload_7 {a0 a1 a2 a3 a4 a5 a6 : Option Value} {t : List (Option Value)} {x : Nat} (hd : decode cc pc = .ok (.aload 7, 2)) (k : J X own cc nL d ret Q (pc + 2) (a0 :: a1 :: a2 :: a3 :: a4 :: a5 :: a6 :: some (.ref x) :: t) (.ref x :: st) h) : J X own cc nL d ret Q pc (a0 :: a1 :: a2 :: a3 :: a4 :: a5 :: a6 :: some (.ref x) :: t) st h := J_aload hd rfl k
theorem J_astore_7 {a0 a1 a2 a3 a4 a5 a6 : Option Value} {y : Option Value} {t : List (Option Value)} {x : Nat} (hd : decode cc pc = .ok (.astore 7, 2)) (hn : 7 < nL) (hp : lok a6 = true) (k : J X own cc nL d ret Q (pc + 2) (a0 :: a1 :: a2 :: a3 :: a4 :: a5 :: a6 :: some (.ref x) :: t) st h) : J X own cc nL d ret Q pc (a0 :: a1 :: a2 :: a3 :: a4 :: a5 :: a6 :: y :: t) (.ref x :: st) h := J_astore hd hn (fun j hj x hx => by have e : j = 6 := (by omega); subst e; cases hx; exact hp) k
theorem J_iinc_7 {a0 a1 a2 a3 a4 a5 a6 : Option Value} {t : List (Option Value)} {n : Int} {x v : Int32} (hd : decode cc pc = .ok (.iinc 7 n, 3)) (he : x + Int32.ofInt n = v) (hn : 7 < nL) (hp : lok a6 = true) (k : J X own cc nL d ret Q (pc + 3) (a0 :: a1 :: a2 :: a3 :: a4 :: a5 :: a6 :: some (.int v) :: t) st h) : J X own cc nL d ret Q pc (a0 :: a1 :: a2 :: a3 :: a4 :: a5 :: a6 :: some (.int x) :: t) st h := J_iinc hd rfl he hn (fun j hj x hx => by have e : j = 6 := (by omega); subst e; cases hx; exact hp) k
theorem J_inc_7 {a0 a1 a2 a3 a4 a5 a6 : Option Value} {t : List (Option Value)} {j : Nat} (hd : decode cc pc = .ok (.iinc 7 1, 3)) (hn : 7 < nL) (hp : lok a6 = true) (k : J X own cc nL d ret Q (pc + 3) (a0 :: a1 :: a2 :: a3 :: a4 :: a5 :: a6 :: some (.int (nI (j + 1))) :: t) st h) : J X own cc nL d ret Q pc (a0 :: a1 :: a2 :: a3 :: a4 :: a5 :: a6 :: some (.int (nI j)) :: t) st h := J_iinc_7 hd (nI_1 j) hn hp k
theorem J_iload_8 {a0 a1 a2 a3 a4 a5 a6 a7 : Option Value} {t : List (Option Value)} {x : Int32} (hd : decode cc pc = .ok (.iload 8, 2)) (k : J X own cc nL d ret Q (pc + 2) (a0 :: a1 :: a2 :: a3 :: a4 :: a5 :: a6 :: a7 :: some (.int x) :: t) (.int x :: st) h) : J X own cc nL d ret Q pc (a0 :: a1 :: a2 :: a3 :: a4 :: a5 :: a6 :: a7 :: some (.int x) :: t) st h := J_iload hd rfl k
theorem J_istore_8 {a0 a1 a2 a3 a4 a5 a6 a7 : Option Value} {y : Option Value} {t : List (Option Value)} {x : Int32} (hd : decode cc pc = .ok (.istore 8, 2)) (hn : 8 < nL) (hp : lok a7 = true) (k : J X own cc nL d ret Q (pc + 2) (a0 :: a1 :: a2 :: a3 :: a4 :: a5 :: a6 :: a7 :: some (.int x) :: t) st h) : J X own cc nL d ret Q pc (a0 :: a1 :: a2 :: a3 :: a4 :: a5 :: a6 :: a7 :: y :: t) (.int x :: st) h := J_istore hd hn (fun j hj x hx => by have e : j = 7 := (by omega); subst e; cases hx; exact hp) k
theorem J_lload_8 {a0 a1 a2 a3 a4 a5 a6 a7 : Option Value} {t : List (Option Value)} {x : Int64} (hd : decode cc pc = .ok (.lload 8, 2)) (k : J X own cc nL d ret Q (pc + 2) (a0 :: a1 :: a2 :: a3 :: a4 :: a5 :: a6 :: a7 :: some (.long x) :: t) (.long x :: st) h) : J X own cc nL d ret Q pc (a0 :: a1 :: a2 :: a3 :: a4 :: a5 :: a6 :: a7 :: some (.long x) :: t) st h := J_lload hd rfl k
theorem J_lstore_8 {a0 a1 a2 a3 a4 a5 a6 a7 : Option Value} {y z : Option Value} {t : List (Option Value)} {x : Int64} (hd : decode cc pc = .ok (.lstore 8, 2)) (hn : 8 + 1 < nL) (hp : lok a7 = true) (k : J X own cc nL d ret Q (pc + 2) (a0 :: a1 :: a2 :: a3 :: a4 :: a5 :: a6 :: a7 :: some (.long x) :: none :: t) st h) : J X own cc nL d ret Q pc (a0 :: a1 :: a2 :: a3 :: a4 :: a5 :: a6 :: a7 :: y :: z :: t) (.long x :: st) h := J_lstore hd hn (fun j hj x hx => by have e : j = 7 := (by omega); subst e; cases hx; exact hp) k
theorem J_aload_8 {a0 a1 a2 a3 a4 a5 a6 a7 : Option Value} {t : List (Option Value)} {x : Nat} (hd : decode cc pc = .ok (.aload 8, 2)) (k : J X own cc nL d ret Q (pc + 2) (a0 :: a1 :: a2 :: a3 :: a4 :: a5 :: a6 :: a7 :: some (.ref x) :: t) (.ref x :: st) h) : J X own cc nL d ret Q pc (a0 :: a1 :: a2 :: a3 :: a4 :: a5 :: a6 :: a7 :: some (.ref x) :: t) st h := J_aload hd rfl k
theorem J_astore_8 {a0 a1 a2 a3 a4 a5 a6 a7 : Option Value} {y : Option Value} {t : List (Option Value)} {x : Nat} (hd : decode cc pc = .ok (.astore 8, 2)) (hn : 8 < nL) (hp : lok a7 = true) (k : J X own cc nL d ret Q (pc + 2) (a0 :: a1 :: a2 :: a3 :: a4 :: a5 :: a6 :: a7 :: some (.ref x) :: t) st h) : J X own cc nL d ret Q pc (a0 :: a1 :: a2 :: a3 :: a4 :: a5 :: a6 :: a7 :: y :: t) (.ref x :: st) h := J_astore hd hn (fun j hj x hx => by have e : j = 7 := (by omega); subst e; cases hx; exact hp) k
theorem J_iinc_8 {a0 a1 a2 a3 a4 a5 a6 a7 : Option Value} {t : List (Option Value)} {n : Int} {x v : Int32} (hd : decode cc pc = .ok (.iinc 8 n, 3)) (he : x + Int32.ofInt n = v) (hn : 8 < nL) (hp : lok a7 = true) (k : J X own cc nL d ret Q (pc + 3) (a0 :: a1 :: a2 :: a3 :: a4 :: a5 :: a6 :: a7 :: some (.int v) :: t) st h) : J X own cc nL d ret Q pc (a0 :: a1 :: a2 :: a3 :: a4 :: a5 :: a6 :: a7 :: some (.int x) :: t) st h := J_iinc hd rfl he hn (fun j hj x hx => by have e : j = 7 := (by omega); subst e; cases hx; exact hp) k
theorem J_inc_8 {a0 a1 a2 a3 a4 a5 a6 a7 : Option Value} {t : List (Option Value)} {j : Nat} (hd : decode cc pc = .ok (.iinc 8 1, 3)) (hn : 8 < nL) (hp : lok a7 = true) (k : J X own cc nL d ret Q (pc + 3) (a0 :: a1 :: a2 :: a3 :: a4 :: a5 :: a6 :: a7 :: some (.int (nI (j + 1))) :: t) st h) : J X own cc nL d ret Q pc (a0 :: a1 :: a2 :: a3 :: a4 :: a5 :: a6 :: a7 :: some (.int (nI j)) :: t) st h := J_iinc_8 hd (nI_1 j) hn hp k
theorem J_iload_9 {a0 a1 a2 a3 a4 a5 a6 a7 a8 : Option Value} {t : List (Option Value)} {x : Int32} (hd : decode cc pc = .ok (.iload 9, 2)) (k : J X own cc nL d ret Q (pc + 2) (a0 :: a1 :: a2 :: a3 :: a4 :: a5 :: a6 :: a7 :: a8 :: some (.int x) :: t) (.int x :: st) h) : J X own cc nL d ret Q pc (a0 :: a1 :: a2 :: a3 :: a4 :: a5 :: a6 :: a7 :: a8 :: some (.int x) :: t) st h := J_iload hd rfl k
theorem J_istore_9 {a0 a1 a2 a3 a4 a5 a6 a7 a8 : Option Value} {y : Option Value} {t : List (Option Value)} {x : Int32} (hd : decode cc pc = .ok (.istore 9, 2)) (hn : 9 < nL) (hp : lok a8 = true) (k : J X own cc nL d ret Q (pc + 2) (a0 :: a1 :: a2 :: a3 :: a4 :: a5 :: a6 :: a7 :: a8 :: some (.int x) :: t) st h) : J X own cc nL d ret Q pc (a0 :: a1 :: a2 :: a3 :: a4 :: a5 :: a6 :: a7 :: a8 :: y :: t) (.int x :: st) h := J_istore hd hn (fun j hj x hx => by have e : j = 8 := (by omega); subst e; cases hx; exact hp) k
theorem J_lload_9 {a0 a1 a2 a3 a4 a5 a6 a7 a8 : Option Value} {t : List (Option Value)} {x : Int64} (hd : decode cc pc = .ok (.lload 9, 2)) (k : J X own cc nL d ret Q (pc + 2) (a0 :: a1 :: a2 :: a3 :: a4 :: a5 :: a6 :: a7 :: a8 :: some (.long x) :: t) (.long x :: st) h) : J X own cc nL d ret Q pc (a0 :: a1 :: a2 :: a3 :: a4 :: a5 :: a6 :: a7 :: a8 :: some (.long x) :: t) st h := J_lload hd rfl k
theorem J_lstore_9 {a0 a1 a2 a3 a4 a5 a6 a7 a8 : Option Value} {y z : Option Value} {t : List (Option Value)} {x : Int64} (hd : decode cc pc = .ok (.lstore 9, 2)) (hn : 9 + 1 < nL) (hp : lok a8 = true) (k : J X own cc nL d ret Q (pc + 2) (a0 :: a1 :: a2 :: a3 :: a4 :: a5 :: a6 :: a7 :: a8 :: some (.long x) :: none :: t) st h) : J X own cc nL d ret Q pc (a0 :: a1 :: a2 :: a3 :: a4 :: a5 :: a6 :: a7 :: a8 :: y :: z :: t) (.long x :: st) h := J_lstore hd hn (fun j hj x hx => by have e : j = 8 := (by omega); subst e; cases hx; exact hp) k
theorem J_aload_9 {a0 a1 a2 a3 a4 a5 a6 a7 a8 : Option Value} {t : List (Option Value)} {x : Nat} (hd : decode cc pc = .ok (.aload 9, 2)) (k : J X own cc nL d ret Q (pc + 2) (a0 :: a1 :: a2 :: a3 :: a4 :: a5 :: a6 :: a7 :: a8 :: some (.ref x) :: t) (.ref x :: st) h) : J X own cc nL d ret Q pc (a0 :: a1 :: a2 :: a3 :: a4 :: a5 :: a6 :: a7 :: a8 :: some (.ref x) :: t) st h := J_aload hd rfl k
theorem J_astore_9 {a0 a1 a2 a3 a4 a5 a6 a7 a8 : Option Value} {y : Option Value} {t : List (Option Value)} {x : Nat} (hd : decode cc pc = .ok (.astore 9, 2)) (hn : 9 < nL) (hp : lok a8 = true) (k : J X own cc nL d ret Q (pc + 2) (a0 :: a1 :: a2 :: a3 :: a4 :: a5 :: a6 :: a7 :: a8 :: some (.ref x) :: t) st h) : J X own cc nL d ret Q pc (a0 :: a1 :: a2 :: a3 :: a4 :: a5 :: a6 :: a7 :: a8 :: y :: t) (.ref x :: st) h := J_astore hd hn (fun j hj x hx => by have e : j = 8 := (by omega); subst e; cases hx; exact hp) k
theorem J_iinc_9 {a0 a1 a2 a3 a4 a5 a6 a7 a8 : Option Value} {t : List (Option Value)} {n : Int} {x v : Int32} (hd : decode cc pc = .ok (.iinc 9 n, 3)) (he : x + Int32.ofInt n = v) (hn : 9 < nL) (hp : lok a8 = true) (k : J X own cc nL d ret Q (pc + 3) (a0 :: a1 :: a2 :: a3 :: a4 :: a5 :: a6 :: a7 :: a8 :: some (.int v) :: t) st h) : J X own cc nL d ret Q pc (a0 :: a1 :: a2 :: a3 :: a4 :: a5 :: a6 :: a7 :: a8 :: some (.int x) :: t) st h := J_iinc hd rfl he hn (fun j hj x hx => by have e : j = 8 := (by omega); subst e; cases hx; exact hp) k
theorem J_inc_9 {a0 a1 a2 a3 a4 a5 a6 a7 a8 : Option Value} {t : List (Option Value)} {j : Nat} (hd : decode cc pc = .ok (.iinc 9 1, 3)) (hn : 9 < nL) (hp : lok a8 = true) (k : J X own cc nL d ret Q (pc + 3) (a0 :: a1 :: a2 :: a3 :: a4 :: a5 :: a6 :: a7 :: a8 :: some (.int (nI (j + 1))) :: t) st h) : J X own cc nL d ret Q pc (a0 :: a1 :: a2 :: a3 :: a4 :: a5 :: a6 :: a7 :: a8 :: some (.int (nI j)) :: t) st h := J_iinc_9 hd (nI_1 j) hn hp k
theorem J_iload_10 {a0 a1 a2 a3 a4 a5 a6 a7 a8 a9 : Option Value} {t : List (Option Value)} {x : Int32} (hd : decode cc pc = .ok (.iload 10, 2)) (k : J X own cc nL d ret Q (pc + 2) (a0 :: a1 :: a2 :: a3 :: a4 :: a5 :: a6 :: a7 :: a8 :: a9 :: some (.int x) :: t) (.int x :: st) h) : J X own cc nL d ret Q pc (a0 :: a1 :: a2 :: a3 :: a4 :: a5 :: a6 :: a7 :: a8 :: a9 :: some (.int x) :: t) st h := J_iload hd rfl k
theorem J_istore_10 {a0 a1 a2 a3 a4 a5 a6 a7 a8 a9 : Option Value} {y : Option Value} {t : List (Option Value)} {x : Int32} (hd : decode cc pc = .ok (.istore 10, 2)) (hn : 10 < nL) (hp : lok a9 = true) (k : J X own cc nL d ret Q (pc + 2) (a0 :: a1 :: a2 :: a3 :: a4 :: a5 :: a6 :: a7 :: a8 :: a9 :: some (.int x) :: t) st h) : J X own cc nL d ret Q pc (a0 :: a1 :: a2 :: a3 :: a4 :: a5 :: a6 :: a7 :: a8 :: a9 :: y :: t) (.int x :: st) h := J_istore hd hn (fun j hj x hx => by have e : j = 9 := (by omega); subst e; cases hx; exact hp) k
theorem J_lload_10 {a0 a1 a2 a3 a4 a5 a6 a7 a8 a9 : Option Value} {t : List (Option Value)} {x : Int64} (hd : decode cc pc = .ok (.lload 10, 2)) (k : J X own cc nL d ret Q (pc + 2) (a0 :: a1 :: a2 :: a3 :: a4 :: a5 :: a6 :: a7 :: a8 :: a9 :: some (.long x) :: t) (.long x :: st) h) : J X own cc nL d ret Q pc (a0 :: a1 :: a2 :: a3 :: a4 :: a5 :: a6 :: a7 :: a8 :: a9 :: some (.long x) :: t) st h := J_lload hd rfl k
theorem J_lstore_10 {a0 a1 a2 a3 a4 a5 a6 a7 a8 a9 : Option Value} {y z : Option Value} {t : List (Option Value)} {x : Int64} (hd : decode cc pc = .ok (.lstore 10, 2)) (hn : 10 + 1 < nL) (hp : lok a9 = true) (k : J X own cc nL d ret Q (pc + 2) (a0 :: a1 :: a2 :: a3 :: a4 :: a5 :: a6 :: a7 :: a8 :: a9 :: some (.long x) :: none :: t) st h) : J X own cc nL d ret Q pc (a0 :: a1 :: a2 :: a3 :: a4 :: a5 :: a6 :: a7 :: a8 :: a9 :: y :: z :: t) (.long x :: st) h := J_lstore hd hn (fun j hj x hx => by have e : j = 9 := (by omega); subst e; cases hx; exact hp) k
theorem J_aload_10 {a0 a1 a2 a3 a4 a5 a6 a7 a8 a9 : Option Value} {t : List (Option Value)} {x : Nat} (hd : decode cc pc = .ok (.aload 10, 2)) (k : J X own cc nL d ret Q (pc + 2) (a0 :: a1 :: a2 :: a3 :: a4 :: a5 :: a6 :: a7 :: a8 :: a9 :: some (.ref x) :: t) (.ref x :: st) h) : J X own cc nL d ret Q pc (a0 :: a1 :: a2 :: a3 :: a4 :: a5 :: a6 :: a7 :: a8 :: a9 :: some (.ref x) :: t) st h := J_aload hd rfl k
theorem J_astore_10 {a0 a1 a2 a3 a4 a5 a6 a7 a8 a9 : Option Value} {y : Option Value} {t : List (Option Value)} {x : Nat} (hd : decode cc pc = .ok (.astore 10, 2)) (hn : 10 < nL) (hp : lok a9 = true) (k : J X own cc nL d ret Q (pc + 2) (a0 :: a1 :: a2 :: a3 :: a4 :: a5 :: a6 :: a7 :: a8 :: a9 :: some (.ref x) :: t) st h) : J X own cc nL d ret Q pc (a0 :: a1 :: a2 :: a3 :: a4 :: a5 :: a6 :: a7 :: a8 :: a9 :: y :: t) (.ref x :: st) h := J_astore hd hn (fun j hj x hx => by have e : j = 9 := (by omega); subst e; cases hx; exact hp) k
theorem J_iinc_10 {a0 a1 a2 a3 a4 a5 a6 a7 a8 a9 : Option Value} {t : List (Option Value)} {n : Int} {x v : Int32} (hd : decode cc pc = .ok (.iinc 10 n, 3)) (he : x + Int32.ofInt n = v) (hn : 10 < nL) (hp : lok a9 = true) (k : J X own cc nL d ret Q (pc + 3) (a0 :: a1 :: a2 :: a3 :: a4 :: a5 :: a6 :: a7 :: a8 :: a9 :: some (.int v) :: t) st h) : J X own cc nL d ret Q pc (a0 :: a1 :: a2 :: a3 :: a4 :: a5 :: a6 :: a7 :: a8 :: a9 :: some (.int x) :: t) st h := J_iinc hd rfl he hn (fun j hj x hx => by have e : j = 9 := (by omega); subst e; cases hx; exact hp) k
theorem J_inc_10 {a0 a1 a2 a3 a4 a5 a6 a7 a8 a9 : Option Value} {t : List (Option Value)} {j : Nat} (hd : decode cc pc = .ok (.iinc 10 1, 3)) (hn : 10 < nL) (hp : lok a9 = true) (k : J X own cc nL d ret Q (pc + 3) (a0 :: a1 :: a2 :: a3 :: a4 :: a5 :: a6 :: a7 :: a8 :: a9 :: some (.int (nI (j + 1))) :: t) st h) : J X own cc nL d ret Q pc (a0 :: a1 :: a2 :: a3 :: a4 :: a5 :: a6 :: a7 :: a8 :: a9 :: some (.int (nI j)) :: t) st h := J_iinc_10 hd (nI_1 j) hn hp k
theorem J_iload_11 {a0 a1 a2 a3 a4 a5 a6 a7 a8 a9 a10 : Option Value} {t : List (Option Value)} {x : Int32} (hd : decode cc pc = .ok (.iload 11, 2)) (k : J X own cc nL d ret Q (pc + 2) (a0 :: a1 :: a2 :: a3 :: a4 :: a5 :: a6 :: a7 :: a8 :: a9 :: a10 :: some (.int x) :: t) (.int x :: st) h) : J X own cc nL d ret Q pc (a0 :: a1 :: a2 :: a3 :: a4 :: a5 :: a6 :: a7 :: a8 :: a9 :: a10 :: some (.int x) :: t) st h := J_iload hd rfl k
theorem J_istore_11 {a0 a1 a2 a3 a4 a5 a6 a7 a8 a9 a10 : Option Value} {y : Option Value} {t : List (Option Value)} {x : Int32} (hd : decode cc pc = .ok (.istore 11, 2)) (hn : 11 < nL) (hp : lok a10 = true) (k : J X own cc nL d ret Q (pc + 2) (a0 :: a1 :: a2 :: a3 :: a4 :: a5 :: a6 :: a7 :: a8 :: a9 :: a10 :: some (.int x) :: t) st h) : J X own cc nL d ret Q pc (a0 :: a1 :: a2 :: a3 :: a4 :: a5 :: a6 :: a7 :: a8 :: a9 :: a10 :: y :: t) (.int x :: st) h := J_istore hd hn (fun j hj x hx => by have e : j = 10 := (by omega); subst e; cases hx; exact hp) k
theorem J_lload_11 {a0 a1 a2 a3 a4 a5 a6 a7 a8 a9 a10 : Option Value} {t : List (Option Value)} {x : Int64} (hd : decode cc pc = .ok (.lload 11, 2)) (k : J X own cc nL d ret Q (pc + 2) (a0 :: a1 :: a2 :: a3 :: a4 :: a5 :: a6 :: a7 :: a8 :: a9 :: a10 :: some (.long x) :: t) (.long x :: st) h) : J X own cc nL d ret Q pc (a0 :: a1 :: a2 :: a3 :: a4 :: a5 :: a6 :: a7 :: a8 :: a9 :: a10 :: some (.long x) :: t) st h := J_lload hd rfl k
theorem J_lstore_11 {a0 a1 a2 a3 a4 a5 a6 a7 a8 a9 a10 : Option Value} {y z : Option Value} {t : List (Option Value)} {x : Int64} (hd : decode cc pc = .ok (.lstore 11, 2)) (hn : 11 + 1 < nL) (hp : lok a10 = true) (k : J X own cc nL d ret Q (pc + 2) (a0 :: a1 :: a2 :: a3 :: a4 :: a5 :: a6 :: a7 :: a8 :: a9 :: a10 :: some (.long x) :: none :: t) st h) : J X own cc nL d ret Q pc (a0 :: a1 :: a2 :: a3 :: a4 :: a5 :: a6 :: a7 :: a8 :: a9 :: a10 :: y :: z :: t) (.long x :: st) h := J_lstore hd hn (fun j hj x hx => by have e : j = 10 := (by omega); subst e; cases hx; exact hp) k
theorem J_aload_11 {a0 a1 a2 a3 a4 a5 a6 a7 a8 a9 a10 : Option Value} {t : List (Option Value)} {x : Nat} (hd : decode cc pc = .ok (.aload 11, 2)) (k : J X own cc nL d ret Q (pc + 2) (a0 :: a1 :: a2 :: a3 :: a4 :: a5 :: a6 :: a7 :: a8 :: a9 :: a10 :: some (.ref x) :: t) (.ref x :: st) h) : J X own cc nL d ret Q pc (a0 :: a1 :: a2 :: a3 :: a4 :: a5 :: a6 :: a7 :: a8 :: a9 :: a10 :: some (.ref x) :: t) st h := J_aload hd rfl k
theorem J_astore_11 {a0 a1 a2 a3 a4 a5 a6 a7 a8 a9 a10 : Option Value} {y : Option Value} {t : List (Option Value)} {x : Nat} (hd : decode cc pc = .ok (.astore 11, 2)) (hn : 11 < nL) (hp : lok a10 = true) (k : J X own cc nL d ret Q (pc + 2) (a0 :: a1 :: a2 :: a3 :: a4 :: a5 :: a6 :: a7 :: a8 :: a9 :: a10 :: some (.ref x) :: t) st h) : J X own cc nL d ret Q pc (a0 :: a1 :: a2 :: a3 :: a4 :: a5 :: a6 :: a7 :: a8 :: a9 :: a10 :: y :: t) (.ref x :: st) h := J_astore hd hn (fun j hj x hx => by have e : j = 10 := (by omega); subst e; cases hx; exact hp) k
theorem J_iinc_11 {a0 a1 a2 a3 a4 a5 a6 a7 a8 a9 a10 : Option Value} {t : List (Option Value)} {n : Int} {x v : Int32} (hd : decode cc pc = .ok (.iinc 11 n, 3)) (he : x + Int32.ofInt n = v) (hn : 11 < nL) (hp : lok a10 = true) (k : J X own cc nL d ret Q (pc + 3) (a0 :: a1 :: a2 :: a3 :: a4 :: a5 :: a6 :: a7 :: a8 :: a9 :: a10 :: some (.int v) :: t) st h) : J X own cc nL d ret Q pc (a0 :: a1 :: a2 :: a3 :: a4 :: a5 :: a6 :: a7 :: a8 :: a9 :: a10 :: some (.int x) :: t) st h := J_iinc hd rfl he hn (fun j hj x hx => by have e : j = 10 := (by omega); subst e; cases hx; exact hp) k
theorem J_inc_11 {a0 a1 a2 a3 a4 a5 a6 a7 a8 a9 a10 : Option Value} {t : List (Option Value)} {j : Nat} (hd : decode cc pc = .ok (.iinc 11 1, 3)) (hn : 11 < nL) (hp : lok a10 = true) (k : J X own cc nL d ret Q (pc + 3) (a0 :: a1 :: a2 :: a3 :: a4 :: a5 :: a6 :: a7 :: a8 :: a9 :: a10 :: some (.int (nI (j + 1))) :: t) st h) : J X own cc nL d ret Q pc (a0 :: a1 :: a2 :: a3 :: a4 :: a5 :: a6 :: a7 :: a8 :: a9 :: a10 :: some (.int (nI j)) :: t) st h := J_iinc_11 hd (nI_1 j) hn hp k
end JL
end
section
section JC
variable {X : Cx} {own : String} {cc : ByteArray} {nL d : Nat} {ret : Option FieldType} {Q : Option Value → HF → Prop} {pc : Nat} {ls : List (Option Value)} {st : List Value} {h : HF}
theorem jgoodM {M : jMI} (hM : jM M) : GoodIn jtb (Cond.code M.1 M.2.1 M.2.2.1 M.2.2.2 :: jtb) := by
  intro w hw
  rcases List.mem_cons.mp hw with rfl | hw
  · exact jgood _ hM.2.1
  · exact jgood _ hw
theorem jblind {a : List Value} : FrameBlind (va_Pc (a.map (mv X)) (jW X h)) := fun a U g mk q =>
  ⟨q.1, q.2.1, va_K.moved (u := U) (U := U.calling g mk a) (Vm.Alike.refl U.vm) q.2.2.1, q.2.2.2.1, jst.moved (u := U) (U := U.calling g mk a) (Vm.Alike.refl U.vm) q.2.2.2.2.1, ⟨va_Nw.same rfl (u := U) rfl q.2.2.2.2.2.1, va_Nw.same rfl (u := U) rfl q.2.2.2.2.2.2⟩⟩
theorem jpre {s : State} {H : Heap} {locs : List Loc} (hP : va_P (jD X) jcl (wl X h) H) (hK : va_K (jD X) jcl (jty X) s) (hi : jinj X) (hst : jst X s s.heap) (hnn : jnest s) (hS : va_S (jS X) s.heap H locs) (U : State) (hU : U.heap = H) (hW : s.WarmedH U.vm) : jW X h U := by
  refine ⟨by rw [hU]; exact hP, va_K.moved hW.alike hK, hi, ?_, ⟨va_Nw.warmM hW hnn.1, va_Nw.warmM hW hnn.2⟩⟩
  rw [hU]
  exact (hst.kept hS.1 (fun a h1 h2 => hS.2.1 a h1 h2)).moved hW.alike
/-- behind a call -/
theorem jcall {Qc : Option Value → HF → Prop} {p : Program} {l : Launch} {e : Env} {R : Room} {s : State} {m : MethodId} {args : Array Value} {below : List Frame} {meth : Method} {c : Code} {kc ks : Nat} {Z : State → Prop} {H : Heap} {locs : List Loc} {la : Array Slot} {stk : List Value}
    (C0 : jCtx X own cc nL d p R s m args c kc ks) (hR : jRet X cc ret Q p l e R s m args below meth c kc ks Z) (hla : lv_has la nL (jls X 0 ls)) (hS : va_S (jS X) s.heap H locs)
    (run : va_Run p l e R s m args below meth c H locs kc ks 0 0 (F0 m pc la stk) (st.map (mv X)) (fun st oc t => (∃ (r : Option Value) (h' : HF), oc = .returned (r.map (mv X)) ∧ Qc r h' ∧ va_P (jD X) jcl (wl X h') t.heap) ∧ va_F (jS X) st t) (jS X))
    (k : ∀ (r : Option Value) (h' : HF), Qc r h' → J X own cc nL d ret Q (pc + 3) ls (r.toList ++ st) h') : W p l e R s m args below meth c H locs kc ks Z (F0 m pc la stk) := by
  intro T hT XX
  obtain ⟨v, st₀, t, T', L, h0, X', hL, e1, e2, ⟨⟨r, h', hv, hq, hb⟩, hz, hk⟩, go⟩ := run T hT XX
  cases hv
  rw [h0] at hz hk
  have hS' : va_S (jS X) s.heap T'.heap (locs ++ L) := by
    refine ⟨Nat.le_trans hS.1 (by rw [e1]; exact hz), fun q h1 h2 => ?_, fun q hq => ?_⟩
    · rw [e1, hk q (Nat.lt_of_lt_of_le h1 hS.1) h2]
      exact hS.2.1 q h1 h2
    · rcases List.mem_append.mp hq with z | z
      · exact hS.2.2 q z
      · exact hL q z
  obtain ⟨t2, a1, b1⟩ := k r h' hq p l e R s m args below meth c kc ks Z C0 hR T'.heap (locs ++ L) la hla (by rw [e1]; exact hb) hS' T' rfl X'
  refine ⟨t2, go t2 ?_, b1⟩
  have e3 : (r.toList ++ st).map (mv X) = (r.map (mv X)).toList ++ st.map (mv X) := by
    rw [List.map_append]
    cases r <;> rfl
  rw [← e3]
  exact a1
theorem J_callV {idx b ci d' n : Nat} {M : jMI} {As stk vs : List Value} {T : u_T} {N : Nat} {Qc : Option Value → HF → Prop} (hd : decode cc pc = .ok (.invokevirtual idx, 3)) (hM : jM M) (hl : jMV own idx M n) (hb : hAt h b (oB ci vs)) (hci : jcl[ci]? = some (M.1.cls, T, N)) (hn : As.length = n) (hs : stk = As.reverse ++ .ref b :: st) (hw : (st.map fun v => v.category).sum ≤ 8) (hdd : d' < d)
    (ct : Ct X M d' (.ref b :: As) h Qc) (k : ∀ (r : Option Value) (h' : HF), Qc r h' → J X own cc nL d ret Q (pc + 3) ls (r.toList ++ st) h') : J X own cc nL d ret Q pc ls stk h := by
  intro p l e R s m args below meth c kc ks Z C0 hR H locs la hla hP hS
  subst hs
  obtain ⟨hx, hb', hml, hown, hts, hK, hi, hst, hrm, hkc, hks, hnn⟩ := id C0
  obtain ⟨l1, l2, l3, l4⟩ := hl
  obtain ⟨hb1, hb2⟩ := hb
  have hMM := hM
  obtain ⟨m1, m2, m3, m4, m5⟩ := hM
  have cb : CallB R s args own idx M.1 M.2.1 M.2.2.1 M.2.2.2 (Cond.code M.1 M.2.1 M.2.2.1 M.2.2.2 :: jtb) (jrm d') 0 0 n := callB_of n hts (jgoodM hMM) rfl rfl rfl (hts _ m3) (hts _ l1) ⟨m4.1, m4.2, l4⟩ ⟨by show d' + 1 ≤ R.frames; omega, by show 8 + (M.2.2.1 + 11) + 35 * d' ≤ R.locals; omega⟩
  have run := va_runV (b := jad X b) (As := As.map (mv X)) (rest := st.map (mv X)) (H := H) (locs := locs) (cells := kc) (slots := ks) (below := below) (meth := meth) (e := e) (g := F0 m pc la ((As.reverse ++ .ref b :: st).map (mv X))) ⟨hx, hb', hml, hown, hts⟩ (ct l) ⟨cb, hts _ l2, hts _ l3⟩
    ⟨jblind, va_recv hK hP hci (q0 := b) (fs := vs.map (mv X)) (by rw [wl_at hb1, hb2]; rfl), fun U hU hW => ⟨rfl, jpre hP hK hi hst hnn hS U hU hW⟩⟩ rfl (by rw [List.length_map]; exact hn) hla.1 (by show List.map (mv X) _ = _; rw [List.map_append, List.map_reverse]; rfl) (lv_room (by rw [mv_cats]; exact hw)) hd ⟨hkc, hks⟩
  exact jcall C0 hR hla hS run k
theorem J_callS {idx d' n : Nat} {M : jMI} {As stk : List Value} {Qc : Option Value → HF → Prop} (hd : decode cc pc = .ok (.invokestatic idx, 3)) (hM : jM M) (hl : jMS own idx M n) (hn : As.length = n) (hs : stk = As.reverse ++ st) (hw : (st.map fun v => v.category).sum ≤ 8) (hdd : d' < d)
    (ct : Ct X M d' As h Qc) (k : ∀ (r : Option Value) (h' : HF), Qc r h' → J X own cc nL d ret Q (pc + 3) ls (r.toList ++ st) h') : J X own cc nL d ret Q pc ls stk h := by
  intro p l e R s m args below meth c kc ks Z C0 hR H locs la hla hP hS
  subst hs
  obtain ⟨hx, hb', hml, hown, hts, hK, hi, hst, hrm, hkc, hks, hnn⟩ := id C0
  obtain ⟨l1, l2, l4⟩ := hl
  have hMM := hM
  obtain ⟨m1, m2, m3, m4, m5⟩ := hM
  have cb : CallB R s args own idx M.1 M.2.1 M.2.2.1 M.2.2.2 (Cond.code M.1 M.2.1 M.2.2.1 M.2.2.2 :: jtb) (jrm d') 0 0 n := callB_of n hts (jgoodM hMM) rfl rfl rfl (hts _ m3) (hts _ l1) ⟨m4.1, m4.2, l4⟩ ⟨by show d' + 1 ≤ R.frames; omega, by show 8 + (M.2.2.1 + 11) + 35 * d' ≤ R.locals; omega⟩
  have run := va_runS (As := As.map (mv X)) (rest := st.map (mv X)) (H := H) (locs := locs) (cells := kc) (slots := ks) (below := below) (meth := meth) (e := e) (g := F0 m pc la ((As.reverse ++ st).map (mv X))) ⟨hx, hb', hml, hown, hts⟩ (ct l) ⟨cb, hts _ l2⟩
    ⟨jblind, fun U hU hW => ⟨rfl, jpre hP hK hi hst hnn hS U hU hW⟩⟩ rfl (by rw [List.length_map]; exact hn) hla.1 (by show List.map (mv X) _ = _; rw [List.map_append, List.map_reverse]) (lv_room (by rw [mv_cats]; exact hw)) hd ⟨hkc, hks⟩
  exact jcall C0 hR hla hS run k
theorem J_callN {idx d' n : Nat} {host : String} {M : jMI} {As stk : List Value} {Qc : Option Value → HF → Prop} (hd : decode cc pc = .ok (.invokestatic idx, 3)) (hM : jM M) (hl : jMN own idx M n host) (hn : As.length = n) (hs : stk = As.reverse ++ st) (hw : (st.map fun v => v.category).sum ≤ 8) (hdd : d' < d)
    (ct : Ct X M d' As h Qc) (k : ∀ (r : Option Value) (h' : HF), Qc r h' → J X own cc nL d ret Q (pc + 3) ls (r.toList ++ st) h') : J X own cc nL d ret Q pc ls stk h := by
  intro p l e R s m args below meth c kc ks Z C0 hR H locs la hla hP hS
  subst hs
  obtain ⟨hx, hb', hml, hown, hts, hK, hi, hst, hrm, hkc, hks, hnn⟩ := id C0
  obtain ⟨l1, l2, l4⟩ := hl
  have hMM := hM
  obtain ⟨m1, m2, m3, m4, m5⟩ := hM
  have cn : va_CN R s args own idx M.1 host M.2.1 M.2.2.1 M.2.2.2 (Cond.code M.1 M.2.1 M.2.2.1 M.2.2.2 :: jtb) (jrm d') 0 0 n := va_cnB n hts (jgoodM hMM) rfl rfl rfl (l1 s hnn) (hts _ m3) ⟨m4.1, m4.2, l4⟩ ⟨by show d' + 1 ≤ R.frames; omega, by show 8 + (M.2.2.1 + 11) + 35 * d' ≤ R.locals; omega⟩
  have run := va_runSN (As := As.map (mv X)) (rest := st.map (mv X)) (H := H) (locs := locs) (cells := kc) (slots := ks) (below := below) (meth := meth) (e := e) (g := F0 m pc la ((As.reverse ++ st).map (mv X))) ⟨hx, hb', hml, hown, hts⟩ (ct l) ⟨cn, hts _ l2, trivial⟩
    ⟨jblind, fun U hU hW => ⟨rfl, jpre hP hK hi hst hnn hS U hU hW⟩⟩ rfl (by rw [List.length_map]; exact hn) hla.1 (by show List.map (mv X) _ = _; rw [List.map_append, List.map_reverse]) (lv_room (by rw [mv_cats]; exact hw)) hd ⟨hkc, hks⟩
  exact jcall C0 hR hla hS run k
end JC
/-- a contract out of the walk of the body -/
theorem Ct_of {X : Cx} {M : jMI} {d : Nat} {args : List Value} {h : HF} {Q : Option Value → HF → Prop} (hM : jM M) (ls : List (Option Value)) (hle : (lg_sl (args.map (mv X))).length ≤ M.2.2.1) (hls : jls X 0 ls = lv_args 0 (args.map (mv X))) (hj : J X M.1.cls M.2.1 M.2.2.1 d M.2.2.2 Q 0 ls [] h) : Ct X M d args h Q := by
  intro l
  refine Met.ofW (cc := M.2.1) (maxL := M.2.2.1) (ret := M.2.2.2) hM.1 rfl ?_
  intro p e s m args' below meth c s₁ B hml hv
  obtain ⟨rfl, hP, hK, hi, hst, hnn⟩ := hv
  have hts0 := atoms_spec (ws := Cond.code M.1 M.2.1 M.2.2.1 M.2.2.2 :: jtb) B.pre
  have hown : s.vm.findClass M.1.cls = some m.cls := findClass_of_methodNamed B.named
  have hlk := B.notSynchronized
  rw [lg_entry_eq]
  have hl := lv_entry (args.map (mv X)) (n := M.2.2.1) hle
  rw [← hls] at hl
  refine hj p l e _ s m _ below meth c 0 0 _ ⟨B.exec, B.bytes, hml, hown, fun w hw => hts0 w (List.mem_cons_of_mem _ hw), hK, hi, hst, ⟨Nat.le_refl _, Nat.le_refl _⟩, Nat.zero_le _, Nat.zero_le _, hnn⟩ ?_ s.heap [] _ hl hP va_S.rf
  intro H locs la pc r h' hQ hok hP' hS'
  match r, hok with
  | none, hok =>
    exact W.vret B.exec B.bytes (B.returns.trans hok.1) (fun t ht hW => ⟨⟨none, h', rfl, hQ, by rw [ht]; exact hP'⟩, hS'.F ht⟩) hS'.2.2 hok.2 hlk
  | some (.int v), hok =>
    obtain ⟨h1, h2 | ⟨h2, h3⟩⟩ := hok
    · exact W.iret B.exec B.bytes (B.returns.trans h2) (fun t ht hW => ⟨⟨some (.int v), h', rfl, hQ, by rw [ht]; exact hP'⟩, hS'.F ht⟩) hS'.2.2 h1 hlk
    · refine W.zret (ty := .boolean) B.exec B.bytes (B.returns.trans h2) ?_ (fun t ht hW => ⟨⟨some (.int v), h', rfl, hQ, by rw [ht]; exact hP'⟩, hS'.F ht⟩) hS'.2.2 h1 hlk
      rcases h3 with rfl | rfl <;> rfl
  | some (.long v), hok =>
    exact W.lret B.exec B.bytes (B.returns.trans hok.1) (fun t ht hW => ⟨⟨some (.long v), h', rfl, hQ, by rw [ht]; exact hP'⟩, hS'.F ht⟩) hS'.2.2 hok.2 hlk
  | some (.ref v), hok =>
    obtain ⟨h1, n, h2⟩ := hok
    exact W.aret (rt := .object n) B.exec B.bytes (B.returns.trans h2) (Or.inl ⟨n, rfl⟩) (Or.inr ⟨_, rfl⟩) (fun t ht hW => ⟨⟨some (.ref v), h', rfl, hQ, by rw [ht]; exact hP'⟩, hS'.F ht⟩) hS'.2.2 h1 hlk
end
section
/-! rules where the numbers are small naturals, and calls whose answer is one number and whose heap stays -/
def bI (P : Prop) [Decidable P] : Int32 := if P then 1 else 0
theorem bI_t {P : Prop} [Decidable P] (h : P) : bI P = 1 := if_pos h
theorem bI_f {P : Prop} [Decidable P] (h : ¬ P) : bI P = 0 := if_neg h
theorem bI_01 (P : Prop) [Decidable P] : bI P = 0 ∨ bI P = 1 := by
  by_cases h : P
  · exact Or.inr (bI_t h)
  · exact Or.inl (bI_f h)
theorem bI_z {P : Prop} [Decidable P] : bI P = 0 ↔ ¬ P := by
  by_cases h : P
  · rw [bI_t h]; exact ⟨fun z => absurd z (by decide), fun z => absurd h z⟩
  · rw [bI_f h]; exact ⟨fun _ => h, fun _ => rfl⟩
theorem nI_1e : nI 1 = 1 := rfl
theorem nz_eq {n : Nat} (h : n < 2 ^ 31) : nI n = 0 ↔ n = 0 := by
  rw [← nI_0, nI_eq h (by decide)]
theorem nz_lt {n : Nat} (h : n < 2 ^ 31) : ¬ nI n < 0 := nI_pos h
theorem nz_le {n : Nat} (h : n < 2 ^ 31) : nI n ≤ 0 ↔ n = 0 := by
  rw [← nI_0, nI_leI h (by decide)]; omega
theorem nz_pos {n : Nat} (h : n < 2 ^ 31) : 0 < nI n ↔ 0 < n := by
  rw [← nI_0, nI_ltI (by decide) h]
abbrev CtI (X : Cx) (M : jMI) (d : Nat) (args : List Value) (h : HF) (v : Int32) : Prop := Ct X M d args h (fun r h' => r = some (.int v) ∧ h' = h)
theorem Ct.mono {X : Cx} {M : jMI} {d : Nat} {args : List Value} {h : HF} {Q Q' : Option Value → HF → Prop} (c : Ct X M d args h Q) (hq : ∀ r h', Q r h' → Q' r h') : Ct X M d args h Q' := by
  intro l
  have hM := c l
  intro p e ha hc hk s m args' below hf happ hP hK
  obtain ⟨t, o, a1, a2, a3, ⟨⟨⟨r, h', b1, b2, b3⟩, b4⟩, b5⟩⟩ := hM p e ha hc hk s m args' below hf happ hP hK
  exact ⟨t, o, a1, a2, a3, ⟨⟨⟨r, h', b1, hq r h' b2, b3⟩, b4⟩, b5⟩⟩
section JN
variable {X : Cx} {own : String} {cc : ByteArray} {nL d : Nat} {ret : Option FieldType} {Q : Option Value → HF → Prop} {pc : Nat} {ls : List (Option Value)} {st : List Value} {h : HF}
theorem J_iaddN {a b : Nat} (hd : decode cc pc = .ok (.iadd, 1)) (k : J X own cc nL d ret Q (pc + 1) ls (.int (nI (a + b)) :: st) h) : J X own cc nL d ret Q pc ls (.int (nI b) :: .int (nI a) :: st) h := J_iadd hd (J_topi (nI_add a b) k)
theorem J_imulN {a b : Nat} (hd : decode cc pc = .ok (.imul, 1)) (k : J X own cc nL d ret Q (pc + 1) ls (.int (nI (a * b)) :: st) h) : J X own cc nL d ret Q pc ls (.int (nI b) :: .int (nI a) :: st) h := J_imul hd (J_topi (pk_mul a b) k)
theorem J_isubN {a b : Nat} (hd : decode cc pc = .ok (.isub, 1)) (hb : b ≤ a) (k : J X own cc nL d ret Q (pc + 1) ls (.int (nI (a - b)) :: st) h) : J X own cc nL d ret Q pc ls (.int (nI b) :: .int (nI a) :: st) h := J_isub hd (J_topi (pk_sub hb) k)
theorem J_idivN {a b : Nat} (hd : decode cc pc = .ok (.idiv, 1)) (ha : a < 2 ^ 31) (h0 : 0 < b) (hb : b < 2 ^ 31) (k : J X own cc nL d ret Q (pc + 1) ls (.int (nI (a / b)) :: st) h) : J X own cc nL d ret Q pc ls (.int (nI b) :: .int (nI a) :: st) h := J_idiv hd (nI_ne0 h0 hb) (J_topi (pk_div ha h0 hb) k)
theorem J_iremN {a b : Nat} (hd : decode cc pc = .ok (.irem, 1)) (ha : a < 2 ^ 31) (h0 : 0 < b) (hb : b < 2 ^ 31) (k : J X own cc nL d ret Q (pc + 1) ls (.int (nI (a % b)) :: st) h) : J X own cc nL d ret Q pc ls (.int (nI b) :: .int (nI a) :: st) h := J_irem hd (nI_ne0 h0 hb) (J_topi (pk_rem ha h0 hb) k)
theorem J_icmp_eqN {a b : Nat} {off : Int} {tgt : Nat} (hd : decode cc pc = .ok (.if_icmp .eq off, 3)) (ht : (pc : Int) + off = (tgt : Int)) (ha : a < 2 ^ 31) (hb : b < 2 ^ 31) (kt : a = b → J X own cc nL d ret Q tgt ls st h) (kf : ¬ a = b → J X own cc nL d ret Q (pc + 3) ls st h) : J X own cc nL d ret Q pc ls (.int (nI b) :: .int (nI a) :: st) h := J_icmp_eq hd ht (fun z => kt ((nI_eq ha hb).mp z)) (fun z => kf (fun w => z ((nI_eq ha hb).mpr w)))
theorem J_icmp_neN {a b : Nat} {off : Int} {tgt : Nat} (hd : decode cc pc = .ok (.if_icmp .ne off, 3)) (ht : (pc : Int) + off = (tgt : Int)) (ha : a < 2 ^ 31) (hb : b < 2 ^ 31) (kt : ¬ a = b → J X own cc nL d ret Q tgt ls st h) (kf : a = b → J X own cc nL d ret Q (pc + 3) ls st h) : J X own cc nL d ret Q pc ls (.int (nI b) :: .int (nI a) :: st) h := J_icmp_ne hd ht (fun z => kt (fun w => z ((nI_eq ha hb).mpr w))) (fun z => kf ((nI_eq ha hb).mp z))
theorem J_icmp_ltN {a b : Nat} {off : Int} {tgt : Nat} (hd : decode cc pc = .ok (.if_icmp .lt off, 3)) (ht : (pc : Int) + off = (tgt : Int)) (ha : a < 2 ^ 31) (hb : b < 2 ^ 31) (kt : a < b → J X own cc nL d ret Q tgt ls st h) (kf : b ≤ a → J X own cc nL d ret Q (pc + 3) ls st h) : J X own cc nL d ret Q pc ls (.int (nI b) :: .int (nI a) :: st) h := J_icmp_lt hd ht (fun z => kt ((nI_ltI ha hb).mp z)) (fun z => kf (Nat.le_of_not_lt fun w => z ((nI_ltI ha hb).mpr w)))
theorem J_icmp_geN {a b : Nat} {off : Int} {tgt : Nat} (hd : decode cc pc = .ok (.if_icmp .ge off, 3)) (ht : (pc : Int) + off = (tgt : Int)) (ha : a < 2 ^ 31) (hb : b < 2 ^ 31) (kt : b ≤ a → J X own cc nL d ret Q tgt ls st h) (kf : a < b → J X own cc nL d ret Q (pc + 3) ls st h) : J X own cc nL d ret Q pc ls (.int (nI b) :: .int (nI a) :: st) h := J_icmp_ge hd ht (fun z => kt ((nI_leI hb ha).mp z)) (fun z => kf (Nat.lt_of_not_le fun w => z ((nI_leI hb ha).mpr w)))
theorem J_icmp_gtN {a b : Nat} {off : Int} {tgt : Nat} (hd : decode cc pc = .ok (.if_icmp .gt off, 3)) (ht : (pc : Int) + off = (tgt : Int)) (ha : a < 2 ^ 31) (hb : b < 2 ^ 31) (kt : b < a → J X own cc nL d ret Q tgt ls st h) (kf : a ≤ b → J X own cc nL d ret Q (pc + 3) ls st h) : J X own cc nL d ret Q pc ls (.int (nI b) :: .int (nI a) :: st) h := J_icmp_gt hd ht (fun z => kt ((nI_ltI hb ha).mp z)) (fun z => kf (Nat.le_of_not_lt fun w => z ((nI_ltI hb ha).mpr w)))
theorem J_icmp_leN {a b : Nat} {off : Int} {tgt : Nat} (hd : decode cc pc = .ok (.if_icmp .le off, 3)) (ht : (pc : Int) + off = (tgt : Int)) (ha : a < 2 ^ 31) (hb : b < 2 ^ 31) (kt : a ≤ b → J X own cc nL d ret Q tgt ls st h) (kf : b < a → J X own cc nL d ret Q (pc + 3) ls st h) : J X own cc nL d ret Q pc ls (.int (nI b) :: .int (nI a) :: st) h := J_icmp_le hd ht (fun z => kt ((nI_leI ha hb).mp z)) (fun z => kf (Nat.lt_of_not_le fun w => z ((nI_leI ha hb).mpr w)))
theorem J_if_eqN {a : Nat} {off : Int} {tgt : Nat} (hd : decode cc pc = .ok (.ifCond .eq off, 3)) (ht : (pc : Int) + off = (tgt : Int)) (ha : a < 2 ^ 31) (kt : a = 0 → J X own cc nL d ret Q tgt ls st h) (kf : 0 < a → J X own cc nL d ret Q (pc + 3) ls st h) : J X own cc nL d ret Q pc ls (.int (nI a) :: st) h := J_if_eq hd ht (fun z => kt ((nz_eq ha).mp z)) (fun z => kf (Nat.pos_of_ne_zero fun w => z ((nz_eq ha).mpr w)))
theorem J_if_neN {a : Nat} {off : Int} {tgt : Nat} (hd : decode cc pc = .ok (.ifCond .ne off, 3)) (ht : (pc : Int) + off = (tgt : Int)) (ha : a < 2 ^ 31) (kt : 0 < a → J X own cc nL d ret Q tgt ls st h) (kf : a = 0 → J X own cc nL d ret Q (pc + 3) ls st h) : J X own cc nL d ret Q pc ls (.int (nI a) :: st) h := J_if_ne hd ht (fun z => kt (Nat.pos_of_ne_zero fun w => z ((nz_eq ha).mpr w))) (fun z => kf ((nz_eq ha).mp z))
theorem J_if_gtN {a : Nat} {off : Int} {tgt : Nat} (hd : decode cc pc = .ok (.ifCond .gt off, 3)) (ht : (pc : Int) + off = (tgt : Int)) (ha : a < 2 ^ 31) (kt : 0 < a → J X own cc nL d ret Q tgt ls st h) (kf : a = 0 → J X own cc nL d ret Q (pc + 3) ls st h) : J X own cc nL d ret Q pc ls (.int (nI a) :: st) h := J_if_gt hd ht (fun z => kt ((nz_pos ha).mp z)) (fun z => kf (Nat.eq_zero_of_not_pos fun q => z ((nz_pos ha).mpr q)))
theorem J_if_leN {a : Nat} {off : Int} {tgt : Nat} (hd : decode cc pc = .ok (.ifCond .le off, 3)) (ht : (pc : Int) + off = (tgt : Int)) (ha : a < 2 ^ 31) (kt : a = 0 → J X own cc nL d ret Q tgt ls st h) (kf : 0 < a → J X own cc nL d ret Q (pc + 3) ls st h) : J X own cc nL d ret Q pc ls (.int (nI a) :: st) h := J_if_le hd ht (fun z => kt ((nz_le ha).mp z)) (fun z => kf (Nat.pos_of_ne_zero fun q => z ((nz_le ha).mpr q)))
theorem J_if_ltN {a : Nat} {off : Int} {tgt : Nat} (hd : decode cc pc = .ok (.ifCond .lt off, 3)) (ht : (pc : Int) + off = (tgt : Int)) (ha : a < 2 ^ 31) (kf : J X own cc nL d ret Q (pc + 3) ls st h) : J X own cc nL d ret Q pc ls (.int (nI a) :: st) h := J_if_lt hd ht (fun z => absurd z (nI_pos ha)) (fun _ => kf)
theorem J_if_geN {a : Nat} {off : Int} {tgt : Nat} (hd : decode cc pc = .ok (.ifCond .ge off, 3)) (ht : (pc : Int) + off = (tgt : Int)) (ha : a < 2 ^ 31) (kt : J X own cc nL d ret Q tgt ls st h) : J X own cc nL d ret Q pc ls (.int (nI a) :: st) h := J_if_ge hd ht (fun _ => kt) (fun z => absurd (nI_pos' ha) z)
theorem J_if_eqB {P : Prop} {dp : Decidable P} {off : Int} {tgt : Nat} (hd : decode cc pc = .ok (.ifCond .eq off, 3)) (ht : (pc : Int) + off = (tgt : Int)) (kt : ¬ P → J X own cc nL d ret Q tgt ls st h) (kf : P → J X own cc nL d ret Q (pc + 3) ls st h) : J X own cc nL d ret Q pc ls (.int (bI P) :: st) h := J_if_eq hd ht (fun z => kt (bI_z.mp z)) (fun z => kf (Decidable.byContradiction fun w => z (bI_z.mpr w)))
theorem J_if_neB {P : Prop} {dp : Decidable P} {off : Int} {tgt : Nat} (hd : decode cc pc = .ok (.ifCond .ne off, 3)) (ht : (pc : Int) + off = (tgt : Int)) (kt : P → J X own cc nL d ret Q tgt ls st h) (kf : ¬ P → J X own cc nL d ret Q (pc + 3) ls st h) : J X own cc nL d ret Q pc ls (.int (bI P) :: st) h := J_if_ne hd ht (fun z => kt (Decidable.byContradiction fun w => z (bI_z.mpr w))) (fun z => kf (bI_z.mp z))
theorem J_zretB {P : Prop} {dp : Decidable P} (hd : decode cc pc = .ok (.ireturn, 1)) (hr : ret = some .boolean) (hq : Q (some (.int (bI P))) h) : J X own cc nL d ret Q pc ls [.int (bI P)] h := J_zret hd hr (bI_01 P) hq
theorem J_cV0i {idx d' : Nat} {M : jMI} {b ci N : Nat} {vs : List Value} {T : u_T} (hd : decode cc pc = .ok (.invokevirtual idx, 3)) (hM : jM M) (hl : jMV own idx M 0) (hb : hAt h b (oB ci vs)) (hci : jcl[ci]? = some (M.1.cls, T, N)) (hw : (st.map fun v => v.category).sum ≤ 8) (hdd : d' < d) {v : Int32} (ct : CtI X M d' (.ref b :: []) h v) (k : J X own cc nL d ret Q (pc + 3) ls (.int v :: st) h) : J X own cc nL d ret Q pc ls (.ref b :: st) h := J_callV hd hM hl hb hci (As := []) rfl rfl hw hdd ct (fun r h' q => by obtain ⟨rfl, rfl⟩ := q; exact k)
theorem J_cV0 {idx d' : Nat} {M : jMI} {b ci N : Nat} {vs : List Value} {T : u_T} (hd : decode cc pc = .ok (.invokevirtual idx, 3)) (hM : jM M) (hl : jMV own idx M 0) (hb : hAt h b (oB ci vs)) (hci : jcl[ci]? = some (M.1.cls, T, N)) (hw : (st.map fun v => v.category).sum ≤ 8) (hdd : d' < d) {Qc : Option Value → HF → Prop} (ct : Ct X M d' (.ref b :: []) h Qc) (k : ∀ (r : Option Value) (h' : HF), Qc r h' → J X own cc nL d ret Q (pc + 3) ls (r.toList ++ st) h') : J X own cc nL d ret Q pc ls (.ref b :: st) h := J_callV hd hM hl hb hci (As := []) rfl rfl hw hdd ct k
theorem J_cV1i {idx d' : Nat} {M : jMI} {b ci N : Nat} {vs : List Value} {T : u_T} {a1 : Value} (hd : decode cc pc = .ok (.invokevirtual idx, 3)) (hM : jM M) (hl : jMV own idx M 1) (hb : hAt h b (oB ci vs)) (hci : jcl[ci]? = some (M.1.cls, T, N)) (hw : (st.map fun v => v.category).sum ≤ 8) (hdd : d' < d) {v : Int32} (ct : CtI X M d' (.ref b :: [a1]) h v) (k : J X own cc nL d ret Q (pc + 3) ls (.int v :: st) h) : J X own cc nL d ret Q pc ls (a1 :: .ref b :: st) h := J_callV hd hM hl hb hci (As := [a1]) rfl rfl hw hdd ct (fun r h' q => by obtain ⟨rfl, rfl⟩ := q; exact k)
theorem J_cV1 {idx d' : Nat} {M : jMI} {b ci N : Nat} {vs : List Value} {T : u_T} {a1 : Value} (hd : decode cc pc = .ok (.invokevirtual idx, 3)) (hM : jM M) (hl : jMV own idx M 1) (hb : hAt h b (oB ci vs)) (hci : jcl[ci]? = some (M.1.cls, T, N)) (hw : (st.map fun v => v.category).sum ≤ 8) (hdd : d' < d) {Qc : Option Value → HF → Prop} (ct : Ct X M d' (.ref b :: [a1]) h Qc) (k : ∀ (r : Option Value) (h' : HF), Qc r h' → J X own cc nL d ret Q (pc + 3) ls (r.toList ++ st) h') : J X own cc nL d ret Q pc ls (a1 :: .ref b :: st) h := J_callV hd hM hl hb hci (As := [a1]) rfl rfl hw hdd ct k
theorem J_cV2i {idx d' : Nat} {M : jMI} {b ci N : Nat} {vs : List Value} {T : u_T} {a1 a2 : Value} (hd : decode cc pc = .ok (.invokevirtual idx, 3)) (hM : jM M) (hl : jMV own idx M 2) (hb : hAt h b (oB ci vs)) (hci : jcl[ci]? = some (M.1.cls, T, N)) (hw : (st.map fun v => v.category).sum ≤ 8) (hdd : d' < d) {v : Int32} (ct : CtI X M d' (.ref b :: [a1, a2]) h v) (k : J X own cc nL d ret Q (pc + 3) ls (.int v :: st) h) : J X own cc nL d ret Q pc ls (a2 :: a1 :: .ref b :: st) h := J_callV hd hM hl hb hci (As := [a1, a2]) rfl rfl hw hdd ct (fun r h' q => by obtain ⟨rfl, rfl⟩ := q; exact k)
theorem J_cV2 {idx d' : Nat} {M : jMI} {b ci N : Nat} {vs : List Value} {T : u_T} {a1 a2 : Value} (hd : decode cc pc = .ok (.invokevirtual idx, 3)) (hM : jM M) (hl : jMV own idx M 2) (hb : hAt h b (oB ci vs)) (hci : jcl[ci]? = some (M.1.cls, T, N)) (hw : (st.map fun v => v.category).sum ≤ 8) (hdd : d' < d) {Qc : Option Value → HF → Prop} (ct : Ct X M d' (.ref b :: [a1, a2]) h Qc) (k : ∀ (r : Option Value) (h' : HF), Qc r h' → J X own cc nL d ret Q (pc + 3) ls (r.toList ++ st) h') : J X own cc nL d ret Q pc ls (a2 :: a1 :: .ref b :: st) h := J_callV hd hM hl hb hci (As := [a1, a2]) rfl rfl hw hdd ct k
theorem J_cV3i {idx d' : Nat} {M : jMI} {b ci N : Nat} {vs : List Value} {T : u_T} {a1 a2 a3 : Value} (hd : decode cc pc = .ok (.invokevirtual idx, 3)) (hM : jM M) (hl : jMV own idx M 3) (hb : hAt h b (oB ci vs)) (hci : jcl[ci]? = some (M.1.cls, T, N)) (hw : (st.map fun v => v.category).sum ≤ 8) (hdd : d' < d) {v : Int32} (ct : CtI X M d' (.ref b :: [a1, a2, a3]) h v) (k : J X own cc nL d ret Q (pc + 3) ls (.int v :: st) h) : J X own cc nL d ret Q pc ls (a3 :: a2 :: a1 :: .ref b :: st) h := J_callV hd hM hl hb hci (As := [a1, a2, a3]) rfl rfl hw hdd ct (fun r h' q => by obtain ⟨rfl, rfl⟩ := q; exact k)
theorem J_cV3 {idx d' : Nat} {M : jMI} {b ci N : Nat} {vs : List Value} {T : u_T} {a1 a2 a3 : Value} (hd : decode cc pc = .ok (.invokevirtual idx, 3)) (hM : jM M) (hl : jMV own idx M 3) (hb : hAt h b (oB ci vs)) (hci : jcl[ci]? = some (M.1.cls, T, N)) (hw : (st.map fun v => v.category).sum ≤ 8) (hdd : d' < d) {Qc : Option Value → HF → Prop} (ct : Ct X M d' (.ref b :: [a1, a2, a3]) h Qc) (k : ∀ (r : Option Value) (h' : HF), Qc r h' → J X own cc nL d ret Q (pc + 3) ls (r.toList ++ st) h') : J X own cc nL d ret Q pc ls (a3 :: a2 :: a1 :: .ref b :: st) h := J_callV hd hM hl hb hci (As := [a1, a2, a3]) rfl rfl hw hdd ct k
theorem J_cV4i {idx d' : Nat} {M : jMI} {b ci N : Nat} {vs : List Value} {T : u_T} {a1 a2 a3 a4 : Value} (hd : decode cc pc = .ok (.invokevirtual idx, 3)) (hM : jM M) (hl : jMV own idx M 4) (hb : hAt h b (oB ci vs)) (hci : jcl[ci]? = some (M.1.cls, T, N)) (hw : (st.map fun v => v.category).sum ≤ 8) (hdd : d' < d) {v : Int32} (ct : CtI X M d' (.ref b :: [a1, a2, a3, a4]) h v) (k : J X own cc nL d ret Q (pc + 3) ls (.int v :: st) h) : J X own cc nL d ret Q pc ls (a4 :: a3 :: a2 :: a1 :: .ref b :: st) h := J_callV hd hM hl hb hci (As := [a1, a2, a3, a4]) rfl rfl hw hdd ct (fun r h' q => by obtain ⟨rfl, rfl⟩ := q; exact k)
theorem J_cV4 {idx d' : Nat} {M : jMI} {b ci N : Nat} {vs : List Value} {T : u_T} {a1 a2 a3 a4 : Value} (hd : decode cc pc = .ok (.invokevirtual idx, 3)) (hM : jM M) (hl : jMV own idx M 4) (hb : hAt h b (oB ci vs)) (hci : jcl[ci]? = some (M.1.cls, T, N)) (hw : (st.map fun v => v.category).sum ≤ 8) (hdd : d' < d) {Qc : Option Value → HF → Prop} (ct : Ct X M d' (.ref b :: [a1, a2, a3, a4]) h Qc) (k : ∀ (r : Option Value) (h' : HF), Qc r h' → J X own cc nL d ret Q (pc + 3) ls (r.toList ++ st) h') : J X own cc nL d ret Q pc ls (a4 :: a3 :: a2 :: a1 :: .ref b :: st) h := J_callV hd hM hl hb hci (As := [a1, a2, a3, a4]) rfl rfl hw hdd ct k
theorem J_cV5i {idx d' : Nat} {M : jMI} {b ci N : Nat} {vs : List Value} {T : u_T} {a1 a2 a3 a4 a5 : Value} (hd : decode cc pc = .ok (.invokevirtual idx, 3)) (hM : jM M) (hl : jMV own idx M 5) (hb : hAt h b (oB ci vs)) (hci : jcl[ci]? = some (M.1.cls, T, N)) (hw : (st.map fun v => v.category).sum ≤ 8) (hdd : d' < d) {v : Int32} (ct : CtI X M d' (.ref b :: [a1, a2, a3, a4, a5]) h v) (k : J X own cc nL d ret Q (pc + 3) ls (.int v :: st) h) : J X own cc nL d ret Q pc ls (a5 :: a4 :: a3 :: a2 :: a1 :: .ref b :: st) h := J_callV hd hM hl hb hci (As := [a1, a2, a3, a4, a5]) rfl rfl hw hdd ct (fun r h' q => by obtain ⟨rfl, rfl⟩ := q; exact k)
theorem J_cV5 {idx d' : Nat} {M : jMI} {b ci N : Nat} {vs : List Value} {T : u_T} {a1 a2 a3 a4 a5 : Value} (hd : decode cc pc = .ok (.invokevirtual idx, 3)) (hM : jM M) (hl : jMV own idx M 5) (hb : hAt h b (oB ci vs)) (hci : jcl[ci]? = some (M.1.cls, T, N)) (hw : (st.map fun v => v.category).sum ≤ 8) (hdd : d' < d) {Qc : Option Value → HF → Prop} (ct : Ct X M d' (.ref b :: [a1, a2, a3, a4, a5]) h Qc) (k : ∀ (r : Option Value) (h' : HF), Qc r h' → J X own cc nL d ret Q (pc + 3) ls (r.toList ++ st) h') : J X own cc nL d ret Q pc ls (a5 :: a4 :: a3 :: a2 :: a1 :: .ref b :: st) h := J_callV hd hM hl hb hci (As := [a1, a2, a3, a4, a5]) rfl rfl hw hdd ct k
theorem J_cV6i {idx d' : Nat} {M : jMI} {b ci N : Nat} {vs : List Value} {T : u_T} {a1 a2 a3 a4 a5 a6 : Value} (hd : decode cc pc = .ok (.invokevirtual idx, 3)) (hM : jM M) (hl : jMV own idx M 6) (hb : hAt h b (oB ci vs)) (hci : jcl[ci]? = some (M.1.cls, T, N)) (hw : (st.map fun v => v.category).sum ≤ 8) (hdd : d' < d) {v : Int32} (ct : CtI X M d' (.ref b :: [a1, a2, a3, a4, a5, a6]) h v) (k : J X own cc nL d ret Q (pc + 3) ls (.int v :: st) h) : J X own cc nL d ret Q pc ls (a6 :: a5 :: a4 :: a3 :: a2 :: a1 :: .ref b :: st) h := J_callV hd hM hl hb hci (As := [a1, a2, a3, a4, a5, a6]) rfl rfl hw hdd ct (fun r h' q => by obtain ⟨rfl, rfl⟩ := q; exact k)
theorem J_cV6 {idx d' : Nat} {M : jMI} {b ci N : Nat} {vs : List Value} {T : u_T} {a1 a2 a3 a4 a5 a6 : Value} (hd : decode cc pc = .ok (.invokevirtual idx, 3)) (hM : jM M) (hl : jMV own idx M 6) (hb : hAt h b (oB ci vs)) (hci : jcl[ci]? = some (M.1.cls, T, N)) (hw : (st.map fun v => v.category).sum ≤ 8) (hdd : d' < d) {Qc : Option Value → HF → Prop} (ct : Ct X M d' (.ref b :: [a1, a2, a3, a4, a5, a6]) h Qc) (k : ∀ (r : Option Value) (h' : HF), Qc r h' → J X own cc nL d ret Q (pc + 3) ls (r.toList ++ st) h') : J X own cc nL d ret Q pc ls (a6 :: a5 :: a4 :: a3 :: a2 :: a1 :: .ref b :: st) h := J_callV hd hM hl hb hci (As := [a1, a2, a3, a4, a5, a6]) rfl rfl hw hdd ct k
theorem J_cS0i {idx d' : Nat} {M : jMI} (hd : decode cc pc = .ok (.invokestatic idx, 3)) (hM : jM M) (hl : jMS own idx M 0) (hw : (st.map fun v => v.category).sum ≤ 8) (hdd : d' < d) {v : Int32} (ct : CtI X M d' [] h v) (k : J X own cc nL d ret Q (pc + 3) ls (.int v :: st) h) : J X own cc nL d ret Q pc ls st h := J_callS hd hM hl (As := []) rfl rfl hw hdd ct (fun r h' q => by obtain ⟨rfl, rfl⟩ := q; exact k)
theorem J_cS0 {idx d' : Nat} {M : jMI} (hd : decode cc pc = .ok (.invokestatic idx, 3)) (hM : jM M) (hl : jMS own idx M 0) (hw : (st.map fun v => v.category).sum ≤ 8) (hdd : d' < d) {Qc : Option Value → HF → Prop} (ct : Ct X M d' [] h Qc) (k : ∀ (r : Option Value) (h' : HF), Qc r h' → J X own cc nL d ret Q (pc + 3) ls (r.toList ++ st) h') : J X own cc nL d ret Q pc ls st h := J_callS hd hM hl (As := []) rfl rfl hw hdd ct k
theorem J_cS1i {idx d' : Nat} {M : jMI} {a1 : Value} (hd : decode cc pc = .ok (.invokestatic idx, 3)) (hM : jM M) (hl : jMS own idx M 1) (hw : (st.map fun v => v.category).sum ≤ 8) (hdd : d' < d) {v : Int32} (ct : CtI X M d' [a1] h v) (k : J X own cc nL d ret Q (pc + 3) ls (.int v :: st) h) : J X own cc nL d ret Q pc ls (a1 :: st) h := J_callS hd hM hl (As := [a1]) rfl rfl hw hdd ct (fun r h' q => by obtain ⟨rfl, rfl⟩ := q; exact k)
theorem J_cS1 {idx d' : Nat} {M : jMI} {a1 : Value} (hd : decode cc pc = .ok (.invokestatic idx, 3)) (hM : jM M) (hl : jMS own idx M 1) (hw : (st.map fun v => v.category).sum ≤ 8) (hdd : d' < d) {Qc : Option Value → HF → Prop} (ct : Ct X M d' [a1] h Qc) (k : ∀ (r : Option Value) (h' : HF), Qc r h' → J X own cc nL d ret Q (pc + 3) ls (r.toList ++ st) h') : J X own cc nL d ret Q pc ls (a1 :: st) h := J_callS hd hM hl (As := [a1]) rfl rfl hw hdd ct k
theorem J_cS2i {idx d' : Nat} {M : jMI} {a1 a2 : Value} (hd : decode cc pc = .ok (.invokestatic idx, 3)) (hM : jM M) (hl : jMS own idx M 2) (hw : (st.map fun v => v.category).sum ≤ 8) (hdd : d' < d) {v : Int32} (ct : CtI X M d' [a1, a2] h v) (k : J X own cc nL d ret Q (pc + 3) ls (.int v :: st) h) : J X own cc nL d ret Q pc ls (a2 :: a1 :: st) h := J_callS hd hM hl (As := [a1, a2]) rfl rfl hw hdd ct (fun r h' q => by obtain ⟨rfl, rfl⟩ := q; exact k)
theorem J_cS2 {idx d' : Nat} {M : jMI} {a1 a2 : Value} (hd : decode cc pc = .ok (.invokestatic idx, 3)) (hM : jM M) (hl : jMS own idx M 2) (hw : (st.map fun v => v.category).sum ≤ 8) (hdd : d' < d) {Qc : Option Value → HF → Prop} (ct : Ct X M d' [a1, a2] h Qc) (k : ∀ (r : Option Value) (h' : HF), Qc r h' → J X own cc nL d ret Q (pc + 3) ls (r.toList ++ st) h') : J X own cc nL d ret Q pc ls (a2 :: a1 :: st) h := J_callS hd hM hl (As := [a1, a2]) rfl rfl hw hdd ct k
theorem J_cS3i {idx d' : Nat} {M : jMI} {a1 a2 a3 : Value} (hd : decode cc pc = .ok (.invokestatic idx, 3)) (hM : jM M) (hl : jMS own idx M 3) (hw : (st.map fun v => v.category).sum ≤ 8) (hdd : d' < d) {v : Int32} (ct : CtI X M d' [a1, a2, a3] h v) (k : J X own cc nL d ret Q (pc + 3) ls (.int v :: st) h) : J X own cc nL d ret Q pc ls (a3 :: a2 :: a1 :: st) h := J_callS hd hM hl (As := [a1, a2, a3]) rfl rfl hw hdd ct (fun r h' q => by obtain ⟨rfl, rfl⟩ := q; exact k)
theorem J_cS3 {idx d' : Nat} {M : jMI} {a1 a2 a3 : Value} (hd : decode cc pc = .ok (.invokestatic idx, 3)) (hM : jM M) (hl : jMS own idx M 3) (hw : (st.map fun v => v.category).sum ≤ 8) (hdd : d' < d) {Qc : Option Value → HF → Prop} (ct : Ct X M d' [a1, a2, a3] h Qc) (k : ∀ (r : Option Value) (h' : HF), Qc r h' → J X own cc nL d ret Q (pc + 3) ls (r.toList ++ st) h') : J X own cc nL d ret Q pc ls (a3 :: a2 :: a1 :: st) h := J_callS hd hM hl (As := [a1, a2, a3]) rfl rfl hw hdd ct k
theorem J_cS4i {idx d' : Nat} {M : jMI} {a1 a2 a3 a4 : Value} (hd : decode cc pc = .ok (.invokestatic idx, 3)) (hM : jM M) (hl : jMS own idx M 4) (hw : (st.map fun v => v.category).sum ≤ 8) (hdd : d' < d) {v : Int32} (ct : CtI X M d' [a1, a2, a3, a4] h v) (k : J X own cc nL d ret Q (pc + 3) ls (.int v :: st) h) : J X own cc nL d ret Q pc ls (a4 :: a3 :: a2 :: a1 :: st) h := J_callS hd hM hl (As := [a1, a2, a3, a4]) rfl rfl hw hdd ct (fun r h' q => by obtain ⟨rfl, rfl⟩ := q; exact k)
theorem J_cS4 {idx d' : Nat} {M : jMI} {a1 a2 a3 a4 : Value} (hd : decode cc pc = .ok (.invokestatic idx, 3)) (hM : jM M) (hl : jMS own idx M 4) (hw : (st.map fun v => v.category).sum ≤ 8) (hdd : d' < d) {Qc : Option Value → HF → Prop} (ct : Ct X M d' [a1, a2, a3, a4] h Qc) (k : ∀ (r : Option Value) (h' : HF), Qc r h' → J X own cc nL d ret Q (pc + 3) ls (r.toList ++ st) h') : J X own cc nL d ret Q pc ls (a4 :: a3 :: a2 :: a1 :: st) h := J_callS hd hM hl (As := [a1, a2, a3, a4]) rfl rfl hw hdd ct k
theorem J_cS5i {idx d' : Nat} {M : jMI} {a1 a2 a3 a4 a5 : Value} (hd : decode cc pc = .ok (.invokestatic idx, 3)) (hM : jM M) (hl : jMS own idx M 5) (hw : (st.map fun v => v.category).sum ≤ 8) (hdd : d' < d) {v : Int32} (ct : CtI X M d' [a1, a2, a3, a4, a5] h v) (k : J X own cc nL d ret Q (pc + 3) ls (.int v :: st) h) : J X own cc nL d ret Q pc ls (a5 :: a4 :: a3 :: a2 :: a1 :: st) h := J_callS hd hM hl (As := [a1, a2, a3, a4, a5]) rfl rfl hw hdd ct (fun r h' q => by obtain ⟨rfl, rfl⟩ := q; exact k)
theorem J_cS5 {idx d' : Nat} {M : jMI} {a1 a2 a3 a4 a5 : Value} (hd : decode cc pc = .ok (.invokestatic idx, 3)) (hM : jM M) (hl : jMS own idx M 5) (hw : (st.map fun v => v.category).sum ≤ 8) (hdd : d' < d) {Qc : Option Value → HF → Prop} (ct : Ct X M d' [a1, a2, a3, a4, a5] h Qc) (k : ∀ (r : Option Value) (h' : HF), Qc r h' → J X own cc nL d ret Q (pc + 3) ls (r.toList ++ st) h') : J X own cc nL d ret Q pc ls (a5 :: a4 :: a3 :: a2 :: a1 :: st) h := J_callS hd hM hl (As := [a1, a2, a3, a4, a5]) rfl rfl hw hdd ct k
theorem J_cS6i {idx d' : Nat} {M : jMI} {a1 a2 a3 a4 a5 a6 : Value} (hd : decode cc pc = .ok (.invokestatic idx, 3)) (hM : jM M) (hl : jMS own idx M 6) (hw : (st.map fun v => v.category).sum ≤ 8) (hdd : d' < d) {v : Int32} (ct : CtI X M d' [a1, a2, a3, a4, a5, a6] h v) (k : J X own cc nL d ret Q (pc + 3) ls (.int v :: st) h) : J X own cc nL d ret Q pc ls (a6 :: a5 :: a4 :: a3 :: a2 :: a1 :: st) h := J_callS hd hM hl (As := [a1, a2, a3, a4, a5, a6]) rfl rfl hw hdd ct (fun r h' q => by obtain ⟨rfl, rfl⟩ := q; exact k)
theorem J_cS6 {idx d' : Nat} {M : jMI} {a1 a2 a3 a4 a5 a6 : Value} (hd : decode cc pc = .ok (.invokestatic idx, 3)) (hM : jM M) (hl : jMS own idx M 6) (hw : (st.map fun v => v.category).sum ≤ 8) (hdd : d' < d) {Qc : Option Value → HF → Prop} (ct : Ct X M d' [a1, a2, a3, a4, a5, a6] h Qc) (k : ∀ (r : Option Value) (h' : HF), Qc r h' → J X own cc nL d ret Q (pc + 3) ls (r.toList ++ st) h') : J X own cc nL d ret Q pc ls (a6 :: a5 :: a4 :: a3 :: a2 :: a1 :: st) h := J_callS hd hM hl (As := [a1, a2, a3, a4, a5, a6]) rfl rfl hw hdd ct k
theorem J_cN0i {idx d' : Nat} {M : jMI} {host : String} (hd : decode cc pc = .ok (.invokestatic idx, 3)) (hM : jM M) (hl : jMN own idx M 0 host) (hw : (st.map fun v => v.category).sum ≤ 8) (hdd : d' < d) {v : Int32} (ct : CtI X M d' [] h v) (k : J X own cc nL d ret Q (pc + 3) ls (.int v :: st) h) : J X own cc nL d ret Q pc ls st h := J_callN hd hM hl (As := []) rfl rfl hw hdd ct (fun r h' q => by obtain ⟨rfl, rfl⟩ := q; exact k)
theorem J_cN0 {idx d' : Nat} {M : jMI} {host : String} (hd : decode cc pc = .ok (.invokestatic idx, 3)) (hM : jM M) (hl : jMN own idx M 0 host) (hw : (st.map fun v => v.category).sum ≤ 8) (hdd : d' < d) {Qc : Option Value → HF → Prop} (ct : Ct X M d' [] h Qc) (k : ∀ (r : Option Value) (h' : HF), Qc r h' → J X own cc nL d ret Q (pc + 3) ls (r.toList ++ st) h') : J X own cc nL d ret Q pc ls st h := J_callN hd hM hl (As := []) rfl rfl hw hdd ct k
theorem J_cN1i {idx d' : Nat} {M : jMI} {host : String} {a1 : Value} (hd : decode cc pc = .ok (.invokestatic idx, 3)) (hM : jM M) (hl : jMN own idx M 1 host) (hw : (st.map fun v => v.category).sum ≤ 8) (hdd : d' < d) {v : Int32} (ct : CtI X M d' [a1] h v) (k : J X own cc nL d ret Q (pc + 3) ls (.int v :: st) h) : J X own cc nL d ret Q pc ls (a1 :: st) h := J_callN hd hM hl (As := [a1]) rfl rfl hw hdd ct (fun r h' q => by obtain ⟨rfl, rfl⟩ := q; exact k)
theorem J_cN1 {idx d' : Nat} {M : jMI} {host : String} {a1 : Value} (hd : decode cc pc = .ok (.invokestatic idx, 3)) (hM : jM M) (hl : jMN own idx M 1 host) (hw : (st.map fun v => v.category).sum ≤ 8) (hdd : d' < d) {Qc : Option Value → HF → Prop} (ct : Ct X M d' [a1] h Qc) (k : ∀ (r : Option Value) (h' : HF), Qc r h' → J X own cc nL d ret Q (pc + 3) ls (r.toList ++ st) h') : J X own cc nL d ret Q pc ls (a1 :: st) h := J_callN hd hM hl (As := [a1]) rfl rfl hw hdd ct k
theorem J_cN2i {idx d' : Nat} {M : jMI} {host : String} {a1 a2 : Value} (hd : decode cc pc = .ok (.invokestatic idx, 3)) (hM : jM M) (hl : jMN own idx M 2 host) (hw : (st.map fun v => v.category).sum ≤ 8) (hdd : d' < d) {v : Int32} (ct : CtI X M d' [a1, a2] h v) (k : J X own cc nL d ret Q (pc + 3) ls (.int v :: st) h) : J X own cc nL d ret Q pc ls (a2 :: a1 :: st) h := J_callN hd hM hl (As := [a1, a2]) rfl rfl hw hdd ct (fun r h' q => by obtain ⟨rfl, rfl⟩ := q; exact k)
theorem J_cN2 {idx d' : Nat} {M : jMI} {host : String} {a1 a2 : Value} (hd : decode cc pc = .ok (.invokestatic idx, 3)) (hM : jM M) (hl : jMN own idx M 2 host) (hw : (st.map fun v => v.category).sum ≤ 8) (hdd : d' < d) {Qc : Option Value → HF → Prop} (ct : Ct X M d' [a1, a2] h Qc) (k : ∀ (r : Option Value) (h' : HF), Qc r h' → J X own cc nL d ret Q (pc + 3) ls (r.toList ++ st) h') : J X own cc nL d ret Q pc ls (a2 :: a1 :: st) h := J_callN hd hM hl (As := [a1, a2]) rfl rfl hw hdd ct k
theorem J_cN3i {idx d' : Nat} {M : jMI} {host : String} {a1 a2 a3 : Value} (hd : decode cc pc = .ok (.invokestatic idx, 3)) (hM : jM M) (hl : jMN own idx M 3 host) (hw : (st.map fun v => v.category).sum ≤ 8) (hdd : d' < d) {v : Int32} (ct : CtI X M d' [a1, a2, a3] h v) (k : J X own cc nL d ret Q (pc + 3) ls (.int v :: st) h) : J X own cc nL d ret Q pc ls (a3 :: a2 :: a1 :: st) h := J_callN hd hM hl (As := [a1, a2, a3]) rfl rfl hw hdd ct (fun r h' q => by obtain ⟨rfl, rfl⟩ := q; exact k)
theorem J_cN3 {idx d' : Nat} {M : jMI} {host : String} {a1 a2 a3 : Value} (hd : decode cc pc = .ok (.invokestatic idx, 3)) (hM : jM M) (hl : jMN own idx M 3 host) (hw : (st.map fun v => v.category).sum ≤ 8) (hdd : d' < d) {Qc : Option Value → HF → Prop} (ct : Ct X M d' [a1, a2, a3] h Qc) (k : ∀ (r : Option Value) (h' : HF), Qc r h' → J X own cc nL d ret Q (pc + 3) ls (r.toList ++ st) h') : J X own cc nL d ret Q pc ls (a3 :: a2 :: a1 :: st) h := J_callN hd hM hl (As := [a1, a2, a3]) rfl rfl hw hdd ct k
theorem J_cN4i {idx d' : Nat} {M : jMI} {host : String} {a1 a2 a3 a4 : Value} (hd : decode cc pc = .ok (.invokestatic idx, 3)) (hM : jM M) (hl : jMN own idx M 4 host) (hw : (st.map fun v => v.category).sum ≤ 8) (hdd : d' < d) {v : Int32} (ct : CtI X M d' [a1, a2, a3, a4] h v) (k : J X own cc nL d ret Q (pc + 3) ls (.int v :: st) h) : J X own cc nL d ret Q pc ls (a4 :: a3 :: a2 :: a1 :: st) h := J_callN hd hM hl (As := [a1, a2, a3, a4]) rfl rfl hw hdd ct (fun r h' q => by obtain ⟨rfl, rfl⟩ := q; exact k)
theorem J_cN4 {idx d' : Nat} {M : jMI} {host : String} {a1 a2 a3 a4 : Value} (hd : decode cc pc = .ok (.invokestatic idx, 3)) (hM : jM M) (hl : jMN own idx M 4 host) (hw : (st.map fun v => v.category).sum ≤ 8) (hdd : d' < d) {Qc : Option Value → HF → Prop} (ct : Ct X M d' [a1, a2, a3, a4] h Qc) (k : ∀ (r : Option Value) (h' : HF), Qc r h' → J X own cc nL d ret Q (pc + 3) ls (r.toList ++ st) h') : J X own cc nL d ret Q pc ls (a4 :: a3 :: a2 :: a1 :: st) h := J_callN hd hM hl (As := [a1, a2, a3, a4]) rfl rfl hw hdd ct k
theorem J_cN5i {idx d' : Nat} {M : jMI} {host : String} {a1 a2 a3 a4 a5 : Value} (hd : decode cc pc = .ok (.invokestatic idx, 3)) (hM : jM M) (hl : jMN own idx M 5 host) (hw : (st.map fun v => v.category).sum ≤ 8) (hdd : d' < d) {v : Int32} (ct : CtI X M d' [a1, a2, a3, a4, a5] h v) (k : J X own cc nL d ret Q (pc + 3) ls (.int v :: st) h) : J X own cc nL d ret Q pc ls (a5 :: a4 :: a3 :: a2 :: a1 :: st) h := J_callN hd hM hl (As := [a1, a2, a3, a4, a5]) rfl rfl hw hdd ct (fun r h' q => by obtain ⟨rfl, rfl⟩ := q; exact k)
theorem J_cN5 {idx d' : Nat} {M : jMI} {host : String} {a1 a2 a3 a4 a5 : Value} (hd : decode cc pc = .ok (.invokestatic idx, 3)) (hM : jM M) (hl : jMN own idx M 5 host) (hw : (st.map fun v => v.category).sum ≤ 8) (hdd : d' < d) {Qc : Option Value → HF → Prop} (ct : Ct X M d' [a1, a2, a3, a4, a5] h Qc) (k : ∀ (r : Option Value) (h' : HF), Qc r h' → J X own cc nL d ret Q (pc + 3) ls (r.toList ++ st) h') : J X own cc nL d ret Q pc ls (a5 :: a4 :: a3 :: a2 :: a1 :: st) h := J_callN hd hM hl (As := [a1, a2, a3, a4, a5]) rfl rfl hw hdd ct k
theorem J_cN6i {idx d' : Nat} {M : jMI} {host : String} {a1 a2 a3 a4 a5 a6 : Value} (hd : decode cc pc = .ok (.invokestatic idx, 3)) (hM : jM M) (hl : jMN own idx M 6 host) (hw : (st.map fun v => v.category).sum ≤ 8) (hdd : d' < d) {v : Int32} (ct : CtI X M d' [a1, a2, a3, a4, a5, a6] h v) (k : J X own cc nL d ret Q (pc + 3) ls (.int v :: st) h) : J X own cc nL d ret Q pc ls (a6 :: a5 :: a4 :: a3 :: a2 :: a1 :: st) h := J_callN hd hM hl (As := [a1, a2, a3, a4, a5, a6]) rfl rfl hw hdd ct (fun r h' q => by obtain ⟨rfl, rfl⟩ := q; exact k)
theorem J_cN6 {idx d' : Nat} {M : jMI} {host : String} {a1 a2 a3 a4 a5 a6 : Value} (hd : decode cc pc = .ok (.invokestatic idx, 3)) (hM : jM M) (hl : jMN own idx M 6 host) (hw : (st.map fun v => v.category).sum ≤ 8) (hdd : d' < d) {Qc : Option Value → HF → Prop} (ct : Ct X M d' [a1, a2, a3, a4, a5, a6] h Qc) (k : ∀ (r : Option Value) (h' : HF), Qc r h' → J X own cc nL d ret Q (pc + 3) ls (r.toList ++ st) h') : J X own cc nL d ret Q pc ls (a6 :: a5 :: a4 :: a3 :: a2 :: a1 :: st) h := J_callN hd hM hl (As := [a1, a2, a3, a4, a5, a6]) rfl rfl hw hdd ct k
end JN
end
section
/-! EDIT: its five numbers are naturals x 0 (reel), x 1 (in), x 2 (many), x 3 (p), x 4 (q) -/
def edOk (x : Nat → Nat) : Prop := x 0 < 6 ∧ x 1 < 200000 ∧ 1 ≤ x 2 ∧ x 2 ≤ 500 ∧ x 3 ≤ 6 ∧ 1 ≤ x 4 ∧ x 4 ≤ 6
def edC (x : Nat → Nat) : AE := oB 1 [.int (nI (x 0)), .int (nI (x 1)), .int (nI (x 2)), .int (nI (x 3)), .int (nI (x 4))]
def edAt (h : HF) (a : Nat) (x : Nat → Nat) : Prop := hAt h a (oB 1 [.int (nI (x 0)), .int (nI (x 1)), .int (nI (x 2)), .int (nI (x 3)), .int (nI (x 4))]) ∧ edOk x
/-- the frame of the REEL that frame k shows -/
def fr (x : Nat → Nat) (k : Nat) : Nat := x 1 + k * x 3 / x 4
def fl_ (x : Nat → Nat) : Nat := fr x (x 2 - 1)
theorem fr_le {x : Nat → Nat} (ok : edOk x) {k : Nat} (hk : k ≤ 4000) : fr x k ≤ 223999 := by
  obtain ⟨o0, o1, o2, o3, o4, o5, o6⟩ := ok
  have hm : k * x 3 ≤ 24000 := Nat.mul_le_mul hk o4
  have hd : k * x 3 / x 4 ≤ k * x 3 := Nat.div_le_self _ _
  unfold fr
  omega
theorem fr_ge {x : Nat → Nat} {k : Nat} : x 1 ≤ fr x k := Nat.le_add_right _ _
theorem fr_0 {x : Nat → Nat} : fr x 0 = x 1 := by simp [fr]
theorem fr_mono {x : Nat → Nat} {j k : Nat} (h : j ≤ k) : fr x j ≤ fr x k := Nat.add_le_add_left (Nat.div_le_div_right (Nat.mul_le_mul_right _ h)) _
theorem last_le {x : Nat → Nat} (ok : edOk x) : fl_ x ≤ 202993 := by
  obtain ⟨o0, o1, o2, o3, o4, o5, o6⟩ := ok
  have hm : (x 2 - 1) * x 3 ≤ 499 * 6 := Nat.mul_le_mul (by omega) o4
  have hd : (x 2 - 1) * x 3 / x 4 ≤ (x 2 - 1) * x 3 := Nat.div_le_self _ _
  unfold fl_ fr
  omega
section
variable {X : Cx} {h : HF}
theorem c_isBelow {v w : Int32} : CtI X mX6_isBelow 0 [.int v, .int w] h (bI (0 ≤ v ∧ v < w)) := by
  refine Ct_of jmX6_isBelow [some (.int v), some (.int w)] (Nat.le_of_ble_eq_true rfl) rfl ?_
  show J X RX6 cX6_isBelow 2 _ (some .boolean) _ 0 _ _ _
  refine J_iload_0 dX6_isBelow_0 ?_
  refine J_if_lt (tgt := 13) dX6_isBelow_1 (by decide) (fun c1 => ?_) (fun c1 => ?_)
  · have e : bI (0 ≤ v ∧ v < w) = 0 := bI_f (by first | exact (fun z => absurd z.2 (Int32.not_lt.mpr c6)) | exact (fun z => absurd z.1 (Int32.not_le.mpr c1)))
    refine J_iconst (v := nI 0) dX6_isBelow_13 (by decide) ?_
    exact J_zret dX6_isBelow_14 rfl (by first | exact Or.inl rfl | exact Or.inr rfl | exact bI_01 _) (⟨by rw [e]; rfl, rfl⟩)
  · refine J_iload_0 dX6_isBelow_4 ?_
    refine J_iload_1 dX6_isBelow_5 ?_
    refine J_icmp_ge (tgt := 13) dX6_isBelow_6 (by decide) (fun c6 => ?_) (fun c6 => ?_)
    · have e : bI (0 ≤ v ∧ v < w) = 0 := bI_f (by first | exact (fun z => absurd z.2 (Int32.not_lt.mpr c6)) | exact (fun z => absurd z.1 (Int32.not_le.mpr c1)))
      refine J_iconst (v := nI 0) dX6_isBelow_13 (by decide) ?_
      exact J_zret dX6_isBelow_14 rfl (by first | exact Or.inl rfl | exact Or.inr rfl | exact bI_01 _) (⟨by rw [e]; rfl, rfl⟩)
    · refine J_iconst (v := nI 1) dX6_isBelow_9 (by decide) ?_
      have e := bI_t (P := 0 ≤ v ∧ v < w) ⟨Int32.not_lt.mp c1, Int32.not_le.mp c6⟩
      refine J_goto (tgt := 14) dX6_isBelow_10 (by decide) ?_
      exact J_zret dX6_isBelow_14 rfl (by first | exact Or.inl rfl | exact Or.inr rfl | exact bI_01 _) (⟨by rw [e]; rfl, rfl⟩)
theorem c_frameAt {a : Nat} {x : Nat → Nat} {k : Nat} (hE : edAt h a x) (hk : k ≤ 4000) : CtI X mX2_frameAt 0 [.ref a, .int (nI k)] h (nI (fr x k)) := by
  obtain ⟨hc, o0, o1, o2, o3, o4, o5, o6⟩ := hE
  have hm : k * x 3 ≤ 24000 := Nat.mul_le_mul hk o4
  refine Ct_of jmX2_frameAt [some (.ref a), some (.int (nI k))] (Nat.le_of_ble_eq_true rfl) rfl ?_
  show J X RX2 cX2_frameAt 2 _ (some .int) _ 0 _ _ _
  refine J_aload_0 dX2_frameAt_0 ?_
  refine J_get dX2_frameAt_1 fl_X2_15 hc rfl ?_
  refine J_if_neN (tgt := 14) dX2_frameAt_4 (by decide) (by omega) (fun _ => ?_) (fun c => absurd c (by omega))
  refine J_aload_0 dX2_frameAt_14 ?_
  refine J_get dX2_frameAt_15 fl_X2_18 hc rfl ?_
  refine J_iload_1 dX2_frameAt_18 ?_
  refine J_aload_0 dX2_frameAt_19 ?_
  refine J_get dX2_frameAt_20 fl_X2_21 hc rfl ?_
  first | refine J_imulN dX2_frameAt_23 ?_ | refine J_imul dX2_frameAt_23 ?_
  refine J_aload_0 dX2_frameAt_24 ?_
  refine J_get dX2_frameAt_25 fl_X2_15 hc rfl ?_
  refine J_idivN dX2_frameAt_28 (by omega) (by omega) (by omega) ?_
  first | refine J_iaddN dX2_frameAt_29 ?_ | refine J_iadd dX2_frameAt_29 ?_
  exact J_iret dX2_frameAt_30 rfl (⟨rfl, rfl⟩)
theorem c_first {a : Nat} {x : Nat → Nat} (hE : edAt h a x) : CtI X mX2_first 1 [.ref a] h (nI (x 1)) := by
  have hc := hE.1
  have e := c_frameAt (X := X) (k := 0) hE (by omega)
  rw [fr_0] at e
  refine Ct_of jmX2_first [some (.ref a)] (Nat.le_of_ble_eq_true rfl) rfl ?_
  show J X RX2 cX2_first 1 _ (some .int) _ 0 _ _ _
  refine J_aload_0 dX2_first_0 ?_
  refine J_iconst (v := nI 0) dX2_first_1 (by decide) ?_
  refine J_cV1i dX2_first_2 jmX2_frameAt mv_X2_24 hc rfl (Nat.le_of_ble_eq_true rfl) (by decide) (e) ?_
  exact J_iret dX2_first_5 rfl (⟨rfl, rfl⟩)
theorem c_last {a : Nat} {x : Nat → Nat} (hE : edAt h a x) : CtI X mX2_last 1 [.ref a] h (nI (fl_ x)) := by
  obtain ⟨hc, o0, o1, o2, o3, o4, o5, o6⟩ := id hE
  refine Ct_of jmX2_last [some (.ref a)] (Nat.le_of_ble_eq_true rfl) rfl ?_
  show J X RX2 cX2_last 1 _ (some .int) _ 0 _ _ _
  refine J_aload_0 dX2_last_0 ?_
  refine J_aload_0 dX2_last_1 ?_
  refine J_get dX2_last_2 fl_X2_9 hc rfl ?_
  refine J_iconst (v := nI 1) dX2_last_5 (by decide) ?_
  first | refine J_isubN dX2_last_6 (by omega) ?_ | refine J_isub dX2_last_6 ?_
  refine J_cV1i dX2_last_7 jmX2_frameAt mv_X2_24 hc rfl (Nat.le_of_ble_eq_true rfl) (by decide) (c_frameAt hE (by omega)) ?_
  exact J_iret dX2_last_10 rfl (⟨rfl, rfl⟩)
theorem c_reach {a : Nat} {x : Nat → Nat} (hE : edAt h a x) : CtI X mX2_reach 2 [.ref a] h (nI (fl_ x - x 1 + 1)) := by
  have hc := hE.1
  have hg : x 1 ≤ fl_ x := fr_ge
  refine Ct_of jmX2_reach [some (.ref a)] (Nat.le_of_ble_eq_true rfl) rfl ?_
  show J X RX2 cX2_reach 1 _ (some .int) _ 0 _ _ _
  refine J_aload_0 dX2_reach_0 ?_
  refine J_cV0i dX2_reach_1 jmX2_last mv_X2_28 hc rfl (Nat.le_of_ble_eq_true rfl) (by decide) (c_last hE) ?_
  refine J_aload_0 dX2_reach_4 ?_
  refine J_cV0i dX2_reach_5 jmX2_first mv_X2_32 hc rfl (Nat.le_of_ble_eq_true rfl) (by decide) (c_first hE) ?_
  first | refine J_isubN dX2_reach_8 (by omega) ?_ | refine J_isub dX2_reach_8 ?_
  refine J_iconst (v := nI 1) dX2_reach_9 (by decide) ?_
  first | refine J_iaddN dX2_reach_10 ?_ | refine J_iadd dX2_reach_10 ?_
  exact J_iret dX2_reach_11 rfl (⟨rfl, rfl⟩)
def eddiff (x : Nat → Nat) : Nat := if x 3 ≤ x 4 then fl_ x - x 1 + 1 else x 2
theorem c_different {a : Nat} {x : Nat → Nat} (hE : edAt h a x) : CtI X mX2_different 3 [.ref a] h (nI (eddiff x)) := by
  obtain ⟨hc, o0, o1, o2, o3, o4, o5, o6⟩ := id hE
  refine Ct_of jmX2_different [some (.ref a)] (Nat.le_of_ble_eq_true rfl) rfl ?_
  show J X RX2 cX2_different 1 _ (some .int) _ 0 _ _ _
  refine J_aload_0 dX2_different_0 ?_
  refine J_get dX2_different_1 fl_X2_21 hc rfl ?_
  refine J_aload_0 dX2_different_4 ?_
  refine J_get dX2_different_5 fl_X2_15 hc rfl ?_
  first | refine J_icmp_gtN (tgt := 18) dX2_different_8 (by decide) (by omega) (by omega) (fun c8 => ?_) (fun c8 => ?_) | refine J_icmp_gt (tgt := 18) dX2_different_8 (by decide) (fun c8 => ?_) (fun c8 => ?_)
  · refine J_aload_0 dX2_different_18 ?_
    refine J_get dX2_different_19 fl_X2_9 hc rfl ?_
    exact J_iret dX2_different_22 rfl (⟨by unfold eddiff; first | rw [if_pos c8] | rw [if_neg (Nat.not_le.mpr c8)], rfl⟩)
  · refine J_aload_0 dX2_different_11 ?_
    refine J_cV0i dX2_different_12 jmX2_reach mv_X2_35 hc rfl (Nat.le_of_ble_eq_true rfl) (by decide) (c_reach hE) ?_
    refine J_goto (tgt := 22) dX2_different_15 (by decide) ?_
    exact J_iret dX2_different_22 rfl (⟨by unfold eddiff; first | rw [if_pos c8] | rw [if_neg (Nat.not_le.mpr c8)], rfl⟩)
/-- the first frame at or behind the one where the REEL has come by n frames; many if it never has -/
def fal (x : Nat → Nat) (n : Nat) : Nat := if n = 0 then 0 else if x 3 = 0 then x 2 else if (n * x 4 + x 3 - 1) / x 3 < x 2 then (n * x 4 + x 3 - 1) / x 3 else x 2
theorem fal_le {x : Nat → Nat} {n : Nat} : fal x n ≤ x 2 := by
  unfold fal
  split
  · exact Nat.zero_le _
  · split
    · exact Nat.le_refl _
    · split <;> omega
theorem c_falNeg {a : Nat} {v : Int32} (hv : v ≤ 0) : CtI X mX2_firstAtLeast 0 [.ref a, .int v] h 0 := by
  refine Ct_of jmX2_firstAtLeast [some (.ref a), some (.int v), none] (Nat.le_of_ble_eq_true rfl) rfl ?_
  show J X RX2 cX2_firstAtLeast 3 _ (some .int) _ 0 _ _ _
  refine J_iload_1 dX2_firstAtLeast_0 ?_
  refine J_if_gt (tgt := 6) dX2_firstAtLeast_1 (by decide) (fun c => absurd c (Int32.not_lt.mpr hv)) (fun _ => ?_)
  refine J_iconst (v := nI 0) dX2_firstAtLeast_4 (by decide) ?_
  exact J_iret dX2_firstAtLeast_5 rfl (⟨rfl, rfl⟩)
theorem c_fal {a : Nat} {x : Nat → Nat} {n : Nat} (hE : edAt h a x) (hn : n ≤ 300000) : CtI X mX2_firstAtLeast 0 [.ref a, .int (nI n)] h (nI (fal x n)) := by
  obtain ⟨hc, o0, o1, o2, o3, o4, o5, o6⟩ := id hE
  have hm : n * x 4 ≤ 300000 * 6 := Nat.mul_le_mul hn o6
  have hd : (n * x 4 + x 3 - 1) / x 3 ≤ n * x 4 + x 3 - 1 := Nat.div_le_self _ _
  refine Ct_of jmX2_firstAtLeast [some (.ref a), some (.int (nI n)), none] (Nat.le_of_ble_eq_true rfl) rfl ?_
  show J X RX2 cX2_firstAtLeast 3 _ (some .int) _ 0 _ _ _
  refine J_iload_1 dX2_firstAtLeast_0 ?_
  first | refine J_if_gtN (tgt := 6) dX2_firstAtLeast_1 (by decide) (by omega) (fun c1 => ?_) (fun c1 => ?_) | refine J_if_gt (tgt := 6) dX2_firstAtLeast_1 (by decide) (fun c1 => ?_) (fun c1 => ?_)
  · refine J_aload_0 dX2_firstAtLeast_6 ?_
    refine J_get dX2_firstAtLeast_7 fl_X2_21 hc rfl ?_
    first | refine J_if_neB (tgt := 20) dX2_firstAtLeast_10 (by decide) (fun c10 => ?_) (fun c10 => ?_) | refine J_if_neN (tgt := 20) dX2_firstAtLeast_10 (by decide) (by omega) (fun c10 => ?_) (fun c10 => ?_) | refine J_if_ne (tgt := 20) dX2_firstAtLeast_10 (by decide) (fun c10 => ?_) (fun c10 => ?_)
    · refine J_iload_1 dX2_firstAtLeast_20 ?_
      refine J_aload_0 dX2_firstAtLeast_21 ?_
      refine J_get dX2_firstAtLeast_22 fl_X2_15 hc rfl ?_
      first | refine J_imulN dX2_firstAtLeast_25 ?_ | refine J_imul dX2_firstAtLeast_25 ?_
      refine J_aload_0 dX2_firstAtLeast_26 ?_
      refine J_get dX2_firstAtLeast_27 fl_X2_21 hc rfl ?_
      first | refine J_iaddN dX2_firstAtLeast_30 ?_ | refine J_iadd dX2_firstAtLeast_30 ?_
      refine J_iconst (v := nI 1) dX2_firstAtLeast_31 (by decide) ?_
      first | refine J_isubN dX2_firstAtLeast_32 (by omega) ?_ | refine J_isub dX2_firstAtLeast_32 ?_
      refine J_aload_0 dX2_firstAtLeast_33 ?_
      refine J_get dX2_firstAtLeast_34 fl_X2_21 hc rfl ?_
      refine J_idivN dX2_firstAtLeast_37 (by omega) (by omega) (by omega) ?_
      have hn0 : ¬ n = 0 := by omega
      refine J_istore_2 dX2_firstAtLeast_38 (Nat.le_of_ble_eq_true rfl) rfl ?_
      refine J_iload_2 dX2_firstAtLeast_39 ?_
      refine J_aload_0 dX2_firstAtLeast_40 ?_
      refine J_get dX2_firstAtLeast_41 fl_X2_9 hc rfl ?_
      first | refine J_icmp_geN (tgt := 51) dX2_firstAtLeast_44 (by decide) (by omega) (by omega) (fun c44 => ?_) (fun c44 => ?_) | refine J_icmp_ge (tgt := 51) dX2_firstAtLeast_44 (by decide) (fun c44 => ?_) (fun c44 => ?_)
      · refine J_aload_0 dX2_firstAtLeast_51 ?_
        refine J_get dX2_firstAtLeast_52 fl_X2_9 hc rfl ?_
        exact J_iret dX2_firstAtLeast_55 rfl (⟨by unfold fal; rw [if_neg hn0]; first | rw [if_pos c10] | rw [if_neg (Nat.ne_of_gt c10), if_pos c44] | rw [if_neg (Nat.ne_of_gt c10), if_neg (Nat.not_lt.mpr c44)], rfl⟩)
      · refine J_iload_2 dX2_firstAtLeast_47 ?_
        refine J_goto (tgt := 55) dX2_firstAtLeast_48 (by decide) ?_
        exact J_iret dX2_firstAtLeast_55 rfl (⟨by unfold fal; rw [if_neg hn0]; first | rw [if_pos c10] | rw [if_neg (Nat.ne_of_gt c10), if_pos c44] | rw [if_neg (Nat.ne_of_gt c10), if_neg (Nat.not_lt.mpr c44)], rfl⟩)
    · refine J_aload_0 dX2_firstAtLeast_13 ?_
      refine J_get dX2_firstAtLeast_14 fl_X2_9 hc rfl ?_
      refine J_goto (tgt := 38) dX2_firstAtLeast_17 (by decide) ?_
      show J X RX2 cX2_firstAtLeast 3 0 (some .int) _ 38 _ [.int (nI (x 2))] _
      have hn0 : ¬ n = 0 := by omega
      refine J_istore_2 dX2_firstAtLeast_38 (Nat.le_of_ble_eq_true rfl) rfl ?_
      refine J_iload_2 dX2_firstAtLeast_39 ?_
      refine J_aload_0 dX2_firstAtLeast_40 ?_
      refine J_get dX2_firstAtLeast_41 fl_X2_9 hc rfl ?_
      first | refine J_icmp_geN (tgt := 51) dX2_firstAtLeast_44 (by decide) (by omega) (by omega) (fun c44 => ?_) (fun c44 => ?_) | refine J_icmp_ge (tgt := 51) dX2_firstAtLeast_44 (by decide) (fun c44 => ?_) (fun c44 => ?_)
      · refine J_aload_0 dX2_firstAtLeast_51 ?_
        refine J_get dX2_firstAtLeast_52 fl_X2_9 hc rfl ?_
        exact J_iret dX2_firstAtLeast_55 rfl (⟨by unfold fal; rw [if_neg hn0]; first | rw [if_pos c10] | rw [if_neg (Nat.ne_of_gt c10), if_pos c44] | rw [if_neg (Nat.ne_of_gt c10), if_neg (Nat.not_lt.mpr c44)], rfl⟩)
      · refine J_iload_2 dX2_firstAtLeast_47 ?_
        refine J_goto (tgt := 55) dX2_firstAtLeast_48 (by decide) ?_
        exact J_iret dX2_firstAtLeast_55 rfl (⟨by unfold fal; rw [if_neg hn0]; first | rw [if_pos c10] | rw [if_neg (Nat.ne_of_gt c10), if_pos c44] | rw [if_neg (Nat.ne_of_gt c10), if_neg (Nat.not_lt.mpr c44)], rfl⟩)
  · refine J_iconst (v := nI 0) dX2_firstAtLeast_4 (by decide) ?_
    exact J_iret dX2_firstAtLeast_5 rfl (⟨by unfold fal; rw [if_pos c1], rfl⟩)
end
end
section
/-! EDIT, the rest -/
theorem ceil_lt {n p k : Nat} (hp : 0 < p) : k < (n + p - 1) / p ↔ k * p < n := by
  rw [Nat.lt_div_iff_mul_lt hp]
  omega
theorem ceil_le {n p k : Nat} (hp : 0 < p) : (n + p - 1) / p ≤ k ↔ n ≤ k * p := by
  have := @ceil_lt n p k hp
  omega
theorem fal_mono {x : Nat → Nat} {m n : Nat} (h : m ≤ n) : fal x m ≤ fal x n := by
  unfold fal
  by_cases hm : m = 0
  · rw [if_pos hm]; exact Nat.zero_le _
  · have hn : ¬ n = 0 := by omega
    rw [if_neg hm, if_neg hn]
    by_cases h3 : x 3 = 0
    · rw [if_pos h3, if_pos h3]; exact Nat.le_refl _
    · rw [if_neg h3, if_neg h3]
      have e : (m * x 4 + x 3 - 1) / x 3 ≤ (n * x 4 + x 3 - 1) / x 3 := Nat.div_le_div_right (by have := Nat.mul_le_mul_right (x 4) h; omega)
      split <;> split <;> omega
/-- how often an EDIT shows frame f -/
def tm (x : Nat → Nat) (f : Nat) : Nat := if f < x 1 then 0 else fal x (f - x 1 + 1) - fal x (f - x 1)
/-- the first frame of the EDIT that shows frame f -/
def fs (x : Nat → Nat) (f : Nat) : Option Nat := if fal x (f - x 1) < x 2 ∧ fr x (fal x (f - x 1)) = f then some (fal x (f - x 1)) else none
def oN (o : Option Nat) : Int32 := match o with
  | none => -1
  | some e => nI e
theorem oN_ne {n : Nat} (h : n < 2 ^ 31) : ¬ nI n = -1 := by
  intro z
  have e := nI_toInt h
  rw [z] at e
  have e2 : (-1 : Int32).toInt = -1 := by decide
  omega
theorem oN_eq {o : Option Nat} {n : Nat} (h : n < 2 ^ 31) (ho : ∀ j, o = some j → j < 2 ^ 31) : oN o = nI n ↔ o = some n := by
  cases o with
  | none => exact ⟨fun z => absurd z.symm (oN_ne h), fun z => by cases z⟩
  | some j =>
    rw [oN, nI_eq (ho j rfl) h]
    exact ⟨fun z => by rw [z], fun z => Option.some.inj z⟩
theorem sub_le0 {a b : Nat} (h : a ≤ b) (hb : b < 2 ^ 30) : nI a - nI b ≤ 0 := by
  rw [Int32.le_iff_toInt_le, pk_sub_toInt (by omega) hb, Int32.toInt_zero]
  omega
section
variable {X : Cx} {h : HF}
theorem c_efs {a : Nat} {x : Nat → Nat} {f : Nat} (hE : edAt h a x) (hf : f < 300000) : CtI X mX2_firstShowing 1 [.ref a, .int (nI f)] h (oN (fs x f)) := by
  obtain ⟨hc, o0, o1, o2, o3, o4, o5, o6⟩ := id hE
  have hk := @fal_le x (f - x 1)
  have hfr := @fr_le x hE.2 (fal x (f - x 1)) (by omega)
  have hcall : ∀ v : Int32, v = nI f - nI (x 1) → CtI X mX2_firstAtLeast 0 [.ref a, .int v] h (nI (fal x (f - x 1))) := by
    intro v hv
    by_cases hx : f ≤ x 1
    · have e0 : f - x 1 = 0 := by omega
      have e1 : fal x (f - x 1) = 0 := by rw [e0]; rfl
      rw [e1]
      exact c_falNeg (by rw [hv]; exact sub_le0 hx (by omega))
    · rw [hv, pk_sub (by omega)]
      exact c_fal hE (by omega)
  refine Ct_of jmX2_firstShowing [some (.ref a), some (.int (nI f)), none] (Nat.le_of_ble_eq_true rfl) rfl ?_
  show J X RX2 cX2_firstShowing 3 _ (some .int) _ 0 _ _ _
  refine J_aload_0 dX2_firstShowing_0 ?_
  refine J_iload_1 dX2_firstShowing_1 ?_
  refine J_aload_0 dX2_firstShowing_2 ?_
  refine J_get dX2_firstShowing_3 fl_X2_18 hc rfl ?_
  refine J_isub dX2_firstShowing_6 ?_
  refine J_cV1i dX2_firstShowing_7 jmX2_firstAtLeast mv_X2_38 hc rfl (Nat.le_of_ble_eq_true rfl) (by decide) (hcall _ rfl) ?_
  refine J_istore_2 dX2_firstShowing_10 (Nat.le_of_ble_eq_true rfl) rfl ?_
  refine J_iload_2 dX2_firstShowing_11 ?_
  refine J_aload_0 dX2_firstShowing_12 ?_
  refine J_get dX2_firstShowing_13 fl_X2_9 hc rfl ?_
  first | refine J_icmp_geN (tgt := 32) dX2_firstShowing_16 (by decide) (by omega) (by omega) (fun c16 => ?_) (fun c16 => ?_) | refine J_icmp_ge (tgt := 32) dX2_firstShowing_16 (by decide) (fun c16 => ?_) (fun c16 => ?_)
  · have e : fs x f = none := if_neg (by first | exact (fun z => c25 z.2) | exact (fun z => absurd z.1 (Nat.not_lt.mpr c16)))
    refine J_iconst (v := -1) dX2_firstShowing_32 (by decide) ?_
    exact J_iret dX2_firstShowing_33 rfl (⟨by rw [e]; rfl, rfl⟩)
  · refine J_aload_0 dX2_firstShowing_19 ?_
    refine J_iload_2 dX2_firstShowing_20 ?_
    refine J_cV1i dX2_firstShowing_21 jmX2_frameAt mv_X2_24 hc rfl (Nat.le_of_ble_eq_true rfl) (by decide) (c_frameAt hE (by omega)) ?_
    refine J_iload_1 dX2_firstShowing_24 ?_
    first | refine J_icmp_neN (tgt := 32) dX2_firstShowing_25 (by decide) (by omega) (by omega) (fun c25 => ?_) (fun c25 => ?_) | refine J_icmp_ne (tgt := 32) dX2_firstShowing_25 (by decide) (fun c25 => ?_) (fun c25 => ?_)
    · have e : fs x f = none := if_neg (by first | exact (fun z => c25 z.2) | exact (fun z => absurd z.1 (Nat.not_lt.mpr c16)))
      refine J_iconst (v := -1) dX2_firstShowing_32 (by decide) ?_
      exact J_iret dX2_firstShowing_33 rfl (⟨by rw [e]; rfl, rfl⟩)
    · refine J_iload_2 dX2_firstShowing_28 ?_
      have e : fs x f = some (fal x (f - x 1)) := if_pos ⟨c16, c25⟩
      refine J_goto (tgt := 33) dX2_firstShowing_29 (by decide) ?_
      exact J_iret dX2_firstShowing_33 rfl (⟨by rw [e]; rfl, rfl⟩)
theorem c_etm {a : Nat} {x : Nat → Nat} {f : Nat} (hE : edAt h a x) (hf : f < 300000) : CtI X mX2_times 1 [.ref a, .int (nI f)] h (nI (tm x f)) := by
  obtain ⟨hc, o0, o1, o2, o3, o4, o5, o6⟩ := id hE
  have hk := @fal_mono x (f - x 1) (f - x 1 + 1) (by omega)
  refine Ct_of jmX2_times [some (.ref a), some (.int (nI f))] (Nat.le_of_ble_eq_true rfl) rfl ?_
  show J X RX2 cX2_times 2 _ (some .int) _ 0 _ _ _
  refine J_iload_1 dX2_times_0 ?_
  refine J_aload_0 dX2_times_1 ?_
  refine J_get dX2_times_2 fl_X2_18 hc rfl ?_
  first | refine J_icmp_geN (tgt := 12) dX2_times_5 (by decide) (by omega) (by omega) (fun c5 => ?_) (fun c5 => ?_) | refine J_icmp_ge (tgt := 12) dX2_times_5 (by decide) (fun c5 => ?_) (fun c5 => ?_)
  · refine J_aload_0 dX2_times_12 ?_
    refine J_iload_1 dX2_times_13 ?_
    refine J_aload_0 dX2_times_14 ?_
    refine J_get dX2_times_15 fl_X2_18 hc rfl ?_
    refine J_isubN dX2_times_18 (by omega) ?_
    refine J_iconst (v := nI 1) dX2_times_19 (by decide) ?_
    first | refine J_iaddN dX2_times_20 ?_ | refine J_iadd dX2_times_20 ?_
    refine J_cV1i dX2_times_21 jmX2_firstAtLeast mv_X2_38 hc rfl (Nat.le_of_ble_eq_true rfl) (by decide) (c_fal hE (by omega)) ?_
    refine J_aload_0 dX2_times_24 ?_
    refine J_iload_1 dX2_times_25 ?_
    refine J_aload_0 dX2_times_26 ?_
    refine J_get dX2_times_27 fl_X2_18 hc rfl ?_
    first | refine J_isubN dX2_times_30 (by omega) ?_ | refine J_isub dX2_times_30 ?_
    refine J_cV1i dX2_times_31 jmX2_firstAtLeast mv_X2_38 hc rfl (Nat.le_of_ble_eq_true rfl) (by decide) (c_fal hE (by omega)) ?_
    first | refine J_isubN dX2_times_34 (by omega) ?_ | refine J_isub dX2_times_34 ?_
    exact J_iret dX2_times_35 rfl (⟨by unfold tm; first | rw [if_pos c5] | rw [if_neg (Nat.not_lt.mpr c5)], rfl⟩)
  · refine J_iconst (v := nI 0) dX2_times_8 (by decide) ?_
    refine J_goto (tgt := 35) dX2_times_9 (by decide) ?_
    exact J_iret dX2_times_35 rfl (⟨by unfold tm; first | rw [if_pos c5] | rw [if_neg (Nat.not_lt.mpr c5)], rfl⟩)
theorem c_elike {a b : Nat} {x y : Nat → Nat} (hE : edAt h a x) (hF : edAt h b y) : CtI X mX2_isLike 0 [.ref a, .ref b] h (bI (x 0 = y 0 ∧ x 1 = y 1 ∧ x 3 * y 4 = y 3 * x 4)) := by
  obtain ⟨hc, o0, o1, o2, o3, o4, o5, o6⟩ := id hE
  obtain ⟨hc2, q0, q1, q2, q3, q4, q5, q6⟩ := id hF
  have m1 : x 3 * y 4 ≤ 6 * 6 := Nat.mul_le_mul o4 q6
  have m2 : y 3 * x 4 ≤ 6 * 6 := Nat.mul_le_mul q4 o6
  refine Ct_of jmX2_isLike [some (.ref a), some (.ref b)] (Nat.le_of_ble_eq_true rfl) rfl ?_
  show J X RX2 cX2_isLike 2 _ (some .boolean) _ 0 _ _ _
  refine J_aload_0 dX2_isLike_0 ?_
  refine J_get dX2_isLike_1 fl_X2_41 hc rfl ?_
  refine J_aload_1 dX2_isLike_4 ?_
  refine J_get dX2_isLike_5 fl_X2_41 hc2 rfl ?_
  first | refine J_icmp_neN (tgt := 47) dX2_isLike_8 (by decide) (by omega) (by omega) (fun c8 => ?_) (fun c8 => ?_) | refine J_icmp_ne (tgt := 47) dX2_isLike_8 (by decide) (fun c8 => ?_) (fun c8 => ?_)
  · have e : bI (x 0 = y 0 ∧ x 1 = y 1 ∧ x 3 * y 4 = y 3 * x 4) = 0 := bI_f (by first | exact (fun z => c40 z.2.2) | exact (fun z => c19 z.2.1) | exact (fun z => c8 z.1))
    refine J_iconst (v := nI 0) dX2_isLike_47 (by decide) ?_
    exact J_zret dX2_isLike_48 rfl (by first | exact Or.inl rfl | exact Or.inr rfl | exact bI_01 _) (⟨by rw [e]; rfl, rfl⟩)
  · refine J_aload_0 dX2_isLike_11 ?_
    refine J_get dX2_isLike_12 fl_X2_18 hc rfl ?_
    refine J_aload_1 dX2_isLike_15 ?_
    refine J_get dX2_isLike_16 fl_X2_18 hc2 rfl ?_
    first | refine J_icmp_neN (tgt := 47) dX2_isLike_19 (by decide) (by omega) (by omega) (fun c19 => ?_) (fun c19 => ?_) | refine J_icmp_ne (tgt := 47) dX2_isLike_19 (by decide) (fun c19 => ?_) (fun c19 => ?_)
    · have e : bI (x 0 = y 0 ∧ x 1 = y 1 ∧ x 3 * y 4 = y 3 * x 4) = 0 := bI_f (by first | exact (fun z => c40 z.2.2) | exact (fun z => c19 z.2.1) | exact (fun z => c8 z.1))
      refine J_iconst (v := nI 0) dX2_isLike_47 (by decide) ?_
      exact J_zret dX2_isLike_48 rfl (by first | exact Or.inl rfl | exact Or.inr rfl | exact bI_01 _) (⟨by rw [e]; rfl, rfl⟩)
    · refine J_aload_0 dX2_isLike_22 ?_
      refine J_get dX2_isLike_23 fl_X2_21 hc rfl ?_
      refine J_aload_1 dX2_isLike_26 ?_
      refine J_get dX2_isLike_27 fl_X2_15 hc2 rfl ?_
      first | refine J_imulN dX2_isLike_30 ?_ | refine J_imul dX2_isLike_30 ?_
      refine J_aload_1 dX2_isLike_31 ?_
      refine J_get dX2_isLike_32 fl_X2_21 hc2 rfl ?_
      refine J_aload_0 dX2_isLike_35 ?_
      refine J_get dX2_isLike_36 fl_X2_15 hc rfl ?_
      first | refine J_imulN dX2_isLike_39 ?_ | refine J_imul dX2_isLike_39 ?_
      first | refine J_icmp_neN (tgt := 47) dX2_isLike_40 (by decide) (by omega) (by omega) (fun c40 => ?_) (fun c40 => ?_) | refine J_icmp_ne (tgt := 47) dX2_isLike_40 (by decide) (fun c40 => ?_) (fun c40 => ?_)
      · have e : bI (x 0 = y 0 ∧ x 1 = y 1 ∧ x 3 * y 4 = y 3 * x 4) = 0 := bI_f (by first | exact (fun z => c40 z.2.2) | exact (fun z => c19 z.2.1) | exact (fun z => c8 z.1))
        refine J_iconst (v := nI 0) dX2_isLike_47 (by decide) ?_
        exact J_zret dX2_isLike_48 rfl (by first | exact Or.inl rfl | exact Or.inr rfl | exact bI_01 _) (⟨by rw [e]; rfl, rfl⟩)
      · refine J_iconst (v := nI 1) dX2_isLike_43 (by decide) ?_
        have e : bI (x 0 = y 0 ∧ x 1 = y 1 ∧ x 3 * y 4 = y 3 * x 4) = 1 := bI_t ⟨c8, c19, c40⟩
        refine J_goto (tgt := 48) dX2_isLike_44 (by decide) ?_
        exact J_zret dX2_isLike_48 rfl (by first | exact Or.inl rfl | exact Or.inr rfl | exact bI_01 _) (⟨by rw [e]; rfl, rfl⟩)
end
end
section
section
variable {X : Cx} {own : String} {cc : ByteArray} {nL d : Nat} {ret : Option FieldType} {Q : Option Value → HF → Prop} {pc : Nat} {ls : List (Option Value)} {st : List Value} {h : HF}
theorem J_tabN {dflt hi : Int} {offs : Array Int} {len j : Nat} {off : Int} {tgt : Nat} (hd : decode cc pc = .ok (.tableswitch dflt 0 hi offs, len)) (hj : j < 2 ^ 31) (h2 : (j : Int) ≤ hi) (ho : offs[j]? = some off) (ht : (pc : Int) + off = (tgt : Int)) (k : J X own cc nL d ret Q tgt ls st h) : J X own cc nL d ret Q pc ls (.int (nI j) :: st) h :=
  J_tabIn hd (by rw [nI_toInt hj]; omega) (by rw [nI_toInt hj]; omega) (by rw [nI_toInt hj]; simpa using ho) ht k
theorem J_tabNo {dflt hi : Int} {offs : Array Int} {len j : Nat} {tgt : Nat} (hd : decode cc pc = .ok (.tableswitch dflt 0 hi offs, len)) (hj : j < 2 ^ 31) (h2 : hi < (j : Int)) (ht : (pc : Int) + dflt = (tgt : Int)) (k : J X own cc nL d ret Q tgt ls st h) : J X own cc nL d ret Q pc ls (.int (nI j) :: st) h :=
  J_tabOut hd (by rw [nI_toInt hj]; omega) ht k
end
/-! CUT: its object at c, its row at c + 1, its EDITS at c + 2 on; n of them count -/
def cutAt (h : HF) (c n : Nat) (x : Nat → Nat → Nat) : Prop := hAt h c (oB 0 [.ref (c + 1), .int (nI n)]) ∧ (∃ f : Nat → Option Nat, hAt h (c + 1) (oR 2 8 f) ∧ ∀ j, j < 8 → f j = some (c + 2 + j)) ∧ (∀ e, e < 8 → edAt h (c + 2 + e) (x e)) ∧ n ≤ 8
def bg (x : Nat → Nat → Nat) (e : Nat) : Nat := match e with
  | 0 => 0
  | e + 1 => bg x e + x e 2
theorem bg_le {h : HF} {c n : Nat} {x : Nat → Nat → Nat} (hC : cutAt h c n x) {e : Nat} (he : e ≤ 8) : bg x e ≤ 500 * e := by
  induction e with
  | zero => exact Nat.le_refl _
  | succ e ih =>
    have := ih (by omega)
    have o := (hC.2.2.1 e (by omega)).2
    have o3 := o.2.2.2.1
    show bg x e + x e 2 ≤ _
    omega
theorem bg_mono {x : Nat → Nat → Nat} {i j : Nat} (hij : i ≤ j) : bg x i ≤ bg x j := by
  induction j with
  | zero => rw [Nat.le_zero.mp hij]; exact Nat.le_refl _
  | succ j ih =>
    by_cases e : i = j + 1
    · rw [e]; exact Nat.le_refl _
    · exact Nat.le_trans (ih (by omega)) (Nat.le_add_right _ _)
section
variable {X : Cx} {h : HF} {c n : Nat} {x : Nat → Nat → Nat}
theorem c_cutFull (hC : cutAt h c n x) : CtI X mX1_isFull 0 [.ref c] h (bI (n = 8)) := by
  obtain ⟨hc, -, -, hn⟩ := hC
  refine Ct_of jmX1_isFull [some (.ref c)] (Nat.le_of_ble_eq_true rfl) rfl ?_
  show J X RX1 cX1_isFull 1 _ (some .boolean) _ 0 _ _ _
  refine J_aload_0 dX1_isFull_0 ?_
  refine J_get dX1_isFull_1 fl_X1_18 hc rfl ?_
  refine J_bipush (v := nI 8) dX1_isFull_4 (by decide) ?_
  first | refine J_icmp_ltN (tgt := 13) dX1_isFull_6 (by decide) (by omega) (by omega) (fun c6 => ?_) (fun c6 => ?_) | refine J_icmp_lt (tgt := 13) dX1_isFull_6 (by decide) (fun c6 => ?_) (fun c6 => ?_)
  · have e : bI (n = 8) = 0 := bI_f (by omega)
    refine J_iconst (v := nI 0) dX1_isFull_13 (by decide) ?_
    exact J_zret dX1_isFull_14 rfl (by first | exact Or.inl rfl | exact Or.inr rfl | exact bI_01 _) (⟨by rw [e]; rfl, rfl⟩)
  · refine J_iconst (v := nI 1) dX1_isFull_9 (by decide) ?_
    have e : bI (n = 8) = 1 := bI_t (by omega)
    refine J_goto (tgt := 14) dX1_isFull_10 (by decide) ?_
    exact J_zret dX1_isFull_14 rfl (by first | exact Or.inl rfl | exact Or.inr rfl | exact bI_01 _) (⟨by rw [e]; rfl, rfl⟩)
theorem l_begin (hC : cutAt h c n x) {m : Nat} (hm : m ≤ n) : ∀ (k e : Nat), e + k = m → J X RX1 cX1_begin 4 0 (some .int) (fun r h' => r = some (.int (nI (bg x m))) ∧ h' = h) 4 [some (.ref c), some (.int (nI m)), some (.int (nI (bg x e))), some (.int (nI e))] [] h := by
  obtain ⟨hc, ⟨f, hf, hfe⟩, hE, hn⟩ := id hC
  intro k
  induction k with
  | zero =>
    intro e he
    obtain rfl : e = m := by omega
    refine J_iload_3 dX1_begin_4 ?_
    refine J_iload_1 dX1_begin_5 ?_
    refine J_icmp_geN (tgt := 35) dX1_begin_6 (by decide) (by omega) (by omega) (fun _ => ?_) (fun c => absurd c (by omega))
    refine J_iload_2 dX1_begin_35 ?_
    exact J_iret dX1_begin_36 rfl (⟨rfl, rfl⟩)
  | succ k ih =>
    intro e he
    refine J_iload_3 dX1_begin_4 ?_
    refine J_iload_1 dX1_begin_5 ?_
    refine J_icmp_geN (tgt := 35) dX1_begin_6 (by decide) (by omega) (by omega) (fun c => absurd c (by omega)) (fun _ => ?_)
    refine J_iload_3 dX1_begin_9 ?_
    refine J_aload_0 dX1_begin_10 ?_
    refine J_get dX1_begin_11 fl_X1_18 hc rfl ?_
    refine J_icmp_geN (tgt := 35) dX1_begin_14 (by decide) (by omega) (by omega) (fun c => absurd c (by omega)) (fun _ => ?_)
    refine J_iload_2 dX1_begin_17 ?_
    refine J_aload_0 dX1_begin_18 ?_
    refine J_get dX1_begin_19 fl_X1_11 hc rfl ?_
    refine J_iload_3 dX1_begin_22 ?_
    refine J_aald dX1_begin_23 hf ⟨_, rfl⟩ rfl (by omega) (by decide) (hfe e (by omega)) ?_
    refine J_get dX1_begin_24 fl_X1_32 (hE e (by omega)).1 rfl ?_
    first | refine J_iaddN dX1_begin_27 ?_ | refine J_iadd dX1_begin_27 ?_
    refine J_istore_2 dX1_begin_28 (Nat.le_of_ble_eq_true rfl) rfl ?_
    first | refine J_inc_3 dX1_begin_29 (Nat.le_of_ble_eq_true rfl) rfl ?_ | refine J_iinc_3 dX1_begin_29 rfl (Nat.le_of_ble_eq_true rfl) rfl ?_
    refine J_goto (tgt := 4) dX1_begin_32 (by decide) ?_
    exact ih (e + 1) (by omega)
theorem c_begin (hC : cutAt h c n x) {m : Nat} (hm : m ≤ n) : CtI X mX1_begin 0 [.ref c, .int (nI m)] h (nI (bg x m)) := by
  refine Ct_of jmX1_begin [some (.ref c), some (.int (nI m)), none, none] (Nat.le_of_ble_eq_true rfl) rfl ?_
  show J X RX1 cX1_begin 4 _ (some .int) _ 0 _ _ _
  refine J_iconst (v := nI 0) dX1_begin_0 (by decide) ?_
  refine J_istore_2 dX1_begin_1 (Nat.le_of_ble_eq_true rfl) rfl ?_
  refine J_iconst (v := nI 0) dX1_begin_2 (by decide) ?_
  refine J_istore_3 dX1_begin_3 (Nat.le_of_ble_eq_true rfl) rfl ?_
  exact l_begin hC hm m 0 (by omega)
theorem c_frames (hC : cutAt h c n x) : CtI X mX1_frames 1 [.ref c] h (nI (bg x n)) := by
  have hc := hC.1
  refine Ct_of jmX1_frames [some (.ref c)] (Nat.le_of_ble_eq_true rfl) rfl ?_
  show J X RX1 cX1_frames 1 _ (some .int) _ 0 _ _ _
  refine J_aload_0 dX1_frames_0 ?_
  refine J_aload_0 dX1_frames_1 ?_
  refine J_get dX1_frames_2 fl_X1_18 hc rfl ?_
  refine J_cV1i dX1_frames_5 jmX1_begin mv_X1_41 hc rfl (Nat.le_of_ble_eq_true rfl) (by decide) (c_begin hC (Nat.le_refl n)) ?_
  exact J_iret dX1_frames_8 rfl (⟨rfl, rfl⟩)
/-- which EDIT holds frame f of the cut: from e on, k of them -/
def hold (x : Nat → Nat → Nat) (f e k : Nat) : Option Nat := match k with
  | 0 => none
  | k + 1 => if f < bg x (e + 1) then some e else hold x f (e + 1) k
theorem l_holder (hC : cutAt h c n x) {f : Nat} (hf0 : f < 4000) : ∀ (k e : Nat), e + k = n → J X RX1 cX1_holder 4 0 (some .int) (fun r h' => r = some (.int (oN (hold x f e k))) ∧ h' = h) 4 [some (.ref c), some (.int (nI f)), some (.int (nI (bg x e))), some (.int (nI e))] [] h := by
  obtain ⟨hc, ⟨g, hf, hfe⟩, hE, hn⟩ := id hC
  intro k
  induction k with
  | zero =>
    intro e he
    refine J_iload_3 dX1_holder_4 ?_
    refine J_aload_0 dX1_holder_5 ?_
    refine J_get dX1_holder_6 fl_X1_18 hc rfl ?_
    refine J_icmp_geN (tgt := 37) dX1_holder_9 (by decide) (by omega) (by omega) (fun _ => ?_) (fun c => absurd c (by omega))
    refine J_iconst (v := -1) dX1_holder_37 (by decide) ?_
    exact J_iret dX1_holder_38 rfl (⟨rfl, rfl⟩)
  | succ k ih =>
    intro e he
    have hb : bg x e + x e 2 ≤ 500 * (e + 1) := bg_le hC (e := e + 1) (by omega)
    refine J_iload_3 dX1_holder_4 ?_
    refine J_aload_0 dX1_holder_5 ?_
    refine J_get dX1_holder_6 fl_X1_18 hc rfl ?_
    refine J_icmp_geN (tgt := 37) dX1_holder_9 (by decide) (by omega) (by omega) (fun c => absurd c (by omega)) (fun _ => ?_)
    refine J_iload_2 dX1_holder_12 ?_
    refine J_aload_0 dX1_holder_13 ?_
    refine J_get dX1_holder_14 fl_X1_11 hc rfl ?_
    refine J_iload_3 dX1_holder_17 ?_
    refine J_aald dX1_holder_18 hf ⟨_, rfl⟩ rfl (by omega) (by decide) (hfe e (by omega)) ?_
    refine J_get dX1_holder_19 fl_X1_32 (hE e (by omega)).1 rfl ?_
    first | refine J_iaddN dX1_holder_22 ?_ | refine J_iadd dX1_holder_22 ?_
    refine J_istore_2 dX1_holder_23 (Nat.le_of_ble_eq_true rfl) rfl ?_
    refine J_iload_1 dX1_holder_24 ?_
    refine J_iload_2 dX1_holder_25 ?_
    first | refine J_icmp_geN (tgt := 31) dX1_holder_26 (by decide) (by omega) (by omega) (fun c26 => ?_) (fun c26 => ?_) | refine J_icmp_ge (tgt := 31) dX1_holder_26 (by decide) (fun c26 => ?_) (fun c26 => ?_)
    · rw [show hold x f e (k + 1) = hold x f (e + 1) k from if_neg (Nat.not_lt.mpr c26)]
      first | refine J_inc_3 dX1_holder_31 (Nat.le_of_ble_eq_true rfl) rfl ?_ | refine J_iinc_3 dX1_holder_31 rfl (Nat.le_of_ble_eq_true rfl) rfl ?_
      refine J_goto (tgt := 4) dX1_holder_34 (by decide) ?_
      exact ih (e + 1) (by omega)
    · refine J_iload_3 dX1_holder_29 ?_
      exact J_iret dX1_holder_30 rfl (⟨by rw [show hold x f e (k + 1) = some e from if_pos c26]; rfl, rfl⟩)
theorem c_holder (hC : cutAt h c n x) {f : Nat} (hf0 : f < 4000) : CtI X mX1_holder 0 [.ref c, .int (nI f)] h (oN (hold x f 0 n)) := by
  refine Ct_of jmX1_holder [some (.ref c), some (.int (nI f)), none, none] (Nat.le_of_ble_eq_true rfl) rfl ?_
  show J X RX1 cX1_holder 4 _ (some .int) _ 0 _ _ _
  refine J_iconst (v := nI 0) dX1_holder_0 (by decide) ?_
  refine J_istore_2 dX1_holder_1 (Nat.le_of_ble_eq_true rfl) rfl ?_
  refine J_iconst (v := nI 0) dX1_holder_2 (by decide) ?_
  refine J_istore_3 dX1_holder_3 (Nat.le_of_ble_eq_true rfl) rfl ?_
  exact l_holder hC hf0 n 0 (by omega)
def tms (x : Nat → Nat → Nat) (r f e k : Nat) : Nat := match k with
  | 0 => 0
  | k + 1 => (if x e 0 = r then tm (x e) f else 0) + tms x r f (e + 1) k
theorem l_times (hC : cutAt h c n x) {r f : Nat} (hr : r < 6) (hf0 : f < 300000) : ∀ (k e s : Nat), e + k = n → J X RX1 cX1_times 5 2 (some .int) (fun q h' => q = some (.int (nI (s + tms x r f e k))) ∧ h' = h) 5 [some (.ref c), some (.int (nI r)), some (.int (nI f)), some (.int (nI s)), some (.int (nI e))] [] h := by
  obtain ⟨hc, ⟨g, hf, hfe⟩, hE, hn⟩ := id hC
  intro k
  induction k with
  | zero =>
    intro e s he
    refine J_iload_4 dX1_times_5 ?_
    refine J_aload_0 dX1_times_7 ?_
    refine J_get dX1_times_8 fl_X1_18 hc rfl ?_
    refine J_icmp_geN (tgt := 48) dX1_times_11 (by decide) (by omega) (by omega) (fun _ => ?_) (fun c => absurd c (by omega))
    refine J_iload_3 dX1_times_48 ?_
    exact J_iret dX1_times_49 rfl (⟨rfl, rfl⟩)
  | succ k ih =>
    intro e s he
    have o := (hE e (by omega)).2
    have o0 := o.1
    refine J_iload_4 dX1_times_5 ?_
    refine J_aload_0 dX1_times_7 ?_
    refine J_get dX1_times_8 fl_X1_18 hc rfl ?_
    refine J_icmp_geN (tgt := 48) dX1_times_11 (by decide) (by omega) (by omega) (fun c => absurd c (by omega)) (fun _ => ?_)
    refine J_aload_0 dX1_times_14 ?_
    refine J_get dX1_times_15 fl_X1_11 hc rfl ?_
    refine J_iload_4 dX1_times_18 ?_
    refine J_aald dX1_times_20 hf ⟨_, rfl⟩ rfl (by omega) (by decide) (hfe e (by omega)) ?_
    refine J_get dX1_times_21 fl_X1_26 (hE e (by omega)).1 rfl ?_
    refine J_iload_1 dX1_times_24 ?_
    first | refine J_icmp_neN (tgt := 42) dX1_times_25 (by decide) (by omega) (by omega) (fun c25 => ?_) (fun c25 => ?_) | refine J_icmp_ne (tgt := 42) dX1_times_25 (by decide) (fun c25 => ?_) (fun c25 => ?_)
    · try rw [show s + tms x r f e (k + 1) = s + tms x r f (e + 1) k from by rw [tms, if_neg c25]; omega]
      first | refine J_inc_4 dX1_times_42 (Nat.le_of_ble_eq_true rfl) rfl ?_ | refine J_iinc_4 dX1_times_42 rfl (Nat.le_of_ble_eq_true rfl) rfl ?_
      refine J_goto (tgt := 5) dX1_times_45 (by decide) ?_
      exact ih (e + 1) _ (by omega)
    · refine J_iload_3 dX1_times_28 ?_
      refine J_aload_0 dX1_times_29 ?_
      refine J_get dX1_times_30 fl_X1_11 hc rfl ?_
      refine J_iload_4 dX1_times_33 ?_
      refine J_aald dX1_times_35 hf ⟨_, rfl⟩ rfl (by omega) (by decide) (hfe e (by omega)) ?_
      refine J_iload_2 dX1_times_36 ?_
      refine J_cV1i dX1_times_37 jmX2_times mv_X1_45 (hE e (by omega)).1 rfl (Nat.le_of_ble_eq_true rfl) (by decide) (c_etm (hE e (by omega)) hf0) ?_
      first | refine J_iaddN dX1_times_40 ?_ | refine J_iadd dX1_times_40 ?_
      refine J_istore_3 dX1_times_41 (Nat.le_of_ble_eq_true rfl) rfl ?_
      rw [show s + tms x r f e (k + 1) = s + tm (x e) f + tms x r f (e + 1) k from by rw [tms, if_pos c25]; omega]
      try rw [show s + tms x r f e (k + 1) = s + tms x r f (e + 1) k from by rw [tms, if_neg c25]; omega]
      first | refine J_inc_4 dX1_times_42 (Nat.le_of_ble_eq_true rfl) rfl ?_ | refine J_iinc_4 dX1_times_42 rfl (Nat.le_of_ble_eq_true rfl) rfl ?_
      refine J_goto (tgt := 5) dX1_times_45 (by decide) ?_
      exact ih (e + 1) _ (by omega)
theorem c_ctimes (hC : cutAt h c n x) {r f : Nat} (hr : r < 6) (hf0 : f < 300000) : CtI X mX1_times 2 [.ref c, .int (nI r), .int (nI f)] h (nI (tms x r f 0 n)) := by
  have e := l_times (X := X) hC hr hf0 n 0 0 (by omega)
  rw [Nat.zero_add] at e
  refine Ct_of jmX1_times [some (.ref c), some (.int (nI r)), some (.int (nI f)), none, none] (Nat.le_of_ble_eq_true rfl) rfl ?_
  show J X RX1 cX1_times 5 _ (some .int) _ 0 _ _ _
  refine J_iconst (v := nI 0) dX1_times_0 (by decide) ?_
  refine J_istore_3 dX1_times_1 (Nat.le_of_ble_eq_true rfl) rfl ?_
  refine J_iconst (v := nI 0) dX1_times_2 (by decide) ?_
  refine J_istore_4 dX1_times_3 (Nat.le_of_ble_eq_true rfl) rfl ?_
  exact e
end
end
section
theorem hu_hu {h : HF} {a : Nat} {c1 c2 : AE} : hu (hu h a c1) a c2 = hu h a c2 := by
  funext j
  unfold hu
  split <;> rfl
theorem hu_self {h : HF} {a : Nat} {c : AE} (e : h a = c) : hu h a c = h := by
  funext j
  unfold hu
  split
  · rename_i q; rw [q, e]
  · rfl
theorem hAt_s {h : HF} {a : Nat} {c : AE} (p : a < jn) : hAt (hu h a c) a c := ⟨p, hu_same⟩
/-- e's numbers become y -/
def eset (x : Nat → Nat → Nat) (e : Nat) (y : Nat → Nat) : Nat → Nat → Nat := fun j => if j = e then y else x j
def kset (x : Nat → Nat) (k v : Nat) : Nat → Nat := fun j => if j = k then v else x j
theorem eset_s {x : Nat → Nat → Nat} {e : Nat} {y : Nat → Nat} : eset x e y e = y := if_pos rfl
theorem eset_n {x : Nat → Nat → Nat} {e j : Nat} {y : Nat → Nat} (n : j ≠ e) : eset x e y j = x j := if_neg n
theorem cut_setEd {h : HF} {c n e : Nat} {x : Nat → Nat → Nat} {y : Nat → Nat} (hC : cutAt h c n x) (he : e < 8) (ok : edOk y) : cutAt (hu h (c + 2 + e) (edC y)) c n (eset x e y) := by
  obtain ⟨hc, ⟨g, hf, hfe⟩, hE, hn⟩ := hC
  refine ⟨hAt_ne hc (by omega), ⟨g, hAt_ne hf (by omega), hfe⟩, fun j hj => ?_, hn⟩
  by_cases q : j = e
  · subst q
    rw [eset_s]
    exact ⟨hAt_s (hE j hj).1.1, ok⟩
  · rw [eset_n q]
    exact ⟨hAt_ne (hE j hj).1 (by omega), (hE j hj).2⟩
theorem cut_setN {h : HF} {c n m : Nat} {x : Nat → Nat → Nat} (hC : cutAt h c n x) (hm : m ≤ 8) : cutAt (hu h c (oB 0 [.ref (c + 1), .int (nI m)])) c m x := by
  obtain ⟨hc, ⟨g, hf, hfe⟩, hE, hn⟩ := hC
  exact ⟨hAt_s hc.1, ⟨g, hAt_ne hf (by omega), hfe⟩, fun j hj => ⟨hAt_ne (hE j hj).1 (by omega), (hE j hj).2⟩, hm⟩
/-- a Cut is untouched by what is written elsewhere -/
theorem cut_other {h h' : HF} {c n : Nat} {x : Nat → Nat → Nat} (hC : cutAt h c n x) (hq : ∀ a, c ≤ a → a < c + 10 → h' a = h a) : cutAt h' c n x := by
  obtain ⟨hc, ⟨g, hf, hfe⟩, hE, hn⟩ := hC
  exact ⟨⟨hc.1, (hq _ (by omega) (by omega)).trans hc.2⟩, ⟨g, ⟨hf.1, (hq _ (by omega) (by omega)).trans hf.2⟩, hfe⟩, fun j hj => ⟨⟨(hE j hj).1.1, (hq _ (by omega) (by omega)).trans (hE j hj).1.2⟩, (hE j hj).2⟩, hn⟩
section
variable {X : Cx} {h : HF} {c n : Nat} {x : Nat → Nat → Nat}
theorem c_append (hC : cutAt h c n x) (hn8 : n < 8) {y : Nat → Nat} (ok : edOk y) : Ct X mX1_append 1 [.ref c, .int (nI (y 0)), .int (nI (y 1)), .int (nI (y 2)), .int (nI (y 3)), .int (nI (y 4))] h (fun r h' => r = none ∧ h' = hu (hu h (c + 2 + n) (edC y)) c (oB 0 [.ref (c + 1), .int (nI (n + 1))])) := by
  obtain ⟨hc, ⟨g, hf, hfe⟩, hE, hn⟩ := id hC
  have he := (hE n hn8).1
  have ha : c + 2 + n < jn := he.1
  refine Ct_of jmX1_append [some (.ref c), some (.int (nI (y 0))), some (.int (nI (y 1))), some (.int (nI (y 2))), some (.int (nI (y 3))), some (.int (nI (y 4))), none] (Nat.le_of_ble_eq_true rfl) rfl ?_
  show J X RX1 cX1_append 7 _ none _ 0 _ _ _
  refine J_aload_0 dX1_append_0 ?_
  refine J_cV0i dX1_append_1 jmX1_isFull mv_X1_22 hc rfl (Nat.le_of_ble_eq_true rfl) (by decide) (c_cutFull hC) ?_
  refine J_if_eqB (tgt := 8) dX1_append_4 (by decide) (fun _ => ?_) (fun z => absurd z (by omega))
  refine J_aload_0 dX1_append_8 ?_
  refine J_get dX1_append_9 fl_X1_11 hc rfl ?_
  refine J_aload_0 dX1_append_12 ?_
  refine J_get dX1_append_13 fl_X1_18 hc rfl ?_
  refine J_aald dX1_append_16 hf ⟨_, rfl⟩ rfl (by omega) (by decide) (hfe n hn8) ?_
  refine J_astore_6 dX1_append_17 (Nat.le_of_ble_eq_true rfl) rfl ?_
  refine J_aload_6 dX1_append_19 ?_
  refine J_iload_1 dX1_append_21 ?_
  refine J_put dX1_append_22 fp_X1_26 he (Nat.le_of_ble_eq_true rfl) rfl rfl ?_
  refine J_aload_6 dX1_append_25 ?_
  refine J_iload_2 dX1_append_27 ?_
  refine J_put dX1_append_28 fp_X1_29 (hAt_s ha) (Nat.le_of_ble_eq_true rfl) rfl rfl ?_
  rw [hu_hu]
  refine J_aload_6 dX1_append_31 ?_
  refine J_iload_3 dX1_append_33 ?_
  refine J_put dX1_append_34 fp_X1_32 (hAt_s ha) (Nat.le_of_ble_eq_true rfl) rfl rfl ?_
  rw [hu_hu]
  refine J_aload_6 dX1_append_37 ?_
  refine J_iload_4 dX1_append_39 ?_
  refine J_put dX1_append_41 fp_X1_35 (hAt_s ha) (Nat.le_of_ble_eq_true rfl) rfl rfl ?_
  rw [hu_hu]
  refine J_aload_6 dX1_append_44 ?_
  refine J_iload_5 dX1_append_46 ?_
  refine J_put dX1_append_48 fp_X1_38 (hAt_s ha) (Nat.le_of_ble_eq_true rfl) rfl rfl ?_
  rw [hu_hu]
  refine J_aload_0 dX1_append_51 ?_
  refine J_dup dX1_append_52 rfl ?_
  refine J_get dX1_append_53 fl_X1_18 (hAt_ne hc (by omega)) rfl ?_
  refine J_iconst (v := nI 1) dX1_append_56 (by decide) ?_
  first | refine J_iaddN dX1_append_57 ?_ | refine J_iadd dX1_append_57 ?_
  refine J_put dX1_append_58 fp_X1_18 (hAt_ne hc (by omega)) (Nat.le_of_ble_eq_true rfl) rfl rfl ?_
  exact J_vret dX1_append_61 rfl (⟨rfl, rfl⟩)
end
section
variable {X : Cx} {h : HF} {a : Nat} {x : Nat → Nat}
theorem c_part (hE : edAt h a x) {w : Nat} (hw : w < 4) : CtI X mX2_part 0 [.ref a, .int (nI w)] h (nI (x (w + 1))) := by
  have hc := hE.1
  refine Ct_of jmX2_part [some (.ref a), some (.int (nI w))] (Nat.le_of_ble_eq_true rfl) rfl ?_
  show J X RX2 cX2_part 2 _ (some .int) _ 0 _ _ _
  rcases (show w = 0 ∨ w = 1 ∨ w = 2 ∨ w = 3 by omega) with rfl | rfl | rfl | rfl
  · refine J_iload_1 dX2_part_0 ?_
    refine J_tabN (tgt := 28) dX2_part_1 (by decide) (by decide) rfl (by decide) ?_
    refine J_aload_0 dX2_part_28 ?_
    refine J_get dX2_part_29 fl_X2_18 hc rfl ?_
    exact J_iret dX2_part_32 rfl (⟨rfl, rfl⟩)
  · refine J_iload_1 dX2_part_0 ?_
    refine J_tabN (tgt := 33) dX2_part_1 (by decide) (by decide) rfl (by decide) ?_
    refine J_aload_0 dX2_part_33 ?_
    refine J_get dX2_part_34 fl_X2_9 hc rfl ?_
    exact J_iret dX2_part_37 rfl (⟨rfl, rfl⟩)
  · refine J_iload_1 dX2_part_0 ?_
    refine J_tabN (tgt := 38) dX2_part_1 (by decide) (by decide) rfl (by decide) ?_
    refine J_aload_0 dX2_part_38 ?_
    refine J_get dX2_part_39 fl_X2_21 hc rfl ?_
    exact J_iret dX2_part_42 rfl (⟨rfl, rfl⟩)
  · refine J_iload_1 dX2_part_0 ?_
    refine J_tabNo (tgt := 43) dX2_part_1 (by decide) (by decide) (by decide) ?_
    refine J_aload_0 dX2_part_43 ?_
    refine J_get dX2_part_44 fl_X2_15 hc rfl ?_
    exact J_iret dX2_part_47 rfl (⟨rfl, rfl⟩)
theorem c_become (hE : edAt h a x) {w v : Nat} (hw : w < 4) : Ct X mX2_become 0 [.ref a, .int (nI w), .int (nI v)] h (fun r h' => r = none ∧ h' = hu h a (edC (kset x (w + 1) v))) := by
  have hc := hE.1
  refine Ct_of jmX2_become [some (.ref a), some (.int (nI w)), some (.int (nI v))] (Nat.le_of_ble_eq_true rfl) rfl ?_
  show J X RX2 cX2_become 3 _ none _ 0 _ _ _
  rcases (show w = 0 ∨ w = 1 ∨ w = 2 ∨ w = 3 by omega) with rfl | rfl | rfl | rfl
  · refine J_iload_1 dX2_become_0 ?_
    refine J_tabN (tgt := 28) dX2_become_1 (by decide) (by decide) rfl (by decide) ?_
    refine J_aload_0 dX2_become_28 ?_
    refine J_iload_2 dX2_become_29 ?_
    refine J_put dX2_become_30 fp_X2_18 hc (Nat.le_of_ble_eq_true rfl) rfl rfl ?_
    refine J_goto (tgt := 57) dX2_become_33 (by decide) ?_
    exact J_vret dX2_become_57 rfl (⟨rfl, rfl⟩)
  · refine J_iload_1 dX2_become_0 ?_
    refine J_tabN (tgt := 36) dX2_become_1 (by decide) (by decide) rfl (by decide) ?_
    refine J_aload_0 dX2_become_36 ?_
    refine J_iload_2 dX2_become_37 ?_
    refine J_put dX2_become_38 fp_X2_9 hc (Nat.le_of_ble_eq_true rfl) rfl rfl ?_
    refine J_goto (tgt := 57) dX2_become_41 (by decide) ?_
    exact J_vret dX2_become_57 rfl (⟨rfl, rfl⟩)
  · refine J_iload_1 dX2_become_0 ?_
    refine J_tabN (tgt := 44) dX2_become_1 (by decide) (by decide) rfl (by decide) ?_
    refine J_aload_0 dX2_become_44 ?_
    refine J_iload_2 dX2_become_45 ?_
    refine J_put dX2_become_46 fp_X2_21 hc (Nat.le_of_ble_eq_true rfl) rfl rfl ?_
    refine J_goto (tgt := 57) dX2_become_49 (by decide) ?_
    exact J_vret dX2_become_57 rfl (⟨rfl, rfl⟩)
  · refine J_iload_1 dX2_become_0 ?_
    refine J_tabNo (tgt := 52) dX2_become_1 (by decide) (by decide) (by decide) ?_
    refine J_aload_0 dX2_become_52 ?_
    refine J_iload_2 dX2_become_53 ?_
    refine J_put dX2_become_54 fp_X2_15 hc (Nat.le_of_ble_eq_true rfl) rfl rfl ?_
    exact J_vret dX2_become_57 rfl (⟨rfl, rfl⟩)
end
/-- the first frame of the cut that shows frame f of REEL r: from EDIT e on, k of them -/
def fss (x : Nat → Nat → Nat) (r f e k : Nat) : Option Nat := match k with
  | 0 => none
  | k + 1 => if x e 0 = r then (match fs (x e) f with
    | some j => some (bg x e + j)
    | none => fss x r f (e + 1) k) else fss x r f (e + 1) k
theorem fs_lt {x : Nat → Nat} {f j : Nat} (h : fs x f = some j) : j < x 2 ∧ fr x j = f := by
  unfold fs at h
  split at h
  · rename_i q; cases h; exact q
  · cases h
section
variable {X : Cx} {h : HF} {c n : Nat} {x : Nat → Nat → Nat}
theorem fss_lt (hC : cutAt h c n x) {r f : Nat} : ∀ (k e j : Nat), e + k = n → fss x r f e k = some j → j < 4000 := by
  intro k
  induction k with
  | zero => intro e j _ z; cases z
  | succ k ih =>
    intro e j he z
    have hn := hC.2.2.2
    rw [fss] at z
    split at z
    · cases q : fs (x e) f with
      | none => rw [q] at z; exact ih (e + 1) j (by omega) z
      | some i =>
        rw [q] at z
        cases z
        have h1 := (fs_lt q).1
        have h2 : bg x e + x e 2 ≤ 500 * (e + 1) := bg_le hC (e := e + 1) (by omega)
        omega
    · exact ih (e + 1) j (by omega) z
theorem l_cfs (hC : cutAt h c n x) {r f : Nat} (hr : r < 6) (hf0 : f < 300000) : ∀ (k e : Nat) (o4 : Option Value), e + k = n → J X RX1 cX1_firstShowing 5 2 (some .int) (fun q h' => q = some (.int (oN (fss x r f e k))) ∧ h' = h) 2 [some (.ref c), some (.int (nI r)), some (.int (nI f)), some (.int (nI e)), o4] [] h := by
  obtain ⟨hc, ⟨g, hf, hfe⟩, hE, hn⟩ := id hC
  intro k
  induction k with
  | zero =>
    intro e o4 he
    refine J_iload_3 dX1_firstShowing_2 ?_
    refine J_aload_0 dX1_firstShowing_3 ?_
    refine J_get dX1_firstShowing_4 fl_X1_18 hc rfl ?_
    refine J_icmp_geN (tgt := 60) dX1_firstShowing_7 (by decide) (by omega) (by omega) (fun _ => ?_) (fun c => absurd c (by omega))
    refine J_iconst (v := -1) dX1_firstShowing_60 (by decide) ?_
    exact J_iret dX1_firstShowing_61 rfl (⟨rfl, rfl⟩)
  | succ k ih =>
    intro e o4 he
    have o := (hE e (by omega)).2
    have o0 := o.1
    by_cases hre : x e 0 = r
    · have ct := c_efs (X := X) (hE e (by omega)) hf0
      cases hq : fs (x e) f with
      | none =>
        rw [hq] at ct
        rw [show fss x r f e (k + 1) = fss x r f (e + 1) k from by rw [fss, if_pos hre, hq]]
        refine J_iload_3 dX1_firstShowing_2 ?_
        refine J_aload_0 dX1_firstShowing_3 ?_
        refine J_get dX1_firstShowing_4 fl_X1_18 hc rfl ?_
        refine J_icmp_geN (tgt := 60) dX1_firstShowing_7 (by decide) (by omega) (by omega) (fun c => absurd c (by omega)) (fun _ => ?_)
        refine J_aload_0 dX1_firstShowing_10 ?_
        refine J_get dX1_firstShowing_11 fl_X1_11 hc rfl ?_
        refine J_iload_3 dX1_firstShowing_14 ?_
        refine J_aald dX1_firstShowing_15 hf ⟨_, rfl⟩ rfl (by omega) (by decide) (hfe e (by omega)) ?_
        refine J_get dX1_firstShowing_16 fl_X1_26 (hE e (by omega)).1 rfl ?_
        refine J_iload_1 dX1_firstShowing_19 ?_
        refine J_icmp_neN (tgt := 36) dX1_firstShowing_20 (by decide) (by omega) (by omega) (fun c => absurd c (by omega)) (fun _ => ?_)
        refine J_aload_0 dX1_firstShowing_23 ?_
        refine J_get dX1_firstShowing_24 fl_X1_11 hc rfl ?_
        refine J_iload_3 dX1_firstShowing_27 ?_
        refine J_aald dX1_firstShowing_28 hf ⟨_, rfl⟩ rfl (by omega) (by decide) (hfe e (by omega)) ?_
        refine J_iload_2 dX1_firstShowing_29 ?_
        refine J_cV1i dX1_firstShowing_30 jmX2_firstShowing mv_X1_48 (hE e (by omega)).1 rfl (Nat.le_of_ble_eq_true rfl) (by decide) (ct) ?_
        refine J_goto (tgt := 37) dX1_firstShowing_33 (by decide) ?_
        refine J_istore_4 dX1_firstShowing_37 (Nat.le_of_ble_eq_true rfl) rfl ?_
        refine J_iload_4 dX1_firstShowing_39 ?_
        refine J_iconst (v := -1) dX1_firstShowing_41 (by decide) ?_
        refine J_icmp_eq (tgt := 54) dX1_firstShowing_42 (by decide) (fun _ => ?_) (fun c => absurd (show oN none = -1 from rfl) c)
        first | refine J_inc_3 dX1_firstShowing_54 (Nat.le_of_ble_eq_true rfl) rfl ?_ | refine J_iinc_3 dX1_firstShowing_54 rfl (Nat.le_of_ble_eq_true rfl) rfl ?_
        refine J_goto (tgt := 2) dX1_firstShowing_57 (by decide) ?_
        exact ih (e + 1) _ (by omega)
      | some j =>
        rw [hq] at ct
        have hj := (fs_lt hq).1
        have hb : bg x e + x e 2 ≤ 500 * (e + 1) := bg_le hC (e := e + 1) (by omega)
        rw [show fss x r f e (k + 1) = some (bg x e + j) from by rw [fss, if_pos hre, hq]]
        refine J_iload_3 dX1_firstShowing_2 ?_
        refine J_aload_0 dX1_firstShowing_3 ?_
        refine J_get dX1_firstShowing_4 fl_X1_18 hc rfl ?_
        refine J_icmp_geN (tgt := 60) dX1_firstShowing_7 (by decide) (by omega) (by omega) (fun c => absurd c (by omega)) (fun _ => ?_)
        refine J_aload_0 dX1_firstShowing_10 ?_
        refine J_get dX1_firstShowing_11 fl_X1_11 hc rfl ?_
        refine J_iload_3 dX1_firstShowing_14 ?_
        refine J_aald dX1_firstShowing_15 hf ⟨_, rfl⟩ rfl (by omega) (by decide) (hfe e (by omega)) ?_
        refine J_get dX1_firstShowing_16 fl_X1_26 (hE e (by omega)).1 rfl ?_
        refine J_iload_1 dX1_firstShowing_19 ?_
        refine J_icmp_neN (tgt := 36) dX1_firstShowing_20 (by decide) (by omega) (by omega) (fun c => absurd c (by omega)) (fun _ => ?_)
        refine J_aload_0 dX1_firstShowing_23 ?_
        refine J_get dX1_firstShowing_24 fl_X1_11 hc rfl ?_
        refine J_iload_3 dX1_firstShowing_27 ?_
        refine J_aald dX1_firstShowing_28 hf ⟨_, rfl⟩ rfl (by omega) (by decide) (hfe e (by omega)) ?_
        refine J_iload_2 dX1_firstShowing_29 ?_
        refine J_cV1i dX1_firstShowing_30 jmX2_firstShowing mv_X1_48 (hE e (by omega)).1 rfl (Nat.le_of_ble_eq_true rfl) (by decide) (ct) ?_
        refine J_goto (tgt := 37) dX1_firstShowing_33 (by decide) ?_
        refine J_istore_4 dX1_firstShowing_37 (Nat.le_of_ble_eq_true rfl) rfl ?_
        refine J_iload_4 dX1_firstShowing_39 ?_
        refine J_iconst (v := -1) dX1_firstShowing_41 (by decide) ?_
        refine J_icmp_eq (tgt := 54) dX1_firstShowing_42 (by decide) (fun c => absurd c (oN_ne (n := j) (by omega))) (fun _ => ?_)
        refine J_aload_0 dX1_firstShowing_45 ?_
        refine J_iload_3 dX1_firstShowing_46 ?_
        refine J_cV1i dX1_firstShowing_47 jmX1_begin mv_X1_41 hc rfl (Nat.le_of_ble_eq_true rfl) (by decide) (c_begin hC (by omega)) ?_
        refine J_iload_4 dX1_firstShowing_50 ?_
        refine J_iaddN (b := j) dX1_firstShowing_52 ?_
        exact J_iret dX1_firstShowing_53 rfl (⟨rfl, rfl⟩)
    · rw [show fss x r f e (k + 1) = fss x r f (e + 1) k from by rw [fss, if_neg hre]]
      refine J_iload_3 dX1_firstShowing_2 ?_
      refine J_aload_0 dX1_firstShowing_3 ?_
      refine J_get dX1_firstShowing_4 fl_X1_18 hc rfl ?_
      refine J_icmp_geN (tgt := 60) dX1_firstShowing_7 (by decide) (by omega) (by omega) (fun c => absurd c (by omega)) (fun _ => ?_)
      refine J_aload_0 dX1_firstShowing_10 ?_
      refine J_get dX1_firstShowing_11 fl_X1_11 hc rfl ?_
      refine J_iload_3 dX1_firstShowing_14 ?_
      refine J_aald dX1_firstShowing_15 hf ⟨_, rfl⟩ rfl (by omega) (by decide) (hfe e (by omega)) ?_
      refine J_get dX1_firstShowing_16 fl_X1_26 (hE e (by omega)).1 rfl ?_
      refine J_iload_1 dX1_firstShowing_19 ?_
      refine J_icmp_neN (tgt := 36) dX1_firstShowing_20 (by decide) (by omega) (by omega) (fun _ => ?_) (fun c => absurd c (by omega))
      refine J_iconst (v := -1) dX1_firstShowing_36 (by decide) ?_
      refine J_istore_4 dX1_firstShowing_37 (Nat.le_of_ble_eq_true rfl) rfl ?_
      refine J_iload_4 dX1_firstShowing_39 ?_
      refine J_iconst (v := -1) dX1_firstShowing_41 (by decide) ?_
      refine J_icmp_eq (tgt := 54) dX1_firstShowing_42 (by decide) (fun _ => ?_) (fun c => absurd (rfl : (-1 : Int32) = -1) c)
      first | refine J_inc_3 dX1_firstShowing_54 (Nat.le_of_ble_eq_true rfl) rfl ?_ | refine J_iinc_3 dX1_firstShowing_54 rfl (Nat.le_of_ble_eq_true rfl) rfl ?_
      refine J_goto (tgt := 2) dX1_firstShowing_57 (by decide) ?_
      exact ih (e + 1) _ (by omega)
theorem c_cfs (hC : cutAt h c n x) {r f : Nat} (hr : r < 6) (hf0 : f < 300000) : CtI X mX1_firstShowing 2 [.ref c, .int (nI r), .int (nI f)] h (oN (fss x r f 0 n)) := by
  refine Ct_of jmX1_firstShowing [some (.ref c), some (.int (nI r)), some (.int (nI f)), none, none] (Nat.le_of_ble_eq_true rfl) rfl ?_
  show J X RX1 cX1_firstShowing 5 _ (some .int) _ 0 _ _ _
  refine J_iconst (v := nI 0) dX1_firstShowing_0 (by decide) ?_
  refine J_istore_3 dX1_firstShowing_1 (Nat.le_of_ble_eq_true rfl) rfl ?_
  exact l_cfs hC hr hf0 n 0 none (by omega)
/-- of EDIT e the frames from k on, m of them, that the cut shows there first -/
def shk (x : Nat → Nat → Nat) (n e k m : Nat) : Nat := match m with
  | 0 => 0
  | m + 1 => (if fss x (x e 0) (fr (x e) k) 0 n = some (bg x e + k) then 1 else 0) + shk x n e (k + 1) m
def sh (x : Nat → Nat → Nat) (n e m : Nat) : Nat := match m with
  | 0 => 0
  | m + 1 => shk x n e 0 (x e 2) + sh x n (e + 1) m
theorem l_shk (hC : cutAt h c n x) {e : Nat} (he : e < n) {Q : Option Value → HF → Prop} (s1 : Nat) (kk : ∀ o5 : Option Value, J X RX1 cX1_shownFrames 6 3 (some .int) Q 69 [some (.ref c), some (.int (nI (s1 + shk x n e 0 (x e 2)))), some (.int (nI e)), some (.ref (c + 2 + e)), some (.int (nI (bg x e))), o5] [] h) :
    ∀ (m k s : Nat), k + m = x e 2 → s + shk x n e k m = s1 + shk x n e 0 (x e 2) → J X RX1 cX1_shownFrames 6 3 (some .int) Q 29 [some (.ref c), some (.int (nI s)), some (.int (nI e)), some (.ref (c + 2 + e)), some (.int (nI (bg x e))), some (.int (nI k))] [] h := by
  obtain ⟨hc, ⟨g, hf, hfe⟩, hE, hn⟩ := id hC
  have hEe := hE e (by omega)
  have hE1 := hEe.1
  have o := hEe.2
  obtain ⟨o0, o1, o2, o3, o4, o5, o6⟩ := id o
  have hb : bg x e + x e 2 ≤ 500 * (e + 1) := bg_le hC (e := e + 1) (by omega)
  intro m
  induction m with
  | zero =>
    intro k s hk hs
    have es : s = s1 + shk x n e 0 (x e 2) := hs
    subst es
    refine J_iload_5 dX1_shownFrames_29 ?_
    refine J_aload_3 dX1_shownFrames_31 ?_
    refine J_get dX1_shownFrames_32 fl_X1_32 hE1 rfl ?_
    refine J_icmp_geN (tgt := 69) dX1_shownFrames_35 (by decide) (by omega) (by omega) (fun _ => ?_) (fun c => absurd c (by omega))
    exact kk _
  | succ m ih =>
    intro k s hk hs
    have hfr := fr_le o (k := k) (by omega)
    have hl : ∀ j, fss x (x e 0) (fr (x e) k) 0 n = some j → j < 2 ^ 31 := fun j z => Nat.lt_trans (fss_lt hC n 0 j (by omega) z) (by decide)
    refine J_iload_5 dX1_shownFrames_29 ?_
    refine J_aload_3 dX1_shownFrames_31 ?_
    refine J_get dX1_shownFrames_32 fl_X1_32 hE1 rfl ?_
    refine J_icmp_geN (tgt := 69) dX1_shownFrames_35 (by decide) (by omega) (by omega) (fun c => absurd c (by omega)) (fun _ => ?_)
    refine J_aload_0 dX1_shownFrames_38 ?_
    refine J_aload_3 dX1_shownFrames_39 ?_
    refine J_get dX1_shownFrames_40 fl_X1_26 hE1 rfl ?_
    refine J_aload_3 dX1_shownFrames_43 ?_
    refine J_iload_5 dX1_shownFrames_44 ?_
    refine J_cV1i dX1_shownFrames_46 jmX2_frameAt mv_X1_51 hE1 rfl (Nat.le_of_ble_eq_true rfl) (by decide) (c_frameAt hEe (by omega)) ?_
    refine J_cV2i dX1_shownFrames_49 jmX1_firstShowing mv_X1_54 hc rfl (Nat.le_of_ble_eq_true rfl) (by decide) (c_cfs hC o0 (by omega)) ?_
    refine J_iload_4 dX1_shownFrames_52 ?_
    refine J_iload_5 dX1_shownFrames_54 ?_
    first | refine J_iaddN dX1_shownFrames_56 ?_ | refine J_iadd dX1_shownFrames_56 ?_
    refine J_icmp_ne (tgt := 63) dX1_shownFrames_57 (by decide) (fun c57 => ?_) (fun c57 => ?_)
    · first | (rw [oN_eq (by omega) hl] at c57; rw [shk, if_neg c57] at hs) | skip
      first | refine J_inc_5 dX1_shownFrames_63 (Nat.le_of_ble_eq_true rfl) rfl ?_ | refine J_iinc_5 dX1_shownFrames_63 rfl (Nat.le_of_ble_eq_true rfl) rfl ?_
      refine J_goto (tgt := 29) dX1_shownFrames_66 (by decide) ?_
      exact ih (k + 1) _ (by omega) (by omega)
    · rw [oN_eq (by omega) hl] at c57
      rw [shk, if_pos c57] at hs
      first | refine J_inc_1 dX1_shownFrames_60 (Nat.le_of_ble_eq_true rfl) rfl ?_ | refine J_iinc_1 dX1_shownFrames_60 rfl (Nat.le_of_ble_eq_true rfl) rfl ?_
      first | (rw [oN_eq (by omega) hl] at c57; rw [shk, if_neg c57] at hs) | skip
      first | refine J_inc_5 dX1_shownFrames_63 (Nat.le_of_ble_eq_true rfl) rfl ?_ | refine J_iinc_5 dX1_shownFrames_63 rfl (Nat.le_of_ble_eq_true rfl) rfl ?_
      refine J_goto (tgt := 29) dX1_shownFrames_66 (by decide) ?_
      exact ih (k + 1) _ (by omega) (by omega)
theorem l_sh (hC : cutAt h c n x) {tot : Nat} : ∀ (m e s : Nat) (o3 o4 o5 : Option Value), lok o3 = true → lok o4 = true → e + m = n → s + sh x n e m = tot → J X RX1 cX1_shownFrames 6 3 (some .int) (fun q h' => q = some (.int (nI tot)) ∧ h' = h) 4 [some (.ref c), some (.int (nI s)), some (.int (nI e)), o3, o4, o5] [] h := by
  obtain ⟨hc, ⟨g, hf, hfe⟩, hE, hn⟩ := id hC
  intro m
  induction m with
  | zero =>
    intro e s o3 o4 o5 l3 l4 he hs
    have es : s = tot := hs
    subst es
    refine J_iload_2 dX1_shownFrames_4 ?_
    refine J_aload_0 dX1_shownFrames_5 ?_
    refine J_get dX1_shownFrames_6 fl_X1_18 hc rfl ?_
    refine J_icmp_geN (tgt := 75) dX1_shownFrames_9 (by decide) (by omega) (by omega) (fun _ => ?_) (fun c => absurd c (by omega))
    refine J_iload_1 dX1_shownFrames_75 ?_
    exact J_iret dX1_shownFrames_76 rfl (⟨rfl, rfl⟩)
  | succ m ih =>
    intro e s o3 o4 o5 l3 l4 he hs
    rw [sh] at hs
    refine J_iload_2 dX1_shownFrames_4 ?_
    refine J_aload_0 dX1_shownFrames_5 ?_
    refine J_get dX1_shownFrames_6 fl_X1_18 hc rfl ?_
    refine J_icmp_geN (tgt := 75) dX1_shownFrames_9 (by decide) (by omega) (by omega) (fun c => absurd c (by omega)) (fun _ => ?_)
    refine J_aload_0 dX1_shownFrames_12 ?_
    refine J_get dX1_shownFrames_13 fl_X1_11 hc rfl ?_
    refine J_iload_2 dX1_shownFrames_16 ?_
    refine J_aald dX1_shownFrames_17 hf ⟨_, rfl⟩ rfl (by omega) (by decide) (hfe e (by omega)) ?_
    refine J_astore_3 dX1_shownFrames_18 (Nat.le_of_ble_eq_true rfl) rfl ?_
    refine J_aload_0 dX1_shownFrames_19 ?_
    refine J_iload_2 dX1_shownFrames_20 ?_
    refine J_cV1i dX1_shownFrames_21 jmX1_begin mv_X1_41 hc rfl (Nat.le_of_ble_eq_true rfl) (by decide) (c_begin hC (by omega)) ?_
    refine J_istore_4 dX1_shownFrames_24 (Nat.le_of_ble_eq_true rfl) rfl ?_
    refine J_iconst (v := nI 0) dX1_shownFrames_26 (by decide) ?_
    refine J_istore_5 dX1_shownFrames_27 (Nat.le_of_ble_eq_true rfl) rfl ?_
    refine l_shk hC (by omega) s (fun o5 => ?_) (x e 2) 0 s (by omega) rfl
    first | refine J_inc_2 dX1_shownFrames_69 (Nat.le_of_ble_eq_true rfl) rfl ?_ | refine J_iinc_2 dX1_shownFrames_69 rfl (Nat.le_of_ble_eq_true rfl) rfl ?_
    refine J_goto (tgt := 4) dX1_shownFrames_72 (by decide) ?_
    exact ih (e + 1) _ _ _ _ rfl rfl (by omega) (by omega)
theorem c_shown (hC : cutAt h c n x) : CtI X mX1_shownFrames 3 [.ref c] h (nI (sh x n 0 n)) := by
  refine Ct_of jmX1_shownFrames [some (.ref c), none, none, none, none, none] (Nat.le_of_ble_eq_true rfl) rfl ?_
  show J X RX1 cX1_shownFrames 6 _ (some .int) _ 0 _ _ _
  refine J_iconst (v := nI 0) dX1_shownFrames_0 (by decide) ?_
  refine J_istore_1 dX1_shownFrames_1 (Nat.le_of_ble_eq_true rfl) rfl ?_
  refine J_iconst (v := nI 0) dX1_shownFrames_2 (by decide) ?_
  refine J_istore_2 dX1_shownFrames_3 (Nat.le_of_ble_eq_true rfl) rfl ?_
  exact l_sh hC n 0 0 none none none rfl rfl (by omega) (Nat.zero_add _)
end
end
