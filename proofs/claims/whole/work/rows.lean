section
-- ===== PART A: goes FIRST, ahead of the names: the tables' words, and 'selects' of the private methods out of them =====
/-- a private method of a class that the tables say can be made, by its rows of tables_1 -/
def lw_okq (q : MethodName × Nat) : Prop := (q.1.cls ≠ "java/lang/invoke/MethodHandle" ∧ q.1.cls ≠ "java/lang/invoke/VarHandle") ∧ Cond.instantiable q.1.cls q.2 ∈ tables_1 ∧ Cond.privateMethod q.1 ∈ tables_1 ∧ Cond.instanceMethod q.1 ∈ tables_1
theorem lw_p0 : lw_okq (⟨"PartedInks", "lookNow", "(I)I"⟩, 12) := ⟨⟨by decide +kernel, by decide +kernel⟩, List.mem_of_getElem? (i := 13) (by decide +kernel), List.mem_of_getElem? (i := 228) (by decide +kernel), List.mem_of_getElem? (i := 229) (by decide +kernel)⟩
theorem lw_p1 : lw_okq (⟨"PartedInks", "alikeTo", "(I)I"⟩, 12) := ⟨⟨by decide +kernel, by decide +kernel⟩, List.mem_of_getElem? (i := 13) (by decide +kernel), List.mem_of_getElem? (i := 256) (by decide +kernel), List.mem_of_getElem? (i := 257) (by decide +kernel)⟩
theorem lw_p2 : lw_okq (⟨"PartedInks$Areas", "spreadFrom", "(IILPartedInks$State;)V"⟩, 7) := ⟨⟨by decide +kernel, by decide +kernel⟩, List.mem_of_getElem? (i := 92) (by decide +kernel), List.mem_of_getElem? (i := 302) (by decide +kernel), List.mem_of_getElem? (i := 303) (by decide +kernel)⟩
theorem lw_p3 : lw_okq (⟨"PartedInks$Areas", "join", "(III)V"⟩, 7) := ⟨⟨by decide +kernel, by decide +kernel⟩, List.mem_of_getElem? (i := 92) (by decide +kernel), List.mem_of_getElem? (i := 307) (by decide +kernel), List.mem_of_getElem? (i := 308) (by decide +kernel)⟩
theorem lw_p4 : lw_okq (⟨"PartedInks$Areas", "meetBeside", "(IIILPartedInks$State;)I"⟩, 7) := ⟨⟨by decide +kernel, by decide +kernel⟩, List.mem_of_getElem? (i := 92) (by decide +kernel), List.mem_of_getElem? (i := 337) (by decide +kernel), List.mem_of_getElem? (i := 338) (by decide +kernel)⟩
theorem lw_p5 : lw_okq (⟨"PartedInks$Tape", "begin", "()V"⟩, 7) := ⟨⟨by decide +kernel, by decide +kernel⟩, List.mem_of_getElem? (i := 122) (by decide +kernel), List.mem_of_getElem? (i := 363) (by decide +kernel), List.mem_of_getElem? (i := 364) (by decide +kernel)⟩
theorem lw_p6 : lw_okq (⟨"PartedInks$Tape", "letterBehindBlanks", "()I"⟩, 7) := ⟨⟨by decide +kernel, by decide +kernel⟩, List.mem_of_getElem? (i := 122) (by decide +kernel), List.mem_of_getElem? (i := 367) (by decide +kernel), List.mem_of_getElem? (i := 368) (by decide +kernel)⟩
theorem lw_p7 : lw_okq (⟨"PartedInks$Tape", "endLine", "()Z"⟩, 7) := ⟨⟨by decide +kernel, by decide +kernel⟩, List.mem_of_getElem? (i := 122) (by decide +kernel), List.mem_of_getElem? (i := 371) (by decide +kernel), List.mem_of_getElem? (i := 372) (by decide +kernel)⟩
theorem lw_p8 : lw_okq (⟨"PartedInks$Tape", "readRun", "(I)Z"⟩, 7) := ⟨⟨by decide +kernel, by decide +kernel⟩, List.mem_of_getElem? (i := 122) (by decide +kernel), List.mem_of_getElem? (i := 375) (by decide +kernel), List.mem_of_getElem? (i := 376) (by decide +kernel)⟩
theorem lw_p9 : lw_okq (⟨"PartedInks$Tape", "readSet", "(I)I"⟩, 7) := ⟨⟨by decide +kernel, by decide +kernel⟩, List.mem_of_getElem? (i := 122) (by decide +kernel), List.mem_of_getElem? (i := 379) (by decide +kernel), List.mem_of_getElem? (i := 380) (by decide +kernel)⟩
theorem lw_p10 : lw_okq (⟨"PartedInks$Tape", "readManyInks", "()I"⟩, 7) := ⟨⟨by decide +kernel, by decide +kernel⟩, List.mem_of_getElem? (i := 122) (by decide +kernel), List.mem_of_getElem? (i := 383) (by decide +kernel), List.mem_of_getElem? (i := 384) (by decide +kernel)⟩
theorem lw_p11 : lw_okq (⟨"PartedInks$Tape", "writeNext", "(I)V"⟩, 7) := ⟨⟨by decide +kernel, by decide +kernel⟩, List.mem_of_getElem? (i := 122) (by decide +kernel), List.mem_of_getElem? (i := 390) (by decide +kernel), List.mem_of_getElem? (i := 391) (by decide +kernel)⟩
theorem lw_p12 : lw_okq (⟨"PartedInks", "unlikeLooks", "()I"⟩, 12) := ⟨⟨by decide +kernel, by decide +kernel⟩, List.mem_of_getElem? (i := 13) (by decide +kernel), List.mem_of_getElem? (i := 409) (by decide +kernel), List.mem_of_getElem? (i := 410) (by decide +kernel)⟩
theorem lw_p13 : lw_okq (⟨"PartedInks$Looks", "isDrawnBelow", "(II)Z"⟩, 1) := ⟨⟨by decide +kernel, by decide +kernel⟩, List.mem_of_getElem? (i := 81) (by decide +kernel), List.mem_of_getElem? (i := 422) (by decide +kernel), List.mem_of_getElem? (i := 423) (by decide +kernel)⟩
theorem lw_p14 : lw_okq (⟨"PartedInks", "fewestInks", "()I"⟩, 12) := ⟨⟨by decide +kernel, by decide +kernel⟩, List.mem_of_getElem? (i := 13) (by decide +kernel), List.mem_of_getElem? (i := 426) (by decide +kernel), List.mem_of_getElem? (i := 427) (by decide +kernel)⟩
theorem lw_p15 : lw_okq (⟨"PartedInks$Looks", "canPrintAll", "(II)Z"⟩, 1) := ⟨⟨by decide +kernel, by decide +kernel⟩, List.mem_of_getElem? (i := 81) (by decide +kernel), List.mem_of_getElem? (i := 440) (by decide +kernel), List.mem_of_getElem? (i := 441) (by decide +kernel)⟩
def lw_privs_1 : List (MethodName × Nat) := [(⟨"PartedInks", "lookNow", "(I)I"⟩, 12), (⟨"PartedInks", "alikeTo", "(I)I"⟩, 12), (⟨"PartedInks$Areas", "spreadFrom", "(IILPartedInks$State;)V"⟩, 7), (⟨"PartedInks$Areas", "join", "(III)V"⟩, 7), (⟨"PartedInks$Areas", "meetBeside", "(IIILPartedInks$State;)I"⟩, 7), (⟨"PartedInks$Tape", "begin", "()V"⟩, 7), (⟨"PartedInks$Tape", "letterBehindBlanks", "()I"⟩, 7), (⟨"PartedInks$Tape", "endLine", "()Z"⟩, 7), (⟨"PartedInks$Tape", "readRun", "(I)Z"⟩, 7), (⟨"PartedInks$Tape", "readSet", "(I)I"⟩, 7), (⟨"PartedInks$Tape", "readManyInks", "()I"⟩, 7), (⟨"PartedInks$Tape", "writeNext", "(I)V"⟩, 7), (⟨"PartedInks", "unlikeLooks", "()I"⟩, 12), (⟨"PartedInks$Looks", "isDrawnBelow", "(II)Z"⟩, 1), (⟨"PartedInks", "fewestInks", "()I"⟩, 12), (⟨"PartedInks$Looks", "canPrintAll", "(II)Z"⟩, 1)]
theorem lw_r1 : ∀ q ∈ lw_privs_1, lw_okq q := List.forall_mem_cons.mpr ⟨lw_p0, List.forall_mem_cons.mpr ⟨lw_p1, List.forall_mem_cons.mpr ⟨lw_p2, List.forall_mem_cons.mpr ⟨lw_p3, List.forall_mem_cons.mpr ⟨lw_p4, List.forall_mem_cons.mpr ⟨lw_p5, List.forall_mem_cons.mpr ⟨lw_p6, List.forall_mem_cons.mpr ⟨lw_p7, List.forall_mem_cons.mpr ⟨lw_p8, List.forall_mem_cons.mpr ⟨lw_p9, List.forall_mem_cons.mpr ⟨lw_p10, List.forall_mem_cons.mpr ⟨lw_p11, List.forall_mem_cons.mpr ⟨lw_p12, List.forall_mem_cons.mpr ⟨lw_p13, List.forall_mem_cons.mpr ⟨lw_p14, List.forall_mem_cons.mpr ⟨lw_p15, fun _ h => absurd h List.not_mem_nil⟩⟩⟩⟩⟩⟩⟩⟩⟩⟩⟩⟩⟩⟩⟩⟩
theorem lw_p16 : lw_okq (⟨"PartedInks$Looks", "canPrint", "(II)Z"⟩, 1) := ⟨⟨by decide +kernel, by decide +kernel⟩, List.mem_of_getElem? (i := 81) (by decide +kernel), List.mem_of_getElem? (i := 444) (by decide +kernel), List.mem_of_getElem? (i := 445) (by decide +kernel)⟩
theorem lw_p17 : lw_okq (⟨"PartedInks", "worstAside", "()I"⟩, 12) := ⟨⟨by decide +kernel, by decide +kernel⟩, List.mem_of_getElem? (i := 13) (by decide +kernel), List.mem_of_getElem? (i := 448) (by decide +kernel), List.mem_of_getElem? (i := 449) (by decide +kernel)⟩
theorem lw_p18 : lw_okq (⟨"PartedInks", "gapsBy", "(III)I"⟩, 12) := ⟨⟨by decide +kernel, by decide +kernel⟩, List.mem_of_getElem? (i := 13) (by decide +kernel), List.mem_of_getElem? (i := 452) (by decide +kernel), List.mem_of_getElem? (i := 453) (by decide +kernel)⟩
theorem lw_p19 : lw_okq (⟨"PartedInks", "printedBy", "(IIIII)I"⟩, 12) := ⟨⟨by decide +kernel, by decide +kernel⟩, List.mem_of_getElem? (i := 13) (by decide +kernel), List.mem_of_getElem? (i := 456) (by decide +kernel), List.mem_of_getElem? (i := 457) (by decide +kernel)⟩
theorem lw_p20 : lw_okq (⟨"PartedInks", "worstGaps", "()I"⟩, 12) := ⟨⟨by decide +kernel, by decide +kernel⟩, List.mem_of_getElem? (i := 13) (by decide +kernel), List.mem_of_getElem? (i := 460) (by decide +kernel), List.mem_of_getElem? (i := 461) (by decide +kernel)⟩
theorem lw_p21 : lw_okq (⟨"PartedInks", "ordersAlike", "()I"⟩, 12) := ⟨⟨by decide +kernel, by decide +kernel⟩, List.mem_of_getElem? (i := 13) (by decide +kernel), List.mem_of_getElem? (i := 464) (by decide +kernel), List.mem_of_getElem? (i := 465) (by decide +kernel)⟩
theorem lw_p22 : lw_okq (⟨"PartedInks", "isAlikeByOrder", "(II)Z"⟩, 12) := ⟨⟨by decide +kernel, by decide +kernel⟩, List.mem_of_getElem? (i := 13) (by decide +kernel), List.mem_of_getElem? (i := 468) (by decide +kernel), List.mem_of_getElem? (i := 469) (by decide +kernel)⟩
theorem lw_p23 : lw_okq (⟨"PartedInks", "firstOrderAlike", "()I"⟩, 12) := ⟨⟨by decide +kernel, by decide +kernel⟩, List.mem_of_getElem? (i := 13) (by decide +kernel), List.mem_of_getElem? (i := 483) (by decide +kernel), List.mem_of_getElem? (i := 484) (by decide +kernel)⟩
theorem lw_p24 : lw_okq (⟨"PartedInks", "orderByDark", "()I"⟩, 12) := ⟨⟨by decide +kernel, by decide +kernel⟩, List.mem_of_getElem? (i := 13) (by decide +kernel), List.mem_of_getElem? (i := 487) (by decide +kernel), List.mem_of_getElem? (i := 488) (by decide +kernel)⟩
theorem lw_p25 : lw_okq (⟨"PartedInks", "lighterInks", "(I)I"⟩, 12) := ⟨⟨by decide +kernel, by decide +kernel⟩, List.mem_of_getElem? (i := 13) (by decide +kernel), List.mem_of_getElem? (i := 491) (by decide +kernel), List.mem_of_getElem? (i := 492) (by decide +kernel)⟩
theorem lw_p26 : lw_okq (⟨"PartedInks$Past", "loseOldest", "()V"⟩, 2) := ⟨⟨by decide +kernel, by decide +kernel⟩, List.mem_of_getElem? (i := 64) (by decide +kernel), List.mem_of_getElem? (i := 507) (by decide +kernel), List.mem_of_getElem? (i := 508) (by decide +kernel)⟩
theorem lw_p27 : lw_okq (⟨"PartedInks", "growAside", "()V"⟩, 12) := ⟨⟨by decide +kernel, by decide +kernel⟩, List.mem_of_getElem? (i := 13) (by decide +kernel), List.mem_of_getElem? (i := 540) (by decide +kernel), List.mem_of_getElem? (i := 541) (by decide +kernel)⟩
theorem lw_p28 : lw_okq (⟨"PartedInks", "growBetween", "(II)V"⟩, 12) := ⟨⟨by decide +kernel, by decide +kernel⟩, List.mem_of_getElem? (i := 13) (by decide +kernel), List.mem_of_getElem? (i := 546) (by decide +kernel), List.mem_of_getElem? (i := 547) (by decide +kernel)⟩
theorem lw_p29 : lw_okq (⟨"PartedInks", "driftOnce", "()V"⟩, 12) := ⟨⟨by decide +kernel, by decide +kernel⟩, List.mem_of_getElem? (i := 13) (by decide +kernel), List.mem_of_getElem? (i := 567) (by decide +kernel), List.mem_of_getElem? (i := 568) (by decide +kernel)⟩
theorem lw_p30 : lw_okq (⟨"PartedInks", "gaplessOdds", "(I)I"⟩, 12) := ⟨⟨by decide +kernel, by decide +kernel⟩, List.mem_of_getElem? (i := 13) (by decide +kernel), List.mem_of_getElem? (i := 602) (by decide +kernel), List.mem_of_getElem? (i := 603) (by decide +kernel)⟩
theorem lw_p31 : lw_okq (⟨"PartedInks", "kindsSeen", "(ILPartedInks$Row;II)I"⟩, 12) := ⟨⟨by decide +kernel, by decide +kernel⟩, List.mem_of_getElem? (i := 13) (by decide +kernel), List.mem_of_getElem? (i := 653) (by decide +kernel), List.mem_of_getElem? (i := 654) (by decide +kernel)⟩
def lw_privs_2 : List (MethodName × Nat) := [(⟨"PartedInks$Looks", "canPrint", "(II)Z"⟩, 1), (⟨"PartedInks", "worstAside", "()I"⟩, 12), (⟨"PartedInks", "gapsBy", "(III)I"⟩, 12), (⟨"PartedInks", "printedBy", "(IIIII)I"⟩, 12), (⟨"PartedInks", "worstGaps", "()I"⟩, 12), (⟨"PartedInks", "ordersAlike", "()I"⟩, 12), (⟨"PartedInks", "isAlikeByOrder", "(II)Z"⟩, 12), (⟨"PartedInks", "firstOrderAlike", "()I"⟩, 12), (⟨"PartedInks", "orderByDark", "()I"⟩, 12), (⟨"PartedInks", "lighterInks", "(I)I"⟩, 12), (⟨"PartedInks$Past", "loseOldest", "()V"⟩, 2), (⟨"PartedInks", "growAside", "()V"⟩, 12), (⟨"PartedInks", "growBetween", "(II)V"⟩, 12), (⟨"PartedInks", "driftOnce", "()V"⟩, 12), (⟨"PartedInks", "gaplessOdds", "(I)I"⟩, 12), (⟨"PartedInks", "kindsSeen", "(ILPartedInks$Row;II)I"⟩, 12)]
theorem lw_r2 : ∀ q ∈ lw_privs_2, lw_okq q := List.forall_mem_cons.mpr ⟨lw_p16, List.forall_mem_cons.mpr ⟨lw_p17, List.forall_mem_cons.mpr ⟨lw_p18, List.forall_mem_cons.mpr ⟨lw_p19, List.forall_mem_cons.mpr ⟨lw_p20, List.forall_mem_cons.mpr ⟨lw_p21, List.forall_mem_cons.mpr ⟨lw_p22, List.forall_mem_cons.mpr ⟨lw_p23, List.forall_mem_cons.mpr ⟨lw_p24, List.forall_mem_cons.mpr ⟨lw_p25, List.forall_mem_cons.mpr ⟨lw_p26, List.forall_mem_cons.mpr ⟨lw_p27, List.forall_mem_cons.mpr ⟨lw_p28, List.forall_mem_cons.mpr ⟨lw_p29, List.forall_mem_cons.mpr ⟨lw_p30, List.forall_mem_cons.mpr ⟨lw_p31, fun _ h => absurd h List.not_mem_nil⟩⟩⟩⟩⟩⟩⟩⟩⟩⟩⟩⟩⟩⟩⟩⟩
theorem lw_p32 : lw_okq (⟨"PartedInks", "looksAsTold", "(LPartedInks$Row;II)Z"⟩, 12) := ⟨⟨by decide +kernel, by decide +kernel⟩, List.mem_of_getElem? (i := 13) (by decide +kernel), List.mem_of_getElem? (i := 657) (by decide +kernel), List.mem_of_getElem? (i := 658) (by decide +kernel)⟩
theorem lw_p33 : lw_okq (⟨"PartedInks$Row", "lowestBits", "(J)J"⟩, 4) := ⟨⟨by decide +kernel, by decide +kernel⟩, List.mem_of_getElem? (i := 156) (by decide +kernel), List.mem_of_getElem? (i := 669) (by decide +kernel), List.mem_of_getElem? (i := 670) (by decide +kernel)⟩
theorem lw_p34 : lw_okq (⟨"PartedInksModel", "areas", "()I"⟩, 21) := ⟨⟨by decide +kernel, by decide +kernel⟩, List.mem_of_getElem? (i := 694) (by decide +kernel), List.mem_of_getElem? (i := 768) (by decide +kernel), List.mem_of_getElem? (i := 769) (by decide +kernel)⟩
theorem lw_p35 : lw_okq (⟨"PartedInksModel", "isIn", "(I)Z"⟩, 21) := ⟨⟨by decide +kernel, by decide +kernel⟩, List.mem_of_getElem? (i := 694) (by decide +kernel), List.mem_of_getElem? (i := 772) (by decide +kernel), List.mem_of_getElem? (i := 773) (by decide +kernel)⟩
theorem lw_p36 : lw_okq (⟨"PartedInksModel", "isPlace", "(II)Z"⟩, 21) := ⟨⟨by decide +kernel, by decide +kernel⟩, List.mem_of_getElem? (i := 694) (by decide +kernel), List.mem_of_getElem? (i := 776) (by decide +kernel), List.mem_of_getElem? (i := 777) (by decide +kernel)⟩
theorem lw_p37 : lw_okq (⟨"PartedInksModel", "leastBeside", "(I)I"⟩, 21) := ⟨⟨by decide +kernel, by decide +kernel⟩, List.mem_of_getElem? (i := 694) (by decide +kernel), List.mem_of_getElem? (i := 783) (by decide +kernel), List.mem_of_getElem? (i := 784) (by decide +kernel)⟩
theorem lw_p38 : lw_okq (⟨"PartedInksModel", "beside", "(II)I"⟩, 21) := ⟨⟨by decide +kernel, by decide +kernel⟩, List.mem_of_getElem? (i := 694) (by decide +kernel), List.mem_of_getElem? (i := 787) (by decide +kernel), List.mem_of_getElem? (i := 788) (by decide +kernel)⟩
theorem lw_p39 : lw_okq (⟨"PartedInksModel", "setAt", "(I)I"⟩, 21) := ⟨⟨by decide +kernel, by decide +kernel⟩, List.mem_of_getElem? (i := 694) (by decide +kernel), List.mem_of_getElem? (i := 791) (by decide +kernel), List.mem_of_getElem? (i := 792) (by decide +kernel)⟩
theorem lw_p40 : lw_okq (⟨"PartedInksModel", "placesOfArea", "(I)I"⟩, 21) := ⟨⟨by decide +kernel, by decide +kernel⟩, List.mem_of_getElem? (i := 694) (by decide +kernel), List.mem_of_getElem? (i := 795) (by decide +kernel), List.mem_of_getElem? (i := 796) (by decide +kernel)⟩
theorem lw_p41 : lw_okq (⟨"PartedInksModel", "isOf", "(II)Z"⟩, 21) := ⟨⟨by decide +kernel, by decide +kernel⟩, List.mem_of_getElem? (i := 694) (by decide +kernel), List.mem_of_getElem? (i := 799) (by decide +kernel), List.mem_of_getElem? (i := 800) (by decide +kernel)⟩
theorem lw_p42 : lw_okq (⟨"PartedInksModel", "neighbours", "(II)I"⟩, 21) := ⟨⟨by decide +kernel, by decide +kernel⟩, List.mem_of_getElem? (i := 694) (by decide +kernel), List.mem_of_getElem? (i := 803) (by decide +kernel), List.mem_of_getElem? (i := 804) (by decide +kernel)⟩
theorem lw_p43 : lw_okq (⟨"PartedInksModel", "isBeside", "(II)Z"⟩, 21) := ⟨⟨by decide +kernel, by decide +kernel⟩, List.mem_of_getElem? (i := 694) (by decide +kernel), List.mem_of_getElem? (i := 807) (by decide +kernel), List.mem_of_getElem? (i := 808) (by decide +kernel)⟩
theorem lw_p44 : lw_okq (⟨"PartedInksModel", "greater", "(II)I"⟩, 21) := ⟨⟨by decide +kernel, by decide +kernel⟩, List.mem_of_getElem? (i := 694) (by decide +kernel), List.mem_of_getElem? (i := 811) (by decide +kernel), List.mem_of_getElem? (i := 812) (by decide +kernel)⟩
theorem lw_p45 : lw_okq (⟨"PartedInksModel", "dark", "(I)I"⟩, 21) := ⟨⟨by decide +kernel, by decide +kernel⟩, List.mem_of_getElem? (i := 694) (by decide +kernel), List.mem_of_getElem? (i := 826) (by decide +kernel), List.mem_of_getElem? (i := 827) (by decide +kernel)⟩
theorem lw_p46 : lw_okq (⟨"PartedInksModel", "lookOf", "(I)I"⟩, 21) := ⟨⟨by decide +kernel, by decide +kernel⟩, List.mem_of_getElem? (i := 694) (by decide +kernel), List.mem_of_getElem? (i := 830) (by decide +kernel), List.mem_of_getElem? (i := 831) (by decide +kernel)⟩
theorem lw_p47 : lw_okq (⟨"PartedInksModel", "lookBy", "(IIII)I"⟩, 21) := ⟨⟨by decide +kernel, by decide +kernel⟩, List.mem_of_getElem? (i := 694) (by decide +kernel), List.mem_of_getElem? (i := 834) (by decide +kernel), List.mem_of_getElem? (i := 835) (by decide +kernel)⟩
def lw_privs_3 : List (MethodName × Nat) := [(⟨"PartedInks", "looksAsTold", "(LPartedInks$Row;II)Z"⟩, 12), (⟨"PartedInks$Row", "lowestBits", "(J)J"⟩, 4), (⟨"PartedInksModel", "areas", "()I"⟩, 21), (⟨"PartedInksModel", "isIn", "(I)Z"⟩, 21), (⟨"PartedInksModel", "isPlace", "(II)Z"⟩, 21), (⟨"PartedInksModel", "leastBeside", "(I)I"⟩, 21), (⟨"PartedInksModel", "beside", "(II)I"⟩, 21), (⟨"PartedInksModel", "setAt", "(I)I"⟩, 21), (⟨"PartedInksModel", "placesOfArea", "(I)I"⟩, 21), (⟨"PartedInksModel", "isOf", "(II)Z"⟩, 21), (⟨"PartedInksModel", "neighbours", "(II)I"⟩, 21), (⟨"PartedInksModel", "isBeside", "(II)Z"⟩, 21), (⟨"PartedInksModel", "greater", "(II)I"⟩, 21), (⟨"PartedInksModel", "dark", "(I)I"⟩, 21), (⟨"PartedInksModel", "lookOf", "(I)I"⟩, 21), (⟨"PartedInksModel", "lookBy", "(IIII)I"⟩, 21)]
theorem lw_r3 : ∀ q ∈ lw_privs_3, lw_okq q := List.forall_mem_cons.mpr ⟨lw_p32, List.forall_mem_cons.mpr ⟨lw_p33, List.forall_mem_cons.mpr ⟨lw_p34, List.forall_mem_cons.mpr ⟨lw_p35, List.forall_mem_cons.mpr ⟨lw_p36, List.forall_mem_cons.mpr ⟨lw_p37, List.forall_mem_cons.mpr ⟨lw_p38, List.forall_mem_cons.mpr ⟨lw_p39, List.forall_mem_cons.mpr ⟨lw_p40, List.forall_mem_cons.mpr ⟨lw_p41, List.forall_mem_cons.mpr ⟨lw_p42, List.forall_mem_cons.mpr ⟨lw_p43, List.forall_mem_cons.mpr ⟨lw_p44, List.forall_mem_cons.mpr ⟨lw_p45, List.forall_mem_cons.mpr ⟨lw_p46, List.forall_mem_cons.mpr ⟨lw_p47, fun _ h => absurd h List.not_mem_nil⟩⟩⟩⟩⟩⟩⟩⟩⟩⟩⟩⟩⟩⟩⟩⟩
theorem lw_p48 : lw_okq (⟨"PartedInksModel", "number", "(IIIII)I"⟩, 21) := ⟨⟨by decide +kernel, by decide +kernel⟩, List.mem_of_getElem? (i := 694) (by decide +kernel), List.mem_of_getElem? (i := 838) (by decide +kernel), List.mem_of_getElem? (i := 839) (by decide +kernel)⟩
theorem lw_p49 : lw_okq (⟨"PartedInksModel", "placesWith", "(I)I"⟩, 21) := ⟨⟨by decide +kernel, by decide +kernel⟩, List.mem_of_getElem? (i := 694) (by decide +kernel), List.mem_of_getElem? (i := 848) (by decide +kernel), List.mem_of_getElem? (i := 849) (by decide +kernel)⟩
theorem lw_p50 : lw_okq (⟨"PartedInksModel", "alike", "(I)I"⟩, 21) := ⟨⟨by decide +kernel, by decide +kernel⟩, List.mem_of_getElem? (i := 694) (by decide +kernel), List.mem_of_getElem? (i := 860) (by decide +kernel), List.mem_of_getElem? (i := 861) (by decide +kernel)⟩
theorem lw_p51 : lw_okq (⟨"PartedInksModel", "placesOf", "(I)I"⟩, 21) := ⟨⟨by decide +kernel, by decide +kernel⟩, List.mem_of_getElem? (i := 694) (by decide +kernel), List.mem_of_getElem? (i := 864) (by decide +kernel), List.mem_of_getElem? (i := 865) (by decide +kernel)⟩
theorem lw_p52 : lw_okq (⟨"PartedInksModel", "areaOf", "(I)I"⟩, 21) := ⟨⟨by decide +kernel, by decide +kernel⟩, List.mem_of_getElem? (i := 694) (by decide +kernel), List.mem_of_getElem? (i := 873) (by decide +kernel), List.mem_of_getElem? (i := 874) (by decide +kernel)⟩
theorem lw_p53 : lw_okq (⟨"PartedInksModel", "gapsBy", "(III)I"⟩, 21) := ⟨⟨by decide +kernel, by decide +kernel⟩, List.mem_of_getElem? (i := 694) (by decide +kernel), List.mem_of_getElem? (i := 885) (by decide +kernel), List.mem_of_getElem? (i := 886) (by decide +kernel)⟩
theorem lw_p54 : lw_okq (⟨"PartedInksModel", "printed", "(IIII)I"⟩, 21) := ⟨⟨by decide +kernel, by decide +kernel⟩, List.mem_of_getElem? (i := 694) (by decide +kernel), List.mem_of_getElem? (i := 889) (by decide +kernel), List.mem_of_getElem? (i := 890) (by decide +kernel)⟩
theorem lw_p55 : lw_okq (⟨"PartedInksModel", "looksOfAll", "()V"⟩, 21) := ⟨⟨by decide +kernel, by decide +kernel⟩, List.mem_of_getElem? (i := 694) (by decide +kernel), List.mem_of_getElem? (i := 901) (by decide +kernel), List.mem_of_getElem? (i := 902) (by decide +kernel)⟩
theorem lw_p56 : lw_okq (⟨"PartedInksModel", "unlike", "()I"⟩, 21) := ⟨⟨by decide +kernel, by decide +kernel⟩, List.mem_of_getElem? (i := 694) (by decide +kernel), List.mem_of_getElem? (i := 905) (by decide +kernel), List.mem_of_getElem? (i := 906) (by decide +kernel)⟩
theorem lw_p57 : lw_okq (⟨"PartedInksModel", "few", "()I"⟩, 21) := ⟨⟨by decide +kernel, by decide +kernel⟩, List.mem_of_getElem? (i := 694) (by decide +kernel), List.mem_of_getElem? (i := 909) (by decide +kernel), List.mem_of_getElem? (i := 910) (by decide +kernel)⟩
theorem lw_p58 : lw_okq (⟨"PartedInksModel", "canAll", "(I)Z"⟩, 21) := ⟨⟨by decide +kernel, by decide +kernel⟩, List.mem_of_getElem? (i := 694) (by decide +kernel), List.mem_of_getElem? (i := 916) (by decide +kernel), List.mem_of_getElem? (i := 917) (by decide +kernel)⟩
theorem lw_p59 : lw_okq (⟨"PartedInksModel", "canLook", "(II)Z"⟩, 21) := ⟨⟨by decide +kernel, by decide +kernel⟩, List.mem_of_getElem? (i := 694) (by decide +kernel), List.mem_of_getElem? (i := 920) (by decide +kernel), List.mem_of_getElem? (i := 921) (by decide +kernel)⟩
theorem lw_p60 : lw_okq (⟨"PartedInksModel", "worst", "(I)I"⟩, 21) := ⟨⟨by decide +kernel, by decide +kernel⟩, List.mem_of_getElem? (i := 694) (by decide +kernel), List.mem_of_getElem? (i := 924) (by decide +kernel), List.mem_of_getElem? (i := 925) (by decide +kernel)⟩
theorem lw_p61 : lw_okq (⟨"PartedInksModel", "orders", "(I)I"⟩, 21) := ⟨⟨by decide +kernel, by decide +kernel⟩, List.mem_of_getElem? (i := 694) (by decide +kernel), List.mem_of_getElem? (i := 928) (by decide +kernel), List.mem_of_getElem? (i := 929) (by decide +kernel)⟩
theorem lw_p62 : lw_okq (⟨"PartedInksModel", "leaves", "(I)Z"⟩, 21) := ⟨⟨by decide +kernel, by decide +kernel⟩, List.mem_of_getElem? (i := 694) (by decide +kernel), List.mem_of_getElem? (i := 937) (by decide +kernel), List.mem_of_getElem? (i := 938) (by decide +kernel)⟩
theorem lw_p63 : lw_okq (⟨"PartedInksModel", "byDark", "()I"⟩, 21) := ⟨⟨by decide +kernel, by decide +kernel⟩, List.mem_of_getElem? (i := 694) (by decide +kernel), List.mem_of_getElem? (i := 941) (by decide +kernel), List.mem_of_getElem? (i := 942) (by decide +kernel)⟩
def lw_privs_4 : List (MethodName × Nat) := [(⟨"PartedInksModel", "number", "(IIIII)I"⟩, 21), (⟨"PartedInksModel", "placesWith", "(I)I"⟩, 21), (⟨"PartedInksModel", "alike", "(I)I"⟩, 21), (⟨"PartedInksModel", "placesOf", "(I)I"⟩, 21), (⟨"PartedInksModel", "areaOf", "(I)I"⟩, 21), (⟨"PartedInksModel", "gapsBy", "(III)I"⟩, 21), (⟨"PartedInksModel", "printed", "(IIII)I"⟩, 21), (⟨"PartedInksModel", "looksOfAll", "()V"⟩, 21), (⟨"PartedInksModel", "unlike", "()I"⟩, 21), (⟨"PartedInksModel", "few", "()I"⟩, 21), (⟨"PartedInksModel", "canAll", "(I)Z"⟩, 21), (⟨"PartedInksModel", "canLook", "(II)Z"⟩, 21), (⟨"PartedInksModel", "worst", "(I)I"⟩, 21), (⟨"PartedInksModel", "orders", "(I)I"⟩, 21), (⟨"PartedInksModel", "leaves", "(I)Z"⟩, 21), (⟨"PartedInksModel", "byDark", "()I"⟩, 21)]
theorem lw_r4 : ∀ q ∈ lw_privs_4, lw_okq q := List.forall_mem_cons.mpr ⟨lw_p48, List.forall_mem_cons.mpr ⟨lw_p49, List.forall_mem_cons.mpr ⟨lw_p50, List.forall_mem_cons.mpr ⟨lw_p51, List.forall_mem_cons.mpr ⟨lw_p52, List.forall_mem_cons.mpr ⟨lw_p53, List.forall_mem_cons.mpr ⟨lw_p54, List.forall_mem_cons.mpr ⟨lw_p55, List.forall_mem_cons.mpr ⟨lw_p56, List.forall_mem_cons.mpr ⟨lw_p57, List.forall_mem_cons.mpr ⟨lw_p58, List.forall_mem_cons.mpr ⟨lw_p59, List.forall_mem_cons.mpr ⟨lw_p60, List.forall_mem_cons.mpr ⟨lw_p61, List.forall_mem_cons.mpr ⟨lw_p62, List.forall_mem_cons.mpr ⟨lw_p63, fun _ h => absurd h List.not_mem_nil⟩⟩⟩⟩⟩⟩⟩⟩⟩⟩⟩⟩⟩⟩⟩⟩
theorem lw_p64 : lw_okq (⟨"PartedInksModel", "drawn", "()I"⟩, 21) := ⟨⟨by decide +kernel, by decide +kernel⟩, List.mem_of_getElem? (i := 694) (by decide +kernel), List.mem_of_getElem? (i := 945) (by decide +kernel), List.mem_of_getElem? (i := 946) (by decide +kernel)⟩
theorem lw_p65 : lw_okq (⟨"PartedInksModel", "isWhole", "(I)Z"⟩, 21) := ⟨⟨by decide +kernel, by decide +kernel⟩, List.mem_of_getElem? (i := 694) (by decide +kernel), List.mem_of_getElem? (i := 954) (by decide +kernel), List.mem_of_getElem? (i := 955) (by decide +kernel)⟩
theorem lw_p66 : lw_okq (⟨"PartedInksModel", "notes", "()V"⟩, 21) := ⟨⟨by decide +kernel, by decide +kernel⟩, List.mem_of_getElem? (i := 694) (by decide +kernel), List.mem_of_getElem? (i := 971) (by decide +kernel), List.mem_of_getElem? (i := 972) (by decide +kernel)⟩
theorem lw_p67 : lw_okq (⟨"PartedInksModel", "comesTo", "(II)I"⟩, 21) := ⟨⟨by decide +kernel, by decide +kernel⟩, List.mem_of_getElem? (i := 694) (by decide +kernel), List.mem_of_getElem? (i := 991) (by decide +kernel), List.mem_of_getElem? (i := 992) (by decide +kernel)⟩
theorem lw_p68 : lw_okq (⟨"PartedInksModel", "isText", "()Z"⟩, 21) := ⟨⟨by decide +kernel, by decide +kernel⟩, List.mem_of_getElem? (i := 694) (by decide +kernel), List.mem_of_getElem? (i := 1024) (by decide +kernel), List.mem_of_getElem? (i := 1025) (by decide +kernel)⟩
theorem lw_p69 : lw_okq (⟨"PartedInksModel", "readsLine", "()Z"⟩, 21) := ⟨⟨by decide +kernel, by decide +kernel⟩, List.mem_of_getElem? (i := 694) (by decide +kernel), List.mem_of_getElem? (i := 1028) (by decide +kernel), List.mem_of_getElem? (i := 1029) (by decide +kernel)⟩
theorem lw_p70 : lw_okq (⟨"PartedInksModel", "isRun", "()Z"⟩, 21) := ⟨⟨by decide +kernel, by decide +kernel⟩, List.mem_of_getElem? (i := 694) (by decide +kernel), List.mem_of_getElem? (i := 1032) (by decide +kernel), List.mem_of_getElem? (i := 1033) (by decide +kernel)⟩
theorem lw_p71 : lw_okq (⟨"PartedInksModel", "here", "()I"⟩, 21) := ⟨⟨by decide +kernel, by decide +kernel⟩, List.mem_of_getElem? (i := 694) (by decide +kernel), List.mem_of_getElem? (i := 1036) (by decide +kernel), List.mem_of_getElem? (i := 1037) (by decide +kernel)⟩
theorem lw_p72 : lw_okq (⟨"PartedInksModel", "readsRun", "(I)Z"⟩, 21) := ⟨⟨by decide +kernel, by decide +kernel⟩, List.mem_of_getElem? (i := 694) (by decide +kernel), List.mem_of_getElem? (i := 1044) (by decide +kernel), List.mem_of_getElem? (i := 1045) (by decide +kernel)⟩
theorem lw_p73 : lw_okq (⟨"PartedInksModel", "readsSet", "()I"⟩, 21) := ⟨⟨by decide +kernel, by decide +kernel⟩, List.mem_of_getElem? (i := 694) (by decide +kernel), List.mem_of_getElem? (i := 1048) (by decide +kernel), List.mem_of_getElem? (i := 1049) (by decide +kernel)⟩
theorem lw_p74 : lw_okq (⟨"PartedInksModel", "why", "(IIII)I"⟩, 21) := ⟨⟨by decide +kernel, by decide +kernel⟩, List.mem_of_getElem? (i := 694) (by decide +kernel), List.mem_of_getElem? (i := 1075) (by decide +kernel), List.mem_of_getElem? (i := 1076) (by decide +kernel)⟩
theorem lw_p75 : lw_okq (⟨"PartedInksModel", "isSo", "(IIII)Z"⟩, 21) := ⟨⟨by decide +kernel, by decide +kernel⟩, List.mem_of_getElem? (i := 694) (by decide +kernel), List.mem_of_getElem? (i := 1090) (by decide +kernel), List.mem_of_getElem? (i := 1091) (by decide +kernel)⟩
def lw_privs_5 : List (MethodName × Nat) := [(⟨"PartedInksModel", "drawn", "()I"⟩, 21), (⟨"PartedInksModel", "isWhole", "(I)Z"⟩, 21), (⟨"PartedInksModel", "notes", "()V"⟩, 21), (⟨"PartedInksModel", "comesTo", "(II)I"⟩, 21), (⟨"PartedInksModel", "isText", "()Z"⟩, 21), (⟨"PartedInksModel", "readsLine", "()Z"⟩, 21), (⟨"PartedInksModel", "isRun", "()Z"⟩, 21), (⟨"PartedInksModel", "here", "()I"⟩, 21), (⟨"PartedInksModel", "readsRun", "(I)Z"⟩, 21), (⟨"PartedInksModel", "readsSet", "()I"⟩, 21), (⟨"PartedInksModel", "why", "(IIII)I"⟩, 21), (⟨"PartedInksModel", "isSo", "(IIII)Z"⟩, 21)]
theorem lw_r5 : ∀ q ∈ lw_privs_5, lw_okq q := List.forall_mem_cons.mpr ⟨lw_p64, List.forall_mem_cons.mpr ⟨lw_p65, List.forall_mem_cons.mpr ⟨lw_p66, List.forall_mem_cons.mpr ⟨lw_p67, List.forall_mem_cons.mpr ⟨lw_p68, List.forall_mem_cons.mpr ⟨lw_p69, List.forall_mem_cons.mpr ⟨lw_p70, List.forall_mem_cons.mpr ⟨lw_p71, List.forall_mem_cons.mpr ⟨lw_p72, List.forall_mem_cons.mpr ⟨lw_p73, List.forall_mem_cons.mpr ⟨lw_p74, List.forall_mem_cons.mpr ⟨lw_p75, fun _ h => absurd h List.not_mem_nil⟩⟩⟩⟩⟩⟩⟩⟩⟩⟩⟩⟩
def lw_privs : List (MethodName × Nat) := lw_privs_1 ++ (lw_privs_2 ++ (lw_privs_3 ++ (lw_privs_4 ++ (lw_privs_5))))
def lw_tbl : List Cond := k2_sels lw_privs ++ tables_1
theorem lw_privs_ok : ∀ q ∈ lw_privs, lw_okq q := by
  show ∀ q ∈ lw_privs_1 ++ (lw_privs_2 ++ (lw_privs_3 ++ (lw_privs_4 ++ (lw_privs_5)))), lw_okq q
  exact List.forall_mem_append.mpr ⟨lw_r1, List.forall_mem_append.mpr ⟨lw_r2, List.forall_mem_append.mpr ⟨lw_r3, List.forall_mem_append.mpr ⟨lw_r4, lw_r5⟩⟩⟩⟩
end
section
def RX0 : String := "PartedInks$Areas"
def TX0 : u_T := fun k => match k with
  | 0 => ("PartedInks$Areas", "of", "[I", true)
  | 1 => ("PartedInks$Areas", "firsts", "[I", true)
  | 2 => ("PartedInks$Areas", "places", "[I", true)
  | 3 => ("PartedInks$Areas", "queue", "[I", true)
  | 4 => ("PartedInks$Areas", "met", "[Z", true)
  | 5 => ("PartedInks$Areas", "queued", "I", false)
  | _ => ("PartedInks$Areas", "many", "I", false)
def tyX0 : Nat → FieldType := fun k => match k with
  | 0 => .array .int
  | 1 => .array .int
  | 2 => .array .int
  | 3 => .array .int
  | 4 => .array .boolean
  | 5 => .int
  | _ => .int
abbrev wsX00 : List Cond := u_ws RX0 TX0 7
theorem nmX0 : ∀ a, a < 7 → ∀ b, b < 7 → a ≠ b → (TX0 a).2.1 ≠ (TX0 b).2.1 := by decide +kernel
theorem tyX0_ok : ∀ k, k < 7 → parseFieldDescriptor (TX0 k).2.2.1 = some (tyX0 k) := by decide +kernel
abbrev cX0_init : ByteArray := prog_2_method_1_code
def yX0_init : MethodName := ⟨RX0, "<init>", "()V"⟩
abbrev cX0_find : ByteArray := prog_2_method_2_code
def yX0_find : MethodName := ⟨RX0, "find", "(LPartedInks$State;)V"⟩
abbrev cX0_spreadFrom : ByteArray := prog_2_method_3_code
def yX0_spreadFrom : MethodName := ⟨RX0, "spreadFrom", "(IILPartedInks$State;)V"⟩
abbrev cX0_join : ByteArray := prog_2_method_4_code
def yX0_join : MethodName := ⟨RX0, "join", "(III)V"⟩
abbrev cX0_at : ByteArray := prog_2_method_5_code
def yX0_at : MethodName := ⟨RX0, "at", "(II)I"⟩
abbrev cX0_firstX : ByteArray := prog_2_method_6_code
def yX0_firstX : MethodName := ⟨RX0, "firstX", "(I)I"⟩
abbrev cX0_firstY : ByteArray := prog_2_method_7_code
def yX0_firstY : MethodName := ⟨RX0, "firstY", "(I)I"⟩
abbrev cX0_placesOf : ByteArray := prog_2_method_8_code
def yX0_placesOf : MethodName := ⟨RX0, "placesOf", "(I)I"⟩
abbrev cX0_greaterThan : ByteArray := prog_2_method_9_code
def yX0_greaterThan : MethodName := ⟨RX0, "greaterThan", "(I)I"⟩
abbrev cX0_neighboursOf : ByteArray := prog_2_method_10_code
def yX0_neighboursOf : MethodName := ⟨RX0, "neighboursOf", "(ILPartedInks$State;)I"⟩
abbrev cX0_meetBeside : ByteArray := prog_2_method_11_code
def yX0_meetBeside : MethodName := ⟨RX0, "meetBeside", "(IIILPartedInks$State;)I"⟩
def RX1 : String := "PartedInks$Looks"
def TX1 : u_T := fun k => match k with
  | _ => ("PartedInks$Looks", "of", "[I", true)
def tyX1 : Nat → FieldType := fun k => match k with
  | _ => .array .int
abbrev wsX10 : List Cond := u_ws RX1 TX1 1
theorem nmX1 : ∀ a, a < 1 → ∀ b, b < 1 → a ≠ b → (TX1 a).2.1 ≠ (TX1 b).2.1 := by decide +kernel
theorem tyX1_ok : ∀ k, k < 1 → parseFieldDescriptor (TX1 k).2.2.1 = some (tyX1 k) := by decide +kernel
abbrev cX1_init : ByteArray := prog_3_method_1_code
def yX1_init : MethodName := ⟨RX1, "<init>", "()V"⟩
abbrev cX1_find : ByteArray := prog_3_method_2_code
def yX1_find : MethodName := ⟨RX1, "find", "(LPartedInks$State;)V"⟩
abbrev cX1_darkOfSet : ByteArray := prog_3_method_3_code
def yX1_darkOfSet : MethodName := ⟨RX1, "darkOfSet", "(I)I"⟩
abbrev cX1_alikeTo : ByteArray := prog_3_method_4_code
def yX1_alikeTo : MethodName := ⟨RX1, "alikeTo", "(I)I"⟩
abbrev cX1_unlikeOf : ByteArray := prog_3_method_5_code
def yX1_unlikeOf : MethodName := ⟨RX1, "unlikeOf", "(I)I"⟩
abbrev cX1_isDrawnBelow : ByteArray := prog_3_method_6_code
def yX1_isDrawnBelow : MethodName := ⟨RX1, "isDrawnBelow", "(II)Z"⟩
abbrev cX1_fewestFor : ByteArray := prog_3_method_7_code
def yX1_fewestFor : MethodName := ⟨RX1, "fewestFor", "(I)I"⟩
abbrev cX1_canPrintAll : ByteArray := prog_3_method_8_code
def yX1_canPrintAll : MethodName := ⟨RX1, "canPrintAll", "(II)Z"⟩
abbrev cX1_canPrint : ByteArray := prog_3_method_9_code
def yX1_canPrint : MethodName := ⟨RX1, "canPrint", "(II)Z"⟩
def RX2 : String := "PartedInks$Past"
def TX2 : u_T := fun k => match k with
  | 0 => ("PartedInks$Past", "states", "[LPartedInks$State;", true)
  | _ => ("PartedInks$Past", "known", "I", false)
def tyX2 : Nat → FieldType := fun k => match k with
  | 0 => .array (.object "PartedInks$State")
  | _ => .int
abbrev wsX20 : List Cond := u_ws RX2 TX2 2
theorem nmX2 : ∀ a, a < 2 → ∀ b, b < 2 → a ≠ b → (TX2 a).2.1 ≠ (TX2 b).2.1 := by decide +kernel
theorem tyX2_ok : ∀ k, k < 2 → parseFieldDescriptor (TX2 k).2.2.1 = some (tyX2 k) := by decide +kernel
abbrev cX2_init : ByteArray := prog_4_method_1_code
def yX2_init : MethodName := ⟨RX2, "<init>", "()V"⟩
abbrev cX2_keep : ByteArray := prog_4_method_2_code
def yX2_keep : MethodName := ⟨RX2, "keep", "(LPartedInks$State;)V"⟩
abbrev cX2_loseOldest : ByteArray := prog_4_method_3_code
def yX2_loseOldest : MethodName := ⟨RX2, "loseOldest", "()V"⟩
abbrev cX2_bring : ByteArray := prog_4_method_4_code
def yX2_bring : MethodName := ⟨RX2, "bring", "(LPartedInks$State;)Z"⟩
abbrev cX2_become : ByteArray := prog_4_method_5_code
def yX2_become : MethodName := ⟨RX2, "become", "(LPartedInks$Past;)V"⟩
def RX3 : String := "PartedInks$Row"
def TX3 : u_T := fun k => match k with
  | 0 => ("PartedInks$Row", "items", "[J", true)
  | 1 => ("PartedInks$Row", "there", "Z", false)
  | 2 => ("PartedInks$Row", "lane", "I", false)
  | _ => ("PartedInks$Row", "many", "I", false)
def tyX3 : Nat → FieldType := fun k => match k with
  | 0 => .array .long
  | 1 => .boolean
  | 2 => .int
  | _ => .int
abbrev wsX30 : List Cond := u_ws RX3 TX3 4
theorem nmX3 : ∀ a, a < 4 → ∀ b, b < 4 → a ≠ b → (TX3 a).2.1 ≠ (TX3 b).2.1 := by decide +kernel
theorem tyX3_ok : ∀ k, k < 4 → parseFieldDescriptor (TX3 k).2.2.1 = some (tyX3 k) := by decide +kernel
abbrev cX3_init : ByteArray := prog_5_method_1_code
def yX3_init : MethodName := ⟨RX3, "<init>", "()V"⟩
abbrev cX3_begin : ByteArray := prog_5_method_2_code
def yX3_begin : MethodName := ⟨RX3, "begin", "(II)V"⟩
abbrev cX3_hasItems : ByteArray := prog_5_method_3_code
def yX3_hasItems : MethodName := ⟨RX3, "hasItems", "(II)Z"⟩
abbrev cX3_whyNot : ByteArray := prog_5_method_4_code
def yX3_whyNot : MethodName := ⟨RX3, "whyNot", "(III)I"⟩
abbrev cX3_at : ByteArray := prog_5_method_5_code
def yX3_at : MethodName := ⟨RX3, "at", "(I)J"⟩
abbrev cX3_write : ByteArray := prog_5_method_6_code
def yX3_write : MethodName := ⟨RX3, "write", "(IJ)V"⟩
abbrev cX3_lowestBits : ByteArray := prog_5_method_7_code
def yX3_lowestBits : MethodName := ⟨RX3, "lowestBits", "(J)J"⟩
def RX4 : String := "PartedInks$State"
def TX4 : u_T := fun k => match k with
  | 0 => ("PartedInks$State", "kinds", "[I", true)
  | 1 => ("PartedInks$State", "tones", "[I", true)
  | 2 => ("PartedInks$State", "order", "[I", true)
  | 3 => ("PartedInks$State", "sets", "[I", true)
  | 4 => ("PartedInks$State", "wide", "I", false)
  | 5 => ("PartedInks$State", "high", "I", false)
  | _ => ("PartedInks$State", "drawn", "I", false)
def tyX4 : Nat → FieldType := fun k => match k with
  | 0 => .array .int
  | 1 => .array .int
  | 2 => .array .int
  | 3 => .array .int
  | 4 => .int
  | 5 => .int
  | _ => .int
abbrev wsX40 : List Cond := u_ws RX4 TX4 7
theorem nmX4 : ∀ a, a < 7 → ∀ b, b < 7 → a ≠ b → (TX4 a).2.1 ≠ (TX4 b).2.1 := by decide +kernel
theorem tyX4_ok : ∀ k, k < 7 → parseFieldDescriptor (TX4 k).2.2.1 = some (tyX4 k) := by decide +kernel
abbrev cX4_init : ByteArray := prog_6_method_1_code
def yX4_init : MethodName := ⟨RX4, "<init>", "()V"⟩
abbrev cX4_become : ByteArray := prog_6_method_2_code
def yX4_become : MethodName := ⟨RX4, "become", "(LPartedInks$State;)V"⟩
abbrev cX4_become_ : ByteArray := prog_6_method_3_code
def yX4_become_ : MethodName := ⟨RX4, "become", "([III)V"⟩
abbrev cX4_indexOf : ByteArray := prog_6_method_4_code
def yX4_indexOf : MethodName := ⟨RX4, "indexOf", "(II)I"⟩
abbrev cX4_isInside : ByteArray := prog_6_method_5_code
def yX4_isInside : MethodName := ⟨RX4, "isInside", "(II)Z"⟩
abbrev cX4_at : ByteArray := prog_6_method_6_code
def yX4_at : MethodName := ⟨RX4, "at", "(II)I"⟩
abbrev cX4_write : ByteArray := prog_6_method_7_code
def yX4_write : MethodName := ⟨RX4, "write", "(III)V"⟩
abbrev cX4_clearOutside : ByteArray := prog_6_method_8_code
def yX4_clearOutside : MethodName := ⟨RX4, "clearOutside", "()V"⟩
abbrev cX4_placeInOrder : ByteArray := prog_6_method_9_code
def yX4_placeInOrder : MethodName := ⟨RX4, "placeInOrder", "(I)I"⟩
abbrev cX4_placesWithInk : ByteArray := prog_6_method_10_code
def yX4_placesWithInk : MethodName := ⟨RX4, "placesWithInk", "(I)I"⟩
abbrev cX4_placesOfSet : ByteArray := prog_6_method_11_code
def yX4_placesOfSet : MethodName := ⟨RX4, "placesOfSet", "(I)I"⟩
abbrev cX4_inksDrawn : ByteArray := prog_6_method_12_code
def yX4_inksDrawn : MethodName := ⟨RX4, "inksDrawn", "()I"⟩
abbrev cX4_setsDrawn : ByteArray := prog_6_method_13_code
def yX4_setsDrawn : MethodName := ⟨RX4, "setsDrawn", "()I"⟩
def RX5 : String := "PartedInks$Tape"
def TX5 : u_T := fun k => match k with
  | 0 => ("PartedInks$Tape", "letters", "[I", true)
  | 1 => ("PartedInks$Tape", "sets", "[I", true)
  | 2 => ("PartedInks$Tape", "many", "I", false)
  | 3 => ("PartedInks$Tape", "next", "I", false)
  | 4 => ("PartedInks$Tape", "wide", "I", false)
  | 5 => ("PartedInks$Tape", "lines", "I", false)
  | _ => ("PartedInks$Tape", "inLine", "I", false)
def tyX5 : Nat → FieldType := fun k => match k with
  | 0 => .array .int
  | 1 => .array .int
  | 2 => .int
  | 3 => .int
  | 4 => .int
  | 5 => .int
  | _ => .int
abbrev wsX50 : List Cond := u_ws RX5 TX5 7
theorem nmX5 : ∀ a, a < 7 → ∀ b, b < 7 → a ≠ b → (TX5 a).2.1 ≠ (TX5 b).2.1 := by decide +kernel
theorem tyX5_ok : ∀ k, k < 7 → parseFieldDescriptor (TX5 k).2.2.1 = some (tyX5 k) := by decide +kernel
abbrev cX5_init : ByteArray := prog_7_method_1_code
def yX5_init : MethodName := ⟨RX5, "<init>", "()V"⟩
abbrev cX5_add : ByteArray := prog_7_method_2_code
def yX5_add : MethodName := ⟨RX5, "add", "(I)Z"⟩
abbrev cX5_read : ByteArray := prog_7_method_3_code
def yX5_read : MethodName := ⟨RX5, "read", "()Z"⟩
abbrev cX5_begin : ByteArray := prog_7_method_4_code
def yX5_begin : MethodName := ⟨RX5, "begin", "()V"⟩
abbrev cX5_letterBehindBlanks : ByteArray := prog_7_method_5_code
def yX5_letterBehindBlanks : MethodName := ⟨RX5, "letterBehindBlanks", "()I"⟩
abbrev cX5_endLine : ByteArray := prog_7_method_6_code
def yX5_endLine : MethodName := ⟨RX5, "endLine", "()Z"⟩
abbrev cX5_readRun : ByteArray := prog_7_method_7_code
def yX5_readRun : MethodName := ⟨RX5, "readRun", "(I)Z"⟩
abbrev cX5_writeNext : ByteArray := prog_7_method_8_code
def yX5_writeNext : MethodName := ⟨RX5, "writeNext", "(I)V"⟩
abbrev cX5_readSet : ByteArray := prog_7_method_9_code
def yX5_readSet : MethodName := ⟨RX5, "readSet", "(I)I"⟩
abbrev cX5_readManyInks : ByteArray := prog_7_method_10_code
def yX5_readManyInks : MethodName := ⟨RX5, "readManyInks", "()I"⟩
abbrev cX5_isInkLetter : ByteArray := prog_7_method_11_code
def yX5_isInkLetter : MethodName := ⟨RX5, "isInkLetter", "(I)Z"⟩
def RX6 : String := "PartedInks"
def TX6 : u_T := fun k => match k with
  | 0 => ("PartedInks", "now", "LPartedInks$State;", true)
  | 1 => ("PartedInks", "past", "LPartedInks$Past;", true)
  | 2 => ("PartedInks", "keptNow", "LPartedInks$State;", true)
  | 3 => ("PartedInks", "keptPast", "LPartedInks$Past;", true)
  | 4 => ("PartedInks", "kept", "Z", false)
  | 5 => ("PartedInks", "looks", "LPartedInks$Looks;", true)
  | 6 => ("PartedInks", "areas", "LPartedInks$Areas;", true)
  | 7 => ("PartedInks", "tape", "LPartedInks$Tape;", true)
  | 8 => ("PartedInks", "rows", "[LPartedInks$Row;", true)
  | 9 => ("PartedInks", "grown", "[I", true)
  | 10 => ("PartedInks", "triedOrder", "[I", true)
  | _ => ("PartedInks", "triedKinds", "[I", true)
def tyX6 : Nat → FieldType := fun k => match k with
  | 0 => .object "PartedInks$State"
  | 1 => .object "PartedInks$Past"
  | 2 => .object "PartedInks$State"
  | 3 => .object "PartedInks$Past"
  | 4 => .boolean
  | 5 => .object "PartedInks$Looks"
  | 6 => .object "PartedInks$Areas"
  | 7 => .object "PartedInks$Tape"
  | 8 => .array (.object "PartedInks$Row")
  | 9 => .array .int
  | 10 => .array .int
  | _ => .array .int
abbrev wsX60 : List Cond := u_ws RX6 TX6 12
theorem nmX6 : ∀ a, a < 12 → ∀ b, b < 12 → a ≠ b → (TX6 a).2.1 ≠ (TX6 b).2.1 := by decide +kernel
theorem tyX6_ok : ∀ k, k < 12 → parseFieldDescriptor (TX6 k).2.2.1 = some (tyX6 k) := by decide +kernel
abbrev cX6_init : ByteArray := prog_1_method_1_code
def yX6_init : MethodName := ⟨RX6, "<init>", "()V"⟩
abbrev cX6_ink : ByteArray := prog_1_method_2_code
def yX6_ink : MethodName := ⟨RX6, "ink", "(II)I"⟩
abbrev cX6_set : ByteArray := prog_1_method_3_code
def yX6_set : MethodName := ⟨RX6, "set", "(II)I"⟩
abbrev cX6_place : ByteArray := prog_1_method_4_code
def yX6_place : MethodName := ⟨RX6, "place", "(III)I"⟩
abbrev cX6_area : ByteArray := prog_1_method_5_code
def yX6_area : MethodName := ⟨RX6, "area", "(II)I"⟩
abbrev cX6_type : ByteArray := prog_1_method_6_code
def yX6_type : MethodName := ⟨RX6, "type", "(I)I"⟩
abbrev cX6_draw : ByteArray := prog_1_method_7_code
def yX6_draw : MethodName := ⟨RX6, "draw", "()I"⟩
abbrev cX6_count : ByteArray := prog_1_method_8_code
def yX6_count : MethodName := ⟨RX6, "count", "(I)I"⟩
abbrev cX6_tell : ByteArray := prog_1_method_9_code
def yX6_tell : MethodName := ⟨RX6, "tell", "(III)I"⟩
abbrev cX6_order : ByteArray := prog_1_method_10_code
def yX6_order : MethodName := ⟨RX6, "order", "(I)I"⟩
abbrev cX6_put : ByteArray := prog_1_method_11_code
def yX6_put : MethodName := ⟨RX6, "put", "(III)I"⟩
abbrev cX6_fill : ByteArray := prog_1_method_12_code
def yX6_fill : MethodName := ⟨RX6, "fill", "(II)I"⟩
abbrev cX6_grow : ByteArray := prog_1_method_13_code
def yX6_grow : MethodName := ⟨RX6, "grow", "()I"⟩
abbrev cX6_size : ByteArray := prog_1_method_14_code
def yX6_size : MethodName := ⟨RX6, "size", "(II)I"⟩
abbrev cX6_drift : ByteArray := prog_1_method_15_code
def yX6_drift : MethodName := ⟨RX6, "drift", "(I)I"⟩
abbrev cX6_undo : ByteArray := prog_1_method_16_code
def yX6_undo : MethodName := ⟨RX6, "undo", "()I"⟩
abbrev cX6_seed : ByteArray := prog_1_method_17_code
def yX6_seed : MethodName := ⟨RX6, "seed", "(I)I"⟩
abbrev cX6_gaps : ByteArray := prog_1_method_18_code
def yX6_gaps : MethodName := ⟨RX6, "gaps", "(III)I"⟩
abbrev cX6_aside : ByteArray := prog_1_method_19_code
def yX6_aside : MethodName := ⟨RX6, "aside", "(IIIII)I"⟩
abbrev cX6_fail : ByteArray := prog_1_method_20_code
def yX6_fail : MethodName := ⟨RX6, "fail", "(II)I"⟩
abbrev cX6_image : ByteArray := prog_1_method_21_code
def yX6_image : MethodName := ⟨RX6, "image", "()I"⟩
abbrev cX6_restore : ByteArray := prog_1_method_22_code
def yX6_restore : MethodName := ⟨RX6, "restore", "()I"⟩
abbrev cX6_seen : ByteArray := prog_1_method_23_code
def yX6_seen : MethodName := ⟨RX6, "seen", "(IIIII)I"⟩
abbrev cX6_film : ByteArray := prog_1_method_24_code
def yX6_film : MethodName := ⟨RX6, "film", "(IIII)I"⟩
abbrev cX6_sheet : ByteArray := prog_1_method_25_code
def yX6_sheet : MethodName := ⟨RX6, "sheet", "(III)I"⟩
abbrev cX6_drop : ByteArray := prog_1_method_26_code
def yX6_drop : MethodName := ⟨RX6, "drop", "(I)I"⟩
abbrev cX6_item : ByteArray := prog_1_method_27_code
def yX6_item : MethodName := ⟨RX6, "item", "(IIIJ)I"⟩
abbrev cX6_copy : ByteArray := prog_1_method_28_code
def yX6_copy : MethodName := ⟨RX6, "copy", "(IIIII)I"⟩
abbrev cX6_isBelow : ByteArray := prog_1_method_29_code
def yX6_isBelow : MethodName := ⟨RX6, "isBelow", "(II)Z"⟩
abbrev cX6_hasBit : ByteArray := prog_1_method_30_code
def yX6_hasBit : MethodName := ⟨RX6, "hasBit", "(II)Z"⟩
abbrev cX6_isPlateAside : ByteArray := prog_1_method_31_code
def yX6_isPlateAside : MethodName := ⟨RX6, "isPlateAside", "(III)Z"⟩
abbrev cX6_isTaking : ByteArray := prog_1_method_32_code
def yX6_isTaking : MethodName := ⟨RX6, "isTaking", "(II)Z"⟩
abbrev cX6_isOrder : ByteArray := prog_1_method_33_code
def yX6_isOrder : MethodName := ⟨RX6, "isOrder", "(I)Z"⟩
abbrev cX6_figuresOf : ByteArray := prog_1_method_34_code
def yX6_figuresOf : MethodName := ⟨RX6, "figuresOf", "([I)I"⟩
abbrev cX6_printedOver : ByteArray := prog_1_method_35_code
def yX6_printedOver : MethodName := ⟨RX6, "printedOver", "(III)I"⟩
abbrev cX6_lookBy : ByteArray := prog_1_method_36_code
def yX6_lookBy : MethodName := ⟨RX6, "lookBy", "([I[I[II)I"⟩
abbrev cX6_darkOf : ByteArray := prog_1_method_37_code
def yX6_darkOf : MethodName := ⟨RX6, "darkOf", "(I)I"⟩
abbrev cX6_lookNow : ByteArray := prog_1_method_38_code
def yX6_lookNow : MethodName := ⟨RX6, "lookNow", "(I)I"⟩
abbrev cX6_alikeTo : ByteArray := prog_1_method_39_code
def yX6_alikeTo : MethodName := ⟨RX6, "alikeTo", "(I)I"⟩
abbrev cX6_unlikeLooks : ByteArray := prog_1_method_40_code
def yX6_unlikeLooks : MethodName := ⟨RX6, "unlikeLooks", "()I"⟩
abbrev cX6_fewestInks : ByteArray := prog_1_method_41_code
def yX6_fewestInks : MethodName := ⟨RX6, "fewestInks", "()I"⟩
abbrev cX6_printedBy : ByteArray := prog_1_method_42_code
def yX6_printedBy : MethodName := ⟨RX6, "printedBy", "(IIIII)I"⟩
abbrev cX6_gapsBy : ByteArray := prog_1_method_43_code
def yX6_gapsBy : MethodName := ⟨RX6, "gapsBy", "(III)I"⟩
abbrev cX6_worstAside : ByteArray := prog_1_method_44_code
def yX6_worstAside : MethodName := ⟨RX6, "worstAside", "()I"⟩
abbrev cX6_worstGaps : ByteArray := prog_1_method_45_code
def yX6_worstGaps : MethodName := ⟨RX6, "worstGaps", "()I"⟩
abbrev cX6_ordersAlike : ByteArray := prog_1_method_46_code
def yX6_ordersAlike : MethodName := ⟨RX6, "ordersAlike", "()I"⟩
abbrev cX6_firstOrderAlike : ByteArray := prog_1_method_47_code
def yX6_firstOrderAlike : MethodName := ⟨RX6, "firstOrderAlike", "()I"⟩
abbrev cX6_isAlikeByOrder : ByteArray := prog_1_method_48_code
def yX6_isAlikeByOrder : MethodName := ⟨RX6, "isAlikeByOrder", "(II)Z"⟩
abbrev cX6_writeOrder : ByteArray := prog_1_method_49_code
def yX6_writeOrder : MethodName := ⟨RX6, "writeOrder", "(I[I)V"⟩
abbrev cX6_nthInk : ByteArray := prog_1_method_50_code
def yX6_nthInk : MethodName := ⟨RX6, "nthInk", "(II)I"⟩
abbrev cX6_orderByDark : ByteArray := prog_1_method_51_code
def yX6_orderByDark : MethodName := ⟨RX6, "orderByDark", "()I"⟩
abbrev cX6_lighterInks : ByteArray := prog_1_method_52_code
def yX6_lighterInks : MethodName := ⟨RX6, "lighterInks", "(I)I"⟩
abbrev cX6_growAside : ByteArray := prog_1_method_53_code
def yX6_growAside : MethodName := ⟨RX6, "growAside", "()V"⟩
abbrev cX6_growBetween : ByteArray := prog_1_method_54_code
def yX6_growBetween : MethodName := ⟨RX6, "growBetween", "(II)V"⟩
abbrev cX6_driftOnce : ByteArray := prog_1_method_55_code
def yX6_driftOnce : MethodName := ⟨RX6, "driftOnce", "()V"⟩
abbrev cX6_gaplessOdds : ByteArray := prog_1_method_56_code
def yX6_gaplessOdds : MethodName := ⟨RX6, "gaplessOdds", "(I)I"⟩
abbrev cX6_leavesGap : ByteArray := prog_1_method_57_code
def yX6_leavesGap : MethodName := ⟨RX6, "leavesGap", "(II)Z"⟩
abbrev cX6_power : ByteArray := prog_1_method_58_code
def yX6_power : MethodName := ⟨RX6, "power", "(II)I"⟩
abbrev cX6_commonDivisor : ByteArray := prog_1_method_59_code
def yX6_commonDivisor : MethodName := ⟨RX6, "commonDivisor", "(II)I"⟩
abbrev cX6_tellsSets : ByteArray := prog_1_method_60_code
def yX6_tellsSets : MethodName := ⟨RX6, "tellsSets", "(LPartedInks$Row;II)Z"⟩
abbrev cX6_kindsSeen : ByteArray := prog_1_method_61_code
def yX6_kindsSeen : MethodName := ⟨RX6, "kindsSeen", "(ILPartedInks$Row;II)I"⟩
abbrev cX6_looksAsTold : ByteArray := prog_1_method_62_code
def yX6_looksAsTold : MethodName := ⟨RX6, "looksAsTold", "(LPartedInks$Row;II)Z"⟩
def RX7 : String := "PartedInksModel"
def TX7 : u_T := fun k => match k with
  | 0 => ("PartedInksModel", "now", "[I", true)
  | 1 => ("PartedInksModel", "looks", "[I", true)
  | 2 => ("PartedInksModel", "least", "[I", true)
  | 3 => ("PartedInksModel", "firsts", "[I", true)
  | 4 => ("PartedInksModel", "ahead", "[I", true)
  | 5 => ("PartedInksModel", "undos", "I", false)
  | 6 => ("PartedInksModel", "grown", "[I", true)
  | 7 => ("PartedInksModel", "tape", "[I", true)
  | 8 => ("PartedInksModel", "taped", "I", false)
  | 9 => ("PartedInksModel", "place", "I", false)
  | 10 => ("PartedInksModel", "lines", "[I", true)
  | 11 => ("PartedInksModel", "wide", "I", false)
  | 12 => ("PartedInksModel", "high", "I", false)
  | 13 => ("PartedInksModel", "many", "I", false)
  | 14 => ("PartedInksModel", "kept", "[I", true)
  | 15 => ("PartedInksModel", "keptAhead", "[I", true)
  | 16 => ("PartedInksModel", "keptUndos", "I", false)
  | 17 => ("PartedInksModel", "lanes", "[I", true)
  | 18 => ("PartedInksModel", "sizes", "[I", true)
  | 19 => ("PartedInksModel", "items", "[J", true)
  | _ => ("PartedInksModel", "moved", "[J", true)
def tyX7 : Nat → FieldType := fun k => match k with
  | 0 => .array .int
  | 1 => .array .int
  | 2 => .array .int
  | 3 => .array .int
  | 4 => .array .int
  | 5 => .int
  | 6 => .array .int
  | 7 => .array .int
  | 8 => .int
  | 9 => .int
  | 10 => .array .int
  | 11 => .int
  | 12 => .int
  | 13 => .int
  | 14 => .array .int
  | 15 => .array .int
  | 16 => .int
  | 17 => .array .int
  | 18 => .array .int
  | 19 => .array .long
  | _ => .array .long
abbrev wsX70 : List Cond := u_ws RX7 TX7 21
theorem nmX7 : ∀ a, a < 21 → ∀ b, b < 21 → a ≠ b → (TX7 a).2.1 ≠ (TX7 b).2.1 := by decide +kernel
theorem tyX7_ok : ∀ k, k < 21 → parseFieldDescriptor (TX7 k).2.2.1 = some (tyX7 k) := by decide +kernel
abbrev cX7_in : ByteArray := prog_9_method_2_code
def yX7_in : MethodName := ⟨RX7, "in", "(JJJ)Z"⟩
abbrev cX7_init : ByteArray := prog_9_method_3_code
def yX7_init : MethodName := ⟨RX7, "<init>", "()V"⟩
abbrev cX7_isInk : ByteArray := prog_9_method_4_code
def yX7_isInk : MethodName := ⟨RX7, "isInk", "(I)Z"⟩
abbrev cX7_isSet : ByteArray := prog_9_method_5_code
def yX7_isSet : MethodName := ⟨RX7, "isSet", "(J)Z"⟩
abbrev cX7_hasInk : ByteArray := prog_9_method_6_code
def yX7_hasInk : MethodName := ⟨RX7, "hasInk", "(II)Z"⟩
abbrev cX7_bits : ByteArray := prog_9_method_7_code
def yX7_bits : MethodName := ⟨RX7, "bits", "(I)I"⟩
abbrev cX7_isPlace : ByteArray := prog_9_method_8_code
def yX7_isPlace : MethodName := ⟨RX7, "isPlace", "(II)Z"⟩
abbrev cX7_setAt : ByteArray := prog_9_method_9_code
def yX7_setAt : MethodName := ⟨RX7, "setAt", "(I)I"⟩
abbrev cX7_isIn : ByteArray := prog_9_method_10_code
def yX7_isIn : MethodName := ⟨RX7, "isIn", "(I)Z"⟩
abbrev cX7_over : ByteArray := prog_9_method_11_code
def yX7_over : MethodName := ⟨RX7, "over", "(III)I"⟩
abbrev cX7_number : ByteArray := prog_9_method_12_code
def yX7_number : MethodName := ⟨RX7, "number", "(IIIII)I"⟩
abbrev cX7_lookBy : ByteArray := prog_9_method_13_code
def yX7_lookBy : MethodName := ⟨RX7, "lookBy", "(IIII)I"⟩
abbrev cX7_lookOf : ByteArray := prog_9_method_14_code
def yX7_lookOf : MethodName := ⟨RX7, "lookOf", "(I)I"⟩
abbrev cX7_dark : ByteArray := prog_9_method_15_code
def yX7_dark : MethodName := ⟨RX7, "dark", "(I)I"⟩
abbrev cX7_looksOfAll : ByteArray := prog_9_method_16_code
def yX7_looksOfAll : MethodName := ⟨RX7, "looksOfAll", "()V"⟩
abbrev cX7_alike : ByteArray := prog_9_method_17_code
def yX7_alike : MethodName := ⟨RX7, "alike", "(I)I"⟩
abbrev cX7_placesOf : ByteArray := prog_9_method_18_code
def yX7_placesOf : MethodName := ⟨RX7, "placesOf", "(I)I"⟩
abbrev cX7_placesWith : ByteArray := prog_9_method_19_code
def yX7_placesWith : MethodName := ⟨RX7, "placesWith", "(I)I"⟩
abbrev cX7_drawn : ByteArray := prog_9_method_20_code
def yX7_drawn : MethodName := ⟨RX7, "drawn", "()I"⟩
abbrev cX7_unlike : ByteArray := prog_9_method_21_code
def yX7_unlike : MethodName := ⟨RX7, "unlike", "()I"⟩
abbrev cX7_canLook : ByteArray := prog_9_method_22_code
def yX7_canLook : MethodName := ⟨RX7, "canLook", "(II)Z"⟩
abbrev cX7_canAll : ByteArray := prog_9_method_23_code
def yX7_canAll : MethodName := ⟨RX7, "canAll", "(I)Z"⟩
abbrev cX7_few : ByteArray := prog_9_method_24_code
def yX7_few : MethodName := ⟨RX7, "few", "()I"⟩
abbrev cX7_beside : ByteArray := prog_9_method_25_code
def yX7_beside : MethodName := ⟨RX7, "beside", "(II)I"⟩
abbrev cX7_leastBeside : ByteArray := prog_9_method_26_code
def yX7_leastBeside : MethodName := ⟨RX7, "leastBeside", "(I)I"⟩
abbrev cX7_areas : ByteArray := prog_9_method_27_code
def yX7_areas : MethodName := ⟨RX7, "areas", "()I"⟩
abbrev cX7_areaOf : ByteArray := prog_9_method_28_code
def yX7_areaOf : MethodName := ⟨RX7, "areaOf", "(I)I"⟩
abbrev cX7_isOf : ByteArray := prog_9_method_29_code
def yX7_isOf : MethodName := ⟨RX7, "isOf", "(II)Z"⟩
abbrev cX7_placesOfArea : ByteArray := prog_9_method_30_code
def yX7_placesOfArea : MethodName := ⟨RX7, "placesOfArea", "(I)I"⟩
abbrev cX7_isBeside : ByteArray := prog_9_method_31_code
def yX7_isBeside : MethodName := ⟨RX7, "isBeside", "(II)Z"⟩
abbrev cX7_neighbours : ByteArray := prog_9_method_32_code
def yX7_neighbours : MethodName := ⟨RX7, "neighbours", "(II)I"⟩
abbrev cX7_greater : ByteArray := prog_9_method_33_code
def yX7_greater : MethodName := ⟨RX7, "greater", "(II)I"⟩
abbrev cX7_area : ByteArray := prog_9_method_34_code
def yX7_area : MethodName := ⟨RX7, "area", "(II)I"⟩
abbrev cX7_rankIn : ByteArray := prog_9_method_35_code
def yX7_rankIn : MethodName := ⟨RX7, "rankIn", "(II)I"⟩
abbrev cX7_ink : ByteArray := prog_9_method_36_code
def yX7_ink : MethodName := ⟨RX7, "ink", "(II)I"⟩
abbrev cX7_set : ByteArray := prog_9_method_37_code
def yX7_set : MethodName := ⟨RX7, "set", "(II)I"⟩
abbrev cX7_place : ByteArray := prog_9_method_38_code
def yX7_place : MethodName := ⟨RX7, "place", "(III)I"⟩
abbrev cX7_printed : ByteArray := prog_9_method_39_code
def yX7_printed : MethodName := ⟨RX7, "printed", "(IIII)I"⟩
abbrev cX7_gapsBy : ByteArray := prog_9_method_40_code
def yX7_gapsBy : MethodName := ⟨RX7, "gapsBy", "(III)I"⟩
abbrev cX7_isAside : ByteArray := prog_9_method_41_code
def yX7_isAside : MethodName := ⟨RX7, "isAside", "(III)Z"⟩
abbrev cX7_gaps : ByteArray := prog_9_method_42_code
def yX7_gaps : MethodName := ⟨RX7, "gaps", "(III)I"⟩
abbrev cX7_aside : ByteArray := prog_9_method_43_code
def yX7_aside : MethodName := ⟨RX7, "aside", "(IIIII)I"⟩
abbrev cX7_worst : ByteArray := prog_9_method_44_code
def yX7_worst : MethodName := ⟨RX7, "worst", "(I)I"⟩
abbrev cX7_isOrder : ByteArray := prog_9_method_45_code
def yX7_isOrder : MethodName := ⟨RX7, "isOrder", "(I)Z"⟩
abbrev cX7_leaves : ByteArray := prog_9_method_46_code
def yX7_leaves : MethodName := ⟨RX7, "leaves", "(I)Z"⟩
abbrev cX7_orders : ByteArray := prog_9_method_47_code
def yX7_orders : MethodName := ⟨RX7, "orders", "(I)I"⟩
abbrev cX7_byDark : ByteArray := prog_9_method_48_code
def yX7_byDark : MethodName := ⟨RX7, "byDark", "()I"⟩
abbrev cX7_count : ByteArray := prog_9_method_49_code
def yX7_count : MethodName := ⟨RX7, "count", "(I)I"⟩
abbrev cX7_isWhole : ByteArray := prog_9_method_50_code
def yX7_isWhole : MethodName := ⟨RX7, "isWhole", "(I)Z"⟩
abbrev cX7_parts : ByteArray := prog_9_method_51_code
def yX7_parts : MethodName := ⟨RX7, "parts", "(III)I"⟩
abbrev cX7_fail : ByteArray := prog_9_method_52_code
def yX7_fail : MethodName := ⟨RX7, "fail", "(II)I"⟩
abbrev cX7_notes : ByteArray := prog_9_method_53_code
def yX7_notes : MethodName := ⟨RX7, "notes", "()V"⟩
abbrev cX7_undo : ByteArray := prog_9_method_54_code
def yX7_undo : MethodName := ⟨RX7, "undo", "()I"⟩
abbrev cX7_tell : ByteArray := prog_9_method_55_code
def yX7_tell : MethodName := ⟨RX7, "tell", "(III)I"⟩
abbrev cX7_order : ByteArray := prog_9_method_56_code
def yX7_order : MethodName := ⟨RX7, "order", "(I)I"⟩
abbrev cX7_put : ByteArray := prog_9_method_57_code
def yX7_put : MethodName := ⟨RX7, "put", "(III)I"⟩
abbrev cX7_fill : ByteArray := prog_9_method_58_code
def yX7_fill : MethodName := ⟨RX7, "fill", "(II)I"⟩
abbrev cX7_comesTo : ByteArray := prog_9_method_59_code
def yX7_comesTo : MethodName := ⟨RX7, "comesTo", "(II)I"⟩
abbrev cX7_grow : ByteArray := prog_9_method_60_code
def yX7_grow : MethodName := ⟨RX7, "grow", "()I"⟩
abbrev cX7_size : ByteArray := prog_9_method_61_code
def yX7_size : MethodName := ⟨RX7, "size", "(II)I"⟩
abbrev cX7_drift : ByteArray := prog_9_method_62_code
def yX7_drift : MethodName := ⟨RX7, "drift", "(I)I"⟩
abbrev cX7_seed : ByteArray := prog_9_method_63_code
def yX7_seed : MethodName := ⟨RX7, "seed", "(I)I"⟩
abbrev cX7_type : ByteArray := prog_9_method_64_code
def yX7_type : MethodName := ⟨RX7, "type", "(I)I"⟩
abbrev cX7_here : ByteArray := prog_9_method_65_code
def yX7_here : MethodName := ⟨RX7, "here", "()I"⟩
abbrev cX7_isRun : ByteArray := prog_9_method_66_code
def yX7_isRun : MethodName := ⟨RX7, "isRun", "()Z"⟩
abbrev cX7_readsSet : ByteArray := prog_9_method_67_code
def yX7_readsSet : MethodName := ⟨RX7, "readsSet", "()I"⟩
abbrev cX7_readsRun : ByteArray := prog_9_method_68_code
def yX7_readsRun : MethodName := ⟨RX7, "readsRun", "(I)Z"⟩
abbrev cX7_readsLine : ByteArray := prog_9_method_69_code
def yX7_readsLine : MethodName := ⟨RX7, "readsLine", "()Z"⟩
abbrev cX7_isText : ByteArray := prog_9_method_70_code
def yX7_isText : MethodName := ⟨RX7, "isText", "()Z"⟩
abbrev cX7_draw : ByteArray := prog_9_method_71_code
def yX7_draw : MethodName := ⟨RX7, "draw", "()I"⟩
abbrev cX7_image : ByteArray := prog_9_method_72_code
def yX7_image : MethodName := ⟨RX7, "image", "()I"⟩
abbrev cX7_restore : ByteArray := prog_9_method_73_code
def yX7_restore : MethodName := ⟨RX7, "restore", "()I"⟩
abbrev cX7_isSheet : ByteArray := prog_9_method_74_code
def yX7_isSheet : MethodName := ⟨RX7, "isSheet", "(I)Z"⟩
abbrev cX7_cut : ByteArray := prog_9_method_75_code
def yX7_cut : MethodName := ⟨RX7, "cut", "(JI)J"⟩
abbrev cX7_sheet : ByteArray := prog_9_method_76_code
def yX7_sheet : MethodName := ⟨RX7, "sheet", "(III)I"⟩
abbrev cX7_drop : ByteArray := prog_9_method_77_code
def yX7_drop : MethodName := ⟨RX7, "drop", "(I)I"⟩
abbrev cX7_why : ByteArray := prog_9_method_78_code
def yX7_why : MethodName := ⟨RX7, "why", "(IIII)I"⟩
abbrev cX7_item : ByteArray := prog_9_method_79_code
def yX7_item : MethodName := ⟨RX7, "item", "(IIIJ)I"⟩
abbrev cX7_copy : ByteArray := prog_9_method_80_code
def yX7_copy : MethodName := ⟨RX7, "copy", "(IIIII)I"⟩
abbrev cX7_isSo : ByteArray := prog_9_method_81_code
def yX7_isSo : MethodName := ⟨RX7, "isSo", "(IIII)Z"⟩
abbrev cX7_seen : ByteArray := prog_9_method_82_code
def yX7_seen : MethodName := ⟨RX7, "seen", "(IIIII)I"⟩
abbrev cX7_film : ByteArray := prog_9_method_83_code
def yX7_film : MethodName := ⟨RX7, "film", "(IIII)I"⟩
def RJ6 : String := "java/lang/Integer"
def TJ6 : u_T := fun k => match k with
  | _ => ("", "", "", false)
def tyJ6 : Nat → FieldType := fun k => match k with
  | _ => .int
abbrev wsJ60 : List Cond := u_ws RJ6 TJ6 0
theorem nmJ6 : ∀ a, a < 0 → ∀ b, b < 0 → a ≠ b → (TJ6 a).2.1 ≠ (TJ6 b).2.1 := by decide +kernel
theorem tyJ6_ok : ∀ k, k < 0 → parseFieldDescriptor (TJ6 k).2.2.1 = some (tyJ6 k) := by decide +kernel
abbrev cJ6_bitCount_0f7a4 : ByteArray := prog_10_method_49_code
def yJ6_bitCount_0f7a4 : MethodName := ⟨RJ6, "bitCount", "(I)I"⟩
def RJ9 : String := "java/lang/Math"
def TJ9 : u_T := fun k => match k with
  | _ => ("", "", "", false)
def tyJ9 : Nat → FieldType := fun k => match k with
  | _ => .int
abbrev wsJ90 : List Cond := u_ws RJ9 TJ9 0
theorem nmJ9 : ∀ a, a < 0 → ∀ b, b < 0 → a ≠ b → (TJ9 a).2.1 ≠ (TJ9 b).2.1 := by decide +kernel
theorem tyJ9_ok : ∀ k, k < 0 → parseFieldDescriptor (TJ9 k).2.2.1 = some (tyJ9 k) := by decide +kernel
abbrev cJ9_max_7cf53 : ByteArray := prog_11_method_65_code
def yJ9_max_7cf53 : MethodName := ⟨RJ9, "max", "(II)I"⟩
abbrev cJ9_min_7cf53 : ByteArray := prog_11_method_69_code
def yJ9_min_7cf53 : MethodName := ⟨RJ9, "min", "(II)I"⟩
def RJ10 : String := "java/lang/System"
def TJ10 : u_T := fun k => match k with
  | _ => ("", "", "", false)
def tyJ10 : Nat → FieldType := fun k => match k with
  | _ => .int
abbrev wsJ100 : List Cond := u_ws RJ10 TJ10 0
theorem nmJ10 : ∀ a, a < 0 → ∀ b, b < 0 → a ≠ b → (TJ10 a).2.1 ≠ (TJ10 b).2.1 := by decide +kernel
theorem tyJ10_ok : ∀ k, k < 0 → parseFieldDescriptor (TJ10 k).2.2.1 = some (tyJ10 k) := by decide +kernel
def RL : String := "PartedInksLaw"
abbrev cL_law : ByteArray := code
def yL_law : MethodName := ⟨RL, "law", "([I)Z"⟩
abbrev vwCl : List vw_C := [(RX0, TX0, 7), (RX1, TX1, 1), (RX2, TX2, 2), (RX3, TX3, 4), (RX4, TX4, 7), (RX5, TX5, 7), (RX6, TX6, 12), (RX7, TX7, 21)]
end
section
theorem dX0_init_0 : decode cX0_init 0 = .ok (.aload_n 0, 1) := by decide +kernel
theorem dX0_init_1 : decode cX0_init 1 = .ok (.invokespecial 3, 3) := by decide +kernel
theorem dX0_init_4 : decode cX0_init 4 = .ok (.aload_n 0, 1) := by decide +kernel
theorem dX0_init_5 : decode cX0_init 5 = .ok (.bipush 48, 2) := by decide +kernel
theorem dX0_init_7 : decode cX0_init 7 = .ok (.newarray .int, 2) := by decide +kernel
theorem dX0_init_9 : decode cX0_init 9 = .ok (.putfield 9, 3) := by decide +kernel
theorem dX0_init_12 : decode cX0_init 12 = .ok (.aload_n 0, 1) := by decide +kernel
theorem dX0_init_13 : decode cX0_init 13 = .ok (.bipush 48, 2) := by decide +kernel
theorem dX0_init_15 : decode cX0_init 15 = .ok (.newarray .int, 2) := by decide +kernel
theorem dX0_init_17 : decode cX0_init 17 = .ok (.putfield 15, 3) := by decide +kernel
theorem dX0_init_20 : decode cX0_init 20 = .ok (.aload_n 0, 1) := by decide +kernel
theorem dX0_init_21 : decode cX0_init 21 = .ok (.bipush 48, 2) := by decide +kernel
theorem dX0_init_23 : decode cX0_init 23 = .ok (.newarray .int, 2) := by decide +kernel
theorem dX0_init_25 : decode cX0_init 25 = .ok (.putfield 18, 3) := by decide +kernel
theorem dX0_init_28 : decode cX0_init 28 = .ok (.aload_n 0, 1) := by decide +kernel
theorem dX0_init_29 : decode cX0_init 29 = .ok (.bipush 48, 2) := by decide +kernel
theorem dX0_init_31 : decode cX0_init 31 = .ok (.newarray .int, 2) := by decide +kernel
theorem dX0_init_33 : decode cX0_init 33 = .ok (.putfield 21, 3) := by decide +kernel
theorem dX0_init_36 : decode cX0_init 36 = .ok (.aload_n 0, 1) := by decide +kernel
theorem dX0_init_37 : decode cX0_init 37 = .ok (.bipush 48, 2) := by decide +kernel
theorem dX0_init_39 : decode cX0_init 39 = .ok (.newarray .boolean, 2) := by decide +kernel
theorem dX0_init_41 : decode cX0_init 41 = .ok (.putfield 24, 3) := by decide +kernel
theorem dX0_init_44 : decode cX0_init 44 = .ok (.aload_n 0, 1) := by decide +kernel
theorem dX0_init_45 : decode cX0_init 45 = .ok (.iconst 0, 1) := by decide +kernel
theorem dX0_init_46 : decode cX0_init 46 = .ok (.putfield 28, 3) := by decide +kernel
theorem dX0_init_49 : decode cX0_init 49 = .ok (.aload_n 0, 1) := by decide +kernel
theorem dX0_init_50 : decode cX0_init 50 = .ok (.iconst 0, 1) := by decide +kernel
theorem dX0_init_51 : decode cX0_init 51 = .ok (.putfield 32, 3) := by decide +kernel
theorem dX0_init_54 : decode cX0_init 54 = .ok (.return_, 1) := by decide +kernel
theorem dX0_find_0 : decode cX0_find 0 = .ok (.aload_n 0, 1) := by decide +kernel
theorem dX0_find_1 : decode cX0_find 1 = .ok (.iconst 0, 1) := by decide +kernel
theorem dX0_find_2 : decode cX0_find 2 = .ok (.putfield 32, 3) := by decide +kernel
theorem dX0_find_5 : decode cX0_find 5 = .ok (.iconst 0, 1) := by decide +kernel
theorem dX0_find_6 : decode cX0_find 6 = .ok (.istore_n 2, 1) := by decide +kernel
theorem dX0_find_7 : decode cX0_find 7 = .ok (.iload_n 2, 1) := by decide +kernel
theorem dX0_find_8 : decode cX0_find 8 = .ok (.bipush 48, 2) := by decide +kernel
theorem dX0_find_10 : decode cX0_find 10 = .ok (.if_icmp .ge 16, 3) := by decide +kernel
theorem dX0_find_13 : decode cX0_find 13 = .ok (.aload_n 0, 1) := by decide +kernel
theorem dX0_find_14 : decode cX0_find 14 = .ok (.getfield 9, 3) := by decide +kernel
theorem dX0_find_17 : decode cX0_find 17 = .ok (.iload_n 2, 1) := by decide +kernel
theorem dX0_find_18 : decode cX0_find 18 = .ok (.iconst (-1), 1) := by decide +kernel
theorem dX0_find_19 : decode cX0_find 19 = .ok (.iastore, 1) := by decide +kernel
theorem dX0_find_20 : decode cX0_find 20 = .ok (.iinc 2 1, 3) := by decide +kernel
theorem dX0_find_23 : decode cX0_find 23 = .ok (.goto (-16), 3) := by decide +kernel
theorem dX0_find_26 : decode cX0_find 26 = .ok (.iconst 0, 1) := by decide +kernel
theorem dX0_find_27 : decode cX0_find 27 = .ok (.istore_n 2, 1) := by decide +kernel
theorem dX0_find_28 : decode cX0_find 28 = .ok (.iload_n 2, 1) := by decide +kernel
theorem dX0_find_29 : decode cX0_find 29 = .ok (.aload_n 1, 1) := by decide +kernel
theorem dX0_find_30 : decode cX0_find 30 = .ok (.getfield 35, 3) := by decide +kernel
theorem dX0_find_33 : decode cX0_find 33 = .ok (.if_icmp .ge 41, 3) := by decide +kernel
theorem dX0_find_36 : decode cX0_find 36 = .ok (.iconst 0, 1) := by decide +kernel
theorem dX0_find_37 : decode cX0_find 37 = .ok (.istore_n 3, 1) := by decide +kernel
theorem dX0_find_38 : decode cX0_find 38 = .ok (.iload_n 3, 1) := by decide +kernel
theorem dX0_find_39 : decode cX0_find 39 = .ok (.aload_n 1, 1) := by decide +kernel
theorem dX0_find_40 : decode cX0_find 40 = .ok (.getfield 40, 3) := by decide +kernel
theorem dX0_find_43 : decode cX0_find 43 = .ok (.if_icmp .ge 25, 3) := by decide +kernel
theorem dX0_find_46 : decode cX0_find 46 = .ok (.aload_n 0, 1) := by decide +kernel
theorem dX0_find_47 : decode cX0_find 47 = .ok (.iload_n 3, 1) := by decide +kernel
theorem dX0_find_48 : decode cX0_find 48 = .ok (.iload_n 2, 1) := by decide +kernel
theorem dX0_find_49 : decode cX0_find 49 = .ok (.invokevirtual 43, 3) := by decide +kernel
theorem dX0_find_52 : decode cX0_find 52 = .ok (.ifCond .ge 10, 3) := by decide +kernel
theorem dX0_find_55 : decode cX0_find 55 = .ok (.aload_n 0, 1) := by decide +kernel
theorem dX0_find_56 : decode cX0_find 56 = .ok (.iload_n 3, 1) := by decide +kernel
theorem dX0_find_57 : decode cX0_find 57 = .ok (.iload_n 2, 1) := by decide +kernel
theorem dX0_find_58 : decode cX0_find 58 = .ok (.aload_n 1, 1) := by decide +kernel
theorem dX0_find_59 : decode cX0_find 59 = .ok (.invokevirtual 47, 3) := by decide +kernel
theorem dX0_find_62 : decode cX0_find 62 = .ok (.iinc 3 1, 3) := by decide +kernel
theorem dX0_find_65 : decode cX0_find 65 = .ok (.goto (-27), 3) := by decide +kernel
theorem dX0_find_68 : decode cX0_find 68 = .ok (.iinc 2 1, 3) := by decide +kernel
theorem dX0_find_71 : decode cX0_find 71 = .ok (.goto (-43), 3) := by decide +kernel
theorem dX0_find_74 : decode cX0_find 74 = .ok (.return_, 1) := by decide +kernel
theorem dX0_spreadFrom_0 : decode cX0_spreadFrom 0 = .ok (.aload_n 0, 1) := by decide +kernel
theorem dX0_spreadFrom_1 : decode cX0_spreadFrom 1 = .ok (.getfield 32, 3) := by decide +kernel
theorem dX0_spreadFrom_4 : decode cX0_spreadFrom 4 = .ok (.istore 4, 2) := by decide +kernel
theorem dX0_spreadFrom_6 : decode cX0_spreadFrom 6 = .ok (.iload 4, 2) := by decide +kernel
theorem dX0_spreadFrom_8 : decode cX0_spreadFrom 8 = .ok (.bipush 48, 2) := by decide +kernel
theorem dX0_spreadFrom_10 : decode cX0_spreadFrom 10 = .ok (.invokestatic 51, 3) := by decide +kernel
theorem dX0_spreadFrom_13 : decode cX0_spreadFrom 13 = .ok (.ifCond .ne 4, 3) := by decide +kernel
theorem dX0_spreadFrom_16 : decode cX0_spreadFrom 16 = .ok (.return_, 1) := by decide +kernel
theorem dX0_spreadFrom_17 : decode cX0_spreadFrom 17 = .ok (.aload_n 3, 1) := by decide +kernel
theorem dX0_spreadFrom_18 : decode cX0_spreadFrom 18 = .ok (.iload_n 1, 1) := by decide +kernel
theorem dX0_spreadFrom_19 : decode cX0_spreadFrom 19 = .ok (.iload_n 2, 1) := by decide +kernel
theorem dX0_spreadFrom_20 : decode cX0_spreadFrom 20 = .ok (.invokevirtual 55, 3) := by decide +kernel
theorem dX0_spreadFrom_23 : decode cX0_spreadFrom 23 = .ok (.istore 5, 2) := by decide +kernel
theorem dX0_spreadFrom_25 : decode cX0_spreadFrom 25 = .ok (.aload_n 0, 1) := by decide +kernel
theorem dX0_spreadFrom_26 : decode cX0_spreadFrom 26 = .ok (.dup, 1) := by decide +kernel
theorem dX0_spreadFrom_27 : decode cX0_spreadFrom 27 = .ok (.getfield 32, 3) := by decide +kernel
theorem dX0_spreadFrom_30 : decode cX0_spreadFrom 30 = .ok (.iconst 1, 1) := by decide +kernel
theorem dX0_spreadFrom_31 : decode cX0_spreadFrom 31 = .ok (.iadd, 1) := by decide +kernel
theorem dX0_spreadFrom_32 : decode cX0_spreadFrom 32 = .ok (.putfield 32, 3) := by decide +kernel
theorem dX0_spreadFrom_35 : decode cX0_spreadFrom 35 = .ok (.aload_n 0, 1) := by decide +kernel
theorem dX0_spreadFrom_36 : decode cX0_spreadFrom 36 = .ok (.getfield 15, 3) := by decide +kernel
theorem dX0_spreadFrom_39 : decode cX0_spreadFrom 39 = .ok (.iload 4, 2) := by decide +kernel
theorem dX0_spreadFrom_41 : decode cX0_spreadFrom 41 = .ok (.iload_n 1, 1) := by decide +kernel
theorem dX0_spreadFrom_42 : decode cX0_spreadFrom 42 = .ok (.iload_n 2, 1) := by decide +kernel
theorem dX0_spreadFrom_43 : decode cX0_spreadFrom 43 = .ok (.invokestatic 56, 3) := by decide +kernel
theorem dX0_spreadFrom_46 : decode cX0_spreadFrom 46 = .ok (.iastore, 1) := by decide +kernel
theorem dX0_spreadFrom_47 : decode cX0_spreadFrom 47 = .ok (.aload_n 0, 1) := by decide +kernel
theorem dX0_spreadFrom_48 : decode cX0_spreadFrom 48 = .ok (.iconst 0, 1) := by decide +kernel
theorem dX0_spreadFrom_49 : decode cX0_spreadFrom 49 = .ok (.putfield 28, 3) := by decide +kernel
theorem dX0_spreadFrom_52 : decode cX0_spreadFrom 52 = .ok (.aload_n 0, 1) := by decide +kernel
theorem dX0_spreadFrom_53 : decode cX0_spreadFrom 53 = .ok (.iload_n 1, 1) := by decide +kernel
theorem dX0_spreadFrom_54 : decode cX0_spreadFrom 54 = .ok (.iload_n 2, 1) := by decide +kernel
theorem dX0_spreadFrom_55 : decode cX0_spreadFrom 55 = .ok (.iload 4, 2) := by decide +kernel
theorem dX0_spreadFrom_57 : decode cX0_spreadFrom 57 = .ok (.invokevirtual 59, 3) := by decide +kernel
theorem dX0_spreadFrom_60 : decode cX0_spreadFrom 60 = .ok (.iconst 0, 1) := by decide +kernel
theorem dX0_spreadFrom_61 : decode cX0_spreadFrom 61 = .ok (.istore 6, 2) := by decide +kernel
theorem dX0_spreadFrom_63 : decode cX0_spreadFrom 63 = .ok (.iload 6, 2) := by decide +kernel
theorem dX0_spreadFrom_65 : decode cX0_spreadFrom 65 = .ok (.aload_n 0, 1) := by decide +kernel
theorem dX0_spreadFrom_66 : decode cX0_spreadFrom 66 = .ok (.getfield 28, 3) := by decide +kernel
theorem dX0_spreadFrom_69 : decode cX0_spreadFrom 69 = .ok (.if_icmp .ge 103, 3) := by decide +kernel
theorem dX0_spreadFrom_72 : decode cX0_spreadFrom 72 = .ok (.iload 6, 2) := by decide +kernel
theorem dX0_spreadFrom_74 : decode cX0_spreadFrom 74 = .ok (.bipush 48, 2) := by decide +kernel
theorem dX0_spreadFrom_76 : decode cX0_spreadFrom 76 = .ok (.if_icmp .ge 96, 3) := by decide +kernel
theorem dX0_spreadFrom_79 : decode cX0_spreadFrom 79 = .ok (.iconst 0, 1) := by decide +kernel
theorem dX0_spreadFrom_80 : decode cX0_spreadFrom 80 = .ok (.istore 7, 2) := by decide +kernel
theorem dX0_spreadFrom_82 : decode cX0_spreadFrom 82 = .ok (.iload 7, 2) := by decide +kernel
theorem dX0_spreadFrom_84 : decode cX0_spreadFrom 84 = .ok (.iconst 4, 1) := by decide +kernel
theorem dX0_spreadFrom_85 : decode cX0_spreadFrom 85 = .ok (.if_icmp .ge 81, 3) := by decide +kernel
theorem dX0_spreadFrom_88 : decode cX0_spreadFrom 88 = .ok (.aload_n 0, 1) := by decide +kernel
theorem dX0_spreadFrom_89 : decode cX0_spreadFrom 89 = .ok (.getfield 21, 3) := by decide +kernel
theorem dX0_spreadFrom_92 : decode cX0_spreadFrom 92 = .ok (.iload 6, 2) := by decide +kernel
theorem dX0_spreadFrom_94 : decode cX0_spreadFrom 94 = .ok (.iaload, 1) := by decide +kernel
theorem dX0_spreadFrom_95 : decode cX0_spreadFrom 95 = .ok (.bipush 8, 2) := by decide +kernel
theorem dX0_spreadFrom_97 : decode cX0_spreadFrom 97 = .ok (.irem, 1) := by decide +kernel
theorem dX0_spreadFrom_98 : decode cX0_spreadFrom 98 = .ok (.getstatic 63, 3) := by decide +kernel
theorem dX0_spreadFrom_101 : decode cX0_spreadFrom 101 = .ok (.iload 7, 2) := by decide +kernel
theorem dX0_spreadFrom_103 : decode cX0_spreadFrom 103 = .ok (.iaload, 1) := by decide +kernel
theorem dX0_spreadFrom_104 : decode cX0_spreadFrom 104 = .ok (.iadd, 1) := by decide +kernel
theorem dX0_spreadFrom_105 : decode cX0_spreadFrom 105 = .ok (.istore 8, 2) := by decide +kernel
theorem dX0_spreadFrom_107 : decode cX0_spreadFrom 107 = .ok (.aload_n 0, 1) := by decide +kernel
theorem dX0_spreadFrom_108 : decode cX0_spreadFrom 108 = .ok (.getfield 21, 3) := by decide +kernel
theorem dX0_spreadFrom_111 : decode cX0_spreadFrom 111 = .ok (.iload 6, 2) := by decide +kernel
theorem dX0_spreadFrom_113 : decode cX0_spreadFrom 113 = .ok (.iaload, 1) := by decide +kernel
theorem dX0_spreadFrom_114 : decode cX0_spreadFrom 114 = .ok (.bipush 8, 2) := by decide +kernel
theorem dX0_spreadFrom_116 : decode cX0_spreadFrom 116 = .ok (.idiv, 1) := by decide +kernel
theorem dX0_spreadFrom_117 : decode cX0_spreadFrom 117 = .ok (.getstatic 66, 3) := by decide +kernel
theorem dX0_spreadFrom_120 : decode cX0_spreadFrom 120 = .ok (.iload 7, 2) := by decide +kernel
theorem dX0_spreadFrom_122 : decode cX0_spreadFrom 122 = .ok (.iaload, 1) := by decide +kernel
theorem dX0_spreadFrom_123 : decode cX0_spreadFrom 123 = .ok (.iadd, 1) := by decide +kernel
theorem dX0_spreadFrom_124 : decode cX0_spreadFrom 124 = .ok (.istore 9, 2) := by decide +kernel
theorem dX0_spreadFrom_126 : decode cX0_spreadFrom 126 = .ok (.aload_n 3, 1) := by decide +kernel
theorem dX0_spreadFrom_127 : decode cX0_spreadFrom 127 = .ok (.iload 8, 2) := by decide +kernel
theorem dX0_spreadFrom_129 : decode cX0_spreadFrom 129 = .ok (.iload 9, 2) := by decide +kernel
theorem dX0_spreadFrom_131 : decode cX0_spreadFrom 131 = .ok (.invokevirtual 69, 3) := by decide +kernel
theorem dX0_spreadFrom_134 : decode cX0_spreadFrom 134 = .ok (.ifCond .eq 26, 3) := by decide +kernel
theorem dX0_spreadFrom_137 : decode cX0_spreadFrom 137 = .ok (.aload_n 3, 1) := by decide +kernel
theorem dX0_spreadFrom_138 : decode cX0_spreadFrom 138 = .ok (.iload 8, 2) := by decide +kernel
theorem dX0_spreadFrom_140 : decode cX0_spreadFrom 140 = .ok (.iload 9, 2) := by decide +kernel
theorem dX0_spreadFrom_142 : decode cX0_spreadFrom 142 = .ok (.invokevirtual 55, 3) := by decide +kernel
theorem dX0_spreadFrom_145 : decode cX0_spreadFrom 145 = .ok (.iload 5, 2) := by decide +kernel
theorem dX0_spreadFrom_147 : decode cX0_spreadFrom 147 = .ok (.if_icmp .ne 13, 3) := by decide +kernel
theorem dX0_spreadFrom_150 : decode cX0_spreadFrom 150 = .ok (.aload_n 0, 1) := by decide +kernel
theorem dX0_spreadFrom_151 : decode cX0_spreadFrom 151 = .ok (.iload 8, 2) := by decide +kernel
theorem dX0_spreadFrom_153 : decode cX0_spreadFrom 153 = .ok (.iload 9, 2) := by decide +kernel
theorem dX0_spreadFrom_155 : decode cX0_spreadFrom 155 = .ok (.iload 4, 2) := by decide +kernel
theorem dX0_spreadFrom_157 : decode cX0_spreadFrom 157 = .ok (.invokevirtual 59, 3) := by decide +kernel
theorem dX0_spreadFrom_160 : decode cX0_spreadFrom 160 = .ok (.iinc 7 1, 3) := by decide +kernel
theorem dX0_spreadFrom_163 : decode cX0_spreadFrom 163 = .ok (.goto (-81), 3) := by decide +kernel
theorem dX0_spreadFrom_166 : decode cX0_spreadFrom 166 = .ok (.iinc 6 1, 3) := by decide +kernel
theorem dX0_spreadFrom_169 : decode cX0_spreadFrom 169 = .ok (.goto (-106), 3) := by decide +kernel
theorem dX0_spreadFrom_172 : decode cX0_spreadFrom 172 = .ok (.aload_n 0, 1) := by decide +kernel
theorem dX0_spreadFrom_173 : decode cX0_spreadFrom 173 = .ok (.getfield 18, 3) := by decide +kernel
theorem dX0_spreadFrom_176 : decode cX0_spreadFrom 176 = .ok (.iload 4, 2) := by decide +kernel
theorem dX0_spreadFrom_178 : decode cX0_spreadFrom 178 = .ok (.aload_n 0, 1) := by decide +kernel
theorem dX0_spreadFrom_179 : decode cX0_spreadFrom 179 = .ok (.getfield 28, 3) := by decide +kernel
theorem dX0_spreadFrom_182 : decode cX0_spreadFrom 182 = .ok (.iastore, 1) := by decide +kernel
theorem dX0_spreadFrom_183 : decode cX0_spreadFrom 183 = .ok (.return_, 1) := by decide +kernel
theorem dX0_join_0 : decode cX0_join 0 = .ok (.iload_n 1, 1) := by decide +kernel
theorem dX0_join_1 : decode cX0_join 1 = .ok (.iload_n 2, 1) := by decide +kernel
theorem dX0_join_2 : decode cX0_join 2 = .ok (.invokestatic 56, 3) := by decide +kernel
theorem dX0_join_5 : decode cX0_join 5 = .ok (.istore 4, 2) := by decide +kernel
theorem dX0_join_7 : decode cX0_join 7 = .ok (.iload 4, 2) := by decide +kernel
theorem dX0_join_9 : decode cX0_join 9 = .ok (.bipush 48, 2) := by decide +kernel
theorem dX0_join_11 : decode cX0_join 11 = .ok (.invokestatic 51, 3) := by decide +kernel
theorem dX0_join_14 : decode cX0_join 14 = .ok (.ifCond .eq 54, 3) := by decide +kernel
theorem dX0_join_17 : decode cX0_join 17 = .ok (.aload_n 0, 1) := by decide +kernel
theorem dX0_join_18 : decode cX0_join 18 = .ok (.getfield 9, 3) := by decide +kernel
theorem dX0_join_21 : decode cX0_join 21 = .ok (.iload 4, 2) := by decide +kernel
theorem dX0_join_23 : decode cX0_join 23 = .ok (.iaload, 1) := by decide +kernel
theorem dX0_join_24 : decode cX0_join 24 = .ok (.ifCond .ge 44, 3) := by decide +kernel
theorem dX0_join_27 : decode cX0_join 27 = .ok (.aload_n 0, 1) := by decide +kernel
theorem dX0_join_28 : decode cX0_join 28 = .ok (.getfield 28, 3) := by decide +kernel
theorem dX0_join_31 : decode cX0_join 31 = .ok (.bipush 48, 2) := by decide +kernel
theorem dX0_join_33 : decode cX0_join 33 = .ok (.invokestatic 51, 3) := by decide +kernel
theorem dX0_join_36 : decode cX0_join 36 = .ok (.ifCond .eq 32, 3) := by decide +kernel
theorem dX0_join_39 : decode cX0_join 39 = .ok (.aload_n 0, 1) := by decide +kernel
theorem dX0_join_40 : decode cX0_join 40 = .ok (.getfield 9, 3) := by decide +kernel
theorem dX0_join_43 : decode cX0_join 43 = .ok (.iload 4, 2) := by decide +kernel
theorem dX0_join_45 : decode cX0_join 45 = .ok (.iload_n 3, 1) := by decide +kernel
theorem dX0_join_46 : decode cX0_join 46 = .ok (.iastore, 1) := by decide +kernel
theorem dX0_join_47 : decode cX0_join 47 = .ok (.aload_n 0, 1) := by decide +kernel
theorem dX0_join_48 : decode cX0_join 48 = .ok (.getfield 21, 3) := by decide +kernel
theorem dX0_join_51 : decode cX0_join 51 = .ok (.aload_n 0, 1) := by decide +kernel
theorem dX0_join_52 : decode cX0_join 52 = .ok (.getfield 28, 3) := by decide +kernel
theorem dX0_join_55 : decode cX0_join 55 = .ok (.iload 4, 2) := by decide +kernel
theorem dX0_join_57 : decode cX0_join 57 = .ok (.iastore, 1) := by decide +kernel
theorem dX0_join_58 : decode cX0_join 58 = .ok (.aload_n 0, 1) := by decide +kernel
theorem dX0_join_59 : decode cX0_join 59 = .ok (.dup, 1) := by decide +kernel
theorem dX0_join_60 : decode cX0_join 60 = .ok (.getfield 28, 3) := by decide +kernel
theorem dX0_join_63 : decode cX0_join 63 = .ok (.iconst 1, 1) := by decide +kernel
theorem dX0_join_64 : decode cX0_join 64 = .ok (.iadd, 1) := by decide +kernel
theorem dX0_join_65 : decode cX0_join 65 = .ok (.putfield 28, 3) := by decide +kernel
theorem dX0_join_68 : decode cX0_join 68 = .ok (.return_, 1) := by decide +kernel
theorem dX0_at_0 : decode cX0_at 0 = .ok (.iload_n 1, 1) := by decide +kernel
theorem dX0_at_1 : decode cX0_at 1 = .ok (.iload_n 2, 1) := by decide +kernel
theorem dX0_at_2 : decode cX0_at 2 = .ok (.invokestatic 56, 3) := by decide +kernel
theorem dX0_at_5 : decode cX0_at 5 = .ok (.istore_n 3, 1) := by decide +kernel
theorem dX0_at_6 : decode cX0_at 6 = .ok (.iload_n 3, 1) := by decide +kernel
theorem dX0_at_7 : decode cX0_at 7 = .ok (.bipush 48, 2) := by decide +kernel
theorem dX0_at_9 : decode cX0_at 9 = .ok (.invokestatic 51, 3) := by decide +kernel
theorem dX0_at_12 : decode cX0_at 12 = .ok (.ifCond .eq 12, 3) := by decide +kernel
theorem dX0_at_15 : decode cX0_at 15 = .ok (.aload_n 0, 1) := by decide +kernel
theorem dX0_at_16 : decode cX0_at 16 = .ok (.getfield 9, 3) := by decide +kernel
theorem dX0_at_19 : decode cX0_at 19 = .ok (.iload_n 3, 1) := by decide +kernel
theorem dX0_at_20 : decode cX0_at 20 = .ok (.iaload, 1) := by decide +kernel
theorem dX0_at_21 : decode cX0_at 21 = .ok (.goto 4, 3) := by decide +kernel
theorem dX0_at_24 : decode cX0_at 24 = .ok (.iconst (-1), 1) := by decide +kernel
theorem dX0_at_25 : decode cX0_at 25 = .ok (.ireturn, 1) := by decide +kernel
theorem dX0_firstX_0 : decode cX0_firstX 0 = .ok (.iload_n 1, 1) := by decide +kernel
theorem dX0_firstX_1 : decode cX0_firstX 1 = .ok (.aload_n 0, 1) := by decide +kernel
theorem dX0_firstX_2 : decode cX0_firstX 2 = .ok (.getfield 32, 3) := by decide +kernel
theorem dX0_firstX_5 : decode cX0_firstX 5 = .ok (.invokestatic 51, 3) := by decide +kernel
theorem dX0_firstX_8 : decode cX0_firstX 8 = .ok (.ifCond .eq 15, 3) := by decide +kernel
theorem dX0_firstX_11 : decode cX0_firstX 11 = .ok (.aload_n 0, 1) := by decide +kernel
theorem dX0_firstX_12 : decode cX0_firstX 12 = .ok (.getfield 15, 3) := by decide +kernel
theorem dX0_firstX_15 : decode cX0_firstX 15 = .ok (.iload_n 1, 1) := by decide +kernel
theorem dX0_firstX_16 : decode cX0_firstX 16 = .ok (.iaload, 1) := by decide +kernel
theorem dX0_firstX_17 : decode cX0_firstX 17 = .ok (.bipush 8, 2) := by decide +kernel
theorem dX0_firstX_19 : decode cX0_firstX 19 = .ok (.irem, 1) := by decide +kernel
theorem dX0_firstX_20 : decode cX0_firstX 20 = .ok (.goto 4, 3) := by decide +kernel
theorem dX0_firstX_23 : decode cX0_firstX 23 = .ok (.iconst (-1), 1) := by decide +kernel
theorem dX0_firstX_24 : decode cX0_firstX 24 = .ok (.ireturn, 1) := by decide +kernel
theorem dX0_firstY_0 : decode cX0_firstY 0 = .ok (.iload_n 1, 1) := by decide +kernel
theorem dX0_firstY_1 : decode cX0_firstY 1 = .ok (.aload_n 0, 1) := by decide +kernel
theorem dX0_firstY_2 : decode cX0_firstY 2 = .ok (.getfield 32, 3) := by decide +kernel
theorem dX0_firstY_5 : decode cX0_firstY 5 = .ok (.invokestatic 51, 3) := by decide +kernel
theorem dX0_firstY_8 : decode cX0_firstY 8 = .ok (.ifCond .eq 15, 3) := by decide +kernel
theorem dX0_firstY_11 : decode cX0_firstY 11 = .ok (.aload_n 0, 1) := by decide +kernel
theorem dX0_firstY_12 : decode cX0_firstY 12 = .ok (.getfield 15, 3) := by decide +kernel
theorem dX0_firstY_15 : decode cX0_firstY 15 = .ok (.iload_n 1, 1) := by decide +kernel
theorem dX0_firstY_16 : decode cX0_firstY 16 = .ok (.iaload, 1) := by decide +kernel
theorem dX0_firstY_17 : decode cX0_firstY 17 = .ok (.bipush 8, 2) := by decide +kernel
theorem dX0_firstY_19 : decode cX0_firstY 19 = .ok (.idiv, 1) := by decide +kernel
theorem dX0_firstY_20 : decode cX0_firstY 20 = .ok (.goto 4, 3) := by decide +kernel
theorem dX0_firstY_23 : decode cX0_firstY 23 = .ok (.iconst (-1), 1) := by decide +kernel
theorem dX0_firstY_24 : decode cX0_firstY 24 = .ok (.ireturn, 1) := by decide +kernel
theorem dX0_placesOf_0 : decode cX0_placesOf 0 = .ok (.iload_n 1, 1) := by decide +kernel
theorem dX0_placesOf_1 : decode cX0_placesOf 1 = .ok (.aload_n 0, 1) := by decide +kernel
theorem dX0_placesOf_2 : decode cX0_placesOf 2 = .ok (.getfield 32, 3) := by decide +kernel
theorem dX0_placesOf_5 : decode cX0_placesOf 5 = .ok (.invokestatic 51, 3) := by decide +kernel
theorem dX0_placesOf_8 : decode cX0_placesOf 8 = .ok (.ifCond .eq 12, 3) := by decide +kernel
theorem dX0_placesOf_11 : decode cX0_placesOf 11 = .ok (.aload_n 0, 1) := by decide +kernel
theorem dX0_placesOf_12 : decode cX0_placesOf 12 = .ok (.getfield 18, 3) := by decide +kernel
theorem dX0_placesOf_15 : decode cX0_placesOf 15 = .ok (.iload_n 1, 1) := by decide +kernel
theorem dX0_placesOf_16 : decode cX0_placesOf 16 = .ok (.iaload, 1) := by decide +kernel
theorem dX0_placesOf_17 : decode cX0_placesOf 17 = .ok (.goto 4, 3) := by decide +kernel
theorem dX0_placesOf_20 : decode cX0_placesOf 20 = .ok (.iconst 0, 1) := by decide +kernel
theorem dX0_placesOf_21 : decode cX0_placesOf 21 = .ok (.ireturn, 1) := by decide +kernel
theorem dX0_greaterThan_0 : decode cX0_greaterThan 0 = .ok (.iconst 0, 1) := by decide +kernel
theorem dX0_greaterThan_1 : decode cX0_greaterThan 1 = .ok (.istore_n 2, 1) := by decide +kernel
theorem dX0_greaterThan_2 : decode cX0_greaterThan 2 = .ok (.iconst 0, 1) := by decide +kernel
theorem dX0_greaterThan_3 : decode cX0_greaterThan 3 = .ok (.istore_n 3, 1) := by decide +kernel
theorem dX0_greaterThan_4 : decode cX0_greaterThan 4 = .ok (.iload_n 3, 1) := by decide +kernel
theorem dX0_greaterThan_5 : decode cX0_greaterThan 5 = .ok (.aload_n 0, 1) := by decide +kernel
theorem dX0_greaterThan_6 : decode cX0_greaterThan 6 = .ok (.getfield 32, 3) := by decide +kernel
theorem dX0_greaterThan_9 : decode cX0_greaterThan 9 = .ok (.if_icmp .ge 40, 3) := by decide +kernel
theorem dX0_greaterThan_12 : decode cX0_greaterThan 12 = .ok (.aload_n 0, 1) := by decide +kernel
theorem dX0_greaterThan_13 : decode cX0_greaterThan 13 = .ok (.iload_n 3, 1) := by decide +kernel
theorem dX0_greaterThan_14 : decode cX0_greaterThan 14 = .ok (.invokevirtual 72, 3) := by decide +kernel
theorem dX0_greaterThan_17 : decode cX0_greaterThan 17 = .ok (.aload_n 0, 1) := by decide +kernel
theorem dX0_greaterThan_18 : decode cX0_greaterThan 18 = .ok (.iload_n 1, 1) := by decide +kernel
theorem dX0_greaterThan_19 : decode cX0_greaterThan 19 = .ok (.invokevirtual 72, 3) := by decide +kernel
theorem dX0_greaterThan_22 : decode cX0_greaterThan 22 = .ok (.isub, 1) := by decide +kernel
theorem dX0_greaterThan_23 : decode cX0_greaterThan 23 = .ok (.istore 4, 2) := by decide +kernel
theorem dX0_greaterThan_25 : decode cX0_greaterThan 25 = .ok (.iload 4, 2) := by decide +kernel
theorem dX0_greaterThan_27 : decode cX0_greaterThan 27 = .ok (.ifCond .gt 13, 3) := by decide +kernel
theorem dX0_greaterThan_30 : decode cX0_greaterThan 30 = .ok (.iload 4, 2) := by decide +kernel
theorem dX0_greaterThan_32 : decode cX0_greaterThan 32 = .ok (.ifCond .ne 11, 3) := by decide +kernel
theorem dX0_greaterThan_35 : decode cX0_greaterThan 35 = .ok (.iload_n 3, 1) := by decide +kernel
theorem dX0_greaterThan_36 : decode cX0_greaterThan 36 = .ok (.iload_n 1, 1) := by decide +kernel
theorem dX0_greaterThan_37 : decode cX0_greaterThan 37 = .ok (.if_icmp .ge 6, 3) := by decide +kernel
theorem dX0_greaterThan_40 : decode cX0_greaterThan 40 = .ok (.iinc 2 1, 3) := by decide +kernel
theorem dX0_greaterThan_43 : decode cX0_greaterThan 43 = .ok (.iinc 3 1, 3) := by decide +kernel
theorem dX0_greaterThan_46 : decode cX0_greaterThan 46 = .ok (.goto (-42), 3) := by decide +kernel
theorem dX0_greaterThan_49 : decode cX0_greaterThan 49 = .ok (.iload_n 2, 1) := by decide +kernel
theorem dX0_greaterThan_50 : decode cX0_greaterThan 50 = .ok (.ireturn, 1) := by decide +kernel
theorem dX0_neighboursOf_0 : decode cX0_neighboursOf 0 = .ok (.iconst 0, 1) := by decide +kernel
theorem dX0_neighboursOf_1 : decode cX0_neighboursOf 1 = .ok (.istore_n 3, 1) := by decide +kernel
theorem dX0_neighboursOf_2 : decode cX0_neighboursOf 2 = .ok (.iload_n 3, 1) := by decide +kernel
theorem dX0_neighboursOf_3 : decode cX0_neighboursOf 3 = .ok (.bipush 48, 2) := by decide +kernel
theorem dX0_neighboursOf_5 : decode cX0_neighboursOf 5 = .ok (.if_icmp .ge 16, 3) := by decide +kernel
theorem dX0_neighboursOf_8 : decode cX0_neighboursOf 8 = .ok (.aload_n 0, 1) := by decide +kernel
theorem dX0_neighboursOf_9 : decode cX0_neighboursOf 9 = .ok (.getfield 24, 3) := by decide +kernel
theorem dX0_neighboursOf_12 : decode cX0_neighboursOf 12 = .ok (.iload_n 3, 1) := by decide +kernel
theorem dX0_neighboursOf_13 : decode cX0_neighboursOf 13 = .ok (.iconst 0, 1) := by decide +kernel
theorem dX0_neighboursOf_14 : decode cX0_neighboursOf 14 = .ok (.bastore, 1) := by decide +kernel
theorem dX0_neighboursOf_15 : decode cX0_neighboursOf 15 = .ok (.iinc 3 1, 3) := by decide +kernel
theorem dX0_neighboursOf_18 : decode cX0_neighboursOf 18 = .ok (.goto (-16), 3) := by decide +kernel
theorem dX0_neighboursOf_21 : decode cX0_neighboursOf 21 = .ok (.iconst 0, 1) := by decide +kernel
theorem dX0_neighboursOf_22 : decode cX0_neighboursOf 22 = .ok (.istore_n 3, 1) := by decide +kernel
theorem dX0_neighboursOf_23 : decode cX0_neighboursOf 23 = .ok (.iconst 0, 1) := by decide +kernel
theorem dX0_neighboursOf_24 : decode cX0_neighboursOf 24 = .ok (.istore 4, 2) := by decide +kernel
theorem dX0_neighboursOf_26 : decode cX0_neighboursOf 26 = .ok (.iload 4, 2) := by decide +kernel
theorem dX0_neighboursOf_28 : decode cX0_neighboursOf 28 = .ok (.aload_n 2, 1) := by decide +kernel
theorem dX0_neighboursOf_29 : decode cX0_neighboursOf 29 = .ok (.getfield 35, 3) := by decide +kernel
theorem dX0_neighboursOf_32 : decode cX0_neighboursOf 32 = .ok (.if_icmp .ge 52, 3) := by decide +kernel
theorem dX0_neighboursOf_35 : decode cX0_neighboursOf 35 = .ok (.iconst 0, 1) := by decide +kernel
theorem dX0_neighboursOf_36 : decode cX0_neighboursOf 36 = .ok (.istore 5, 2) := by decide +kernel
theorem dX0_neighboursOf_38 : decode cX0_neighboursOf 38 = .ok (.iload 5, 2) := by decide +kernel
theorem dX0_neighboursOf_40 : decode cX0_neighboursOf 40 = .ok (.aload_n 2, 1) := by decide +kernel
theorem dX0_neighboursOf_41 : decode cX0_neighboursOf 41 = .ok (.getfield 40, 3) := by decide +kernel
theorem dX0_neighboursOf_44 : decode cX0_neighboursOf 44 = .ok (.if_icmp .ge 34, 3) := by decide +kernel
theorem dX0_neighboursOf_47 : decode cX0_neighboursOf 47 = .ok (.aload_n 0, 1) := by decide +kernel
theorem dX0_neighboursOf_48 : decode cX0_neighboursOf 48 = .ok (.iload 5, 2) := by decide +kernel
theorem dX0_neighboursOf_50 : decode cX0_neighboursOf 50 = .ok (.iload 4, 2) := by decide +kernel
theorem dX0_neighboursOf_52 : decode cX0_neighboursOf 52 = .ok (.invokevirtual 43, 3) := by decide +kernel
theorem dX0_neighboursOf_55 : decode cX0_neighboursOf 55 = .ok (.iload_n 1, 1) := by decide +kernel
theorem dX0_neighboursOf_56 : decode cX0_neighboursOf 56 = .ok (.if_icmp .ne 16, 3) := by decide +kernel
theorem dX0_neighboursOf_59 : decode cX0_neighboursOf 59 = .ok (.iload_n 3, 1) := by decide +kernel
theorem dX0_neighboursOf_60 : decode cX0_neighboursOf 60 = .ok (.aload_n 0, 1) := by decide +kernel
theorem dX0_neighboursOf_61 : decode cX0_neighboursOf 61 = .ok (.iload 5, 2) := by decide +kernel
theorem dX0_neighboursOf_63 : decode cX0_neighboursOf 63 = .ok (.iload 4, 2) := by decide +kernel
theorem dX0_neighboursOf_65 : decode cX0_neighboursOf 65 = .ok (.iload_n 1, 1) := by decide +kernel
theorem dX0_neighboursOf_66 : decode cX0_neighboursOf 66 = .ok (.aload_n 2, 1) := by decide +kernel
theorem dX0_neighboursOf_67 : decode cX0_neighboursOf 67 = .ok (.invokevirtual 76, 3) := by decide +kernel
theorem dX0_neighboursOf_70 : decode cX0_neighboursOf 70 = .ok (.iadd, 1) := by decide +kernel
theorem dX0_neighboursOf_71 : decode cX0_neighboursOf 71 = .ok (.istore_n 3, 1) := by decide +kernel
theorem dX0_neighboursOf_72 : decode cX0_neighboursOf 72 = .ok (.iinc 5 1, 3) := by decide +kernel
theorem dX0_neighboursOf_75 : decode cX0_neighboursOf 75 = .ok (.goto (-37), 3) := by decide +kernel
theorem dX0_neighboursOf_78 : decode cX0_neighboursOf 78 = .ok (.iinc 4 1, 3) := by decide +kernel
theorem dX0_neighboursOf_81 : decode cX0_neighboursOf 81 = .ok (.goto (-55), 3) := by decide +kernel
theorem dX0_neighboursOf_84 : decode cX0_neighboursOf 84 = .ok (.iload_n 3, 1) := by decide +kernel
theorem dX0_neighboursOf_85 : decode cX0_neighboursOf 85 = .ok (.ireturn, 1) := by decide +kernel
theorem dX0_meetBeside_0 : decode cX0_meetBeside 0 = .ok (.iconst 0, 1) := by decide +kernel
theorem dX0_meetBeside_1 : decode cX0_meetBeside 1 = .ok (.istore 5, 2) := by decide +kernel
theorem dX0_meetBeside_3 : decode cX0_meetBeside 3 = .ok (.iconst 0, 1) := by decide +kernel
theorem dX0_meetBeside_4 : decode cX0_meetBeside 4 = .ok (.istore 6, 2) := by decide +kernel
theorem dX0_meetBeside_6 : decode cX0_meetBeside 6 = .ok (.iload 6, 2) := by decide +kernel
theorem dX0_meetBeside_8 : decode cX0_meetBeside 8 = .ok (.iconst 4, 1) := by decide +kernel
theorem dX0_meetBeside_9 : decode cX0_meetBeside 9 = .ok (.if_icmp .ge 92, 3) := by decide +kernel
theorem dX0_meetBeside_12 : decode cX0_meetBeside 12 = .ok (.iload_n 1, 1) := by decide +kernel
theorem dX0_meetBeside_13 : decode cX0_meetBeside 13 = .ok (.getstatic 63, 3) := by decide +kernel
theorem dX0_meetBeside_16 : decode cX0_meetBeside 16 = .ok (.iload 6, 2) := by decide +kernel
theorem dX0_meetBeside_18 : decode cX0_meetBeside 18 = .ok (.iaload, 1) := by decide +kernel
theorem dX0_meetBeside_19 : decode cX0_meetBeside 19 = .ok (.iadd, 1) := by decide +kernel
theorem dX0_meetBeside_20 : decode cX0_meetBeside 20 = .ok (.istore 7, 2) := by decide +kernel
theorem dX0_meetBeside_22 : decode cX0_meetBeside 22 = .ok (.iload_n 2, 1) := by decide +kernel
theorem dX0_meetBeside_23 : decode cX0_meetBeside 23 = .ok (.getstatic 66, 3) := by decide +kernel
theorem dX0_meetBeside_26 : decode cX0_meetBeside 26 = .ok (.iload 6, 2) := by decide +kernel
theorem dX0_meetBeside_28 : decode cX0_meetBeside 28 = .ok (.iaload, 1) := by decide +kernel
theorem dX0_meetBeside_29 : decode cX0_meetBeside 29 = .ok (.iadd, 1) := by decide +kernel
theorem dX0_meetBeside_30 : decode cX0_meetBeside 30 = .ok (.istore 8, 2) := by decide +kernel
theorem dX0_meetBeside_32 : decode cX0_meetBeside 32 = .ok (.aload 4, 2) := by decide +kernel
theorem dX0_meetBeside_34 : decode cX0_meetBeside 34 = .ok (.iload 7, 2) := by decide +kernel
theorem dX0_meetBeside_36 : decode cX0_meetBeside 36 = .ok (.iload 8, 2) := by decide +kernel
theorem dX0_meetBeside_38 : decode cX0_meetBeside 38 = .ok (.invokevirtual 69, 3) := by decide +kernel
theorem dX0_meetBeside_41 : decode cX0_meetBeside 41 = .ok (.ifCond .eq 14, 3) := by decide +kernel
theorem dX0_meetBeside_44 : decode cX0_meetBeside 44 = .ok (.aload_n 0, 1) := by decide +kernel
theorem dX0_meetBeside_45 : decode cX0_meetBeside 45 = .ok (.iload 7, 2) := by decide +kernel
theorem dX0_meetBeside_47 : decode cX0_meetBeside 47 = .ok (.iload 8, 2) := by decide +kernel
theorem dX0_meetBeside_49 : decode cX0_meetBeside 49 = .ok (.invokevirtual 43, 3) := by decide +kernel
theorem dX0_meetBeside_52 : decode cX0_meetBeside 52 = .ok (.goto 4, 3) := by decide +kernel
theorem dX0_meetBeside_55 : decode cX0_meetBeside 55 = .ok (.iload_n 3, 1) := by decide +kernel
theorem dX0_meetBeside_56 : decode cX0_meetBeside 56 = .ok (.istore 9, 2) := by decide +kernel
theorem dX0_meetBeside_58 : decode cX0_meetBeside 58 = .ok (.iload 9, 2) := by decide +kernel
theorem dX0_meetBeside_60 : decode cX0_meetBeside 60 = .ok (.iload_n 3, 1) := by decide +kernel
theorem dX0_meetBeside_61 : decode cX0_meetBeside 61 = .ok (.if_icmp .eq 34, 3) := by decide +kernel
theorem dX0_meetBeside_64 : decode cX0_meetBeside 64 = .ok (.iload 9, 2) := by decide +kernel
theorem dX0_meetBeside_66 : decode cX0_meetBeside 66 = .ok (.bipush 48, 2) := by decide +kernel
theorem dX0_meetBeside_68 : decode cX0_meetBeside 68 = .ok (.invokestatic 51, 3) := by decide +kernel
theorem dX0_meetBeside_71 : decode cX0_meetBeside 71 = .ok (.ifCond .eq 24, 3) := by decide +kernel
theorem dX0_meetBeside_74 : decode cX0_meetBeside 74 = .ok (.aload_n 0, 1) := by decide +kernel
theorem dX0_meetBeside_75 : decode cX0_meetBeside 75 = .ok (.getfield 24, 3) := by decide +kernel
theorem dX0_meetBeside_78 : decode cX0_meetBeside 78 = .ok (.iload 9, 2) := by decide +kernel
theorem dX0_meetBeside_80 : decode cX0_meetBeside 80 = .ok (.baload, 1) := by decide +kernel
theorem dX0_meetBeside_81 : decode cX0_meetBeside 81 = .ok (.ifCond .ne 14, 3) := by decide +kernel
theorem dX0_meetBeside_84 : decode cX0_meetBeside 84 = .ok (.aload_n 0, 1) := by decide +kernel
theorem dX0_meetBeside_85 : decode cX0_meetBeside 85 = .ok (.getfield 24, 3) := by decide +kernel
theorem dX0_meetBeside_88 : decode cX0_meetBeside 88 = .ok (.iload 9, 2) := by decide +kernel
theorem dX0_meetBeside_90 : decode cX0_meetBeside 90 = .ok (.iconst 1, 1) := by decide +kernel
theorem dX0_meetBeside_91 : decode cX0_meetBeside 91 = .ok (.bastore, 1) := by decide +kernel
theorem dX0_meetBeside_92 : decode cX0_meetBeside 92 = .ok (.iinc 5 1, 3) := by decide +kernel
theorem dX0_meetBeside_95 : decode cX0_meetBeside 95 = .ok (.iinc 6 1, 3) := by decide +kernel
theorem dX0_meetBeside_98 : decode cX0_meetBeside 98 = .ok (.goto (-92), 3) := by decide +kernel
theorem dX0_meetBeside_101 : decode cX0_meetBeside 101 = .ok (.iload 5, 2) := by decide +kernel
theorem dX0_meetBeside_103 : decode cX0_meetBeside 103 = .ok (.ireturn, 1) := by decide +kernel
theorem dX1_init_0 : decode cX1_init 0 = .ok (.aload_n 0, 1) := by decide +kernel
theorem dX1_init_1 : decode cX1_init 1 = .ok (.invokespecial 3, 3) := by decide +kernel
theorem dX1_init_4 : decode cX1_init 4 = .ok (.aload_n 0, 1) := by decide +kernel
theorem dX1_init_5 : decode cX1_init 5 = .ok (.bipush 32, 2) := by decide +kernel
theorem dX1_init_7 : decode cX1_init 7 = .ok (.newarray .int, 2) := by decide +kernel
theorem dX1_init_9 : decode cX1_init 9 = .ok (.putfield 9, 3) := by decide +kernel
theorem dX1_init_12 : decode cX1_init 12 = .ok (.return_, 1) := by decide +kernel
theorem dX1_find_0 : decode cX1_find 0 = .ok (.iconst 0, 1) := by decide +kernel
theorem dX1_find_1 : decode cX1_find 1 = .ok (.istore_n 2, 1) := by decide +kernel
theorem dX1_find_2 : decode cX1_find 2 = .ok (.iload_n 2, 1) := by decide +kernel
theorem dX1_find_3 : decode cX1_find 3 = .ok (.bipush 32, 2) := by decide +kernel
theorem dX1_find_5 : decode cX1_find 5 = .ok (.if_icmp .ge 31, 3) := by decide +kernel
theorem dX1_find_8 : decode cX1_find 8 = .ok (.aload_n 0, 1) := by decide +kernel
theorem dX1_find_9 : decode cX1_find 9 = .ok (.getfield 9, 3) := by decide +kernel
theorem dX1_find_12 : decode cX1_find 12 = .ok (.iload_n 2, 1) := by decide +kernel
theorem dX1_find_13 : decode cX1_find 13 = .ok (.aload_n 1, 1) := by decide +kernel
theorem dX1_find_14 : decode cX1_find 14 = .ok (.getfield 15, 3) := by decide +kernel
theorem dX1_find_17 : decode cX1_find 17 = .ok (.aload_n 1, 1) := by decide +kernel
theorem dX1_find_18 : decode cX1_find 18 = .ok (.getfield 20, 3) := by decide +kernel
theorem dX1_find_21 : decode cX1_find 21 = .ok (.aload_n 1, 1) := by decide +kernel
theorem dX1_find_22 : decode cX1_find 22 = .ok (.getfield 23, 3) := by decide +kernel
theorem dX1_find_25 : decode cX1_find 25 = .ok (.iload_n 2, 1) := by decide +kernel
theorem dX1_find_26 : decode cX1_find 26 = .ok (.invokestatic 26, 3) := by decide +kernel
theorem dX1_find_29 : decode cX1_find 29 = .ok (.iastore, 1) := by decide +kernel
theorem dX1_find_30 : decode cX1_find 30 = .ok (.iinc 2 1, 3) := by decide +kernel
theorem dX1_find_33 : decode cX1_find 33 = .ok (.goto (-31), 3) := by decide +kernel
theorem dX1_find_36 : decode cX1_find 36 = .ok (.return_, 1) := by decide +kernel
theorem dX1_darkOfSet_0 : decode cX1_darkOfSet 0 = .ok (.iload_n 1, 1) := by decide +kernel
theorem dX1_darkOfSet_1 : decode cX1_darkOfSet 1 = .ok (.bipush 32, 2) := by decide +kernel
theorem dX1_darkOfSet_3 : decode cX1_darkOfSet 3 = .ok (.invokestatic 30, 3) := by decide +kernel
theorem dX1_darkOfSet_6 : decode cX1_darkOfSet 6 = .ok (.ifCond .eq 15, 3) := by decide +kernel
theorem dX1_darkOfSet_9 : decode cX1_darkOfSet 9 = .ok (.aload_n 0, 1) := by decide +kernel
theorem dX1_darkOfSet_10 : decode cX1_darkOfSet 10 = .ok (.getfield 9, 3) := by decide +kernel
theorem dX1_darkOfSet_13 : decode cX1_darkOfSet 13 = .ok (.iload_n 1, 1) := by decide +kernel
theorem dX1_darkOfSet_14 : decode cX1_darkOfSet 14 = .ok (.iaload, 1) := by decide +kernel
theorem dX1_darkOfSet_15 : decode cX1_darkOfSet 15 = .ok (.invokestatic 34, 3) := by decide +kernel
theorem dX1_darkOfSet_18 : decode cX1_darkOfSet 18 = .ok (.goto 4, 3) := by decide +kernel
theorem dX1_darkOfSet_21 : decode cX1_darkOfSet 21 = .ok (.iconst 0, 1) := by decide +kernel
theorem dX1_darkOfSet_22 : decode cX1_darkOfSet 22 = .ok (.ireturn, 1) := by decide +kernel
theorem dX1_alikeTo_0 : decode cX1_alikeTo 0 = .ok (.iconst 0, 1) := by decide +kernel
theorem dX1_alikeTo_1 : decode cX1_alikeTo 1 = .ok (.istore_n 2, 1) := by decide +kernel
theorem dX1_alikeTo_2 : decode cX1_alikeTo 2 = .ok (.iconst 0, 1) := by decide +kernel
theorem dX1_alikeTo_3 : decode cX1_alikeTo 3 = .ok (.istore_n 3, 1) := by decide +kernel
theorem dX1_alikeTo_4 : decode cX1_alikeTo 4 = .ok (.iload_n 3, 1) := by decide +kernel
theorem dX1_alikeTo_5 : decode cX1_alikeTo 5 = .ok (.bipush 32, 2) := by decide +kernel
theorem dX1_alikeTo_7 : decode cX1_alikeTo 7 = .ok (.if_icmp .ge 36, 3) := by decide +kernel
theorem dX1_alikeTo_10 : decode cX1_alikeTo 10 = .ok (.iload_n 1, 1) := by decide +kernel
theorem dX1_alikeTo_11 : decode cX1_alikeTo 11 = .ok (.bipush 32, 2) := by decide +kernel
theorem dX1_alikeTo_13 : decode cX1_alikeTo 13 = .ok (.invokestatic 30, 3) := by decide +kernel
theorem dX1_alikeTo_16 : decode cX1_alikeTo 16 = .ok (.ifCond .eq 21, 3) := by decide +kernel
theorem dX1_alikeTo_19 : decode cX1_alikeTo 19 = .ok (.aload_n 0, 1) := by decide +kernel
theorem dX1_alikeTo_20 : decode cX1_alikeTo 20 = .ok (.getfield 9, 3) := by decide +kernel
theorem dX1_alikeTo_23 : decode cX1_alikeTo 23 = .ok (.iload_n 3, 1) := by decide +kernel
theorem dX1_alikeTo_24 : decode cX1_alikeTo 24 = .ok (.iaload, 1) := by decide +kernel
theorem dX1_alikeTo_25 : decode cX1_alikeTo 25 = .ok (.aload_n 0, 1) := by decide +kernel
theorem dX1_alikeTo_26 : decode cX1_alikeTo 26 = .ok (.getfield 9, 3) := by decide +kernel
theorem dX1_alikeTo_29 : decode cX1_alikeTo 29 = .ok (.iload_n 1, 1) := by decide +kernel
theorem dX1_alikeTo_30 : decode cX1_alikeTo 30 = .ok (.iaload, 1) := by decide +kernel
theorem dX1_alikeTo_31 : decode cX1_alikeTo 31 = .ok (.if_icmp .ne 6, 3) := by decide +kernel
theorem dX1_alikeTo_34 : decode cX1_alikeTo 34 = .ok (.iinc 2 1, 3) := by decide +kernel
theorem dX1_alikeTo_37 : decode cX1_alikeTo 37 = .ok (.iinc 3 1, 3) := by decide +kernel
theorem dX1_alikeTo_40 : decode cX1_alikeTo 40 = .ok (.goto (-36), 3) := by decide +kernel
theorem dX1_alikeTo_43 : decode cX1_alikeTo 43 = .ok (.iload_n 2, 1) := by decide +kernel
theorem dX1_alikeTo_44 : decode cX1_alikeTo 44 = .ok (.ireturn, 1) := by decide +kernel
theorem dX1_unlikeOf_0 : decode cX1_unlikeOf 0 = .ok (.iconst 0, 1) := by decide +kernel
theorem dX1_unlikeOf_1 : decode cX1_unlikeOf 1 = .ok (.istore_n 2, 1) := by decide +kernel
theorem dX1_unlikeOf_2 : decode cX1_unlikeOf 2 = .ok (.iconst 0, 1) := by decide +kernel
theorem dX1_unlikeOf_3 : decode cX1_unlikeOf 3 = .ok (.istore_n 3, 1) := by decide +kernel
theorem dX1_unlikeOf_4 : decode cX1_unlikeOf 4 = .ok (.iload_n 3, 1) := by decide +kernel
theorem dX1_unlikeOf_5 : decode cX1_unlikeOf 5 = .ok (.bipush 32, 2) := by decide +kernel
theorem dX1_unlikeOf_7 : decode cX1_unlikeOf 7 = .ok (.if_icmp .ge 29, 3) := by decide +kernel
theorem dX1_unlikeOf_10 : decode cX1_unlikeOf 10 = .ok (.iload_n 1, 1) := by decide +kernel
theorem dX1_unlikeOf_11 : decode cX1_unlikeOf 11 = .ok (.iload_n 3, 1) := by decide +kernel
theorem dX1_unlikeOf_12 : decode cX1_unlikeOf 12 = .ok (.invokestatic 38, 3) := by decide +kernel
theorem dX1_unlikeOf_15 : decode cX1_unlikeOf 15 = .ok (.ifCond .eq 15, 3) := by decide +kernel
theorem dX1_unlikeOf_18 : decode cX1_unlikeOf 18 = .ok (.aload_n 0, 1) := by decide +kernel
theorem dX1_unlikeOf_19 : decode cX1_unlikeOf 19 = .ok (.iload_n 3, 1) := by decide +kernel
theorem dX1_unlikeOf_20 : decode cX1_unlikeOf 20 = .ok (.iload_n 1, 1) := by decide +kernel
theorem dX1_unlikeOf_21 : decode cX1_unlikeOf 21 = .ok (.invokevirtual 41, 3) := by decide +kernel
theorem dX1_unlikeOf_24 : decode cX1_unlikeOf 24 = .ok (.ifCond .ne 6, 3) := by decide +kernel
theorem dX1_unlikeOf_27 : decode cX1_unlikeOf 27 = .ok (.iinc 2 1, 3) := by decide +kernel
theorem dX1_unlikeOf_30 : decode cX1_unlikeOf 30 = .ok (.iinc 3 1, 3) := by decide +kernel
theorem dX1_unlikeOf_33 : decode cX1_unlikeOf 33 = .ok (.goto (-29), 3) := by decide +kernel
theorem dX1_unlikeOf_36 : decode cX1_unlikeOf 36 = .ok (.iload_n 2, 1) := by decide +kernel
theorem dX1_unlikeOf_37 : decode cX1_unlikeOf 37 = .ok (.ireturn, 1) := by decide +kernel
theorem dX1_isDrawnBelow_0 : decode cX1_isDrawnBelow 0 = .ok (.iconst 0, 1) := by decide +kernel
theorem dX1_isDrawnBelow_1 : decode cX1_isDrawnBelow 1 = .ok (.istore_n 3, 1) := by decide +kernel
theorem dX1_isDrawnBelow_2 : decode cX1_isDrawnBelow 2 = .ok (.iload_n 3, 1) := by decide +kernel
theorem dX1_isDrawnBelow_3 : decode cX1_isDrawnBelow 3 = .ok (.iload_n 1, 1) := by decide +kernel
theorem dX1_isDrawnBelow_4 : decode cX1_isDrawnBelow 4 = .ok (.if_icmp .ge 40, 3) := by decide +kernel
theorem dX1_isDrawnBelow_7 : decode cX1_isDrawnBelow 7 = .ok (.iload_n 3, 1) := by decide +kernel
theorem dX1_isDrawnBelow_8 : decode cX1_isDrawnBelow 8 = .ok (.bipush 32, 2) := by decide +kernel
theorem dX1_isDrawnBelow_10 : decode cX1_isDrawnBelow 10 = .ok (.if_icmp .ge 34, 3) := by decide +kernel
theorem dX1_isDrawnBelow_13 : decode cX1_isDrawnBelow 13 = .ok (.iload_n 2, 1) := by decide +kernel
theorem dX1_isDrawnBelow_14 : decode cX1_isDrawnBelow 14 = .ok (.iload_n 3, 1) := by decide +kernel
theorem dX1_isDrawnBelow_15 : decode cX1_isDrawnBelow 15 = .ok (.invokestatic 38, 3) := by decide +kernel
theorem dX1_isDrawnBelow_18 : decode cX1_isDrawnBelow 18 = .ok (.ifCond .eq 20, 3) := by decide +kernel
theorem dX1_isDrawnBelow_21 : decode cX1_isDrawnBelow 21 = .ok (.aload_n 0, 1) := by decide +kernel
theorem dX1_isDrawnBelow_22 : decode cX1_isDrawnBelow 22 = .ok (.getfield 9, 3) := by decide +kernel
theorem dX1_isDrawnBelow_25 : decode cX1_isDrawnBelow 25 = .ok (.iload_n 3, 1) := by decide +kernel
theorem dX1_isDrawnBelow_26 : decode cX1_isDrawnBelow 26 = .ok (.iaload, 1) := by decide +kernel
theorem dX1_isDrawnBelow_27 : decode cX1_isDrawnBelow 27 = .ok (.aload_n 0, 1) := by decide +kernel
theorem dX1_isDrawnBelow_28 : decode cX1_isDrawnBelow 28 = .ok (.getfield 9, 3) := by decide +kernel
theorem dX1_isDrawnBelow_31 : decode cX1_isDrawnBelow 31 = .ok (.iload_n 1, 1) := by decide +kernel
theorem dX1_isDrawnBelow_32 : decode cX1_isDrawnBelow 32 = .ok (.iaload, 1) := by decide +kernel
theorem dX1_isDrawnBelow_33 : decode cX1_isDrawnBelow 33 = .ok (.if_icmp .ne 5, 3) := by decide +kernel
theorem dX1_isDrawnBelow_36 : decode cX1_isDrawnBelow 36 = .ok (.iconst 1, 1) := by decide +kernel
theorem dX1_isDrawnBelow_37 : decode cX1_isDrawnBelow 37 = .ok (.ireturn, 1) := by decide +kernel
theorem dX1_isDrawnBelow_38 : decode cX1_isDrawnBelow 38 = .ok (.iinc 3 1, 3) := by decide +kernel
theorem dX1_isDrawnBelow_41 : decode cX1_isDrawnBelow 41 = .ok (.goto (-39), 3) := by decide +kernel
theorem dX1_isDrawnBelow_44 : decode cX1_isDrawnBelow 44 = .ok (.iconst 0, 1) := by decide +kernel
theorem dX1_isDrawnBelow_45 : decode cX1_isDrawnBelow 45 = .ok (.ireturn, 1) := by decide +kernel
theorem dX1_fewestFor_0 : decode cX1_fewestFor 0 = .ok (.bipush 31, 2) := by decide +kernel
theorem dX1_fewestFor_2 : decode cX1_fewestFor 2 = .ok (.istore_n 2, 1) := by decide +kernel
theorem dX1_fewestFor_3 : decode cX1_fewestFor 3 = .ok (.iconst 0, 1) := by decide +kernel
theorem dX1_fewestFor_4 : decode cX1_fewestFor 4 = .ok (.istore_n 3, 1) := by decide +kernel
theorem dX1_fewestFor_5 : decode cX1_fewestFor 5 = .ok (.iload_n 3, 1) := by decide +kernel
theorem dX1_fewestFor_6 : decode cX1_fewestFor 6 = .ok (.bipush 32, 2) := by decide +kernel
theorem dX1_fewestFor_8 : decode cX1_fewestFor 8 = .ok (.if_icmp .ge 31, 3) := by decide +kernel
theorem dX1_fewestFor_11 : decode cX1_fewestFor 11 = .ok (.iload_n 3, 1) := by decide +kernel
theorem dX1_fewestFor_12 : decode cX1_fewestFor 12 = .ok (.invokestatic 44, 3) := by decide +kernel
theorem dX1_fewestFor_15 : decode cX1_fewestFor 15 = .ok (.iload_n 2, 1) := by decide +kernel
theorem dX1_fewestFor_16 : decode cX1_fewestFor 16 = .ok (.invokestatic 44, 3) := by decide +kernel
theorem dX1_fewestFor_19 : decode cX1_fewestFor 19 = .ok (.if_icmp .ge 14, 3) := by decide +kernel
theorem dX1_fewestFor_22 : decode cX1_fewestFor 22 = .ok (.aload_n 0, 1) := by decide +kernel
theorem dX1_fewestFor_23 : decode cX1_fewestFor 23 = .ok (.iload_n 3, 1) := by decide +kernel
theorem dX1_fewestFor_24 : decode cX1_fewestFor 24 = .ok (.iload_n 1, 1) := by decide +kernel
theorem dX1_fewestFor_25 : decode cX1_fewestFor 25 = .ok (.invokevirtual 49, 3) := by decide +kernel
theorem dX1_fewestFor_28 : decode cX1_fewestFor 28 = .ok (.ifCond .eq 5, 3) := by decide +kernel
theorem dX1_fewestFor_31 : decode cX1_fewestFor 31 = .ok (.iload_n 3, 1) := by decide +kernel
theorem dX1_fewestFor_32 : decode cX1_fewestFor 32 = .ok (.istore_n 2, 1) := by decide +kernel
theorem dX1_fewestFor_33 : decode cX1_fewestFor 33 = .ok (.iinc 3 1, 3) := by decide +kernel
theorem dX1_fewestFor_36 : decode cX1_fewestFor 36 = .ok (.goto (-31), 3) := by decide +kernel
theorem dX1_fewestFor_39 : decode cX1_fewestFor 39 = .ok (.iload_n 2, 1) := by decide +kernel
theorem dX1_fewestFor_40 : decode cX1_fewestFor 40 = .ok (.ireturn, 1) := by decide +kernel
theorem dX1_canPrintAll_0 : decode cX1_canPrintAll 0 = .ok (.iconst 0, 1) := by decide +kernel
theorem dX1_canPrintAll_1 : decode cX1_canPrintAll 1 = .ok (.istore_n 3, 1) := by decide +kernel
theorem dX1_canPrintAll_2 : decode cX1_canPrintAll 2 = .ok (.iload_n 3, 1) := by decide +kernel
theorem dX1_canPrintAll_3 : decode cX1_canPrintAll 3 = .ok (.bipush 32, 2) := by decide +kernel
theorem dX1_canPrintAll_5 : decode cX1_canPrintAll 5 = .ok (.if_icmp .ge 33, 3) := by decide +kernel
theorem dX1_canPrintAll_8 : decode cX1_canPrintAll 8 = .ok (.iload_n 2, 1) := by decide +kernel
theorem dX1_canPrintAll_9 : decode cX1_canPrintAll 9 = .ok (.iload_n 3, 1) := by decide +kernel
theorem dX1_canPrintAll_10 : decode cX1_canPrintAll 10 = .ok (.invokestatic 38, 3) := by decide +kernel
theorem dX1_canPrintAll_13 : decode cX1_canPrintAll 13 = .ok (.ifCond .eq 19, 3) := by decide +kernel
theorem dX1_canPrintAll_16 : decode cX1_canPrintAll 16 = .ok (.aload_n 0, 1) := by decide +kernel
theorem dX1_canPrintAll_17 : decode cX1_canPrintAll 17 = .ok (.iload_n 1, 1) := by decide +kernel
theorem dX1_canPrintAll_18 : decode cX1_canPrintAll 18 = .ok (.aload_n 0, 1) := by decide +kernel
theorem dX1_canPrintAll_19 : decode cX1_canPrintAll 19 = .ok (.getfield 9, 3) := by decide +kernel
theorem dX1_canPrintAll_22 : decode cX1_canPrintAll 22 = .ok (.iload_n 3, 1) := by decide +kernel
theorem dX1_canPrintAll_23 : decode cX1_canPrintAll 23 = .ok (.iaload, 1) := by decide +kernel
theorem dX1_canPrintAll_24 : decode cX1_canPrintAll 24 = .ok (.invokevirtual 52, 3) := by decide +kernel
theorem dX1_canPrintAll_27 : decode cX1_canPrintAll 27 = .ok (.ifCond .ne 5, 3) := by decide +kernel
theorem dX1_canPrintAll_30 : decode cX1_canPrintAll 30 = .ok (.iconst 0, 1) := by decide +kernel
theorem dX1_canPrintAll_31 : decode cX1_canPrintAll 31 = .ok (.ireturn, 1) := by decide +kernel
theorem dX1_canPrintAll_32 : decode cX1_canPrintAll 32 = .ok (.iinc 3 1, 3) := by decide +kernel
theorem dX1_canPrintAll_35 : decode cX1_canPrintAll 35 = .ok (.goto (-33), 3) := by decide +kernel
theorem dX1_canPrintAll_38 : decode cX1_canPrintAll 38 = .ok (.iconst 1, 1) := by decide +kernel
theorem dX1_canPrintAll_39 : decode cX1_canPrintAll 39 = .ok (.ireturn, 1) := by decide +kernel
theorem dX1_canPrint_0 : decode cX1_canPrint 0 = .ok (.iconst 0, 1) := by decide +kernel
theorem dX1_canPrint_1 : decode cX1_canPrint 1 = .ok (.istore_n 3, 1) := by decide +kernel
theorem dX1_canPrint_2 : decode cX1_canPrint 2 = .ok (.iload_n 3, 1) := by decide +kernel
theorem dX1_canPrint_3 : decode cX1_canPrint 3 = .ok (.bipush 32, 2) := by decide +kernel
theorem dX1_canPrint_5 : decode cX1_canPrint 5 = .ok (.if_icmp .ge 29, 3) := by decide +kernel
theorem dX1_canPrint_8 : decode cX1_canPrint 8 = .ok (.iload_n 3, 1) := by decide +kernel
theorem dX1_canPrint_9 : decode cX1_canPrint 9 = .ok (.iload_n 1, 1) := by decide +kernel
theorem dX1_canPrint_10 : decode cX1_canPrint 10 = .ok (.iconst (-1), 1) := by decide +kernel
theorem dX1_canPrint_11 : decode cX1_canPrint 11 = .ok (.ixor, 1) := by decide +kernel
theorem dX1_canPrint_12 : decode cX1_canPrint 12 = .ok (.iand, 1) := by decide +kernel
theorem dX1_canPrint_13 : decode cX1_canPrint 13 = .ok (.ifCond .ne 15, 3) := by decide +kernel
theorem dX1_canPrint_16 : decode cX1_canPrint 16 = .ok (.aload_n 0, 1) := by decide +kernel
theorem dX1_canPrint_17 : decode cX1_canPrint 17 = .ok (.getfield 9, 3) := by decide +kernel
theorem dX1_canPrint_20 : decode cX1_canPrint 20 = .ok (.iload_n 3, 1) := by decide +kernel
theorem dX1_canPrint_21 : decode cX1_canPrint 21 = .ok (.iaload, 1) := by decide +kernel
theorem dX1_canPrint_22 : decode cX1_canPrint 22 = .ok (.iload_n 2, 1) := by decide +kernel
theorem dX1_canPrint_23 : decode cX1_canPrint 23 = .ok (.if_icmp .ne 5, 3) := by decide +kernel
theorem dX1_canPrint_26 : decode cX1_canPrint 26 = .ok (.iconst 1, 1) := by decide +kernel
theorem dX1_canPrint_27 : decode cX1_canPrint 27 = .ok (.ireturn, 1) := by decide +kernel
theorem dX1_canPrint_28 : decode cX1_canPrint 28 = .ok (.iinc 3 1, 3) := by decide +kernel
theorem dX1_canPrint_31 : decode cX1_canPrint 31 = .ok (.goto (-29), 3) := by decide +kernel
theorem dX1_canPrint_34 : decode cX1_canPrint 34 = .ok (.iconst 0, 1) := by decide +kernel
theorem dX1_canPrint_35 : decode cX1_canPrint 35 = .ok (.ireturn, 1) := by decide +kernel
theorem dX2_init_0 : decode cX2_init 0 = .ok (.aload_n 0, 1) := by decide +kernel
theorem dX2_init_1 : decode cX2_init 1 = .ok (.invokespecial 3, 3) := by decide +kernel
theorem dX2_init_4 : decode cX2_init 4 = .ok (.aload_n 0, 1) := by decide +kernel
theorem dX2_init_5 : decode cX2_init 5 = .ok (.bipush 6, 2) := by decide +kernel
theorem dX2_init_7 : decode cX2_init 7 = .ok (.anewarray 9, 3) := by decide +kernel
theorem dX2_init_10 : decode cX2_init 10 = .ok (.putfield 11, 3) := by decide +kernel
theorem dX2_init_13 : decode cX2_init 13 = .ok (.aload_n 0, 1) := by decide +kernel
theorem dX2_init_14 : decode cX2_init 14 = .ok (.iconst 0, 1) := by decide +kernel
theorem dX2_init_15 : decode cX2_init 15 = .ok (.putfield 17, 3) := by decide +kernel
theorem dX2_init_18 : decode cX2_init 18 = .ok (.iconst 0, 1) := by decide +kernel
theorem dX2_init_19 : decode cX2_init 19 = .ok (.istore_n 1, 1) := by decide +kernel
theorem dX2_init_20 : decode cX2_init 20 = .ok (.iload_n 1, 1) := by decide +kernel
theorem dX2_init_21 : decode cX2_init 21 = .ok (.bipush 6, 2) := by decide +kernel
theorem dX2_init_23 : decode cX2_init 23 = .ok (.if_icmp .ge 22, 3) := by decide +kernel
theorem dX2_init_26 : decode cX2_init 26 = .ok (.aload_n 0, 1) := by decide +kernel
theorem dX2_init_27 : decode cX2_init 27 = .ok (.getfield 11, 3) := by decide +kernel
theorem dX2_init_30 : decode cX2_init 30 = .ok (.iload_n 1, 1) := by decide +kernel
theorem dX2_init_31 : decode cX2_init 31 = .ok (.new 9, 3) := by decide +kernel
theorem dX2_init_34 : decode cX2_init 34 = .ok (.dup, 1) := by decide +kernel
theorem dX2_init_35 : decode cX2_init 35 = .ok (.invokespecial 21, 3) := by decide +kernel
theorem dX2_init_38 : decode cX2_init 38 = .ok (.aastore, 1) := by decide +kernel
theorem dX2_init_39 : decode cX2_init 39 = .ok (.iinc 1 1, 3) := by decide +kernel
theorem dX2_init_42 : decode cX2_init 42 = .ok (.goto (-22), 3) := by decide +kernel
theorem dX2_init_45 : decode cX2_init 45 = .ok (.return_, 1) := by decide +kernel
theorem dX2_keep_0 : decode cX2_keep 0 = .ok (.aload_n 0, 1) := by decide +kernel
theorem dX2_keep_1 : decode cX2_keep 1 = .ok (.getfield 17, 3) := by decide +kernel
theorem dX2_keep_4 : decode cX2_keep 4 = .ok (.bipush 6, 2) := by decide +kernel
theorem dX2_keep_6 : decode cX2_keep 6 = .ok (.if_icmp .lt 7, 3) := by decide +kernel
theorem dX2_keep_9 : decode cX2_keep 9 = .ok (.aload_n 0, 1) := by decide +kernel
theorem dX2_keep_10 : decode cX2_keep 10 = .ok (.invokevirtual 22, 3) := by decide +kernel
theorem dX2_keep_13 : decode cX2_keep 13 = .ok (.aload_n 0, 1) := by decide +kernel
theorem dX2_keep_14 : decode cX2_keep 14 = .ok (.getfield 17, 3) := by decide +kernel
theorem dX2_keep_17 : decode cX2_keep 17 = .ok (.bipush 6, 2) := by decide +kernel
theorem dX2_keep_19 : decode cX2_keep 19 = .ok (.invokestatic 25, 3) := by decide +kernel
theorem dX2_keep_22 : decode cX2_keep 22 = .ok (.ifCond .eq 26, 3) := by decide +kernel
theorem dX2_keep_25 : decode cX2_keep 25 = .ok (.aload_n 0, 1) := by decide +kernel
theorem dX2_keep_26 : decode cX2_keep 26 = .ok (.getfield 11, 3) := by decide +kernel
theorem dX2_keep_29 : decode cX2_keep 29 = .ok (.aload_n 0, 1) := by decide +kernel
theorem dX2_keep_30 : decode cX2_keep 30 = .ok (.getfield 17, 3) := by decide +kernel
theorem dX2_keep_33 : decode cX2_keep 33 = .ok (.aaload, 1) := by decide +kernel
theorem dX2_keep_34 : decode cX2_keep 34 = .ok (.aload_n 1, 1) := by decide +kernel
theorem dX2_keep_35 : decode cX2_keep 35 = .ok (.invokevirtual 29, 3) := by decide +kernel
theorem dX2_keep_38 : decode cX2_keep 38 = .ok (.aload_n 0, 1) := by decide +kernel
theorem dX2_keep_39 : decode cX2_keep 39 = .ok (.dup, 1) := by decide +kernel
theorem dX2_keep_40 : decode cX2_keep 40 = .ok (.getfield 17, 3) := by decide +kernel
theorem dX2_keep_43 : decode cX2_keep 43 = .ok (.iconst 1, 1) := by decide +kernel
theorem dX2_keep_44 : decode cX2_keep 44 = .ok (.iadd, 1) := by decide +kernel
theorem dX2_keep_45 : decode cX2_keep 45 = .ok (.putfield 17, 3) := by decide +kernel
theorem dX2_keep_48 : decode cX2_keep 48 = .ok (.return_, 1) := by decide +kernel
theorem dX2_loseOldest_0 : decode cX2_loseOldest 0 = .ok (.aload_n 0, 1) := by decide +kernel
theorem dX2_loseOldest_1 : decode cX2_loseOldest 1 = .ok (.getfield 11, 3) := by decide +kernel
theorem dX2_loseOldest_4 : decode cX2_loseOldest 4 = .ok (.iconst 0, 1) := by decide +kernel
theorem dX2_loseOldest_5 : decode cX2_loseOldest 5 = .ok (.aaload, 1) := by decide +kernel
theorem dX2_loseOldest_6 : decode cX2_loseOldest 6 = .ok (.astore_n 1, 1) := by decide +kernel
theorem dX2_loseOldest_7 : decode cX2_loseOldest 7 = .ok (.iconst 1, 1) := by decide +kernel
theorem dX2_loseOldest_8 : decode cX2_loseOldest 8 = .ok (.istore_n 2, 1) := by decide +kernel
theorem dX2_loseOldest_9 : decode cX2_loseOldest 9 = .ok (.iload_n 2, 1) := by decide +kernel
theorem dX2_loseOldest_10 : decode cX2_loseOldest 10 = .ok (.bipush 6, 2) := by decide +kernel
theorem dX2_loseOldest_12 : decode cX2_loseOldest 12 = .ok (.if_icmp .ge 23, 3) := by decide +kernel
theorem dX2_loseOldest_15 : decode cX2_loseOldest 15 = .ok (.aload_n 0, 1) := by decide +kernel
theorem dX2_loseOldest_16 : decode cX2_loseOldest 16 = .ok (.getfield 11, 3) := by decide +kernel
theorem dX2_loseOldest_19 : decode cX2_loseOldest 19 = .ok (.iload_n 2, 1) := by decide +kernel
theorem dX2_loseOldest_20 : decode cX2_loseOldest 20 = .ok (.iconst 1, 1) := by decide +kernel
theorem dX2_loseOldest_21 : decode cX2_loseOldest 21 = .ok (.isub, 1) := by decide +kernel
theorem dX2_loseOldest_22 : decode cX2_loseOldest 22 = .ok (.aload_n 0, 1) := by decide +kernel
theorem dX2_loseOldest_23 : decode cX2_loseOldest 23 = .ok (.getfield 11, 3) := by decide +kernel
theorem dX2_loseOldest_26 : decode cX2_loseOldest 26 = .ok (.iload_n 2, 1) := by decide +kernel
theorem dX2_loseOldest_27 : decode cX2_loseOldest 27 = .ok (.aaload, 1) := by decide +kernel
theorem dX2_loseOldest_28 : decode cX2_loseOldest 28 = .ok (.aastore, 1) := by decide +kernel
theorem dX2_loseOldest_29 : decode cX2_loseOldest 29 = .ok (.iinc 2 1, 3) := by decide +kernel
theorem dX2_loseOldest_32 : decode cX2_loseOldest 32 = .ok (.goto (-23), 3) := by decide +kernel
theorem dX2_loseOldest_35 : decode cX2_loseOldest 35 = .ok (.aload_n 0, 1) := by decide +kernel
theorem dX2_loseOldest_36 : decode cX2_loseOldest 36 = .ok (.getfield 11, 3) := by decide +kernel
theorem dX2_loseOldest_39 : decode cX2_loseOldest 39 = .ok (.iconst 5, 1) := by decide +kernel
theorem dX2_loseOldest_40 : decode cX2_loseOldest 40 = .ok (.aload_n 1, 1) := by decide +kernel
theorem dX2_loseOldest_41 : decode cX2_loseOldest 41 = .ok (.aastore, 1) := by decide +kernel
theorem dX2_loseOldest_42 : decode cX2_loseOldest 42 = .ok (.aload_n 0, 1) := by decide +kernel
theorem dX2_loseOldest_43 : decode cX2_loseOldest 43 = .ok (.iconst 5, 1) := by decide +kernel
theorem dX2_loseOldest_44 : decode cX2_loseOldest 44 = .ok (.putfield 17, 3) := by decide +kernel
theorem dX2_loseOldest_47 : decode cX2_loseOldest 47 = .ok (.return_, 1) := by decide +kernel
theorem dX2_bring_0 : decode cX2_bring 0 = .ok (.aload_n 0, 1) := by decide +kernel
theorem dX2_bring_1 : decode cX2_bring 1 = .ok (.getfield 17, 3) := by decide +kernel
theorem dX2_bring_4 : decode cX2_bring 4 = .ok (.iconst 1, 1) := by decide +kernel
theorem dX2_bring_5 : decode cX2_bring 5 = .ok (.if_icmp .lt 12, 3) := by decide +kernel
theorem dX2_bring_8 : decode cX2_bring 8 = .ok (.aload_n 0, 1) := by decide +kernel
theorem dX2_bring_9 : decode cX2_bring 9 = .ok (.getfield 17, 3) := by decide +kernel
theorem dX2_bring_12 : decode cX2_bring 12 = .ok (.bipush 6, 2) := by decide +kernel
theorem dX2_bring_14 : decode cX2_bring 14 = .ok (.if_icmp .le 5, 3) := by decide +kernel
theorem dX2_bring_17 : decode cX2_bring 17 = .ok (.iconst 0, 1) := by decide +kernel
theorem dX2_bring_18 : decode cX2_bring 18 = .ok (.ireturn, 1) := by decide +kernel
theorem dX2_bring_19 : decode cX2_bring 19 = .ok (.aload_n 0, 1) := by decide +kernel
theorem dX2_bring_20 : decode cX2_bring 20 = .ok (.dup, 1) := by decide +kernel
theorem dX2_bring_21 : decode cX2_bring 21 = .ok (.getfield 17, 3) := by decide +kernel
theorem dX2_bring_24 : decode cX2_bring 24 = .ok (.iconst 1, 1) := by decide +kernel
theorem dX2_bring_25 : decode cX2_bring 25 = .ok (.isub, 1) := by decide +kernel
theorem dX2_bring_26 : decode cX2_bring 26 = .ok (.putfield 17, 3) := by decide +kernel
theorem dX2_bring_29 : decode cX2_bring 29 = .ok (.aload_n 1, 1) := by decide +kernel
theorem dX2_bring_30 : decode cX2_bring 30 = .ok (.aload_n 0, 1) := by decide +kernel
theorem dX2_bring_31 : decode cX2_bring 31 = .ok (.getfield 11, 3) := by decide +kernel
theorem dX2_bring_34 : decode cX2_bring 34 = .ok (.aload_n 0, 1) := by decide +kernel
theorem dX2_bring_35 : decode cX2_bring 35 = .ok (.getfield 17, 3) := by decide +kernel
theorem dX2_bring_38 : decode cX2_bring 38 = .ok (.aaload, 1) := by decide +kernel
theorem dX2_bring_39 : decode cX2_bring 39 = .ok (.invokevirtual 29, 3) := by decide +kernel
theorem dX2_bring_42 : decode cX2_bring 42 = .ok (.iconst 1, 1) := by decide +kernel
theorem dX2_bring_43 : decode cX2_bring 43 = .ok (.ireturn, 1) := by decide +kernel
theorem dX2_become_0 : decode cX2_become 0 = .ok (.aload_n 0, 1) := by decide +kernel
theorem dX2_become_1 : decode cX2_become 1 = .ok (.aload_n 1, 1) := by decide +kernel
theorem dX2_become_2 : decode cX2_become 2 = .ok (.getfield 17, 3) := by decide +kernel
theorem dX2_become_5 : decode cX2_become 5 = .ok (.putfield 17, 3) := by decide +kernel
theorem dX2_become_8 : decode cX2_become 8 = .ok (.iconst 0, 1) := by decide +kernel
theorem dX2_become_9 : decode cX2_become 9 = .ok (.istore_n 2, 1) := by decide +kernel
theorem dX2_become_10 : decode cX2_become 10 = .ok (.iload_n 2, 1) := by decide +kernel
theorem dX2_become_11 : decode cX2_become 11 = .ok (.aload_n 0, 1) := by decide +kernel
theorem dX2_become_12 : decode cX2_become 12 = .ok (.getfield 17, 3) := by decide +kernel
theorem dX2_become_15 : decode cX2_become 15 = .ok (.if_icmp .ge 30, 3) := by decide +kernel
theorem dX2_become_18 : decode cX2_become 18 = .ok (.iload_n 2, 1) := by decide +kernel
theorem dX2_become_19 : decode cX2_become 19 = .ok (.bipush 6, 2) := by decide +kernel
theorem dX2_become_21 : decode cX2_become 21 = .ok (.if_icmp .ge 24, 3) := by decide +kernel
theorem dX2_become_24 : decode cX2_become 24 = .ok (.aload_n 0, 1) := by decide +kernel
theorem dX2_become_25 : decode cX2_become 25 = .ok (.getfield 11, 3) := by decide +kernel
theorem dX2_become_28 : decode cX2_become 28 = .ok (.iload_n 2, 1) := by decide +kernel
theorem dX2_become_29 : decode cX2_become 29 = .ok (.aaload, 1) := by decide +kernel
theorem dX2_become_30 : decode cX2_become 30 = .ok (.aload_n 1, 1) := by decide +kernel
theorem dX2_become_31 : decode cX2_become 31 = .ok (.getfield 11, 3) := by decide +kernel
theorem dX2_become_34 : decode cX2_become 34 = .ok (.iload_n 2, 1) := by decide +kernel
theorem dX2_become_35 : decode cX2_become 35 = .ok (.aaload, 1) := by decide +kernel
theorem dX2_become_36 : decode cX2_become 36 = .ok (.invokevirtual 29, 3) := by decide +kernel
theorem dX2_become_39 : decode cX2_become 39 = .ok (.iinc 2 1, 3) := by decide +kernel
theorem dX2_become_42 : decode cX2_become 42 = .ok (.goto (-32), 3) := by decide +kernel
theorem dX2_become_45 : decode cX2_become 45 = .ok (.return_, 1) := by decide +kernel
theorem dX3_init_0 : decode cX3_init 0 = .ok (.aload_n 0, 1) := by decide +kernel
theorem dX3_init_1 : decode cX3_init 1 = .ok (.invokespecial 3, 3) := by decide +kernel
theorem dX3_init_4 : decode cX3_init 4 = .ok (.aload_n 0, 1) := by decide +kernel
theorem dX3_init_5 : decode cX3_init 5 = .ok (.bipush 24, 2) := by decide +kernel
theorem dX3_init_7 : decode cX3_init 7 = .ok (.newarray .long, 2) := by decide +kernel
theorem dX3_init_9 : decode cX3_init 9 = .ok (.putfield 9, 3) := by decide +kernel
theorem dX3_init_12 : decode cX3_init 12 = .ok (.aload_n 0, 1) := by decide +kernel
theorem dX3_init_13 : decode cX3_init 13 = .ok (.iconst 0, 1) := by decide +kernel
theorem dX3_init_14 : decode cX3_init 14 = .ok (.putfield 15, 3) := by decide +kernel
theorem dX3_init_17 : decode cX3_init 17 = .ok (.aload_n 0, 1) := by decide +kernel
theorem dX3_init_18 : decode cX3_init 18 = .ok (.iconst 0, 1) := by decide +kernel
theorem dX3_init_19 : decode cX3_init 19 = .ok (.putfield 19, 3) := by decide +kernel
theorem dX3_init_22 : decode cX3_init 22 = .ok (.aload_n 0, 1) := by decide +kernel
theorem dX3_init_23 : decode cX3_init 23 = .ok (.iconst 0, 1) := by decide +kernel
theorem dX3_init_24 : decode cX3_init 24 = .ok (.putfield 23, 3) := by decide +kernel
theorem dX3_init_27 : decode cX3_init 27 = .ok (.return_, 1) := by decide +kernel
theorem dX3_begin_0 : decode cX3_begin 0 = .ok (.aload_n 0, 1) := by decide +kernel
theorem dX3_begin_1 : decode cX3_begin 1 = .ok (.iconst 1, 1) := by decide +kernel
theorem dX3_begin_2 : decode cX3_begin 2 = .ok (.putfield 15, 3) := by decide +kernel
theorem dX3_begin_5 : decode cX3_begin 5 = .ok (.aload_n 0, 1) := by decide +kernel
theorem dX3_begin_6 : decode cX3_begin 6 = .ok (.iload_n 1, 1) := by decide +kernel
theorem dX3_begin_7 : decode cX3_begin 7 = .ok (.putfield 19, 3) := by decide +kernel
theorem dX3_begin_10 : decode cX3_begin 10 = .ok (.aload_n 0, 1) := by decide +kernel
theorem dX3_begin_11 : decode cX3_begin 11 = .ok (.iload_n 2, 1) := by decide +kernel
theorem dX3_begin_12 : decode cX3_begin 12 = .ok (.putfield 23, 3) := by decide +kernel
theorem dX3_begin_15 : decode cX3_begin 15 = .ok (.iconst 0, 1) := by decide +kernel
theorem dX3_begin_16 : decode cX3_begin 16 = .ok (.istore_n 3, 1) := by decide +kernel
theorem dX3_begin_17 : decode cX3_begin 17 = .ok (.iload_n 3, 1) := by decide +kernel
theorem dX3_begin_18 : decode cX3_begin 18 = .ok (.bipush 24, 2) := by decide +kernel
theorem dX3_begin_20 : decode cX3_begin 20 = .ok (.if_icmp .ge 16, 3) := by decide +kernel
theorem dX3_begin_23 : decode cX3_begin 23 = .ok (.aload_n 0, 1) := by decide +kernel
theorem dX3_begin_24 : decode cX3_begin 24 = .ok (.getfield 9, 3) := by decide +kernel
theorem dX3_begin_27 : decode cX3_begin 27 = .ok (.iload_n 3, 1) := by decide +kernel
theorem dX3_begin_28 : decode cX3_begin 28 = .ok (.lconst 0, 1) := by decide +kernel
theorem dX3_begin_29 : decode cX3_begin 29 = .ok (.lastore, 1) := by decide +kernel
theorem dX3_begin_30 : decode cX3_begin 30 = .ok (.iinc 3 1, 3) := by decide +kernel
theorem dX3_begin_33 : decode cX3_begin 33 = .ok (.goto (-16), 3) := by decide +kernel
theorem dX3_begin_36 : decode cX3_begin 36 = .ok (.return_, 1) := by decide +kernel
theorem dX3_hasItems_0 : decode cX3_hasItems 0 = .ok (.iload_n 1, 1) := by decide +kernel
theorem dX3_hasItems_1 : decode cX3_hasItems 1 = .ok (.ifCond .lt 29, 3) := by decide +kernel
theorem dX3_hasItems_4 : decode cX3_hasItems 4 = .ok (.iload_n 1, 1) := by decide +kernel
theorem dX3_hasItems_5 : decode cX3_hasItems 5 = .ok (.aload_n 0, 1) := by decide +kernel
theorem dX3_hasItems_6 : decode cX3_hasItems 6 = .ok (.getfield 23, 3) := by decide +kernel
theorem dX3_hasItems_9 : decode cX3_hasItems 9 = .ok (.if_icmp .gt 21, 3) := by decide +kernel
theorem dX3_hasItems_12 : decode cX3_hasItems 12 = .ok (.iload_n 2, 1) := by decide +kernel
theorem dX3_hasItems_13 : decode cX3_hasItems 13 = .ok (.ifCond .lt 17, 3) := by decide +kernel
theorem dX3_hasItems_16 : decode cX3_hasItems 16 = .ok (.iload_n 2, 1) := by decide +kernel
theorem dX3_hasItems_17 : decode cX3_hasItems 17 = .ok (.aload_n 0, 1) := by decide +kernel
theorem dX3_hasItems_18 : decode cX3_hasItems 18 = .ok (.getfield 23, 3) := by decide +kernel
theorem dX3_hasItems_21 : decode cX3_hasItems 21 = .ok (.iload_n 1, 1) := by decide +kernel
theorem dX3_hasItems_22 : decode cX3_hasItems 22 = .ok (.isub, 1) := by decide +kernel
theorem dX3_hasItems_23 : decode cX3_hasItems 23 = .ok (.if_icmp .gt 7, 3) := by decide +kernel
theorem dX3_hasItems_26 : decode cX3_hasItems 26 = .ok (.iconst 1, 1) := by decide +kernel
theorem dX3_hasItems_27 : decode cX3_hasItems 27 = .ok (.goto 4, 3) := by decide +kernel
theorem dX3_hasItems_30 : decode cX3_hasItems 30 = .ok (.iconst 0, 1) := by decide +kernel
theorem dX3_hasItems_31 : decode cX3_hasItems 31 = .ok (.ireturn, 1) := by decide +kernel
theorem dX3_whyNot_0 : decode cX3_whyNot 0 = .ok (.aload_n 0, 1) := by decide +kernel
theorem dX3_whyNot_1 : decode cX3_whyNot 1 = .ok (.getfield 15, 3) := by decide +kernel
theorem dX3_whyNot_4 : decode cX3_whyNot 4 = .ok (.ifCond .ne 6, 3) := by decide +kernel
theorem dX3_whyNot_7 : decode cX3_whyNot 7 = .ok (.bipush (-11), 2) := by decide +kernel
theorem dX3_whyNot_9 : decode cX3_whyNot 9 = .ok (.ireturn, 1) := by decide +kernel
theorem dX3_whyNot_10 : decode cX3_whyNot 10 = .ok (.aload_n 0, 1) := by decide +kernel
theorem dX3_whyNot_11 : decode cX3_whyNot 11 = .ok (.getfield 19, 3) := by decide +kernel
theorem dX3_whyNot_14 : decode cX3_whyNot 14 = .ok (.iload_n 1, 1) := by decide +kernel
theorem dX3_whyNot_15 : decode cX3_whyNot 15 = .ok (.if_icmp .eq 6, 3) := by decide +kernel
theorem dX3_whyNot_18 : decode cX3_whyNot 18 = .ok (.bipush (-12), 2) := by decide +kernel
theorem dX3_whyNot_20 : decode cX3_whyNot 20 = .ok (.ireturn, 1) := by decide +kernel
theorem dX3_whyNot_21 : decode cX3_whyNot 21 = .ok (.aload_n 0, 1) := by decide +kernel
theorem dX3_whyNot_22 : decode cX3_whyNot 22 = .ok (.iload_n 2, 1) := by decide +kernel
theorem dX3_whyNot_23 : decode cX3_whyNot 23 = .ok (.iload_n 3, 1) := by decide +kernel
theorem dX3_whyNot_24 : decode cX3_whyNot 24 = .ok (.invokevirtual 26, 3) := by decide +kernel
theorem dX3_whyNot_27 : decode cX3_whyNot 27 = .ok (.ifCond .eq 7, 3) := by decide +kernel
theorem dX3_whyNot_30 : decode cX3_whyNot 30 = .ok (.iconst 0, 1) := by decide +kernel
theorem dX3_whyNot_31 : decode cX3_whyNot 31 = .ok (.goto 5, 3) := by decide +kernel
theorem dX3_whyNot_34 : decode cX3_whyNot 34 = .ok (.bipush (-13), 2) := by decide +kernel
theorem dX3_whyNot_36 : decode cX3_whyNot 36 = .ok (.ireturn, 1) := by decide +kernel
theorem dX3_at_0 : decode cX3_at 0 = .ok (.iload_n 1, 1) := by decide +kernel
theorem dX3_at_1 : decode cX3_at 1 = .ok (.bipush 24, 2) := by decide +kernel
theorem dX3_at_3 : decode cX3_at 3 = .ok (.invokestatic 30, 3) := by decide +kernel
theorem dX3_at_6 : decode cX3_at 6 = .ok (.ifCond .eq 12, 3) := by decide +kernel
theorem dX3_at_9 : decode cX3_at 9 = .ok (.aload_n 0, 1) := by decide +kernel
theorem dX3_at_10 : decode cX3_at 10 = .ok (.getfield 9, 3) := by decide +kernel
theorem dX3_at_13 : decode cX3_at 13 = .ok (.iload_n 1, 1) := by decide +kernel
theorem dX3_at_14 : decode cX3_at 14 = .ok (.laload, 1) := by decide +kernel
theorem dX3_at_15 : decode cX3_at 15 = .ok (.goto 4, 3) := by decide +kernel
theorem dX3_at_18 : decode cX3_at 18 = .ok (.lconst 0, 1) := by decide +kernel
theorem dX3_at_19 : decode cX3_at 19 = .ok (.lreturn, 1) := by decide +kernel
theorem dX3_write_0 : decode cX3_write 0 = .ok (.iload_n 1, 1) := by decide +kernel
theorem dX3_write_1 : decode cX3_write 1 = .ok (.bipush 24, 2) := by decide +kernel
theorem dX3_write_3 : decode cX3_write 3 = .ok (.invokestatic 30, 3) := by decide +kernel
theorem dX3_write_6 : decode cX3_write 6 = .ok (.ifCond .eq 14, 3) := by decide +kernel
theorem dX3_write_9 : decode cX3_write 9 = .ok (.aload_n 0, 1) := by decide +kernel
theorem dX3_write_10 : decode cX3_write 10 = .ok (.getfield 9, 3) := by decide +kernel
theorem dX3_write_13 : decode cX3_write 13 = .ok (.iload_n 1, 1) := by decide +kernel
theorem dX3_write_14 : decode cX3_write 14 = .ok (.aload_n 0, 1) := by decide +kernel
theorem dX3_write_15 : decode cX3_write 15 = .ok (.lload_n 2, 1) := by decide +kernel
theorem dX3_write_16 : decode cX3_write 16 = .ok (.invokevirtual 33, 3) := by decide +kernel
theorem dX3_write_19 : decode cX3_write 19 = .ok (.lastore, 1) := by decide +kernel
theorem dX3_write_20 : decode cX3_write 20 = .ok (.return_, 1) := by decide +kernel
theorem dX3_lowestBits_0 : decode cX3_lowestBits 0 = .ok (.aload_n 0, 1) := by decide +kernel
theorem dX3_lowestBits_1 : decode cX3_lowestBits 1 = .ok (.getfield 19, 3) := by decide +kernel
theorem dX3_lowestBits_4 : decode cX3_lowestBits 4 = .ok (.tableswitch 42 0 2 #[28, 33, 38], 28) := by decide +kernel
theorem dX3_lowestBits_32 : decode cX3_lowestBits 32 = .ok (.lload_n 1, 1) := by decide +kernel
theorem dX3_lowestBits_33 : decode cX3_lowestBits 33 = .ok (.l2i, 1) := by decide +kernel
theorem dX3_lowestBits_34 : decode cX3_lowestBits 34 = .ok (.i2b, 1) := by decide +kernel
theorem dX3_lowestBits_35 : decode cX3_lowestBits 35 = .ok (.i2l, 1) := by decide +kernel
theorem dX3_lowestBits_36 : decode cX3_lowestBits 36 = .ok (.lreturn, 1) := by decide +kernel
theorem dX3_lowestBits_37 : decode cX3_lowestBits 37 = .ok (.lload_n 1, 1) := by decide +kernel
theorem dX3_lowestBits_38 : decode cX3_lowestBits 38 = .ok (.l2i, 1) := by decide +kernel
theorem dX3_lowestBits_39 : decode cX3_lowestBits 39 = .ok (.i2s, 1) := by decide +kernel
theorem dX3_lowestBits_40 : decode cX3_lowestBits 40 = .ok (.i2l, 1) := by decide +kernel
theorem dX3_lowestBits_41 : decode cX3_lowestBits 41 = .ok (.lreturn, 1) := by decide +kernel
theorem dX3_lowestBits_42 : decode cX3_lowestBits 42 = .ok (.lload_n 1, 1) := by decide +kernel
theorem dX3_lowestBits_43 : decode cX3_lowestBits 43 = .ok (.l2i, 1) := by decide +kernel
theorem dX3_lowestBits_44 : decode cX3_lowestBits 44 = .ok (.i2l, 1) := by decide +kernel
theorem dX3_lowestBits_45 : decode cX3_lowestBits 45 = .ok (.lreturn, 1) := by decide +kernel
theorem dX3_lowestBits_46 : decode cX3_lowestBits 46 = .ok (.lload_n 1, 1) := by decide +kernel
theorem dX3_lowestBits_47 : decode cX3_lowestBits 47 = .ok (.lreturn, 1) := by decide +kernel
theorem dX4_init_0 : decode cX4_init 0 = .ok (.aload_n 0, 1) := by decide +kernel
theorem dX4_init_1 : decode cX4_init 1 = .ok (.invokespecial 3, 3) := by decide +kernel
theorem dX4_init_4 : decode cX4_init 4 = .ok (.aload_n 0, 1) := by decide +kernel
theorem dX4_init_5 : decode cX4_init 5 = .ok (.iconst 5, 1) := by decide +kernel
theorem dX4_init_6 : decode cX4_init 6 = .ok (.newarray .int, 2) := by decide +kernel
theorem dX4_init_8 : decode cX4_init 8 = .ok (.putfield 9, 3) := by decide +kernel
theorem dX4_init_11 : decode cX4_init 11 = .ok (.aload_n 0, 1) := by decide +kernel
theorem dX4_init_12 : decode cX4_init 12 = .ok (.iconst 5, 1) := by decide +kernel
theorem dX4_init_13 : decode cX4_init 13 = .ok (.newarray .int, 2) := by decide +kernel
theorem dX4_init_15 : decode cX4_init 15 = .ok (.putfield 15, 3) := by decide +kernel
theorem dX4_init_18 : decode cX4_init 18 = .ok (.aload_n 0, 1) := by decide +kernel
theorem dX4_init_19 : decode cX4_init 19 = .ok (.iconst 5, 1) := by decide +kernel
theorem dX4_init_20 : decode cX4_init 20 = .ok (.newarray .int, 2) := by decide +kernel
theorem dX4_init_22 : decode cX4_init 22 = .ok (.putfield 18, 3) := by decide +kernel
theorem dX4_init_25 : decode cX4_init 25 = .ok (.aload_n 0, 1) := by decide +kernel
theorem dX4_init_26 : decode cX4_init 26 = .ok (.bipush 48, 2) := by decide +kernel
theorem dX4_init_28 : decode cX4_init 28 = .ok (.newarray .int, 2) := by decide +kernel
theorem dX4_init_30 : decode cX4_init 30 = .ok (.putfield 21, 3) := by decide +kernel
theorem dX4_init_33 : decode cX4_init 33 = .ok (.aload_n 0, 1) := by decide +kernel
theorem dX4_init_34 : decode cX4_init 34 = .ok (.iconst 4, 1) := by decide +kernel
theorem dX4_init_35 : decode cX4_init 35 = .ok (.putfield 24, 3) := by decide +kernel
theorem dX4_init_38 : decode cX4_init 38 = .ok (.aload_n 0, 1) := by decide +kernel
theorem dX4_init_39 : decode cX4_init 39 = .ok (.iconst 3, 1) := by decide +kernel
theorem dX4_init_40 : decode cX4_init 40 = .ok (.putfield 28, 3) := by decide +kernel
theorem dX4_init_43 : decode cX4_init 43 = .ok (.aload_n 0, 1) := by decide +kernel
theorem dX4_init_44 : decode cX4_init 44 = .ok (.iconst 1, 1) := by decide +kernel
theorem dX4_init_45 : decode cX4_init 45 = .ok (.putfield 31, 3) := by decide +kernel
theorem dX4_init_48 : decode cX4_init 48 = .ok (.iconst 0, 1) := by decide +kernel
theorem dX4_init_49 : decode cX4_init 49 = .ok (.istore_n 1, 1) := by decide +kernel
theorem dX4_init_50 : decode cX4_init 50 = .ok (.iload_n 1, 1) := by decide +kernel
theorem dX4_init_51 : decode cX4_init 51 = .ok (.iconst 5, 1) := by decide +kernel
theorem dX4_init_52 : decode cX4_init 52 = .ok (.if_icmp .ge 27, 3) := by decide +kernel
theorem dX4_init_55 : decode cX4_init 55 = .ok (.aload_n 0, 1) := by decide +kernel
theorem dX4_init_56 : decode cX4_init 56 = .ok (.getfield 15, 3) := by decide +kernel
theorem dX4_init_59 : decode cX4_init 59 = .ok (.iload_n 1, 1) := by decide +kernel
theorem dX4_init_60 : decode cX4_init 60 = .ok (.getstatic 34, 3) := by decide +kernel
theorem dX4_init_63 : decode cX4_init 63 = .ok (.iload_n 1, 1) := by decide +kernel
theorem dX4_init_64 : decode cX4_init 64 = .ok (.iaload, 1) := by decide +kernel
theorem dX4_init_65 : decode cX4_init 65 = .ok (.iastore, 1) := by decide +kernel
theorem dX4_init_66 : decode cX4_init 66 = .ok (.aload_n 0, 1) := by decide +kernel
theorem dX4_init_67 : decode cX4_init 67 = .ok (.getfield 18, 3) := by decide +kernel
theorem dX4_init_70 : decode cX4_init 70 = .ok (.iload_n 1, 1) := by decide +kernel
theorem dX4_init_71 : decode cX4_init 71 = .ok (.iload_n 1, 1) := by decide +kernel
theorem dX4_init_72 : decode cX4_init 72 = .ok (.iastore, 1) := by decide +kernel
theorem dX4_init_73 : decode cX4_init 73 = .ok (.iinc 1 1, 3) := by decide +kernel
theorem dX4_init_76 : decode cX4_init 76 = .ok (.goto (-26), 3) := by decide +kernel
theorem dX4_init_79 : decode cX4_init 79 = .ok (.return_, 1) := by decide +kernel
theorem dX4_become_0 : decode cX4_become 0 = .ok (.aload_n 1, 1) := by decide +kernel
theorem dX4_become_1 : decode cX4_become 1 = .ok (.getfield 9, 3) := by decide +kernel
theorem dX4_become_4 : decode cX4_become 4 = .ok (.iconst 0, 1) := by decide +kernel
theorem dX4_become_5 : decode cX4_become 5 = .ok (.aload_n 0, 1) := by decide +kernel
theorem dX4_become_6 : decode cX4_become 6 = .ok (.getfield 9, 3) := by decide +kernel
theorem dX4_become_9 : decode cX4_become 9 = .ok (.iconst 0, 1) := by decide +kernel
theorem dX4_become_10 : decode cX4_become 10 = .ok (.iconst 5, 1) := by decide +kernel
theorem dX4_become_11 : decode cX4_become 11 = .ok (.invokestatic 37, 3) := by decide +kernel
theorem dX4_become_14 : decode cX4_become 14 = .ok (.aload_n 1, 1) := by decide +kernel
theorem dX4_become_15 : decode cX4_become 15 = .ok (.getfield 15, 3) := by decide +kernel
theorem dX4_become_18 : decode cX4_become 18 = .ok (.iconst 0, 1) := by decide +kernel
theorem dX4_become_19 : decode cX4_become 19 = .ok (.aload_n 0, 1) := by decide +kernel
theorem dX4_become_20 : decode cX4_become 20 = .ok (.getfield 15, 3) := by decide +kernel
theorem dX4_become_23 : decode cX4_become 23 = .ok (.iconst 0, 1) := by decide +kernel
theorem dX4_become_24 : decode cX4_become 24 = .ok (.iconst 5, 1) := by decide +kernel
theorem dX4_become_25 : decode cX4_become 25 = .ok (.invokestatic 37, 3) := by decide +kernel
theorem dX4_become_28 : decode cX4_become 28 = .ok (.aload_n 1, 1) := by decide +kernel
theorem dX4_become_29 : decode cX4_become 29 = .ok (.getfield 18, 3) := by decide +kernel
theorem dX4_become_32 : decode cX4_become 32 = .ok (.iconst 0, 1) := by decide +kernel
theorem dX4_become_33 : decode cX4_become 33 = .ok (.aload_n 0, 1) := by decide +kernel
theorem dX4_become_34 : decode cX4_become 34 = .ok (.getfield 18, 3) := by decide +kernel
theorem dX4_become_37 : decode cX4_become 37 = .ok (.iconst 0, 1) := by decide +kernel
theorem dX4_become_38 : decode cX4_become 38 = .ok (.iconst 5, 1) := by decide +kernel
theorem dX4_become_39 : decode cX4_become 39 = .ok (.invokestatic 37, 3) := by decide +kernel
theorem dX4_become_42 : decode cX4_become 42 = .ok (.aload_n 1, 1) := by decide +kernel
theorem dX4_become_43 : decode cX4_become 43 = .ok (.getfield 21, 3) := by decide +kernel
theorem dX4_become_46 : decode cX4_become 46 = .ok (.iconst 0, 1) := by decide +kernel
theorem dX4_become_47 : decode cX4_become 47 = .ok (.aload_n 0, 1) := by decide +kernel
theorem dX4_become_48 : decode cX4_become 48 = .ok (.getfield 21, 3) := by decide +kernel
theorem dX4_become_51 : decode cX4_become 51 = .ok (.iconst 0, 1) := by decide +kernel
theorem dX4_become_52 : decode cX4_become 52 = .ok (.bipush 48, 2) := by decide +kernel
theorem dX4_become_54 : decode cX4_become 54 = .ok (.invokestatic 37, 3) := by decide +kernel
theorem dX4_become_57 : decode cX4_become 57 = .ok (.aload_n 0, 1) := by decide +kernel
theorem dX4_become_58 : decode cX4_become 58 = .ok (.aload_n 1, 1) := by decide +kernel
theorem dX4_become_59 : decode cX4_become 59 = .ok (.getfield 24, 3) := by decide +kernel
theorem dX4_become_62 : decode cX4_become 62 = .ok (.putfield 24, 3) := by decide +kernel
theorem dX4_become_65 : decode cX4_become 65 = .ok (.aload_n 0, 1) := by decide +kernel
theorem dX4_become_66 : decode cX4_become 66 = .ok (.aload_n 1, 1) := by decide +kernel
theorem dX4_become_67 : decode cX4_become 67 = .ok (.getfield 28, 3) := by decide +kernel
theorem dX4_become_70 : decode cX4_become 70 = .ok (.putfield 28, 3) := by decide +kernel
theorem dX4_become_73 : decode cX4_become 73 = .ok (.aload_n 0, 1) := by decide +kernel
theorem dX4_become_74 : decode cX4_become 74 = .ok (.aload_n 1, 1) := by decide +kernel
theorem dX4_become_75 : decode cX4_become 75 = .ok (.getfield 31, 3) := by decide +kernel
theorem dX4_become_78 : decode cX4_become 78 = .ok (.putfield 31, 3) := by decide +kernel
theorem dX4_become_81 : decode cX4_become 81 = .ok (.return_, 1) := by decide +kernel
theorem dX4_become__0 : decode cX4_become_ 0 = .ok (.aload_n 1, 1) := by decide +kernel
theorem dX4_become__1 : decode cX4_become_ 1 = .ok (.iconst 0, 1) := by decide +kernel
theorem dX4_become__2 : decode cX4_become_ 2 = .ok (.aload_n 0, 1) := by decide +kernel
theorem dX4_become__3 : decode cX4_become_ 3 = .ok (.getfield 21, 3) := by decide +kernel
theorem dX4_become__6 : decode cX4_become_ 6 = .ok (.iconst 0, 1) := by decide +kernel
theorem dX4_become__7 : decode cX4_become_ 7 = .ok (.bipush 48, 2) := by decide +kernel
theorem dX4_become__9 : decode cX4_become_ 9 = .ok (.invokestatic 37, 3) := by decide +kernel
theorem dX4_become__12 : decode cX4_become_ 12 = .ok (.aload_n 0, 1) := by decide +kernel
theorem dX4_become__13 : decode cX4_become_ 13 = .ok (.iload_n 2, 1) := by decide +kernel
theorem dX4_become__14 : decode cX4_become_ 14 = .ok (.putfield 24, 3) := by decide +kernel
theorem dX4_become__17 : decode cX4_become_ 17 = .ok (.aload_n 0, 1) := by decide +kernel
theorem dX4_become__18 : decode cX4_become_ 18 = .ok (.iload_n 3, 1) := by decide +kernel
theorem dX4_become__19 : decode cX4_become_ 19 = .ok (.putfield 28, 3) := by decide +kernel
theorem dX4_become__22 : decode cX4_become_ 22 = .ok (.return_, 1) := by decide +kernel
theorem dX4_indexOf_0 : decode cX4_indexOf 0 = .ok (.iload_n 1, 1) := by decide +kernel
theorem dX4_indexOf_1 : decode cX4_indexOf 1 = .ok (.bipush 8, 2) := by decide +kernel
theorem dX4_indexOf_3 : decode cX4_indexOf 3 = .ok (.imul, 1) := by decide +kernel
theorem dX4_indexOf_4 : decode cX4_indexOf 4 = .ok (.iload_n 0, 1) := by decide +kernel
theorem dX4_indexOf_5 : decode cX4_indexOf 5 = .ok (.iadd, 1) := by decide +kernel
theorem dX4_indexOf_6 : decode cX4_indexOf 6 = .ok (.ireturn, 1) := by decide +kernel
theorem dX4_isInside_0 : decode cX4_isInside 0 = .ok (.iload_n 1, 1) := by decide +kernel
theorem dX4_isInside_1 : decode cX4_isInside 1 = .ok (.aload_n 0, 1) := by decide +kernel
theorem dX4_isInside_2 : decode cX4_isInside 2 = .ok (.getfield 24, 3) := by decide +kernel
theorem dX4_isInside_5 : decode cX4_isInside 5 = .ok (.invokestatic 43, 3) := by decide +kernel
theorem dX4_isInside_8 : decode cX4_isInside 8 = .ok (.ifCond .eq 18, 3) := by decide +kernel
theorem dX4_isInside_11 : decode cX4_isInside 11 = .ok (.iload_n 2, 1) := by decide +kernel
theorem dX4_isInside_12 : decode cX4_isInside 12 = .ok (.aload_n 0, 1) := by decide +kernel
theorem dX4_isInside_13 : decode cX4_isInside 13 = .ok (.getfield 28, 3) := by decide +kernel
theorem dX4_isInside_16 : decode cX4_isInside 16 = .ok (.invokestatic 43, 3) := by decide +kernel
theorem dX4_isInside_19 : decode cX4_isInside 19 = .ok (.ifCond .eq 7, 3) := by decide +kernel
theorem dX4_isInside_22 : decode cX4_isInside 22 = .ok (.iconst 1, 1) := by decide +kernel
theorem dX4_isInside_23 : decode cX4_isInside 23 = .ok (.goto 4, 3) := by decide +kernel
theorem dX4_isInside_26 : decode cX4_isInside 26 = .ok (.iconst 0, 1) := by decide +kernel
theorem dX4_isInside_27 : decode cX4_isInside 27 = .ok (.ireturn, 1) := by decide +kernel
theorem dX4_at_0 : decode cX4_at 0 = .ok (.aload_n 0, 1) := by decide +kernel
theorem dX4_at_1 : decode cX4_at 1 = .ok (.iload_n 1, 1) := by decide +kernel
theorem dX4_at_2 : decode cX4_at 2 = .ok (.iload_n 2, 1) := by decide +kernel
theorem dX4_at_3 : decode cX4_at 3 = .ok (.invokevirtual 47, 3) := by decide +kernel
theorem dX4_at_6 : decode cX4_at 6 = .ok (.ifCond .eq 16, 3) := by decide +kernel
theorem dX4_at_9 : decode cX4_at 9 = .ok (.aload_n 0, 1) := by decide +kernel
theorem dX4_at_10 : decode cX4_at 10 = .ok (.getfield 21, 3) := by decide +kernel
theorem dX4_at_13 : decode cX4_at 13 = .ok (.iload_n 1, 1) := by decide +kernel
theorem dX4_at_14 : decode cX4_at 14 = .ok (.iload_n 2, 1) := by decide +kernel
theorem dX4_at_15 : decode cX4_at 15 = .ok (.invokestatic 50, 3) := by decide +kernel
theorem dX4_at_18 : decode cX4_at 18 = .ok (.iaload, 1) := by decide +kernel
theorem dX4_at_19 : decode cX4_at 19 = .ok (.goto 4, 3) := by decide +kernel
theorem dX4_at_22 : decode cX4_at 22 = .ok (.iconst 0, 1) := by decide +kernel
theorem dX4_at_23 : decode cX4_at 23 = .ok (.ireturn, 1) := by decide +kernel
theorem dX4_write_0 : decode cX4_write 0 = .ok (.aload_n 0, 1) := by decide +kernel
theorem dX4_write_1 : decode cX4_write 1 = .ok (.iload_n 1, 1) := by decide +kernel
theorem dX4_write_2 : decode cX4_write 2 = .ok (.iload_n 2, 1) := by decide +kernel
theorem dX4_write_3 : decode cX4_write 3 = .ok (.invokevirtual 47, 3) := by decide +kernel
theorem dX4_write_6 : decode cX4_write 6 = .ok (.ifCond .eq 14, 3) := by decide +kernel
theorem dX4_write_9 : decode cX4_write 9 = .ok (.aload_n 0, 1) := by decide +kernel
theorem dX4_write_10 : decode cX4_write 10 = .ok (.getfield 21, 3) := by decide +kernel
theorem dX4_write_13 : decode cX4_write 13 = .ok (.iload_n 1, 1) := by decide +kernel
theorem dX4_write_14 : decode cX4_write 14 = .ok (.iload_n 2, 1) := by decide +kernel
theorem dX4_write_15 : decode cX4_write 15 = .ok (.invokestatic 50, 3) := by decide +kernel
theorem dX4_write_18 : decode cX4_write 18 = .ok (.iload_n 3, 1) := by decide +kernel
theorem dX4_write_19 : decode cX4_write 19 = .ok (.iastore, 1) := by decide +kernel
theorem dX4_write_20 : decode cX4_write 20 = .ok (.return_, 1) := by decide +kernel
theorem dX4_clearOutside_0 : decode cX4_clearOutside 0 = .ok (.iconst 0, 1) := by decide +kernel
theorem dX4_clearOutside_1 : decode cX4_clearOutside 1 = .ok (.istore_n 1, 1) := by decide +kernel
theorem dX4_clearOutside_2 : decode cX4_clearOutside 2 = .ok (.iload_n 1, 1) := by decide +kernel
theorem dX4_clearOutside_3 : decode cX4_clearOutside 3 = .ok (.bipush 6, 2) := by decide +kernel
theorem dX4_clearOutside_5 : decode cX4_clearOutside 5 = .ok (.if_icmp .ge 43, 3) := by decide +kernel
theorem dX4_clearOutside_8 : decode cX4_clearOutside 8 = .ok (.iconst 0, 1) := by decide +kernel
theorem dX4_clearOutside_9 : decode cX4_clearOutside 9 = .ok (.istore_n 2, 1) := by decide +kernel
theorem dX4_clearOutside_10 : decode cX4_clearOutside 10 = .ok (.iload_n 2, 1) := by decide +kernel
theorem dX4_clearOutside_11 : decode cX4_clearOutside 11 = .ok (.bipush 8, 2) := by decide +kernel
theorem dX4_clearOutside_13 : decode cX4_clearOutside 13 = .ok (.if_icmp .ge 29, 3) := by decide +kernel
theorem dX4_clearOutside_16 : decode cX4_clearOutside 16 = .ok (.aload_n 0, 1) := by decide +kernel
theorem dX4_clearOutside_17 : decode cX4_clearOutside 17 = .ok (.iload_n 2, 1) := by decide +kernel
theorem dX4_clearOutside_18 : decode cX4_clearOutside 18 = .ok (.iload_n 1, 1) := by decide +kernel
theorem dX4_clearOutside_19 : decode cX4_clearOutside 19 = .ok (.invokevirtual 47, 3) := by decide +kernel
theorem dX4_clearOutside_22 : decode cX4_clearOutside 22 = .ok (.ifCond .ne 14, 3) := by decide +kernel
theorem dX4_clearOutside_25 : decode cX4_clearOutside 25 = .ok (.aload_n 0, 1) := by decide +kernel
theorem dX4_clearOutside_26 : decode cX4_clearOutside 26 = .ok (.getfield 21, 3) := by decide +kernel
theorem dX4_clearOutside_29 : decode cX4_clearOutside 29 = .ok (.iload_n 2, 1) := by decide +kernel
theorem dX4_clearOutside_30 : decode cX4_clearOutside 30 = .ok (.iload_n 1, 1) := by decide +kernel
theorem dX4_clearOutside_31 : decode cX4_clearOutside 31 = .ok (.invokestatic 50, 3) := by decide +kernel
theorem dX4_clearOutside_34 : decode cX4_clearOutside 34 = .ok (.iconst 0, 1) := by decide +kernel
theorem dX4_clearOutside_35 : decode cX4_clearOutside 35 = .ok (.iastore, 1) := by decide +kernel
theorem dX4_clearOutside_36 : decode cX4_clearOutside 36 = .ok (.iinc 2 1, 3) := by decide +kernel
theorem dX4_clearOutside_39 : decode cX4_clearOutside 39 = .ok (.goto (-29), 3) := by decide +kernel
theorem dX4_clearOutside_42 : decode cX4_clearOutside 42 = .ok (.iinc 1 1, 3) := by decide +kernel
theorem dX4_clearOutside_45 : decode cX4_clearOutside 45 = .ok (.goto (-43), 3) := by decide +kernel
theorem dX4_clearOutside_48 : decode cX4_clearOutside 48 = .ok (.return_, 1) := by decide +kernel
theorem dX4_placeInOrder_0 : decode cX4_placeInOrder 0 = .ok (.iconst 0, 1) := by decide +kernel
theorem dX4_placeInOrder_1 : decode cX4_placeInOrder 1 = .ok (.istore_n 2, 1) := by decide +kernel
theorem dX4_placeInOrder_2 : decode cX4_placeInOrder 2 = .ok (.iload_n 2, 1) := by decide +kernel
theorem dX4_placeInOrder_3 : decode cX4_placeInOrder 3 = .ok (.iconst 5, 1) := by decide +kernel
theorem dX4_placeInOrder_4 : decode cX4_placeInOrder 4 = .ok (.if_icmp .ge 21, 3) := by decide +kernel
theorem dX4_placeInOrder_7 : decode cX4_placeInOrder 7 = .ok (.aload_n 0, 1) := by decide +kernel
theorem dX4_placeInOrder_8 : decode cX4_placeInOrder 8 = .ok (.getfield 18, 3) := by decide +kernel
theorem dX4_placeInOrder_11 : decode cX4_placeInOrder 11 = .ok (.iload_n 2, 1) := by decide +kernel
theorem dX4_placeInOrder_12 : decode cX4_placeInOrder 12 = .ok (.iaload, 1) := by decide +kernel
theorem dX4_placeInOrder_13 : decode cX4_placeInOrder 13 = .ok (.iload_n 1, 1) := by decide +kernel
theorem dX4_placeInOrder_14 : decode cX4_placeInOrder 14 = .ok (.if_icmp .ne 5, 3) := by decide +kernel
theorem dX4_placeInOrder_17 : decode cX4_placeInOrder 17 = .ok (.iload_n 2, 1) := by decide +kernel
theorem dX4_placeInOrder_18 : decode cX4_placeInOrder 18 = .ok (.ireturn, 1) := by decide +kernel
theorem dX4_placeInOrder_19 : decode cX4_placeInOrder 19 = .ok (.iinc 2 1, 3) := by decide +kernel
theorem dX4_placeInOrder_22 : decode cX4_placeInOrder 22 = .ok (.goto (-20), 3) := by decide +kernel
theorem dX4_placeInOrder_25 : decode cX4_placeInOrder 25 = .ok (.iconst (-1), 1) := by decide +kernel
theorem dX4_placeInOrder_26 : decode cX4_placeInOrder 26 = .ok (.ireturn, 1) := by decide +kernel
theorem dX4_placesWithInk_0 : decode cX4_placesWithInk 0 = .ok (.iconst 0, 1) := by decide +kernel
theorem dX4_placesWithInk_1 : decode cX4_placesWithInk 1 = .ok (.istore_n 2, 1) := by decide +kernel
theorem dX4_placesWithInk_2 : decode cX4_placesWithInk 2 = .ok (.iconst 0, 1) := by decide +kernel
theorem dX4_placesWithInk_3 : decode cX4_placesWithInk 3 = .ok (.istore_n 3, 1) := by decide +kernel
theorem dX4_placesWithInk_4 : decode cX4_placesWithInk 4 = .ok (.iload_n 3, 1) := by decide +kernel
theorem dX4_placesWithInk_5 : decode cX4_placesWithInk 5 = .ok (.bipush 48, 2) := by decide +kernel
theorem dX4_placesWithInk_7 : decode cX4_placesWithInk 7 = .ok (.if_icmp .ge 25, 3) := by decide +kernel
theorem dX4_placesWithInk_10 : decode cX4_placesWithInk 10 = .ok (.aload_n 0, 1) := by decide +kernel
theorem dX4_placesWithInk_11 : decode cX4_placesWithInk 11 = .ok (.getfield 21, 3) := by decide +kernel
theorem dX4_placesWithInk_14 : decode cX4_placesWithInk 14 = .ok (.iload_n 3, 1) := by decide +kernel
theorem dX4_placesWithInk_15 : decode cX4_placesWithInk 15 = .ok (.iaload, 1) := by decide +kernel
theorem dX4_placesWithInk_16 : decode cX4_placesWithInk 16 = .ok (.iload_n 1, 1) := by decide +kernel
theorem dX4_placesWithInk_17 : decode cX4_placesWithInk 17 = .ok (.invokestatic 54, 3) := by decide +kernel
theorem dX4_placesWithInk_20 : decode cX4_placesWithInk 20 = .ok (.ifCond .eq 6, 3) := by decide +kernel
theorem dX4_placesWithInk_23 : decode cX4_placesWithInk 23 = .ok (.iinc 2 1, 3) := by decide +kernel
theorem dX4_placesWithInk_26 : decode cX4_placesWithInk 26 = .ok (.iinc 3 1, 3) := by decide +kernel
theorem dX4_placesWithInk_29 : decode cX4_placesWithInk 29 = .ok (.goto (-25), 3) := by decide +kernel
theorem dX4_placesWithInk_32 : decode cX4_placesWithInk 32 = .ok (.iload_n 2, 1) := by decide +kernel
theorem dX4_placesWithInk_33 : decode cX4_placesWithInk 33 = .ok (.ireturn, 1) := by decide +kernel
theorem dX4_placesOfSet_0 : decode cX4_placesOfSet 0 = .ok (.iconst 0, 1) := by decide +kernel
theorem dX4_placesOfSet_1 : decode cX4_placesOfSet 1 = .ok (.istore_n 2, 1) := by decide +kernel
theorem dX4_placesOfSet_2 : decode cX4_placesOfSet 2 = .ok (.iconst 0, 1) := by decide +kernel
theorem dX4_placesOfSet_3 : decode cX4_placesOfSet 3 = .ok (.istore_n 3, 1) := by decide +kernel
theorem dX4_placesOfSet_4 : decode cX4_placesOfSet 4 = .ok (.iload_n 3, 1) := by decide +kernel
theorem dX4_placesOfSet_5 : decode cX4_placesOfSet 5 = .ok (.aload_n 0, 1) := by decide +kernel
theorem dX4_placesOfSet_6 : decode cX4_placesOfSet 6 = .ok (.getfield 28, 3) := by decide +kernel
theorem dX4_placesOfSet_9 : decode cX4_placesOfSet 9 = .ok (.if_icmp .ge 41, 3) := by decide +kernel
theorem dX4_placesOfSet_12 : decode cX4_placesOfSet 12 = .ok (.iconst 0, 1) := by decide +kernel
theorem dX4_placesOfSet_13 : decode cX4_placesOfSet 13 = .ok (.istore 4, 2) := by decide +kernel
theorem dX4_placesOfSet_15 : decode cX4_placesOfSet 15 = .ok (.iload 4, 2) := by decide +kernel
theorem dX4_placesOfSet_17 : decode cX4_placesOfSet 17 = .ok (.aload_n 0, 1) := by decide +kernel
theorem dX4_placesOfSet_18 : decode cX4_placesOfSet 18 = .ok (.getfield 24, 3) := by decide +kernel
theorem dX4_placesOfSet_21 : decode cX4_placesOfSet 21 = .ok (.if_icmp .ge 23, 3) := by decide +kernel
theorem dX4_placesOfSet_24 : decode cX4_placesOfSet 24 = .ok (.aload_n 0, 1) := by decide +kernel
theorem dX4_placesOfSet_25 : decode cX4_placesOfSet 25 = .ok (.iload 4, 2) := by decide +kernel
theorem dX4_placesOfSet_27 : decode cX4_placesOfSet 27 = .ok (.iload_n 3, 1) := by decide +kernel
theorem dX4_placesOfSet_28 : decode cX4_placesOfSet 28 = .ok (.invokevirtual 57, 3) := by decide +kernel
theorem dX4_placesOfSet_31 : decode cX4_placesOfSet 31 = .ok (.iload_n 1, 1) := by decide +kernel
theorem dX4_placesOfSet_32 : decode cX4_placesOfSet 32 = .ok (.if_icmp .ne 6, 3) := by decide +kernel
theorem dX4_placesOfSet_35 : decode cX4_placesOfSet 35 = .ok (.iinc 2 1, 3) := by decide +kernel
theorem dX4_placesOfSet_38 : decode cX4_placesOfSet 38 = .ok (.iinc 4 1, 3) := by decide +kernel
theorem dX4_placesOfSet_41 : decode cX4_placesOfSet 41 = .ok (.goto (-26), 3) := by decide +kernel
theorem dX4_placesOfSet_44 : decode cX4_placesOfSet 44 = .ok (.iinc 3 1, 3) := by decide +kernel
theorem dX4_placesOfSet_47 : decode cX4_placesOfSet 47 = .ok (.goto (-43), 3) := by decide +kernel
theorem dX4_placesOfSet_50 : decode cX4_placesOfSet 50 = .ok (.iload_n 2, 1) := by decide +kernel
theorem dX4_placesOfSet_51 : decode cX4_placesOfSet 51 = .ok (.ireturn, 1) := by decide +kernel
theorem dX4_inksDrawn_0 : decode cX4_inksDrawn 0 = .ok (.iconst 0, 1) := by decide +kernel
theorem dX4_inksDrawn_1 : decode cX4_inksDrawn 1 = .ok (.istore_n 1, 1) := by decide +kernel
theorem dX4_inksDrawn_2 : decode cX4_inksDrawn 2 = .ok (.iconst 0, 1) := by decide +kernel
theorem dX4_inksDrawn_3 : decode cX4_inksDrawn 3 = .ok (.istore_n 2, 1) := by decide +kernel
theorem dX4_inksDrawn_4 : decode cX4_inksDrawn 4 = .ok (.iload_n 2, 1) := by decide +kernel
theorem dX4_inksDrawn_5 : decode cX4_inksDrawn 5 = .ok (.bipush 48, 2) := by decide +kernel
theorem dX4_inksDrawn_7 : decode cX4_inksDrawn 7 = .ok (.if_icmp .ge 18, 3) := by decide +kernel
theorem dX4_inksDrawn_10 : decode cX4_inksDrawn 10 = .ok (.iload_n 1, 1) := by decide +kernel
theorem dX4_inksDrawn_11 : decode cX4_inksDrawn 11 = .ok (.aload_n 0, 1) := by decide +kernel
theorem dX4_inksDrawn_12 : decode cX4_inksDrawn 12 = .ok (.getfield 21, 3) := by decide +kernel
theorem dX4_inksDrawn_15 : decode cX4_inksDrawn 15 = .ok (.iload_n 2, 1) := by decide +kernel
theorem dX4_inksDrawn_16 : decode cX4_inksDrawn 16 = .ok (.iaload, 1) := by decide +kernel
theorem dX4_inksDrawn_17 : decode cX4_inksDrawn 17 = .ok (.ior, 1) := by decide +kernel
theorem dX4_inksDrawn_18 : decode cX4_inksDrawn 18 = .ok (.istore_n 1, 1) := by decide +kernel
theorem dX4_inksDrawn_19 : decode cX4_inksDrawn 19 = .ok (.iinc 2 1, 3) := by decide +kernel
theorem dX4_inksDrawn_22 : decode cX4_inksDrawn 22 = .ok (.goto (-18), 3) := by decide +kernel
theorem dX4_inksDrawn_25 : decode cX4_inksDrawn 25 = .ok (.iload_n 1, 1) := by decide +kernel
theorem dX4_inksDrawn_26 : decode cX4_inksDrawn 26 = .ok (.ireturn, 1) := by decide +kernel
theorem dX4_setsDrawn_0 : decode cX4_setsDrawn 0 = .ok (.iconst 0, 1) := by decide +kernel
theorem dX4_setsDrawn_1 : decode cX4_setsDrawn 1 = .ok (.istore_n 1, 1) := by decide +kernel
theorem dX4_setsDrawn_2 : decode cX4_setsDrawn 2 = .ok (.iconst 0, 1) := by decide +kernel
theorem dX4_setsDrawn_3 : decode cX4_setsDrawn 3 = .ok (.istore_n 2, 1) := by decide +kernel
theorem dX4_setsDrawn_4 : decode cX4_setsDrawn 4 = .ok (.iload_n 2, 1) := by decide +kernel
theorem dX4_setsDrawn_5 : decode cX4_setsDrawn 5 = .ok (.aload_n 0, 1) := by decide +kernel
theorem dX4_setsDrawn_6 : decode cX4_setsDrawn 6 = .ok (.getfield 28, 3) := by decide +kernel
theorem dX4_setsDrawn_9 : decode cX4_setsDrawn 9 = .ok (.if_icmp .ge 36, 3) := by decide +kernel
theorem dX4_setsDrawn_12 : decode cX4_setsDrawn 12 = .ok (.iconst 0, 1) := by decide +kernel
theorem dX4_setsDrawn_13 : decode cX4_setsDrawn 13 = .ok (.istore_n 3, 1) := by decide +kernel
theorem dX4_setsDrawn_14 : decode cX4_setsDrawn 14 = .ok (.iload_n 3, 1) := by decide +kernel
theorem dX4_setsDrawn_15 : decode cX4_setsDrawn 15 = .ok (.aload_n 0, 1) := by decide +kernel
theorem dX4_setsDrawn_16 : decode cX4_setsDrawn 16 = .ok (.getfield 24, 3) := by decide +kernel
theorem dX4_setsDrawn_19 : decode cX4_setsDrawn 19 = .ok (.if_icmp .ge 20, 3) := by decide +kernel
theorem dX4_setsDrawn_22 : decode cX4_setsDrawn 22 = .ok (.iload_n 1, 1) := by decide +kernel
theorem dX4_setsDrawn_23 : decode cX4_setsDrawn 23 = .ok (.iconst 1, 1) := by decide +kernel
theorem dX4_setsDrawn_24 : decode cX4_setsDrawn 24 = .ok (.aload_n 0, 1) := by decide +kernel
theorem dX4_setsDrawn_25 : decode cX4_setsDrawn 25 = .ok (.iload_n 3, 1) := by decide +kernel
theorem dX4_setsDrawn_26 : decode cX4_setsDrawn 26 = .ok (.iload_n 2, 1) := by decide +kernel
theorem dX4_setsDrawn_27 : decode cX4_setsDrawn 27 = .ok (.invokevirtual 57, 3) := by decide +kernel
theorem dX4_setsDrawn_30 : decode cX4_setsDrawn 30 = .ok (.ishl, 1) := by decide +kernel
theorem dX4_setsDrawn_31 : decode cX4_setsDrawn 31 = .ok (.ior, 1) := by decide +kernel
theorem dX4_setsDrawn_32 : decode cX4_setsDrawn 32 = .ok (.istore_n 1, 1) := by decide +kernel
theorem dX4_setsDrawn_33 : decode cX4_setsDrawn 33 = .ok (.iinc 3 1, 3) := by decide +kernel
theorem dX4_setsDrawn_36 : decode cX4_setsDrawn 36 = .ok (.goto (-22), 3) := by decide +kernel
theorem dX4_setsDrawn_39 : decode cX4_setsDrawn 39 = .ok (.iinc 2 1, 3) := by decide +kernel
theorem dX4_setsDrawn_42 : decode cX4_setsDrawn 42 = .ok (.goto (-38), 3) := by decide +kernel
theorem dX4_setsDrawn_45 : decode cX4_setsDrawn 45 = .ok (.iload_n 1, 1) := by decide +kernel
theorem dX4_setsDrawn_46 : decode cX4_setsDrawn 46 = .ok (.ireturn, 1) := by decide +kernel
theorem dX5_init_0 : decode cX5_init 0 = .ok (.aload_n 0, 1) := by decide +kernel
theorem dX5_init_1 : decode cX5_init 1 = .ok (.invokespecial 3, 3) := by decide +kernel
theorem dX5_init_4 : decode cX5_init 4 = .ok (.aload_n 0, 1) := by decide +kernel
theorem dX5_init_5 : decode cX5_init 5 = .ok (.bipush 100, 2) := by decide +kernel
theorem dX5_init_7 : decode cX5_init 7 = .ok (.newarray .int, 2) := by decide +kernel
theorem dX5_init_9 : decode cX5_init 9 = .ok (.putfield 9, 3) := by decide +kernel
theorem dX5_init_12 : decode cX5_init 12 = .ok (.aload_n 0, 1) := by decide +kernel
theorem dX5_init_13 : decode cX5_init 13 = .ok (.bipush 48, 2) := by decide +kernel
theorem dX5_init_15 : decode cX5_init 15 = .ok (.newarray .int, 2) := by decide +kernel
theorem dX5_init_17 : decode cX5_init 17 = .ok (.putfield 15, 3) := by decide +kernel
theorem dX5_init_20 : decode cX5_init 20 = .ok (.aload_n 0, 1) := by decide +kernel
theorem dX5_init_21 : decode cX5_init 21 = .ok (.iconst 0, 1) := by decide +kernel
theorem dX5_init_22 : decode cX5_init 22 = .ok (.putfield 18, 3) := by decide +kernel
theorem dX5_init_25 : decode cX5_init 25 = .ok (.aload_n 0, 1) := by decide +kernel
theorem dX5_init_26 : decode cX5_init 26 = .ok (.iconst 0, 1) := by decide +kernel
theorem dX5_init_27 : decode cX5_init 27 = .ok (.putfield 22, 3) := by decide +kernel
theorem dX5_init_30 : decode cX5_init 30 = .ok (.aload_n 0, 1) := by decide +kernel
theorem dX5_init_31 : decode cX5_init 31 = .ok (.iconst 0, 1) := by decide +kernel
theorem dX5_init_32 : decode cX5_init 32 = .ok (.putfield 25, 3) := by decide +kernel
theorem dX5_init_35 : decode cX5_init 35 = .ok (.aload_n 0, 1) := by decide +kernel
theorem dX5_init_36 : decode cX5_init 36 = .ok (.iconst 0, 1) := by decide +kernel
theorem dX5_init_37 : decode cX5_init 37 = .ok (.putfield 28, 3) := by decide +kernel
theorem dX5_init_40 : decode cX5_init 40 = .ok (.aload_n 0, 1) := by decide +kernel
theorem dX5_init_41 : decode cX5_init 41 = .ok (.iconst 0, 1) := by decide +kernel
theorem dX5_init_42 : decode cX5_init 42 = .ok (.putfield 31, 3) := by decide +kernel
theorem dX5_init_45 : decode cX5_init 45 = .ok (.return_, 1) := by decide +kernel
theorem dX5_add_0 : decode cX5_add 0 = .ok (.aload_n 0, 1) := by decide +kernel
theorem dX5_add_1 : decode cX5_add 1 = .ok (.getfield 18, 3) := by decide +kernel
theorem dX5_add_4 : decode cX5_add 4 = .ok (.bipush 100, 2) := by decide +kernel
theorem dX5_add_6 : decode cX5_add 6 = .ok (.invokestatic 34, 3) := by decide +kernel
theorem dX5_add_9 : decode cX5_add 9 = .ok (.ifCond .ne 5, 3) := by decide +kernel
theorem dX5_add_12 : decode cX5_add 12 = .ok (.iconst 0, 1) := by decide +kernel
theorem dX5_add_13 : decode cX5_add 13 = .ok (.ireturn, 1) := by decide +kernel
theorem dX5_add_14 : decode cX5_add 14 = .ok (.aload_n 0, 1) := by decide +kernel
theorem dX5_add_15 : decode cX5_add 15 = .ok (.getfield 9, 3) := by decide +kernel
theorem dX5_add_18 : decode cX5_add 18 = .ok (.aload_n 0, 1) := by decide +kernel
theorem dX5_add_19 : decode cX5_add 19 = .ok (.getfield 18, 3) := by decide +kernel
theorem dX5_add_22 : decode cX5_add 22 = .ok (.iload_n 1, 1) := by decide +kernel
theorem dX5_add_23 : decode cX5_add 23 = .ok (.iastore, 1) := by decide +kernel
theorem dX5_add_24 : decode cX5_add 24 = .ok (.aload_n 0, 1) := by decide +kernel
theorem dX5_add_25 : decode cX5_add 25 = .ok (.dup, 1) := by decide +kernel
theorem dX5_add_26 : decode cX5_add 26 = .ok (.getfield 18, 3) := by decide +kernel
theorem dX5_add_29 : decode cX5_add 29 = .ok (.iconst 1, 1) := by decide +kernel
theorem dX5_add_30 : decode cX5_add 30 = .ok (.iadd, 1) := by decide +kernel
theorem dX5_add_31 : decode cX5_add 31 = .ok (.putfield 18, 3) := by decide +kernel
theorem dX5_add_34 : decode cX5_add 34 = .ok (.iconst 1, 1) := by decide +kernel
theorem dX5_add_35 : decode cX5_add 35 = .ok (.ireturn, 1) := by decide +kernel
theorem dX5_read_0 : decode cX5_read 0 = .ok (.aload_n 0, 1) := by decide +kernel
theorem dX5_read_1 : decode cX5_read 1 = .ok (.invokevirtual 38, 3) := by decide +kernel
theorem dX5_read_4 : decode cX5_read 4 = .ok (.iconst 0, 1) := by decide +kernel
theorem dX5_read_5 : decode cX5_read 5 = .ok (.istore_n 1, 1) := by decide +kernel
theorem dX5_read_6 : decode cX5_read 6 = .ok (.iload_n 1, 1) := by decide +kernel
theorem dX5_read_7 : decode cX5_read 7 = .ok (.bipush 100, 2) := by decide +kernel
theorem dX5_read_9 : decode cX5_read 9 = .ok (.if_icmp .gt 81, 3) := by decide +kernel
theorem dX5_read_12 : decode cX5_read 12 = .ok (.aload_n 0, 1) := by decide +kernel
theorem dX5_read_13 : decode cX5_read 13 = .ok (.invokevirtual 41, 3) := by decide +kernel
theorem dX5_read_16 : decode cX5_read 16 = .ok (.istore_n 2, 1) := by decide +kernel
theorem dX5_read_17 : decode cX5_read 17 = .ok (.iload_n 2, 1) := by decide +kernel
theorem dX5_read_18 : decode cX5_read 18 = .ok (.ifCond .ne 8, 3) := by decide +kernel
theorem dX5_read_21 : decode cX5_read 21 = .ok (.aload_n 0, 1) := by decide +kernel
theorem dX5_read_22 : decode cX5_read 22 = .ok (.invokevirtual 45, 3) := by decide +kernel
theorem dX5_read_25 : decode cX5_read 25 = .ok (.ireturn, 1) := by decide +kernel
theorem dX5_read_26 : decode cX5_read 26 = .ok (.iload_n 2, 1) := by decide +kernel
theorem dX5_read_27 : decode cX5_read 27 = .ok (.bipush 47, 2) := by decide +kernel
theorem dX5_read_29 : decode cX5_read 29 = .ok (.if_icmp .ne 27, 3) := by decide +kernel
theorem dX5_read_32 : decode cX5_read 32 = .ok (.aload_n 0, 1) := by decide +kernel
theorem dX5_read_33 : decode cX5_read 33 = .ok (.invokevirtual 45, 3) := by decide +kernel
theorem dX5_read_36 : decode cX5_read 36 = .ok (.ifCond .eq 16, 3) := by decide +kernel
theorem dX5_read_39 : decode cX5_read 39 = .ok (.aload_n 0, 1) := by decide +kernel
theorem dX5_read_40 : decode cX5_read 40 = .ok (.getfield 28, 3) := by decide +kernel
theorem dX5_read_43 : decode cX5_read 43 = .ok (.bipush 6, 2) := by decide +kernel
theorem dX5_read_45 : decode cX5_read 45 = .ok (.if_icmp .ge 7, 3) := by decide +kernel
theorem dX5_read_48 : decode cX5_read 48 = .ok (.iconst 1, 1) := by decide +kernel
theorem dX5_read_49 : decode cX5_read 49 = .ok (.goto 12, 3) := by decide +kernel
theorem dX5_read_52 : decode cX5_read 52 = .ok (.iconst 0, 1) := by decide +kernel
theorem dX5_read_53 : decode cX5_read 53 = .ok (.goto 8, 3) := by decide +kernel
theorem dX5_read_56 : decode cX5_read 56 = .ok (.aload_n 0, 1) := by decide +kernel
theorem dX5_read_57 : decode cX5_read 57 = .ok (.iload_n 2, 1) := by decide +kernel
theorem dX5_read_58 : decode cX5_read 58 = .ok (.invokevirtual 49, 3) := by decide +kernel
theorem dX5_read_61 : decode cX5_read 61 = .ok (.istore_n 3, 1) := by decide +kernel
theorem dX5_read_62 : decode cX5_read 62 = .ok (.iload_n 3, 1) := by decide +kernel
theorem dX5_read_63 : decode cX5_read 63 = .ok (.ifCond .ne 5, 3) := by decide +kernel
theorem dX5_read_66 : decode cX5_read 66 = .ok (.iconst 0, 1) := by decide +kernel
theorem dX5_read_67 : decode cX5_read 67 = .ok (.ireturn, 1) := by decide +kernel
theorem dX5_read_68 : decode cX5_read 68 = .ok (.iload_n 2, 1) := by decide +kernel
theorem dX5_read_69 : decode cX5_read 69 = .ok (.bipush 47, 2) := by decide +kernel
theorem dX5_read_71 : decode cX5_read 71 = .ok (.if_icmp .ne 13, 3) := by decide +kernel
theorem dX5_read_74 : decode cX5_read 74 = .ok (.aload_n 0, 1) := by decide +kernel
theorem dX5_read_75 : decode cX5_read 75 = .ok (.dup, 1) := by decide +kernel
theorem dX5_read_76 : decode cX5_read 76 = .ok (.getfield 22, 3) := by decide +kernel
theorem dX5_read_79 : decode cX5_read 79 = .ok (.iconst 1, 1) := by decide +kernel
theorem dX5_read_80 : decode cX5_read 80 = .ok (.iadd, 1) := by decide +kernel
theorem dX5_read_81 : decode cX5_read 81 = .ok (.putfield 22, 3) := by decide +kernel
theorem dX5_read_84 : decode cX5_read 84 = .ok (.iinc 1 1, 3) := by decide +kernel
theorem dX5_read_87 : decode cX5_read 87 = .ok (.goto (-81), 3) := by decide +kernel
theorem dX5_read_90 : decode cX5_read 90 = .ok (.iconst 0, 1) := by decide +kernel
theorem dX5_read_91 : decode cX5_read 91 = .ok (.ireturn, 1) := by decide +kernel
theorem dX5_begin_0 : decode cX5_begin 0 = .ok (.aload_n 0, 1) := by decide +kernel
theorem dX5_begin_1 : decode cX5_begin 1 = .ok (.iconst 0, 1) := by decide +kernel
theorem dX5_begin_2 : decode cX5_begin 2 = .ok (.putfield 22, 3) := by decide +kernel
theorem dX5_begin_5 : decode cX5_begin 5 = .ok (.aload_n 0, 1) := by decide +kernel
theorem dX5_begin_6 : decode cX5_begin 6 = .ok (.iconst 0, 1) := by decide +kernel
theorem dX5_begin_7 : decode cX5_begin 7 = .ok (.putfield 25, 3) := by decide +kernel
theorem dX5_begin_10 : decode cX5_begin 10 = .ok (.aload_n 0, 1) := by decide +kernel
theorem dX5_begin_11 : decode cX5_begin 11 = .ok (.iconst 0, 1) := by decide +kernel
theorem dX5_begin_12 : decode cX5_begin 12 = .ok (.putfield 28, 3) := by decide +kernel
theorem dX5_begin_15 : decode cX5_begin 15 = .ok (.aload_n 0, 1) := by decide +kernel
theorem dX5_begin_16 : decode cX5_begin 16 = .ok (.iconst 0, 1) := by decide +kernel
theorem dX5_begin_17 : decode cX5_begin 17 = .ok (.putfield 31, 3) := by decide +kernel
theorem dX5_begin_20 : decode cX5_begin 20 = .ok (.iconst 0, 1) := by decide +kernel
theorem dX5_begin_21 : decode cX5_begin 21 = .ok (.istore_n 1, 1) := by decide +kernel
theorem dX5_begin_22 : decode cX5_begin 22 = .ok (.iload_n 1, 1) := by decide +kernel
theorem dX5_begin_23 : decode cX5_begin 23 = .ok (.bipush 48, 2) := by decide +kernel
theorem dX5_begin_25 : decode cX5_begin 25 = .ok (.if_icmp .ge 16, 3) := by decide +kernel
theorem dX5_begin_28 : decode cX5_begin 28 = .ok (.aload_n 0, 1) := by decide +kernel
theorem dX5_begin_29 : decode cX5_begin 29 = .ok (.getfield 15, 3) := by decide +kernel
theorem dX5_begin_32 : decode cX5_begin 32 = .ok (.iload_n 1, 1) := by decide +kernel
theorem dX5_begin_33 : decode cX5_begin 33 = .ok (.iconst 0, 1) := by decide +kernel
theorem dX5_begin_34 : decode cX5_begin 34 = .ok (.iastore, 1) := by decide +kernel
theorem dX5_begin_35 : decode cX5_begin 35 = .ok (.iinc 1 1, 3) := by decide +kernel
theorem dX5_begin_38 : decode cX5_begin 38 = .ok (.goto (-16), 3) := by decide +kernel
theorem dX5_begin_41 : decode cX5_begin 41 = .ok (.return_, 1) := by decide +kernel
theorem dX5_letterBehindBlanks_0 : decode cX5_letterBehindBlanks 0 = .ok (.aload_n 0, 1) := by decide +kernel
theorem dX5_letterBehindBlanks_1 : decode cX5_letterBehindBlanks 1 = .ok (.getfield 22, 3) := by decide +kernel
theorem dX5_letterBehindBlanks_4 : decode cX5_letterBehindBlanks 4 = .ok (.aload_n 0, 1) := by decide +kernel
theorem dX5_letterBehindBlanks_5 : decode cX5_letterBehindBlanks 5 = .ok (.getfield 18, 3) := by decide +kernel
theorem dX5_letterBehindBlanks_8 : decode cX5_letterBehindBlanks 8 = .ok (.if_icmp .ge 39, 3) := by decide +kernel
theorem dX5_letterBehindBlanks_11 : decode cX5_letterBehindBlanks 11 = .ok (.aload_n 0, 1) := by decide +kernel
theorem dX5_letterBehindBlanks_12 : decode cX5_letterBehindBlanks 12 = .ok (.getfield 22, 3) := by decide +kernel
theorem dX5_letterBehindBlanks_15 : decode cX5_letterBehindBlanks 15 = .ok (.bipush 100, 2) := by decide +kernel
theorem dX5_letterBehindBlanks_17 : decode cX5_letterBehindBlanks 17 = .ok (.if_icmp .ge 30, 3) := by decide +kernel
theorem dX5_letterBehindBlanks_20 : decode cX5_letterBehindBlanks 20 = .ok (.aload_n 0, 1) := by decide +kernel
theorem dX5_letterBehindBlanks_21 : decode cX5_letterBehindBlanks 21 = .ok (.getfield 9, 3) := by decide +kernel
theorem dX5_letterBehindBlanks_24 : decode cX5_letterBehindBlanks 24 = .ok (.aload_n 0, 1) := by decide +kernel
theorem dX5_letterBehindBlanks_25 : decode cX5_letterBehindBlanks 25 = .ok (.getfield 22, 3) := by decide +kernel
theorem dX5_letterBehindBlanks_28 : decode cX5_letterBehindBlanks 28 = .ok (.iaload, 1) := by decide +kernel
theorem dX5_letterBehindBlanks_29 : decode cX5_letterBehindBlanks 29 = .ok (.bipush 32, 2) := by decide +kernel
theorem dX5_letterBehindBlanks_31 : decode cX5_letterBehindBlanks 31 = .ok (.if_icmp .ne 16, 3) := by decide +kernel
theorem dX5_letterBehindBlanks_34 : decode cX5_letterBehindBlanks 34 = .ok (.aload_n 0, 1) := by decide +kernel
theorem dX5_letterBehindBlanks_35 : decode cX5_letterBehindBlanks 35 = .ok (.dup, 1) := by decide +kernel
theorem dX5_letterBehindBlanks_36 : decode cX5_letterBehindBlanks 36 = .ok (.getfield 22, 3) := by decide +kernel
theorem dX5_letterBehindBlanks_39 : decode cX5_letterBehindBlanks 39 = .ok (.iconst 1, 1) := by decide +kernel
theorem dX5_letterBehindBlanks_40 : decode cX5_letterBehindBlanks 40 = .ok (.iadd, 1) := by decide +kernel
theorem dX5_letterBehindBlanks_41 : decode cX5_letterBehindBlanks 41 = .ok (.putfield 22, 3) := by decide +kernel
theorem dX5_letterBehindBlanks_44 : decode cX5_letterBehindBlanks 44 = .ok (.goto (-44), 3) := by decide +kernel
theorem dX5_letterBehindBlanks_47 : decode cX5_letterBehindBlanks 47 = .ok (.aload_n 0, 1) := by decide +kernel
theorem dX5_letterBehindBlanks_48 : decode cX5_letterBehindBlanks 48 = .ok (.getfield 22, 3) := by decide +kernel
theorem dX5_letterBehindBlanks_51 : decode cX5_letterBehindBlanks 51 = .ok (.aload_n 0, 1) := by decide +kernel
theorem dX5_letterBehindBlanks_52 : decode cX5_letterBehindBlanks 52 = .ok (.getfield 18, 3) := by decide +kernel
theorem dX5_letterBehindBlanks_55 : decode cX5_letterBehindBlanks 55 = .ok (.if_icmp .ge 27, 3) := by decide +kernel
theorem dX5_letterBehindBlanks_58 : decode cX5_letterBehindBlanks 58 = .ok (.aload_n 0, 1) := by decide +kernel
theorem dX5_letterBehindBlanks_59 : decode cX5_letterBehindBlanks 59 = .ok (.getfield 22, 3) := by decide +kernel
theorem dX5_letterBehindBlanks_62 : decode cX5_letterBehindBlanks 62 = .ok (.bipush 100, 2) := by decide +kernel
theorem dX5_letterBehindBlanks_64 : decode cX5_letterBehindBlanks 64 = .ok (.invokestatic 34, 3) := by decide +kernel
theorem dX5_letterBehindBlanks_67 : decode cX5_letterBehindBlanks 67 = .ok (.ifCond .eq 15, 3) := by decide +kernel
theorem dX5_letterBehindBlanks_70 : decode cX5_letterBehindBlanks 70 = .ok (.aload_n 0, 1) := by decide +kernel
theorem dX5_letterBehindBlanks_71 : decode cX5_letterBehindBlanks 71 = .ok (.getfield 9, 3) := by decide +kernel
theorem dX5_letterBehindBlanks_74 : decode cX5_letterBehindBlanks 74 = .ok (.aload_n 0, 1) := by decide +kernel
theorem dX5_letterBehindBlanks_75 : decode cX5_letterBehindBlanks 75 = .ok (.getfield 22, 3) := by decide +kernel
theorem dX5_letterBehindBlanks_78 : decode cX5_letterBehindBlanks 78 = .ok (.iaload, 1) := by decide +kernel
theorem dX5_letterBehindBlanks_79 : decode cX5_letterBehindBlanks 79 = .ok (.goto 4, 3) := by decide +kernel
theorem dX5_letterBehindBlanks_82 : decode cX5_letterBehindBlanks 82 = .ok (.iconst 0, 1) := by decide +kernel
theorem dX5_letterBehindBlanks_83 : decode cX5_letterBehindBlanks 83 = .ok (.ireturn, 1) := by decide +kernel
theorem dX5_endLine_0 : decode cX5_endLine 0 = .ok (.aload_n 0, 1) := by decide +kernel
theorem dX5_endLine_1 : decode cX5_endLine 1 = .ok (.getfield 31, 3) := by decide +kernel
theorem dX5_endLine_4 : decode cX5_endLine 4 = .ok (.ifCond .eq 21, 3) := by decide +kernel
theorem dX5_endLine_7 : decode cX5_endLine 7 = .ok (.aload_n 0, 1) := by decide +kernel
theorem dX5_endLine_8 : decode cX5_endLine 8 = .ok (.getfield 28, 3) := by decide +kernel
theorem dX5_endLine_11 : decode cX5_endLine 11 = .ok (.ifCond .le 16, 3) := by decide +kernel
theorem dX5_endLine_14 : decode cX5_endLine 14 = .ok (.aload_n 0, 1) := by decide +kernel
theorem dX5_endLine_15 : decode cX5_endLine 15 = .ok (.getfield 31, 3) := by decide +kernel
theorem dX5_endLine_18 : decode cX5_endLine 18 = .ok (.aload_n 0, 1) := by decide +kernel
theorem dX5_endLine_19 : decode cX5_endLine 19 = .ok (.getfield 25, 3) := by decide +kernel
theorem dX5_endLine_22 : decode cX5_endLine 22 = .ok (.if_icmp .eq 5, 3) := by decide +kernel
theorem dX5_endLine_25 : decode cX5_endLine 25 = .ok (.iconst 0, 1) := by decide +kernel
theorem dX5_endLine_26 : decode cX5_endLine 26 = .ok (.ireturn, 1) := by decide +kernel
theorem dX5_endLine_27 : decode cX5_endLine 27 = .ok (.aload_n 0, 1) := by decide +kernel
theorem dX5_endLine_28 : decode cX5_endLine 28 = .ok (.aload_n 0, 1) := by decide +kernel
theorem dX5_endLine_29 : decode cX5_endLine 29 = .ok (.getfield 31, 3) := by decide +kernel
theorem dX5_endLine_32 : decode cX5_endLine 32 = .ok (.putfield 25, 3) := by decide +kernel
theorem dX5_endLine_35 : decode cX5_endLine 35 = .ok (.aload_n 0, 1) := by decide +kernel
theorem dX5_endLine_36 : decode cX5_endLine 36 = .ok (.iconst 0, 1) := by decide +kernel
theorem dX5_endLine_37 : decode cX5_endLine 37 = .ok (.putfield 31, 3) := by decide +kernel
theorem dX5_endLine_40 : decode cX5_endLine 40 = .ok (.aload_n 0, 1) := by decide +kernel
theorem dX5_endLine_41 : decode cX5_endLine 41 = .ok (.dup, 1) := by decide +kernel
theorem dX5_endLine_42 : decode cX5_endLine 42 = .ok (.getfield 28, 3) := by decide +kernel
theorem dX5_endLine_45 : decode cX5_endLine 45 = .ok (.iconst 1, 1) := by decide +kernel
theorem dX5_endLine_46 : decode cX5_endLine 46 = .ok (.iadd, 1) := by decide +kernel
theorem dX5_endLine_47 : decode cX5_endLine 47 = .ok (.putfield 28, 3) := by decide +kernel
theorem dX5_endLine_50 : decode cX5_endLine 50 = .ok (.iconst 1, 1) := by decide +kernel
theorem dX5_endLine_51 : decode cX5_endLine 51 = .ok (.ireturn, 1) := by decide +kernel
theorem dX5_readRun_0 : decode cX5_readRun 0 = .ok (.iload_n 1, 1) := by decide +kernel
theorem dX5_readRun_1 : decode cX5_readRun 1 = .ok (.bipush 49, 2) := by decide +kernel
theorem dX5_readRun_3 : decode cX5_readRun 3 = .ok (.if_icmp .lt 13, 3) := by decide +kernel
theorem dX5_readRun_6 : decode cX5_readRun 6 = .ok (.iload_n 1, 1) := by decide +kernel
theorem dX5_readRun_7 : decode cX5_readRun 7 = .ok (.bipush 56, 2) := by decide +kernel
theorem dX5_readRun_9 : decode cX5_readRun 9 = .ok (.if_icmp .gt 7, 3) := by decide +kernel
theorem dX5_readRun_12 : decode cX5_readRun 12 = .ok (.iconst 1, 1) := by decide +kernel
theorem dX5_readRun_13 : decode cX5_readRun 13 = .ok (.goto 4, 3) := by decide +kernel
theorem dX5_readRun_16 : decode cX5_readRun 16 = .ok (.iconst 0, 1) := by decide +kernel
theorem dX5_readRun_17 : decode cX5_readRun 17 = .ok (.istore_n 2, 1) := by decide +kernel
theorem dX5_readRun_18 : decode cX5_readRun 18 = .ok (.iload_n 2, 1) := by decide +kernel
theorem dX5_readRun_19 : decode cX5_readRun 19 = .ok (.ifCond .eq 10, 3) := by decide +kernel
theorem dX5_readRun_22 : decode cX5_readRun 22 = .ok (.iload_n 1, 1) := by decide +kernel
theorem dX5_readRun_23 : decode cX5_readRun 23 = .ok (.bipush 48, 2) := by decide +kernel
theorem dX5_readRun_25 : decode cX5_readRun 25 = .ok (.isub, 1) := by decide +kernel
theorem dX5_readRun_26 : decode cX5_readRun 26 = .ok (.goto 4, 3) := by decide +kernel
theorem dX5_readRun_29 : decode cX5_readRun 29 = .ok (.iconst 1, 1) := by decide +kernel
theorem dX5_readRun_30 : decode cX5_readRun 30 = .ok (.istore_n 3, 1) := by decide +kernel
theorem dX5_readRun_31 : decode cX5_readRun 31 = .ok (.aload_n 0, 1) := by decide +kernel
theorem dX5_readRun_32 : decode cX5_readRun 32 = .ok (.getfield 31, 3) := by decide +kernel
theorem dX5_readRun_35 : decode cX5_readRun 35 = .ok (.iload_n 3, 1) := by decide +kernel
theorem dX5_readRun_36 : decode cX5_readRun 36 = .ok (.iadd, 1) := by decide +kernel
theorem dX5_readRun_37 : decode cX5_readRun 37 = .ok (.aload_n 0, 1) := by decide +kernel
theorem dX5_readRun_38 : decode cX5_readRun 38 = .ok (.getfield 28, 3) := by decide +kernel
theorem dX5_readRun_41 : decode cX5_readRun 41 = .ok (.ifCond .ne 8, 3) := by decide +kernel
theorem dX5_readRun_44 : decode cX5_readRun 44 = .ok (.bipush 8, 2) := by decide +kernel
theorem dX5_readRun_46 : decode cX5_readRun 46 = .ok (.goto 7, 3) := by decide +kernel
theorem dX5_readRun_49 : decode cX5_readRun 49 = .ok (.aload_n 0, 1) := by decide +kernel
theorem dX5_readRun_50 : decode cX5_readRun 50 = .ok (.getfield 25, 3) := by decide +kernel
theorem dX5_readRun_53 : decode cX5_readRun 53 = .ok (.if_icmp .le 5, 3) := by decide +kernel
theorem dX5_readRun_56 : decode cX5_readRun 56 = .ok (.iconst 0, 1) := by decide +kernel
theorem dX5_readRun_57 : decode cX5_readRun 57 = .ok (.ireturn, 1) := by decide +kernel
theorem dX5_readRun_58 : decode cX5_readRun 58 = .ok (.iload_n 2, 1) := by decide +kernel
theorem dX5_readRun_59 : decode cX5_readRun 59 = .ok (.ifCond .eq 13, 3) := by decide +kernel
theorem dX5_readRun_62 : decode cX5_readRun 62 = .ok (.aload_n 0, 1) := by decide +kernel
theorem dX5_readRun_63 : decode cX5_readRun 63 = .ok (.dup, 1) := by decide +kernel
theorem dX5_readRun_64 : decode cX5_readRun 64 = .ok (.getfield 22, 3) := by decide +kernel
theorem dX5_readRun_67 : decode cX5_readRun 67 = .ok (.iconst 1, 1) := by decide +kernel
theorem dX5_readRun_68 : decode cX5_readRun 68 = .ok (.iadd, 1) := by decide +kernel
theorem dX5_readRun_69 : decode cX5_readRun 69 = .ok (.putfield 22, 3) := by decide +kernel
theorem dX5_readRun_72 : decode cX5_readRun 72 = .ok (.aload_n 0, 1) := by decide +kernel
theorem dX5_readRun_73 : decode cX5_readRun 73 = .ok (.aload_n 0, 1) := by decide +kernel
theorem dX5_readRun_74 : decode cX5_readRun 74 = .ok (.invokevirtual 41, 3) := by decide +kernel
theorem dX5_readRun_77 : decode cX5_readRun 77 = .ok (.invokevirtual 53, 3) := by decide +kernel
theorem dX5_readRun_80 : decode cX5_readRun 80 = .ok (.istore 4, 2) := by decide +kernel
theorem dX5_readRun_82 : decode cX5_readRun 82 = .ok (.iload 4, 2) := by decide +kernel
theorem dX5_readRun_84 : decode cX5_readRun 84 = .ok (.ifCond .ge 5, 3) := by decide +kernel
theorem dX5_readRun_87 : decode cX5_readRun 87 = .ok (.iconst 0, 1) := by decide +kernel
theorem dX5_readRun_88 : decode cX5_readRun 88 = .ok (.ireturn, 1) := by decide +kernel
theorem dX5_readRun_89 : decode cX5_readRun 89 = .ok (.iconst 0, 1) := by decide +kernel
theorem dX5_readRun_90 : decode cX5_readRun 90 = .ok (.istore 5, 2) := by decide +kernel
theorem dX5_readRun_92 : decode cX5_readRun 92 = .ok (.iload 5, 2) := by decide +kernel
theorem dX5_readRun_94 : decode cX5_readRun 94 = .ok (.iload_n 3, 1) := by decide +kernel
theorem dX5_readRun_95 : decode cX5_readRun 95 = .ok (.if_icmp .ge 15, 3) := by decide +kernel
theorem dX5_readRun_98 : decode cX5_readRun 98 = .ok (.aload_n 0, 1) := by decide +kernel
theorem dX5_readRun_99 : decode cX5_readRun 99 = .ok (.iload 4, 2) := by decide +kernel
theorem dX5_readRun_101 : decode cX5_readRun 101 = .ok (.invokevirtual 57, 3) := by decide +kernel
theorem dX5_readRun_104 : decode cX5_readRun 104 = .ok (.iinc 5 1, 3) := by decide +kernel
theorem dX5_readRun_107 : decode cX5_readRun 107 = .ok (.goto (-15), 3) := by decide +kernel
theorem dX5_readRun_110 : decode cX5_readRun 110 = .ok (.iconst 1, 1) := by decide +kernel
theorem dX5_readRun_111 : decode cX5_readRun 111 = .ok (.ireturn, 1) := by decide +kernel
theorem dX5_writeNext_0 : decode cX5_writeNext 0 = .ok (.aload_n 0, 1) := by decide +kernel
theorem dX5_writeNext_1 : decode cX5_writeNext 1 = .ok (.getfield 31, 3) := by decide +kernel
theorem dX5_writeNext_4 : decode cX5_writeNext 4 = .ok (.aload_n 0, 1) := by decide +kernel
theorem dX5_writeNext_5 : decode cX5_writeNext 5 = .ok (.getfield 28, 3) := by decide +kernel
theorem dX5_writeNext_8 : decode cX5_writeNext 8 = .ok (.invokestatic 61, 3) := by decide +kernel
theorem dX5_writeNext_11 : decode cX5_writeNext 11 = .ok (.istore_n 2, 1) := by decide +kernel
theorem dX5_writeNext_12 : decode cX5_writeNext 12 = .ok (.iload_n 2, 1) := by decide +kernel
theorem dX5_writeNext_13 : decode cX5_writeNext 13 = .ok (.bipush 48, 2) := by decide +kernel
theorem dX5_writeNext_15 : decode cX5_writeNext 15 = .ok (.invokestatic 34, 3) := by decide +kernel
theorem dX5_writeNext_18 : decode cX5_writeNext 18 = .ok (.ifCond .eq 10, 3) := by decide +kernel
theorem dX5_writeNext_21 : decode cX5_writeNext 21 = .ok (.aload_n 0, 1) := by decide +kernel
theorem dX5_writeNext_22 : decode cX5_writeNext 22 = .ok (.getfield 15, 3) := by decide +kernel
theorem dX5_writeNext_25 : decode cX5_writeNext 25 = .ok (.iload_n 2, 1) := by decide +kernel
theorem dX5_writeNext_26 : decode cX5_writeNext 26 = .ok (.iload_n 1, 1) := by decide +kernel
theorem dX5_writeNext_27 : decode cX5_writeNext 27 = .ok (.iastore, 1) := by decide +kernel
theorem dX5_writeNext_28 : decode cX5_writeNext 28 = .ok (.aload_n 0, 1) := by decide +kernel
theorem dX5_writeNext_29 : decode cX5_writeNext 29 = .ok (.dup, 1) := by decide +kernel
theorem dX5_writeNext_30 : decode cX5_writeNext 30 = .ok (.getfield 31, 3) := by decide +kernel
theorem dX5_writeNext_33 : decode cX5_writeNext 33 = .ok (.iconst 1, 1) := by decide +kernel
theorem dX5_writeNext_34 : decode cX5_writeNext 34 = .ok (.iadd, 1) := by decide +kernel
theorem dX5_writeNext_35 : decode cX5_writeNext 35 = .ok (.putfield 31, 3) := by decide +kernel
theorem dX5_writeNext_38 : decode cX5_writeNext 38 = .ok (.return_, 1) := by decide +kernel
theorem dX5_readSet_0 : decode cX5_readSet 0 = .ok (.iload_n 1, 1) := by decide +kernel
theorem dX5_readSet_1 : decode cX5_readSet 1 = .ok (.bipush 40, 2) := by decide +kernel
theorem dX5_readSet_3 : decode cX5_readSet 3 = .ok (.if_icmp .ne 18, 3) := by decide +kernel
theorem dX5_readSet_6 : decode cX5_readSet 6 = .ok (.aload_n 0, 1) := by decide +kernel
theorem dX5_readSet_7 : decode cX5_readSet 7 = .ok (.dup, 1) := by decide +kernel
theorem dX5_readSet_8 : decode cX5_readSet 8 = .ok (.getfield 22, 3) := by decide +kernel
theorem dX5_readSet_11 : decode cX5_readSet 11 = .ok (.iconst 1, 1) := by decide +kernel
theorem dX5_readSet_12 : decode cX5_readSet 12 = .ok (.iadd, 1) := by decide +kernel
theorem dX5_readSet_13 : decode cX5_readSet 13 = .ok (.putfield 22, 3) := by decide +kernel
theorem dX5_readSet_16 : decode cX5_readSet 16 = .ok (.aload_n 0, 1) := by decide +kernel
theorem dX5_readSet_17 : decode cX5_readSet 17 = .ok (.invokevirtual 67, 3) := by decide +kernel
theorem dX5_readSet_20 : decode cX5_readSet 20 = .ok (.ireturn, 1) := by decide +kernel
theorem dX5_readSet_21 : decode cX5_readSet 21 = .ok (.iload_n 1, 1) := by decide +kernel
theorem dX5_readSet_22 : decode cX5_readSet 22 = .ok (.bipush 46, 2) := by decide +kernel
theorem dX5_readSet_24 : decode cX5_readSet 24 = .ok (.if_icmp .eq 12, 3) := by decide +kernel
theorem dX5_readSet_27 : decode cX5_readSet 27 = .ok (.iload_n 1, 1) := by decide +kernel
theorem dX5_readSet_28 : decode cX5_readSet 28 = .ok (.invokestatic 70, 3) := by decide +kernel
theorem dX5_readSet_31 : decode cX5_readSet 31 = .ok (.ifCond .ne 5, 3) := by decide +kernel
theorem dX5_readSet_34 : decode cX5_readSet 34 = .ok (.iconst (-1), 1) := by decide +kernel
theorem dX5_readSet_35 : decode cX5_readSet 35 = .ok (.ireturn, 1) := by decide +kernel
theorem dX5_readSet_36 : decode cX5_readSet 36 = .ok (.aload_n 0, 1) := by decide +kernel
theorem dX5_readSet_37 : decode cX5_readSet 37 = .ok (.dup, 1) := by decide +kernel
theorem dX5_readSet_38 : decode cX5_readSet 38 = .ok (.getfield 22, 3) := by decide +kernel
theorem dX5_readSet_41 : decode cX5_readSet 41 = .ok (.iconst 1, 1) := by decide +kernel
theorem dX5_readSet_42 : decode cX5_readSet 42 = .ok (.iadd, 1) := by decide +kernel
theorem dX5_readSet_43 : decode cX5_readSet 43 = .ok (.putfield 22, 3) := by decide +kernel
theorem dX5_readSet_46 : decode cX5_readSet 46 = .ok (.iload_n 1, 1) := by decide +kernel
theorem dX5_readSet_47 : decode cX5_readSet 47 = .ok (.bipush 46, 2) := by decide +kernel
theorem dX5_readSet_49 : decode cX5_readSet 49 = .ok (.if_icmp .ne 7, 3) := by decide +kernel
theorem dX5_readSet_52 : decode cX5_readSet 52 = .ok (.iconst 0, 1) := by decide +kernel
theorem dX5_readSet_53 : decode cX5_readSet 53 = .ok (.goto 9, 3) := by decide +kernel
theorem dX5_readSet_56 : decode cX5_readSet 56 = .ok (.iconst 1, 1) := by decide +kernel
theorem dX5_readSet_57 : decode cX5_readSet 57 = .ok (.iload_n 1, 1) := by decide +kernel
theorem dX5_readSet_58 : decode cX5_readSet 58 = .ok (.bipush 97, 2) := by decide +kernel
theorem dX5_readSet_60 : decode cX5_readSet 60 = .ok (.isub, 1) := by decide +kernel
theorem dX5_readSet_61 : decode cX5_readSet 61 = .ok (.ishl, 1) := by decide +kernel
theorem dX5_readSet_62 : decode cX5_readSet 62 = .ok (.ireturn, 1) := by decide +kernel
theorem dX5_readManyInks_0 : decode cX5_readManyInks 0 = .ok (.iconst 0, 1) := by decide +kernel
theorem dX5_readManyInks_1 : decode cX5_readManyInks 1 = .ok (.istore_n 1, 1) := by decide +kernel
theorem dX5_readManyInks_2 : decode cX5_readManyInks 2 = .ok (.iconst 0, 1) := by decide +kernel
theorem dX5_readManyInks_3 : decode cX5_readManyInks 3 = .ok (.istore_n 2, 1) := by decide +kernel
theorem dX5_readManyInks_4 : decode cX5_readManyInks 4 = .ok (.iload_n 2, 1) := by decide +kernel
theorem dX5_readManyInks_5 : decode cX5_readManyInks 5 = .ok (.bipush 100, 2) := by decide +kernel
theorem dX5_readManyInks_7 : decode cX5_readManyInks 7 = .ok (.if_icmp .gt 64, 3) := by decide +kernel
theorem dX5_readManyInks_10 : decode cX5_readManyInks 10 = .ok (.aload_n 0, 1) := by decide +kernel
theorem dX5_readManyInks_11 : decode cX5_readManyInks 11 = .ok (.invokevirtual 41, 3) := by decide +kernel
theorem dX5_readManyInks_14 : decode cX5_readManyInks 14 = .ok (.istore_n 3, 1) := by decide +kernel
theorem dX5_readManyInks_15 : decode cX5_readManyInks 15 = .ok (.iload_n 3, 1) := by decide +kernel
theorem dX5_readManyInks_16 : decode cX5_readManyInks 16 = .ok (.bipush 41, 2) := by decide +kernel
theorem dX5_readManyInks_18 : decode cX5_readManyInks 18 = .ok (.if_icmp .ne 19, 3) := by decide +kernel
theorem dX5_readManyInks_21 : decode cX5_readManyInks 21 = .ok (.iload_n 1, 1) := by decide +kernel
theorem dX5_readManyInks_22 : decode cX5_readManyInks 22 = .ok (.ifCond .eq 15, 3) := by decide +kernel
theorem dX5_readManyInks_25 : decode cX5_readManyInks 25 = .ok (.aload_n 0, 1) := by decide +kernel
theorem dX5_readManyInks_26 : decode cX5_readManyInks 26 = .ok (.dup, 1) := by decide +kernel
theorem dX5_readManyInks_27 : decode cX5_readManyInks 27 = .ok (.getfield 22, 3) := by decide +kernel
theorem dX5_readManyInks_30 : decode cX5_readManyInks 30 = .ok (.iconst 1, 1) := by decide +kernel
theorem dX5_readManyInks_31 : decode cX5_readManyInks 31 = .ok (.iadd, 1) := by decide +kernel
theorem dX5_readManyInks_32 : decode cX5_readManyInks 32 = .ok (.putfield 22, 3) := by decide +kernel
theorem dX5_readManyInks_35 : decode cX5_readManyInks 35 = .ok (.iload_n 1, 1) := by decide +kernel
theorem dX5_readManyInks_36 : decode cX5_readManyInks 36 = .ok (.ireturn, 1) := by decide +kernel
theorem dX5_readManyInks_37 : decode cX5_readManyInks 37 = .ok (.iload_n 3, 1) := by decide +kernel
theorem dX5_readManyInks_38 : decode cX5_readManyInks 38 = .ok (.invokestatic 70, 3) := by decide +kernel
theorem dX5_readManyInks_41 : decode cX5_readManyInks 41 = .ok (.ifCond .ne 5, 3) := by decide +kernel
theorem dX5_readManyInks_44 : decode cX5_readManyInks 44 = .ok (.iconst (-1), 1) := by decide +kernel
theorem dX5_readManyInks_45 : decode cX5_readManyInks 45 = .ok (.ireturn, 1) := by decide +kernel
theorem dX5_readManyInks_46 : decode cX5_readManyInks 46 = .ok (.iload_n 1, 1) := by decide +kernel
theorem dX5_readManyInks_47 : decode cX5_readManyInks 47 = .ok (.iconst 1, 1) := by decide +kernel
theorem dX5_readManyInks_48 : decode cX5_readManyInks 48 = .ok (.iload_n 3, 1) := by decide +kernel
theorem dX5_readManyInks_49 : decode cX5_readManyInks 49 = .ok (.bipush 97, 2) := by decide +kernel
theorem dX5_readManyInks_51 : decode cX5_readManyInks 51 = .ok (.isub, 1) := by decide +kernel
theorem dX5_readManyInks_52 : decode cX5_readManyInks 52 = .ok (.ishl, 1) := by decide +kernel
theorem dX5_readManyInks_53 : decode cX5_readManyInks 53 = .ok (.ior, 1) := by decide +kernel
theorem dX5_readManyInks_54 : decode cX5_readManyInks 54 = .ok (.istore_n 1, 1) := by decide +kernel
theorem dX5_readManyInks_55 : decode cX5_readManyInks 55 = .ok (.aload_n 0, 1) := by decide +kernel
theorem dX5_readManyInks_56 : decode cX5_readManyInks 56 = .ok (.dup, 1) := by decide +kernel
theorem dX5_readManyInks_57 : decode cX5_readManyInks 57 = .ok (.getfield 22, 3) := by decide +kernel
theorem dX5_readManyInks_60 : decode cX5_readManyInks 60 = .ok (.iconst 1, 1) := by decide +kernel
theorem dX5_readManyInks_61 : decode cX5_readManyInks 61 = .ok (.iadd, 1) := by decide +kernel
theorem dX5_readManyInks_62 : decode cX5_readManyInks 62 = .ok (.putfield 22, 3) := by decide +kernel
theorem dX5_readManyInks_65 : decode cX5_readManyInks 65 = .ok (.iinc 2 1, 3) := by decide +kernel
theorem dX5_readManyInks_68 : decode cX5_readManyInks 68 = .ok (.goto (-64), 3) := by decide +kernel
theorem dX5_readManyInks_71 : decode cX5_readManyInks 71 = .ok (.iconst (-1), 1) := by decide +kernel
theorem dX5_readManyInks_72 : decode cX5_readManyInks 72 = .ok (.ireturn, 1) := by decide +kernel
theorem dX5_isInkLetter_0 : decode cX5_isInkLetter 0 = .ok (.iload_n 0, 1) := by decide +kernel
theorem dX5_isInkLetter_1 : decode cX5_isInkLetter 1 = .ok (.bipush 97, 2) := by decide +kernel
theorem dX5_isInkLetter_3 : decode cX5_isInkLetter 3 = .ok (.if_icmp .lt 13, 3) := by decide +kernel
theorem dX5_isInkLetter_6 : decode cX5_isInkLetter 6 = .ok (.iload_n 0, 1) := by decide +kernel
theorem dX5_isInkLetter_7 : decode cX5_isInkLetter 7 = .ok (.bipush 101, 2) := by decide +kernel
theorem dX5_isInkLetter_9 : decode cX5_isInkLetter 9 = .ok (.if_icmp .gt 7, 3) := by decide +kernel
theorem dX5_isInkLetter_12 : decode cX5_isInkLetter 12 = .ok (.iconst 1, 1) := by decide +kernel
theorem dX5_isInkLetter_13 : decode cX5_isInkLetter 13 = .ok (.goto 4, 3) := by decide +kernel
theorem dX5_isInkLetter_16 : decode cX5_isInkLetter 16 = .ok (.iconst 0, 1) := by decide +kernel
theorem dX5_isInkLetter_17 : decode cX5_isInkLetter 17 = .ok (.ireturn, 1) := by decide +kernel
theorem dJ6_bitCount_0f7a4_0 : decode cJ6_bitCount_0f7a4 0 = .ok (.iload_n 0, 1) := by decide +kernel
theorem dJ6_bitCount_0f7a4_1 : decode cJ6_bitCount_0f7a4 1 = .ok (.iload_n 0, 1) := by decide +kernel
theorem dJ6_bitCount_0f7a4_2 : decode cJ6_bitCount_0f7a4 2 = .ok (.iconst 1, 1) := by decide +kernel
theorem dJ6_bitCount_0f7a4_3 : decode cJ6_bitCount_0f7a4 3 = .ok (.iushr, 1) := by decide +kernel
theorem dJ6_bitCount_0f7a4_4 : decode cJ6_bitCount_0f7a4 4 = .ok (.ldc_w 265, 3) := by decide +kernel
theorem dJ6_bitCount_0f7a4_7 : decode cJ6_bitCount_0f7a4 7 = .ok (.iand, 1) := by decide +kernel
theorem dJ6_bitCount_0f7a4_8 : decode cJ6_bitCount_0f7a4 8 = .ok (.isub, 1) := by decide +kernel
theorem dJ6_bitCount_0f7a4_9 : decode cJ6_bitCount_0f7a4 9 = .ok (.istore_n 0, 1) := by decide +kernel
theorem dJ6_bitCount_0f7a4_10 : decode cJ6_bitCount_0f7a4 10 = .ok (.iload_n 0, 1) := by decide +kernel
theorem dJ6_bitCount_0f7a4_11 : decode cJ6_bitCount_0f7a4 11 = .ok (.ldc_w 266, 3) := by decide +kernel
theorem dJ6_bitCount_0f7a4_14 : decode cJ6_bitCount_0f7a4 14 = .ok (.iand, 1) := by decide +kernel
theorem dJ6_bitCount_0f7a4_15 : decode cJ6_bitCount_0f7a4 15 = .ok (.iload_n 0, 1) := by decide +kernel
theorem dJ6_bitCount_0f7a4_16 : decode cJ6_bitCount_0f7a4 16 = .ok (.iconst 2, 1) := by decide +kernel
theorem dJ6_bitCount_0f7a4_17 : decode cJ6_bitCount_0f7a4 17 = .ok (.iushr, 1) := by decide +kernel
theorem dJ6_bitCount_0f7a4_18 : decode cJ6_bitCount_0f7a4 18 = .ok (.ldc_w 266, 3) := by decide +kernel
theorem dJ6_bitCount_0f7a4_21 : decode cJ6_bitCount_0f7a4 21 = .ok (.iand, 1) := by decide +kernel
theorem dJ6_bitCount_0f7a4_22 : decode cJ6_bitCount_0f7a4 22 = .ok (.iadd, 1) := by decide +kernel
theorem dJ6_bitCount_0f7a4_23 : decode cJ6_bitCount_0f7a4 23 = .ok (.istore_n 0, 1) := by decide +kernel
theorem dJ6_bitCount_0f7a4_24 : decode cJ6_bitCount_0f7a4 24 = .ok (.iload_n 0, 1) := by decide +kernel
theorem dJ6_bitCount_0f7a4_25 : decode cJ6_bitCount_0f7a4 25 = .ok (.iload_n 0, 1) := by decide +kernel
theorem dJ6_bitCount_0f7a4_26 : decode cJ6_bitCount_0f7a4 26 = .ok (.iconst 4, 1) := by decide +kernel
theorem dJ6_bitCount_0f7a4_27 : decode cJ6_bitCount_0f7a4 27 = .ok (.iushr, 1) := by decide +kernel
theorem dJ6_bitCount_0f7a4_28 : decode cJ6_bitCount_0f7a4 28 = .ok (.iadd, 1) := by decide +kernel
theorem dJ6_bitCount_0f7a4_29 : decode cJ6_bitCount_0f7a4 29 = .ok (.ldc_w 267, 3) := by decide +kernel
theorem dJ6_bitCount_0f7a4_32 : decode cJ6_bitCount_0f7a4 32 = .ok (.iand, 1) := by decide +kernel
theorem dJ6_bitCount_0f7a4_33 : decode cJ6_bitCount_0f7a4 33 = .ok (.istore_n 0, 1) := by decide +kernel
theorem dJ6_bitCount_0f7a4_34 : decode cJ6_bitCount_0f7a4 34 = .ok (.iload_n 0, 1) := by decide +kernel
theorem dJ6_bitCount_0f7a4_35 : decode cJ6_bitCount_0f7a4 35 = .ok (.iload_n 0, 1) := by decide +kernel
theorem dJ6_bitCount_0f7a4_36 : decode cJ6_bitCount_0f7a4 36 = .ok (.bipush 8, 2) := by decide +kernel
theorem dJ6_bitCount_0f7a4_38 : decode cJ6_bitCount_0f7a4 38 = .ok (.iushr, 1) := by decide +kernel
theorem dJ6_bitCount_0f7a4_39 : decode cJ6_bitCount_0f7a4 39 = .ok (.iadd, 1) := by decide +kernel
theorem dJ6_bitCount_0f7a4_40 : decode cJ6_bitCount_0f7a4 40 = .ok (.istore_n 0, 1) := by decide +kernel
theorem dJ6_bitCount_0f7a4_41 : decode cJ6_bitCount_0f7a4 41 = .ok (.iload_n 0, 1) := by decide +kernel
theorem dJ6_bitCount_0f7a4_42 : decode cJ6_bitCount_0f7a4 42 = .ok (.iload_n 0, 1) := by decide +kernel
theorem dJ6_bitCount_0f7a4_43 : decode cJ6_bitCount_0f7a4 43 = .ok (.bipush 16, 2) := by decide +kernel
theorem dJ6_bitCount_0f7a4_45 : decode cJ6_bitCount_0f7a4 45 = .ok (.iushr, 1) := by decide +kernel
theorem dJ6_bitCount_0f7a4_46 : decode cJ6_bitCount_0f7a4 46 = .ok (.iadd, 1) := by decide +kernel
theorem dJ6_bitCount_0f7a4_47 : decode cJ6_bitCount_0f7a4 47 = .ok (.istore_n 0, 1) := by decide +kernel
theorem dJ6_bitCount_0f7a4_48 : decode cJ6_bitCount_0f7a4 48 = .ok (.iload_n 0, 1) := by decide +kernel
theorem dJ6_bitCount_0f7a4_49 : decode cJ6_bitCount_0f7a4 49 = .ok (.bipush 63, 2) := by decide +kernel
theorem dJ6_bitCount_0f7a4_51 : decode cJ6_bitCount_0f7a4 51 = .ok (.iand, 1) := by decide +kernel
theorem dJ6_bitCount_0f7a4_52 : decode cJ6_bitCount_0f7a4 52 = .ok (.ireturn, 1) := by decide +kernel
theorem dJ9_max_7cf53_0 : decode cJ9_max_7cf53 0 = .ok (.iload_n 0, 1) := by decide +kernel
theorem dJ9_max_7cf53_1 : decode cJ9_max_7cf53 1 = .ok (.iload_n 1, 1) := by decide +kernel
theorem dJ9_max_7cf53_2 : decode cJ9_max_7cf53 2 = .ok (.if_icmp .lt 7, 3) := by decide +kernel
theorem dJ9_max_7cf53_5 : decode cJ9_max_7cf53 5 = .ok (.iload_n 0, 1) := by decide +kernel
theorem dJ9_max_7cf53_6 : decode cJ9_max_7cf53 6 = .ok (.goto 4, 3) := by decide +kernel
theorem dJ9_max_7cf53_9 : decode cJ9_max_7cf53 9 = .ok (.iload_n 1, 1) := by decide +kernel
theorem dJ9_max_7cf53_10 : decode cJ9_max_7cf53 10 = .ok (.ireturn, 1) := by decide +kernel
theorem dJ9_min_7cf53_0 : decode cJ9_min_7cf53 0 = .ok (.iload_n 0, 1) := by decide +kernel
theorem dJ9_min_7cf53_1 : decode cJ9_min_7cf53 1 = .ok (.iload_n 1, 1) := by decide +kernel
theorem dJ9_min_7cf53_2 : decode cJ9_min_7cf53 2 = .ok (.if_icmp .gt 7, 3) := by decide +kernel
theorem dJ9_min_7cf53_5 : decode cJ9_min_7cf53 5 = .ok (.iload_n 0, 1) := by decide +kernel
theorem dJ9_min_7cf53_6 : decode cJ9_min_7cf53 6 = .ok (.goto 4, 3) := by decide +kernel
theorem dJ9_min_7cf53_9 : decode cJ9_min_7cf53 9 = .ok (.iload_n 1, 1) := by decide +kernel
theorem dJ9_min_7cf53_10 : decode cJ9_min_7cf53 10 = .ok (.ireturn, 1) := by decide +kernel
end
section
theorem dX6_init_0 : decode cX6_init 0 = .ok (.aload_n 0, 1) := by decide +kernel
theorem dX6_init_1 : decode cX6_init 1 = .ok (.invokespecial 1, 3) := by decide +kernel
theorem dX6_init_4 : decode cX6_init 4 = .ok (.aload_n 0, 1) := by decide +kernel
theorem dX6_init_5 : decode cX6_init 5 = .ok (.new 7, 3) := by decide +kernel
theorem dX6_init_8 : decode cX6_init 8 = .ok (.dup, 1) := by decide +kernel
theorem dX6_init_9 : decode cX6_init 9 = .ok (.invokespecial 9, 3) := by decide +kernel
theorem dX6_init_12 : decode cX6_init 12 = .ok (.putfield 10, 3) := by decide +kernel
theorem dX6_init_15 : decode cX6_init 15 = .ok (.aload_n 0, 1) := by decide +kernel
theorem dX6_init_16 : decode cX6_init 16 = .ok (.new 16, 3) := by decide +kernel
theorem dX6_init_19 : decode cX6_init 19 = .ok (.dup, 1) := by decide +kernel
theorem dX6_init_20 : decode cX6_init 20 = .ok (.invokespecial 18, 3) := by decide +kernel
theorem dX6_init_23 : decode cX6_init 23 = .ok (.putfield 19, 3) := by decide +kernel
theorem dX6_init_26 : decode cX6_init 26 = .ok (.aload_n 0, 1) := by decide +kernel
theorem dX6_init_27 : decode cX6_init 27 = .ok (.new 7, 3) := by decide +kernel
theorem dX6_init_30 : decode cX6_init 30 = .ok (.dup, 1) := by decide +kernel
theorem dX6_init_31 : decode cX6_init 31 = .ok (.invokespecial 9, 3) := by decide +kernel
theorem dX6_init_34 : decode cX6_init 34 = .ok (.putfield 23, 3) := by decide +kernel
theorem dX6_init_37 : decode cX6_init 37 = .ok (.aload_n 0, 1) := by decide +kernel
theorem dX6_init_38 : decode cX6_init 38 = .ok (.new 16, 3) := by decide +kernel
theorem dX6_init_41 : decode cX6_init 41 = .ok (.dup, 1) := by decide +kernel
theorem dX6_init_42 : decode cX6_init 42 = .ok (.invokespecial 18, 3) := by decide +kernel
theorem dX6_init_45 : decode cX6_init 45 = .ok (.putfield 26, 3) := by decide +kernel
theorem dX6_init_48 : decode cX6_init 48 = .ok (.aload_n 0, 1) := by decide +kernel
theorem dX6_init_49 : decode cX6_init 49 = .ok (.iconst 0, 1) := by decide +kernel
theorem dX6_init_50 : decode cX6_init 50 = .ok (.putfield 29, 3) := by decide +kernel
theorem dX6_init_53 : decode cX6_init 53 = .ok (.aload_n 0, 1) := by decide +kernel
theorem dX6_init_54 : decode cX6_init 54 = .ok (.new 33, 3) := by decide +kernel
theorem dX6_init_57 : decode cX6_init 57 = .ok (.dup, 1) := by decide +kernel
theorem dX6_init_58 : decode cX6_init 58 = .ok (.invokespecial 35, 3) := by decide +kernel
theorem dX6_init_61 : decode cX6_init 61 = .ok (.putfield 36, 3) := by decide +kernel
theorem dX6_init_64 : decode cX6_init 64 = .ok (.aload_n 0, 1) := by decide +kernel
theorem dX6_init_65 : decode cX6_init 65 = .ok (.new 40, 3) := by decide +kernel
theorem dX6_init_68 : decode cX6_init 68 = .ok (.dup, 1) := by decide +kernel
theorem dX6_init_69 : decode cX6_init 69 = .ok (.invokespecial 42, 3) := by decide +kernel
theorem dX6_init_72 : decode cX6_init 72 = .ok (.putfield 43, 3) := by decide +kernel
theorem dX6_init_75 : decode cX6_init 75 = .ok (.aload_n 0, 1) := by decide +kernel
theorem dX6_init_76 : decode cX6_init 76 = .ok (.new 47, 3) := by decide +kernel
theorem dX6_init_79 : decode cX6_init 79 = .ok (.dup, 1) := by decide +kernel
theorem dX6_init_80 : decode cX6_init 80 = .ok (.invokespecial 49, 3) := by decide +kernel
theorem dX6_init_83 : decode cX6_init 83 = .ok (.putfield 50, 3) := by decide +kernel
theorem dX6_init_86 : decode cX6_init 86 = .ok (.aload_n 0, 1) := by decide +kernel
theorem dX6_init_87 : decode cX6_init 87 = .ok (.iconst 4, 1) := by decide +kernel
theorem dX6_init_88 : decode cX6_init 88 = .ok (.anewarray 54, 3) := by decide +kernel
theorem dX6_init_91 : decode cX6_init 91 = .ok (.putfield 56, 3) := by decide +kernel
theorem dX6_init_94 : decode cX6_init 94 = .ok (.aload_n 0, 1) := by decide +kernel
theorem dX6_init_95 : decode cX6_init 95 = .ok (.bipush 48, 2) := by decide +kernel
theorem dX6_init_97 : decode cX6_init 97 = .ok (.newarray .int, 2) := by decide +kernel
theorem dX6_init_99 : decode cX6_init 99 = .ok (.putfield 60, 3) := by decide +kernel
theorem dX6_init_102 : decode cX6_init 102 = .ok (.aload_n 0, 1) := by decide +kernel
theorem dX6_init_103 : decode cX6_init 103 = .ok (.iconst 5, 1) := by decide +kernel
theorem dX6_init_104 : decode cX6_init 104 = .ok (.newarray .int, 2) := by decide +kernel
theorem dX6_init_106 : decode cX6_init 106 = .ok (.putfield 64, 3) := by decide +kernel
theorem dX6_init_109 : decode cX6_init 109 = .ok (.aload_n 0, 1) := by decide +kernel
theorem dX6_init_110 : decode cX6_init 110 = .ok (.iconst 5, 1) := by decide +kernel
theorem dX6_init_111 : decode cX6_init 111 = .ok (.newarray .int, 2) := by decide +kernel
theorem dX6_init_113 : decode cX6_init 113 = .ok (.putfield 67, 3) := by decide +kernel
theorem dX6_init_116 : decode cX6_init 116 = .ok (.iconst 0, 1) := by decide +kernel
theorem dX6_init_117 : decode cX6_init 117 = .ok (.istore_n 1, 1) := by decide +kernel
theorem dX6_init_118 : decode cX6_init 118 = .ok (.iload_n 1, 1) := by decide +kernel
theorem dX6_init_119 : decode cX6_init 119 = .ok (.iconst 4, 1) := by decide +kernel
theorem dX6_init_120 : decode cX6_init 120 = .ok (.if_icmp .ge 22, 3) := by decide +kernel
theorem dX6_init_123 : decode cX6_init 123 = .ok (.aload_n 0, 1) := by decide +kernel
theorem dX6_init_124 : decode cX6_init 124 = .ok (.getfield 56, 3) := by decide +kernel
theorem dX6_init_127 : decode cX6_init 127 = .ok (.iload_n 1, 1) := by decide +kernel
theorem dX6_init_128 : decode cX6_init 128 = .ok (.new 54, 3) := by decide +kernel
theorem dX6_init_131 : decode cX6_init 131 = .ok (.dup, 1) := by decide +kernel
theorem dX6_init_132 : decode cX6_init 132 = .ok (.invokespecial 70, 3) := by decide +kernel
theorem dX6_init_135 : decode cX6_init 135 = .ok (.aastore, 1) := by decide +kernel
theorem dX6_init_136 : decode cX6_init 136 = .ok (.iinc 1 1, 3) := by decide +kernel
theorem dX6_init_139 : decode cX6_init 139 = .ok (.goto (-21), 3) := by decide +kernel
theorem dX6_init_142 : decode cX6_init 142 = .ok (.return_, 1) := by decide +kernel
theorem dX6_ink_0 : decode cX6_ink 0 = .ok (.iload_n 1, 1) := by decide +kernel
theorem dX6_ink_1 : decode cX6_ink 1 = .ok (.iconst 5, 1) := by decide +kernel
theorem dX6_ink_2 : decode cX6_ink 2 = .ok (.invokestatic 71, 3) := by decide +kernel
theorem dX6_ink_5 : decode cX6_ink 5 = .ok (.ifCond .ne 5, 3) := by decide +kernel
theorem dX6_ink_8 : decode cX6_ink 8 = .ok (.iconst (-1), 1) := by decide +kernel
theorem dX6_ink_9 : decode cX6_ink 9 = .ok (.ireturn, 1) := by decide +kernel
theorem dX6_ink_10 : decode cX6_ink 10 = .ok (.iload_n 2, 1) := by decide +kernel
theorem dX6_ink_11 : decode cX6_ink 11 = .ok (.tableswitch 82 0 4 #[33, 43, 53, 62, 73], 33) := by decide +kernel
theorem dX6_ink_44 : decode cX6_ink 44 = .ok (.aload_n 0, 1) := by decide +kernel
theorem dX6_ink_45 : decode cX6_ink 45 = .ok (.getfield 10, 3) := by decide +kernel
theorem dX6_ink_48 : decode cX6_ink 48 = .ok (.getfield 75, 3) := by decide +kernel
theorem dX6_ink_51 : decode cX6_ink 51 = .ok (.iload_n 1, 1) := by decide +kernel
theorem dX6_ink_52 : decode cX6_ink 52 = .ok (.iaload, 1) := by decide +kernel
theorem dX6_ink_53 : decode cX6_ink 53 = .ok (.ireturn, 1) := by decide +kernel
theorem dX6_ink_54 : decode cX6_ink 54 = .ok (.aload_n 0, 1) := by decide +kernel
theorem dX6_ink_55 : decode cX6_ink 55 = .ok (.getfield 10, 3) := by decide +kernel
theorem dX6_ink_58 : decode cX6_ink 58 = .ok (.getfield 78, 3) := by decide +kernel
theorem dX6_ink_61 : decode cX6_ink 61 = .ok (.iload_n 1, 1) := by decide +kernel
theorem dX6_ink_62 : decode cX6_ink 62 = .ok (.iaload, 1) := by decide +kernel
theorem dX6_ink_63 : decode cX6_ink 63 = .ok (.ireturn, 1) := by decide +kernel
theorem dX6_ink_64 : decode cX6_ink 64 = .ok (.aload_n 0, 1) := by decide +kernel
theorem dX6_ink_65 : decode cX6_ink 65 = .ok (.getfield 10, 3) := by decide +kernel
theorem dX6_ink_68 : decode cX6_ink 68 = .ok (.iload_n 1, 1) := by decide +kernel
theorem dX6_ink_69 : decode cX6_ink 69 = .ok (.invokevirtual 81, 3) := by decide +kernel
theorem dX6_ink_72 : decode cX6_ink 72 = .ok (.ireturn, 1) := by decide +kernel
theorem dX6_ink_73 : decode cX6_ink 73 = .ok (.aload_n 0, 1) := by decide +kernel
theorem dX6_ink_74 : decode cX6_ink 74 = .ok (.iconst 1, 1) := by decide +kernel
theorem dX6_ink_75 : decode cX6_ink 75 = .ok (.iload_n 1, 1) := by decide +kernel
theorem dX6_ink_76 : decode cX6_ink 76 = .ok (.ishl, 1) := by decide +kernel
theorem dX6_ink_77 : decode cX6_ink 77 = .ok (.invokevirtual 85, 3) := by decide +kernel
theorem dX6_ink_80 : decode cX6_ink 80 = .ok (.invokestatic 88, 3) := by decide +kernel
theorem dX6_ink_83 : decode cX6_ink 83 = .ok (.ireturn, 1) := by decide +kernel
theorem dX6_ink_84 : decode cX6_ink 84 = .ok (.aload_n 0, 1) := by decide +kernel
theorem dX6_ink_85 : decode cX6_ink 85 = .ok (.getfield 10, 3) := by decide +kernel
theorem dX6_ink_88 : decode cX6_ink 88 = .ok (.iload_n 1, 1) := by decide +kernel
theorem dX6_ink_89 : decode cX6_ink 89 = .ok (.invokevirtual 91, 3) := by decide +kernel
theorem dX6_ink_92 : decode cX6_ink 92 = .ok (.ireturn, 1) := by decide +kernel
theorem dX6_ink_93 : decode cX6_ink 93 = .ok (.iconst (-1), 1) := by decide +kernel
theorem dX6_ink_94 : decode cX6_ink 94 = .ok (.ireturn, 1) := by decide +kernel
theorem dX6_set_0 : decode cX6_set 0 = .ok (.iload_n 1, 1) := by decide +kernel
theorem dX6_set_1 : decode cX6_set 1 = .ok (.bipush 32, 2) := by decide +kernel
theorem dX6_set_3 : decode cX6_set 3 = .ok (.invokestatic 71, 3) := by decide +kernel
theorem dX6_set_6 : decode cX6_set 6 = .ok (.ifCond .ne 5, 3) := by decide +kernel
theorem dX6_set_9 : decode cX6_set 9 = .ok (.iconst (-1), 1) := by decide +kernel
theorem dX6_set_10 : decode cX6_set 10 = .ok (.ireturn, 1) := by decide +kernel
theorem dX6_set_11 : decode cX6_set 11 = .ok (.iload_n 2, 1) := by decide +kernel
theorem dX6_set_12 : decode cX6_set 12 = .ok (.tableswitch 62 0 3 #[32, 38, 47, 53], 32) := by decide +kernel
theorem dX6_set_44 : decode cX6_set 44 = .ok (.aload_n 0, 1) := by decide +kernel
theorem dX6_set_45 : decode cX6_set 45 = .ok (.iload_n 1, 1) := by decide +kernel
theorem dX6_set_46 : decode cX6_set 46 = .ok (.invokevirtual 85, 3) := by decide +kernel
theorem dX6_set_49 : decode cX6_set 49 = .ok (.ireturn, 1) := by decide +kernel
theorem dX6_set_50 : decode cX6_set 50 = .ok (.aload_n 0, 1) := by decide +kernel
theorem dX6_set_51 : decode cX6_set 51 = .ok (.iload_n 1, 1) := by decide +kernel
theorem dX6_set_52 : decode cX6_set 52 = .ok (.invokevirtual 85, 3) := by decide +kernel
theorem dX6_set_55 : decode cX6_set 55 = .ok (.invokestatic 88, 3) := by decide +kernel
theorem dX6_set_58 : decode cX6_set 58 = .ok (.ireturn, 1) := by decide +kernel
theorem dX6_set_59 : decode cX6_set 59 = .ok (.aload_n 0, 1) := by decide +kernel
theorem dX6_set_60 : decode cX6_set 60 = .ok (.iload_n 1, 1) := by decide +kernel
theorem dX6_set_61 : decode cX6_set 61 = .ok (.invokevirtual 94, 3) := by decide +kernel
theorem dX6_set_64 : decode cX6_set 64 = .ok (.ireturn, 1) := by decide +kernel
theorem dX6_set_65 : decode cX6_set 65 = .ok (.aload_n 0, 1) := by decide +kernel
theorem dX6_set_66 : decode cX6_set 66 = .ok (.getfield 10, 3) := by decide +kernel
theorem dX6_set_69 : decode cX6_set 69 = .ok (.iload_n 1, 1) := by decide +kernel
theorem dX6_set_70 : decode cX6_set 70 = .ok (.invokevirtual 97, 3) := by decide +kernel
theorem dX6_set_73 : decode cX6_set 73 = .ok (.ireturn, 1) := by decide +kernel
theorem dX6_set_74 : decode cX6_set 74 = .ok (.iconst (-1), 1) := by decide +kernel
theorem dX6_set_75 : decode cX6_set 75 = .ok (.ireturn, 1) := by decide +kernel
theorem dX6_place_0 : decode cX6_place 0 = .ok (.aload_n 0, 1) := by decide +kernel
theorem dX6_place_1 : decode cX6_place 1 = .ok (.getfield 10, 3) := by decide +kernel
theorem dX6_place_4 : decode cX6_place 4 = .ok (.iload_n 1, 1) := by decide +kernel
theorem dX6_place_5 : decode cX6_place 5 = .ok (.iload_n 2, 1) := by decide +kernel
theorem dX6_place_6 : decode cX6_place 6 = .ok (.invokevirtual 100, 3) := by decide +kernel
theorem dX6_place_9 : decode cX6_place 9 = .ok (.ifCond .ne 5, 3) := by decide +kernel
theorem dX6_place_12 : decode cX6_place 12 = .ok (.iconst (-1), 1) := by decide +kernel
theorem dX6_place_13 : decode cX6_place 13 = .ok (.ireturn, 1) := by decide +kernel
theorem dX6_place_14 : decode cX6_place 14 = .ok (.iload_n 3, 1) := by decide +kernel
theorem dX6_place_15 : decode cX6_place 15 = .ok (.tableswitch 70 0 2 #[25, 35, 49], 25) := by decide +kernel
theorem dX6_place_40 : decode cX6_place 40 = .ok (.aload_n 0, 1) := by decide +kernel
theorem dX6_place_41 : decode cX6_place 41 = .ok (.getfield 10, 3) := by decide +kernel
theorem dX6_place_44 : decode cX6_place 44 = .ok (.iload_n 1, 1) := by decide +kernel
theorem dX6_place_45 : decode cX6_place 45 = .ok (.iload_n 2, 1) := by decide +kernel
theorem dX6_place_46 : decode cX6_place 46 = .ok (.invokevirtual 103, 3) := by decide +kernel
theorem dX6_place_49 : decode cX6_place 49 = .ok (.ireturn, 1) := by decide +kernel
theorem dX6_place_50 : decode cX6_place 50 = .ok (.aload_n 0, 1) := by decide +kernel
theorem dX6_place_51 : decode cX6_place 51 = .ok (.aload_n 0, 1) := by decide +kernel
theorem dX6_place_52 : decode cX6_place 52 = .ok (.getfield 10, 3) := by decide +kernel
theorem dX6_place_55 : decode cX6_place 55 = .ok (.iload_n 1, 1) := by decide +kernel
theorem dX6_place_56 : decode cX6_place 56 = .ok (.iload_n 2, 1) := by decide +kernel
theorem dX6_place_57 : decode cX6_place 57 = .ok (.invokevirtual 103, 3) := by decide +kernel
theorem dX6_place_60 : decode cX6_place 60 = .ok (.invokevirtual 85, 3) := by decide +kernel
theorem dX6_place_63 : decode cX6_place 63 = .ok (.ireturn, 1) := by decide +kernel
theorem dX6_place_64 : decode cX6_place 64 = .ok (.aload_n 0, 1) := by decide +kernel
theorem dX6_place_65 : decode cX6_place 65 = .ok (.getfield 43, 3) := by decide +kernel
theorem dX6_place_68 : decode cX6_place 68 = .ok (.aload_n 0, 1) := by decide +kernel
theorem dX6_place_69 : decode cX6_place 69 = .ok (.getfield 10, 3) := by decide +kernel
theorem dX6_place_72 : decode cX6_place 72 = .ok (.invokevirtual 107, 3) := by decide +kernel
theorem dX6_place_75 : decode cX6_place 75 = .ok (.aload_n 0, 1) := by decide +kernel
theorem dX6_place_76 : decode cX6_place 76 = .ok (.getfield 43, 3) := by decide +kernel
theorem dX6_place_79 : decode cX6_place 79 = .ok (.iload_n 1, 1) := by decide +kernel
theorem dX6_place_80 : decode cX6_place 80 = .ok (.iload_n 2, 1) := by decide +kernel
theorem dX6_place_81 : decode cX6_place 81 = .ok (.invokevirtual 111, 3) := by decide +kernel
theorem dX6_place_84 : decode cX6_place 84 = .ok (.ireturn, 1) := by decide +kernel
theorem dX6_place_85 : decode cX6_place 85 = .ok (.iconst (-1), 1) := by decide +kernel
theorem dX6_place_86 : decode cX6_place 86 = .ok (.ireturn, 1) := by decide +kernel
theorem dX6_area_0 : decode cX6_area 0 = .ok (.aload_n 0, 1) := by decide +kernel
theorem dX6_area_1 : decode cX6_area 1 = .ok (.getfield 43, 3) := by decide +kernel
theorem dX6_area_4 : decode cX6_area 4 = .ok (.aload_n 0, 1) := by decide +kernel
theorem dX6_area_5 : decode cX6_area 5 = .ok (.getfield 10, 3) := by decide +kernel
theorem dX6_area_8 : decode cX6_area 8 = .ok (.invokevirtual 107, 3) := by decide +kernel
theorem dX6_area_11 : decode cX6_area 11 = .ok (.iload_n 1, 1) := by decide +kernel
theorem dX6_area_12 : decode cX6_area 12 = .ok (.aload_n 0, 1) := by decide +kernel
theorem dX6_area_13 : decode cX6_area 13 = .ok (.getfield 43, 3) := by decide +kernel
theorem dX6_area_16 : decode cX6_area 16 = .ok (.getfield 112, 3) := by decide +kernel
theorem dX6_area_19 : decode cX6_area 19 = .ok (.invokestatic 71, 3) := by decide +kernel
theorem dX6_area_22 : decode cX6_area 22 = .ok (.ifCond .ne 5, 3) := by decide +kernel
theorem dX6_area_25 : decode cX6_area 25 = .ok (.iconst (-1), 1) := by decide +kernel
theorem dX6_area_26 : decode cX6_area 26 = .ok (.ireturn, 1) := by decide +kernel
theorem dX6_area_27 : decode cX6_area 27 = .ok (.aload_n 0, 1) := by decide +kernel
theorem dX6_area_28 : decode cX6_area 28 = .ok (.getfield 43, 3) := by decide +kernel
theorem dX6_area_31 : decode cX6_area 31 = .ok (.iload_n 1, 1) := by decide +kernel
theorem dX6_area_32 : decode cX6_area 32 = .ok (.invokevirtual 116, 3) := by decide +kernel
theorem dX6_area_35 : decode cX6_area 35 = .ok (.istore_n 3, 1) := by decide +kernel
theorem dX6_area_36 : decode cX6_area 36 = .ok (.aload_n 0, 1) := by decide +kernel
theorem dX6_area_37 : decode cX6_area 37 = .ok (.getfield 43, 3) := by decide +kernel
theorem dX6_area_40 : decode cX6_area 40 = .ok (.iload_n 1, 1) := by decide +kernel
theorem dX6_area_41 : decode cX6_area 41 = .ok (.invokevirtual 119, 3) := by decide +kernel
theorem dX6_area_44 : decode cX6_area 44 = .ok (.istore 4, 2) := by decide +kernel
theorem dX6_area_46 : decode cX6_area 46 = .ok (.iload_n 2, 1) := by decide +kernel
theorem dX6_area_47 : decode cX6_area 47 = .ok (.tableswitch 84 0 5 #[37, 48, 57, 70, 72, 75], 37) := by decide +kernel
theorem dX6_area_84 : decode cX6_area 84 = .ok (.aload_n 0, 1) := by decide +kernel
theorem dX6_area_85 : decode cX6_area 85 = .ok (.getfield 10, 3) := by decide +kernel
theorem dX6_area_88 : decode cX6_area 88 = .ok (.iload_n 3, 1) := by decide +kernel
theorem dX6_area_89 : decode cX6_area 89 = .ok (.iload 4, 2) := by decide +kernel
theorem dX6_area_91 : decode cX6_area 91 = .ok (.invokevirtual 103, 3) := by decide +kernel
theorem dX6_area_94 : decode cX6_area 94 = .ok (.ireturn, 1) := by decide +kernel
theorem dX6_area_95 : decode cX6_area 95 = .ok (.aload_n 0, 1) := by decide +kernel
theorem dX6_area_96 : decode cX6_area 96 = .ok (.getfield 43, 3) := by decide +kernel
theorem dX6_area_99 : decode cX6_area 99 = .ok (.iload_n 1, 1) := by decide +kernel
theorem dX6_area_100 : decode cX6_area 100 = .ok (.invokevirtual 122, 3) := by decide +kernel
theorem dX6_area_103 : decode cX6_area 103 = .ok (.ireturn, 1) := by decide +kernel
theorem dX6_area_104 : decode cX6_area 104 = .ok (.aload_n 0, 1) := by decide +kernel
theorem dX6_area_105 : decode cX6_area 105 = .ok (.getfield 43, 3) := by decide +kernel
theorem dX6_area_108 : decode cX6_area 108 = .ok (.iload_n 1, 1) := by decide +kernel
theorem dX6_area_109 : decode cX6_area 109 = .ok (.aload_n 0, 1) := by decide +kernel
theorem dX6_area_110 : decode cX6_area 110 = .ok (.getfield 10, 3) := by decide +kernel
theorem dX6_area_113 : decode cX6_area 113 = .ok (.invokevirtual 125, 3) := by decide +kernel
theorem dX6_area_116 : decode cX6_area 116 = .ok (.ireturn, 1) := by decide +kernel
theorem dX6_area_117 : decode cX6_area 117 = .ok (.iload_n 3, 1) := by decide +kernel
theorem dX6_area_118 : decode cX6_area 118 = .ok (.ireturn, 1) := by decide +kernel
theorem dX6_area_119 : decode cX6_area 119 = .ok (.iload 4, 2) := by decide +kernel
theorem dX6_area_121 : decode cX6_area 121 = .ok (.ireturn, 1) := by decide +kernel
theorem dX6_area_122 : decode cX6_area 122 = .ok (.aload_n 0, 1) := by decide +kernel
theorem dX6_area_123 : decode cX6_area 123 = .ok (.getfield 43, 3) := by decide +kernel
theorem dX6_area_126 : decode cX6_area 126 = .ok (.iload_n 1, 1) := by decide +kernel
theorem dX6_area_127 : decode cX6_area 127 = .ok (.invokevirtual 129, 3) := by decide +kernel
theorem dX6_area_130 : decode cX6_area 130 = .ok (.ireturn, 1) := by decide +kernel
theorem dX6_area_131 : decode cX6_area 131 = .ok (.iconst (-1), 1) := by decide +kernel
theorem dX6_area_132 : decode cX6_area 132 = .ok (.ireturn, 1) := by decide +kernel
theorem dX6_type_0 : decode cX6_type 0 = .ok (.iload_n 1, 1) := by decide +kernel
theorem dX6_type_1 : decode cX6_type 1 = .ok (.bipush 32, 2) := by decide +kernel
theorem dX6_type_3 : decode cX6_type 3 = .ok (.if_icmp .lt 9, 3) := by decide +kernel
theorem dX6_type_6 : decode cX6_type 6 = .ok (.iload_n 1, 1) := by decide +kernel
theorem dX6_type_7 : decode cX6_type 7 = .ok (.bipush 126, 2) := by decide +kernel
theorem dX6_type_9 : decode cX6_type 9 = .ok (.if_icmp .le 5, 3) := by decide +kernel
theorem dX6_type_12 : decode cX6_type 12 = .ok (.iconst (-1), 1) := by decide +kernel
theorem dX6_type_13 : decode cX6_type 13 = .ok (.ireturn, 1) := by decide +kernel
theorem dX6_type_14 : decode cX6_type 14 = .ok (.aload_n 0, 1) := by decide +kernel
theorem dX6_type_15 : decode cX6_type 15 = .ok (.getfield 50, 3) := by decide +kernel
theorem dX6_type_18 : decode cX6_type 18 = .ok (.iload_n 1, 1) := by decide +kernel
theorem dX6_type_19 : decode cX6_type 19 = .ok (.invokevirtual 132, 3) := by decide +kernel
theorem dX6_type_22 : decode cX6_type 22 = .ok (.ifCond .eq 13, 3) := by decide +kernel
theorem dX6_type_25 : decode cX6_type 25 = .ok (.aload_n 0, 1) := by decide +kernel
theorem dX6_type_26 : decode cX6_type 26 = .ok (.getfield 50, 3) := by decide +kernel
theorem dX6_type_29 : decode cX6_type 29 = .ok (.getfield 136, 3) := by decide +kernel
theorem dX6_type_32 : decode cX6_type 32 = .ok (.goto 5, 3) := by decide +kernel
theorem dX6_type_35 : decode cX6_type 35 = .ok (.bipush (-3), 2) := by decide +kernel
theorem dX6_type_37 : decode cX6_type 37 = .ok (.ireturn, 1) := by decide +kernel
theorem dX6_draw_0 : decode cX6_draw 0 = .ok (.aload_n 0, 1) := by decide +kernel
theorem dX6_draw_1 : decode cX6_draw 1 = .ok (.getfield 50, 3) := by decide +kernel
theorem dX6_draw_4 : decode cX6_draw 4 = .ok (.invokevirtual 137, 3) := by decide +kernel
theorem dX6_draw_7 : decode cX6_draw 7 = .ok (.istore_n 1, 1) := by decide +kernel
theorem dX6_draw_8 : decode cX6_draw 8 = .ok (.aload_n 0, 1) := by decide +kernel
theorem dX6_draw_9 : decode cX6_draw 9 = .ok (.getfield 50, 3) := by decide +kernel
theorem dX6_draw_12 : decode cX6_draw 12 = .ok (.iconst 0, 1) := by decide +kernel
theorem dX6_draw_13 : decode cX6_draw 13 = .ok (.putfield 136, 3) := by decide +kernel
theorem dX6_draw_16 : decode cX6_draw 16 = .ok (.iload_n 1, 1) := by decide +kernel
theorem dX6_draw_17 : decode cX6_draw 17 = .ok (.ifCond .ne 14, 3) := by decide +kernel
theorem dX6_draw_20 : decode cX6_draw 20 = .ok (.bipush (-20), 2) := by decide +kernel
theorem dX6_draw_22 : decode cX6_draw 22 = .ok (.aload_n 0, 1) := by decide +kernel
theorem dX6_draw_23 : decode cX6_draw 23 = .ok (.getfield 50, 3) := by decide +kernel
theorem dX6_draw_26 : decode cX6_draw 26 = .ok (.getfield 141, 3) := by decide +kernel
theorem dX6_draw_29 : decode cX6_draw 29 = .ok (.isub, 1) := by decide +kernel
theorem dX6_draw_30 : decode cX6_draw 30 = .ok (.ireturn, 1) := by decide +kernel
theorem dX6_draw_31 : decode cX6_draw 31 = .ok (.aload_n 0, 1) := by decide +kernel
theorem dX6_draw_32 : decode cX6_draw 32 = .ok (.getfield 10, 3) := by decide +kernel
theorem dX6_draw_35 : decode cX6_draw 35 = .ok (.aload_n 0, 1) := by decide +kernel
theorem dX6_draw_36 : decode cX6_draw 36 = .ok (.getfield 50, 3) := by decide +kernel
theorem dX6_draw_39 : decode cX6_draw 39 = .ok (.getfield 144, 3) := by decide +kernel
theorem dX6_draw_42 : decode cX6_draw 42 = .ok (.aload_n 0, 1) := by decide +kernel
theorem dX6_draw_43 : decode cX6_draw 43 = .ok (.getfield 50, 3) := by decide +kernel
theorem dX6_draw_46 : decode cX6_draw 46 = .ok (.getfield 147, 3) := by decide +kernel
theorem dX6_draw_49 : decode cX6_draw 49 = .ok (.aload_n 0, 1) := by decide +kernel
theorem dX6_draw_50 : decode cX6_draw 50 = .ok (.getfield 50, 3) := by decide +kernel
theorem dX6_draw_53 : decode cX6_draw 53 = .ok (.getfield 150, 3) := by decide +kernel
theorem dX6_draw_56 : decode cX6_draw 56 = .ok (.invokevirtual 153, 3) := by decide +kernel
theorem dX6_draw_59 : decode cX6_draw 59 = .ok (.aload_n 0, 1) := by decide +kernel
theorem dX6_draw_60 : decode cX6_draw 60 = .ok (.getfield 19, 3) := by decide +kernel
theorem dX6_draw_63 : decode cX6_draw 63 = .ok (.iconst 0, 1) := by decide +kernel
theorem dX6_draw_64 : decode cX6_draw 64 = .ok (.putfield 157, 3) := by decide +kernel
theorem dX6_draw_67 : decode cX6_draw 67 = .ok (.aload_n 0, 1) := by decide +kernel
theorem dX6_draw_68 : decode cX6_draw 68 = .ok (.getfield 10, 3) := by decide +kernel
theorem dX6_draw_71 : decode cX6_draw 71 = .ok (.getfield 160, 3) := by decide +kernel
theorem dX6_draw_74 : decode cX6_draw 74 = .ok (.aload_n 0, 1) := by decide +kernel
theorem dX6_draw_75 : decode cX6_draw 75 = .ok (.getfield 10, 3) := by decide +kernel
theorem dX6_draw_78 : decode cX6_draw 78 = .ok (.getfield 161, 3) := by decide +kernel
theorem dX6_draw_81 : decode cX6_draw 81 = .ok (.imul, 1) := by decide +kernel
theorem dX6_draw_82 : decode cX6_draw 82 = .ok (.ireturn, 1) := by decide +kernel
theorem dX6_count_0 : decode cX6_count 0 = .ok (.iload_n 1, 1) := by decide +kernel
theorem dX6_count_1 : decode cX6_count 1 = .ok (.tableswitch 164 0 12 #[67, 75, 83, 94, 113, 118, 123, 128, 133, 138, 143, 148, 156], 67) := by decide +kernel
theorem dX6_count_68 : decode cX6_count 68 = .ok (.aload_n 0, 1) := by decide +kernel
theorem dX6_count_69 : decode cX6_count 69 = .ok (.getfield 10, 3) := by decide +kernel
theorem dX6_count_72 : decode cX6_count 72 = .ok (.getfield 160, 3) := by decide +kernel
theorem dX6_count_75 : decode cX6_count 75 = .ok (.ireturn, 1) := by decide +kernel
theorem dX6_count_76 : decode cX6_count 76 = .ok (.aload_n 0, 1) := by decide +kernel
theorem dX6_count_77 : decode cX6_count 77 = .ok (.getfield 10, 3) := by decide +kernel
theorem dX6_count_80 : decode cX6_count 80 = .ok (.getfield 161, 3) := by decide +kernel
theorem dX6_count_83 : decode cX6_count 83 = .ok (.ireturn, 1) := by decide +kernel
theorem dX6_count_84 : decode cX6_count 84 = .ok (.aload_n 0, 1) := by decide +kernel
theorem dX6_count_85 : decode cX6_count 85 = .ok (.getfield 10, 3) := by decide +kernel
theorem dX6_count_88 : decode cX6_count 88 = .ok (.getfield 164, 3) := by decide +kernel
theorem dX6_count_91 : decode cX6_count 91 = .ok (.invokestatic 167, 3) := by decide +kernel
theorem dX6_count_94 : decode cX6_count 94 = .ok (.ireturn, 1) := by decide +kernel
theorem dX6_count_95 : decode cX6_count 95 = .ok (.aload_n 0, 1) := by decide +kernel
theorem dX6_count_96 : decode cX6_count 96 = .ok (.getfield 43, 3) := by decide +kernel
theorem dX6_count_99 : decode cX6_count 99 = .ok (.aload_n 0, 1) := by decide +kernel
theorem dX6_count_100 : decode cX6_count 100 = .ok (.getfield 10, 3) := by decide +kernel
theorem dX6_count_103 : decode cX6_count 103 = .ok (.invokevirtual 107, 3) := by decide +kernel
theorem dX6_count_106 : decode cX6_count 106 = .ok (.aload_n 0, 1) := by decide +kernel
theorem dX6_count_107 : decode cX6_count 107 = .ok (.getfield 43, 3) := by decide +kernel
theorem dX6_count_110 : decode cX6_count 110 = .ok (.getfield 112, 3) := by decide +kernel
theorem dX6_count_113 : decode cX6_count 113 = .ok (.ireturn, 1) := by decide +kernel
theorem dX6_count_114 : decode cX6_count 114 = .ok (.aload_n 0, 1) := by decide +kernel
theorem dX6_count_115 : decode cX6_count 115 = .ok (.invokevirtual 171, 3) := by decide +kernel
theorem dX6_count_118 : decode cX6_count 118 = .ok (.ireturn, 1) := by decide +kernel
theorem dX6_count_119 : decode cX6_count 119 = .ok (.aload_n 0, 1) := by decide +kernel
theorem dX6_count_120 : decode cX6_count 120 = .ok (.invokevirtual 175, 3) := by decide +kernel
theorem dX6_count_123 : decode cX6_count 123 = .ok (.ireturn, 1) := by decide +kernel
theorem dX6_count_124 : decode cX6_count 124 = .ok (.aload_n 0, 1) := by decide +kernel
theorem dX6_count_125 : decode cX6_count 125 = .ok (.invokevirtual 178, 3) := by decide +kernel
theorem dX6_count_128 : decode cX6_count 128 = .ok (.ireturn, 1) := by decide +kernel
theorem dX6_count_129 : decode cX6_count 129 = .ok (.aload_n 0, 1) := by decide +kernel
theorem dX6_count_130 : decode cX6_count 130 = .ok (.invokevirtual 181, 3) := by decide +kernel
theorem dX6_count_133 : decode cX6_count 133 = .ok (.ireturn, 1) := by decide +kernel
theorem dX6_count_134 : decode cX6_count 134 = .ok (.aload_n 0, 1) := by decide +kernel
theorem dX6_count_135 : decode cX6_count 135 = .ok (.invokevirtual 184, 3) := by decide +kernel
theorem dX6_count_138 : decode cX6_count 138 = .ok (.ireturn, 1) := by decide +kernel
theorem dX6_count_139 : decode cX6_count 139 = .ok (.aload_n 0, 1) := by decide +kernel
theorem dX6_count_140 : decode cX6_count 140 = .ok (.invokevirtual 187, 3) := by decide +kernel
theorem dX6_count_143 : decode cX6_count 143 = .ok (.ireturn, 1) := by decide +kernel
theorem dX6_count_144 : decode cX6_count 144 = .ok (.aload_n 0, 1) := by decide +kernel
theorem dX6_count_145 : decode cX6_count 145 = .ok (.invokevirtual 190, 3) := by decide +kernel
theorem dX6_count_148 : decode cX6_count 148 = .ok (.ireturn, 1) := by decide +kernel
theorem dX6_count_149 : decode cX6_count 149 = .ok (.aload_n 0, 1) := by decide +kernel
theorem dX6_count_150 : decode cX6_count 150 = .ok (.getfield 10, 3) := by decide +kernel
theorem dX6_count_153 : decode cX6_count 153 = .ok (.invokevirtual 193, 3) := by decide +kernel
theorem dX6_count_156 : decode cX6_count 156 = .ok (.ireturn, 1) := by decide +kernel
theorem dX6_count_157 : decode cX6_count 157 = .ok (.aload_n 0, 1) := by decide +kernel
theorem dX6_count_158 : decode cX6_count 158 = .ok (.getfield 19, 3) := by decide +kernel
theorem dX6_count_161 : decode cX6_count 161 = .ok (.getfield 157, 3) := by decide +kernel
theorem dX6_count_164 : decode cX6_count 164 = .ok (.ireturn, 1) := by decide +kernel
theorem dX6_count_165 : decode cX6_count 165 = .ok (.iconst (-1), 1) := by decide +kernel
theorem dX6_count_166 : decode cX6_count 166 = .ok (.ireturn, 1) := by decide +kernel
theorem dX6_tell_0 : decode cX6_tell 0 = .ok (.iload_n 1, 1) := by decide +kernel
theorem dX6_tell_1 : decode cX6_tell 1 = .ok (.iconst 5, 1) := by decide +kernel
theorem dX6_tell_2 : decode cX6_tell 2 = .ok (.invokestatic 71, 3) := by decide +kernel
theorem dX6_tell_5 : decode cX6_tell 5 = .ok (.ifCond .eq 21, 3) := by decide +kernel
theorem dX6_tell_8 : decode cX6_tell 8 = .ok (.iload_n 2, 1) := by decide +kernel
theorem dX6_tell_9 : decode cX6_tell 9 = .ok (.iconst 4, 1) := by decide +kernel
theorem dX6_tell_10 : decode cX6_tell 10 = .ok (.invokestatic 71, 3) := by decide +kernel
theorem dX6_tell_13 : decode cX6_tell 13 = .ok (.ifCond .eq 13, 3) := by decide +kernel
theorem dX6_tell_16 : decode cX6_tell 16 = .ok (.iload_n 3, 1) := by decide +kernel
theorem dX6_tell_17 : decode cX6_tell 17 = .ok (.sipush 4096, 3) := by decide +kernel
theorem dX6_tell_20 : decode cX6_tell 20 = .ok (.invokestatic 71, 3) := by decide +kernel
theorem dX6_tell_23 : decode cX6_tell 23 = .ok (.ifCond .ne 5, 3) := by decide +kernel
theorem dX6_tell_26 : decode cX6_tell 26 = .ok (.iconst (-1), 1) := by decide +kernel
theorem dX6_tell_27 : decode cX6_tell 27 = .ok (.ireturn, 1) := by decide +kernel
theorem dX6_tell_28 : decode cX6_tell 28 = .ok (.aload_n 0, 1) := by decide +kernel
theorem dX6_tell_29 : decode cX6_tell 29 = .ok (.getfield 10, 3) := by decide +kernel
theorem dX6_tell_32 : decode cX6_tell 32 = .ok (.getfield 75, 3) := by decide +kernel
theorem dX6_tell_35 : decode cX6_tell 35 = .ok (.iload_n 1, 1) := by decide +kernel
theorem dX6_tell_36 : decode cX6_tell 36 = .ok (.iaload, 1) := by decide +kernel
theorem dX6_tell_37 : decode cX6_tell 37 = .ok (.iload_n 2, 1) := by decide +kernel
theorem dX6_tell_38 : decode cX6_tell 38 = .ok (.if_icmp .ne 19, 3) := by decide +kernel
theorem dX6_tell_41 : decode cX6_tell 41 = .ok (.aload_n 0, 1) := by decide +kernel
theorem dX6_tell_42 : decode cX6_tell 42 = .ok (.getfield 10, 3) := by decide +kernel
theorem dX6_tell_45 : decode cX6_tell 45 = .ok (.getfield 78, 3) := by decide +kernel
theorem dX6_tell_48 : decode cX6_tell 48 = .ok (.iload_n 1, 1) := by decide +kernel
theorem dX6_tell_49 : decode cX6_tell 49 = .ok (.iaload, 1) := by decide +kernel
theorem dX6_tell_50 : decode cX6_tell 50 = .ok (.iload_n 3, 1) := by decide +kernel
theorem dX6_tell_51 : decode cX6_tell 51 = .ok (.if_icmp .ne 6, 3) := by decide +kernel
theorem dX6_tell_54 : decode cX6_tell 54 = .ok (.bipush (-2), 2) := by decide +kernel
theorem dX6_tell_56 : decode cX6_tell 56 = .ok (.ireturn, 1) := by decide +kernel
theorem dX6_tell_57 : decode cX6_tell 57 = .ok (.aload_n 0, 1) := by decide +kernel
theorem dX6_tell_58 : decode cX6_tell 58 = .ok (.getfield 19, 3) := by decide +kernel
theorem dX6_tell_61 : decode cX6_tell 61 = .ok (.aload_n 0, 1) := by decide +kernel
theorem dX6_tell_62 : decode cX6_tell 62 = .ok (.getfield 10, 3) := by decide +kernel
theorem dX6_tell_65 : decode cX6_tell 65 = .ok (.invokevirtual 196, 3) := by decide +kernel
theorem dX6_tell_68 : decode cX6_tell 68 = .ok (.aload_n 0, 1) := by decide +kernel
theorem dX6_tell_69 : decode cX6_tell 69 = .ok (.getfield 10, 3) := by decide +kernel
theorem dX6_tell_72 : decode cX6_tell 72 = .ok (.getfield 75, 3) := by decide +kernel
theorem dX6_tell_75 : decode cX6_tell 75 = .ok (.iload_n 1, 1) := by decide +kernel
theorem dX6_tell_76 : decode cX6_tell 76 = .ok (.iload_n 2, 1) := by decide +kernel
theorem dX6_tell_77 : decode cX6_tell 77 = .ok (.iastore, 1) := by decide +kernel
theorem dX6_tell_78 : decode cX6_tell 78 = .ok (.aload_n 0, 1) := by decide +kernel
theorem dX6_tell_79 : decode cX6_tell 79 = .ok (.getfield 10, 3) := by decide +kernel
theorem dX6_tell_82 : decode cX6_tell 82 = .ok (.getfield 78, 3) := by decide +kernel
theorem dX6_tell_85 : decode cX6_tell 85 = .ok (.iload_n 1, 1) := by decide +kernel
theorem dX6_tell_86 : decode cX6_tell 86 = .ok (.iload_n 3, 1) := by decide +kernel
theorem dX6_tell_87 : decode cX6_tell 87 = .ok (.iastore, 1) := by decide +kernel
theorem dX6_tell_88 : decode cX6_tell 88 = .ok (.iconst 1, 1) := by decide +kernel
theorem dX6_tell_89 : decode cX6_tell 89 = .ok (.ireturn, 1) := by decide +kernel
theorem dX6_order_0 : decode cX6_order 0 = .ok (.iload_n 1, 1) := by decide +kernel
theorem dX6_order_1 : decode cX6_order 1 = .ok (.invokestatic 199, 3) := by decide +kernel
theorem dX6_order_4 : decode cX6_order 4 = .ok (.ifCond .ne 5, 3) := by decide +kernel
theorem dX6_order_7 : decode cX6_order 7 = .ok (.iconst (-1), 1) := by decide +kernel
theorem dX6_order_8 : decode cX6_order 8 = .ok (.ireturn, 1) := by decide +kernel
theorem dX6_order_9 : decode cX6_order 9 = .ok (.aload_n 0, 1) := by decide +kernel
theorem dX6_order_10 : decode cX6_order 10 = .ok (.getfield 10, 3) := by decide +kernel
theorem dX6_order_13 : decode cX6_order 13 = .ok (.getfield 164, 3) := by decide +kernel
theorem dX6_order_16 : decode cX6_order 16 = .ok (.invokestatic 167, 3) := by decide +kernel
theorem dX6_order_19 : decode cX6_order 19 = .ok (.istore_n 2, 1) := by decide +kernel
theorem dX6_order_20 : decode cX6_order 20 = .ok (.iload_n 2, 1) := by decide +kernel
theorem dX6_order_21 : decode cX6_order 21 = .ok (.iload_n 1, 1) := by decide +kernel
theorem dX6_order_22 : decode cX6_order 22 = .ok (.if_icmp .ne 6, 3) := by decide +kernel
theorem dX6_order_25 : decode cX6_order 25 = .ok (.bipush (-2), 2) := by decide +kernel
theorem dX6_order_27 : decode cX6_order 27 = .ok (.ireturn, 1) := by decide +kernel
theorem dX6_order_28 : decode cX6_order 28 = .ok (.aload_n 0, 1) := by decide +kernel
theorem dX6_order_29 : decode cX6_order 29 = .ok (.getfield 19, 3) := by decide +kernel
theorem dX6_order_32 : decode cX6_order 32 = .ok (.aload_n 0, 1) := by decide +kernel
theorem dX6_order_33 : decode cX6_order 33 = .ok (.getfield 10, 3) := by decide +kernel
theorem dX6_order_36 : decode cX6_order 36 = .ok (.invokevirtual 196, 3) := by decide +kernel
theorem dX6_order_39 : decode cX6_order 39 = .ok (.iload_n 1, 1) := by decide +kernel
theorem dX6_order_40 : decode cX6_order 40 = .ok (.istore_n 3, 1) := by decide +kernel
theorem dX6_order_41 : decode cX6_order 41 = .ok (.iconst 4, 1) := by decide +kernel
theorem dX6_order_42 : decode cX6_order 42 = .ok (.istore 4, 2) := by decide +kernel
theorem dX6_order_44 : decode cX6_order 44 = .ok (.iload 4, 2) := by decide +kernel
theorem dX6_order_46 : decode cX6_order 46 = .ok (.ifCond .lt 28, 3) := by decide +kernel
theorem dX6_order_49 : decode cX6_order 49 = .ok (.aload_n 0, 1) := by decide +kernel
theorem dX6_order_50 : decode cX6_order 50 = .ok (.getfield 10, 3) := by decide +kernel
theorem dX6_order_53 : decode cX6_order 53 = .ok (.getfield 164, 3) := by decide +kernel
theorem dX6_order_56 : decode cX6_order 56 = .ok (.iload 4, 2) := by decide +kernel
theorem dX6_order_58 : decode cX6_order 58 = .ok (.iload_n 3, 1) := by decide +kernel
theorem dX6_order_59 : decode cX6_order 59 = .ok (.bipush 10, 2) := by decide +kernel
theorem dX6_order_61 : decode cX6_order 61 = .ok (.irem, 1) := by decide +kernel
theorem dX6_order_62 : decode cX6_order 62 = .ok (.iastore, 1) := by decide +kernel
theorem dX6_order_63 : decode cX6_order 63 = .ok (.iload_n 3, 1) := by decide +kernel
theorem dX6_order_64 : decode cX6_order 64 = .ok (.bipush 10, 2) := by decide +kernel
theorem dX6_order_66 : decode cX6_order 66 = .ok (.idiv, 1) := by decide +kernel
theorem dX6_order_67 : decode cX6_order 67 = .ok (.istore_n 3, 1) := by decide +kernel
theorem dX6_order_68 : decode cX6_order 68 = .ok (.iinc 4 (-1), 3) := by decide +kernel
theorem dX6_order_71 : decode cX6_order 71 = .ok (.goto (-27), 3) := by decide +kernel
theorem dX6_order_74 : decode cX6_order 74 = .ok (.iload_n 2, 1) := by decide +kernel
theorem dX6_order_75 : decode cX6_order 75 = .ok (.ireturn, 1) := by decide +kernel
theorem dX6_put_0 : decode cX6_put 0 = .ok (.aload_n 0, 1) := by decide +kernel
theorem dX6_put_1 : decode cX6_put 1 = .ok (.getfield 10, 3) := by decide +kernel
theorem dX6_put_4 : decode cX6_put 4 = .ok (.iload_n 1, 1) := by decide +kernel
theorem dX6_put_5 : decode cX6_put 5 = .ok (.iload_n 2, 1) := by decide +kernel
theorem dX6_put_6 : decode cX6_put 6 = .ok (.invokevirtual 100, 3) := by decide +kernel
theorem dX6_put_9 : decode cX6_put 9 = .ok (.ifCond .eq 12, 3) := by decide +kernel
theorem dX6_put_12 : decode cX6_put 12 = .ok (.iload_n 3, 1) := by decide +kernel
theorem dX6_put_13 : decode cX6_put 13 = .ok (.bipush 32, 2) := by decide +kernel
theorem dX6_put_15 : decode cX6_put 15 = .ok (.invokestatic 71, 3) := by decide +kernel
theorem dX6_put_18 : decode cX6_put 18 = .ok (.ifCond .ne 5, 3) := by decide +kernel
theorem dX6_put_21 : decode cX6_put 21 = .ok (.iconst (-1), 1) := by decide +kernel
theorem dX6_put_22 : decode cX6_put 22 = .ok (.ireturn, 1) := by decide +kernel
theorem dX6_put_23 : decode cX6_put 23 = .ok (.aload_n 0, 1) := by decide +kernel
theorem dX6_put_24 : decode cX6_put 24 = .ok (.getfield 10, 3) := by decide +kernel
theorem dX6_put_27 : decode cX6_put 27 = .ok (.iload_n 1, 1) := by decide +kernel
theorem dX6_put_28 : decode cX6_put 28 = .ok (.iload_n 2, 1) := by decide +kernel
theorem dX6_put_29 : decode cX6_put 29 = .ok (.invokevirtual 103, 3) := by decide +kernel
theorem dX6_put_32 : decode cX6_put 32 = .ok (.istore 4, 2) := by decide +kernel
theorem dX6_put_34 : decode cX6_put 34 = .ok (.iload 4, 2) := by decide +kernel
theorem dX6_put_36 : decode cX6_put 36 = .ok (.iload_n 3, 1) := by decide +kernel
theorem dX6_put_37 : decode cX6_put 37 = .ok (.if_icmp .ne 6, 3) := by decide +kernel
theorem dX6_put_40 : decode cX6_put 40 = .ok (.bipush (-2), 2) := by decide +kernel
theorem dX6_put_42 : decode cX6_put 42 = .ok (.ireturn, 1) := by decide +kernel
theorem dX6_put_43 : decode cX6_put 43 = .ok (.aload_n 0, 1) := by decide +kernel
theorem dX6_put_44 : decode cX6_put 44 = .ok (.getfield 19, 3) := by decide +kernel
theorem dX6_put_47 : decode cX6_put 47 = .ok (.aload_n 0, 1) := by decide +kernel
theorem dX6_put_48 : decode cX6_put 48 = .ok (.getfield 10, 3) := by decide +kernel
theorem dX6_put_51 : decode cX6_put 51 = .ok (.invokevirtual 196, 3) := by decide +kernel
theorem dX6_put_54 : decode cX6_put 54 = .ok (.aload_n 0, 1) := by decide +kernel
theorem dX6_put_55 : decode cX6_put 55 = .ok (.getfield 10, 3) := by decide +kernel
theorem dX6_put_58 : decode cX6_put 58 = .ok (.iload_n 1, 1) := by decide +kernel
theorem dX6_put_59 : decode cX6_put 59 = .ok (.iload_n 2, 1) := by decide +kernel
theorem dX6_put_60 : decode cX6_put 60 = .ok (.iload_n 3, 1) := by decide +kernel
theorem dX6_put_61 : decode cX6_put 61 = .ok (.invokevirtual 202, 3) := by decide +kernel
theorem dX6_put_64 : decode cX6_put 64 = .ok (.iload 4, 2) := by decide +kernel
theorem dX6_put_66 : decode cX6_put 66 = .ok (.ireturn, 1) := by decide +kernel
theorem dX6_fill_0 : decode cX6_fill 0 = .ok (.aload_n 0, 1) := by decide +kernel
theorem dX6_fill_1 : decode cX6_fill 1 = .ok (.getfield 43, 3) := by decide +kernel
theorem dX6_fill_4 : decode cX6_fill 4 = .ok (.aload_n 0, 1) := by decide +kernel
theorem dX6_fill_5 : decode cX6_fill 5 = .ok (.getfield 10, 3) := by decide +kernel
theorem dX6_fill_8 : decode cX6_fill 8 = .ok (.invokevirtual 107, 3) := by decide +kernel
theorem dX6_fill_11 : decode cX6_fill 11 = .ok (.iload_n 1, 1) := by decide +kernel
theorem dX6_fill_12 : decode cX6_fill 12 = .ok (.aload_n 0, 1) := by decide +kernel
theorem dX6_fill_13 : decode cX6_fill 13 = .ok (.getfield 43, 3) := by decide +kernel
theorem dX6_fill_16 : decode cX6_fill 16 = .ok (.getfield 112, 3) := by decide +kernel
theorem dX6_fill_19 : decode cX6_fill 19 = .ok (.invokestatic 71, 3) := by decide +kernel
theorem dX6_fill_22 : decode cX6_fill 22 = .ok (.ifCond .eq 12, 3) := by decide +kernel
theorem dX6_fill_25 : decode cX6_fill 25 = .ok (.iload_n 2, 1) := by decide +kernel
theorem dX6_fill_26 : decode cX6_fill 26 = .ok (.bipush 32, 2) := by decide +kernel
theorem dX6_fill_28 : decode cX6_fill 28 = .ok (.invokestatic 71, 3) := by decide +kernel
theorem dX6_fill_31 : decode cX6_fill 31 = .ok (.ifCond .ne 5, 3) := by decide +kernel
theorem dX6_fill_34 : decode cX6_fill 34 = .ok (.iconst (-1), 1) := by decide +kernel
theorem dX6_fill_35 : decode cX6_fill 35 = .ok (.ireturn, 1) := by decide +kernel
theorem dX6_fill_36 : decode cX6_fill 36 = .ok (.aload_n 0, 1) := by decide +kernel
theorem dX6_fill_37 : decode cX6_fill 37 = .ok (.getfield 10, 3) := by decide +kernel
theorem dX6_fill_40 : decode cX6_fill 40 = .ok (.aload_n 0, 1) := by decide +kernel
theorem dX6_fill_41 : decode cX6_fill 41 = .ok (.getfield 43, 3) := by decide +kernel
theorem dX6_fill_44 : decode cX6_fill 44 = .ok (.iload_n 1, 1) := by decide +kernel
theorem dX6_fill_45 : decode cX6_fill 45 = .ok (.invokevirtual 116, 3) := by decide +kernel
theorem dX6_fill_48 : decode cX6_fill 48 = .ok (.aload_n 0, 1) := by decide +kernel
theorem dX6_fill_49 : decode cX6_fill 49 = .ok (.getfield 43, 3) := by decide +kernel
theorem dX6_fill_52 : decode cX6_fill 52 = .ok (.iload_n 1, 1) := by decide +kernel
theorem dX6_fill_53 : decode cX6_fill 53 = .ok (.invokevirtual 119, 3) := by decide +kernel
theorem dX6_fill_56 : decode cX6_fill 56 = .ok (.invokevirtual 103, 3) := by decide +kernel
theorem dX6_fill_59 : decode cX6_fill 59 = .ok (.iload_n 2, 1) := by decide +kernel
theorem dX6_fill_60 : decode cX6_fill 60 = .ok (.if_icmp .ne 6, 3) := by decide +kernel
theorem dX6_fill_63 : decode cX6_fill 63 = .ok (.bipush (-2), 2) := by decide +kernel
theorem dX6_fill_65 : decode cX6_fill 65 = .ok (.ireturn, 1) := by decide +kernel
theorem dX6_fill_66 : decode cX6_fill 66 = .ok (.aload_n 0, 1) := by decide +kernel
theorem dX6_fill_67 : decode cX6_fill 67 = .ok (.getfield 19, 3) := by decide +kernel
theorem dX6_fill_70 : decode cX6_fill 70 = .ok (.aload_n 0, 1) := by decide +kernel
theorem dX6_fill_71 : decode cX6_fill 71 = .ok (.getfield 10, 3) := by decide +kernel
theorem dX6_fill_74 : decode cX6_fill 74 = .ok (.invokevirtual 196, 3) := by decide +kernel
theorem dX6_fill_77 : decode cX6_fill 77 = .ok (.iconst 0, 1) := by decide +kernel
theorem dX6_fill_78 : decode cX6_fill 78 = .ok (.istore_n 3, 1) := by decide +kernel
theorem dX6_fill_79 : decode cX6_fill 79 = .ok (.iload_n 3, 1) := by decide +kernel
theorem dX6_fill_80 : decode cX6_fill 80 = .ok (.aload_n 0, 1) := by decide +kernel
theorem dX6_fill_81 : decode cX6_fill 81 = .ok (.getfield 10, 3) := by decide +kernel
theorem dX6_fill_84 : decode cX6_fill 84 = .ok (.getfield 161, 3) := by decide +kernel
theorem dX6_fill_87 : decode cX6_fill 87 = .ok (.if_icmp .ge 55, 3) := by decide +kernel
theorem dX6_fill_90 : decode cX6_fill 90 = .ok (.iconst 0, 1) := by decide +kernel
theorem dX6_fill_91 : decode cX6_fill 91 = .ok (.istore 4, 2) := by decide +kernel
theorem dX6_fill_93 : decode cX6_fill 93 = .ok (.iload 4, 2) := by decide +kernel
theorem dX6_fill_95 : decode cX6_fill 95 = .ok (.aload_n 0, 1) := by decide +kernel
theorem dX6_fill_96 : decode cX6_fill 96 = .ok (.getfield 10, 3) := by decide +kernel
theorem dX6_fill_99 : decode cX6_fill 99 = .ok (.getfield 160, 3) := by decide +kernel
theorem dX6_fill_102 : decode cX6_fill 102 = .ok (.if_icmp .ge 34, 3) := by decide +kernel
theorem dX6_fill_105 : decode cX6_fill 105 = .ok (.aload_n 0, 1) := by decide +kernel
theorem dX6_fill_106 : decode cX6_fill 106 = .ok (.getfield 43, 3) := by decide +kernel
theorem dX6_fill_109 : decode cX6_fill 109 = .ok (.iload 4, 2) := by decide +kernel
theorem dX6_fill_111 : decode cX6_fill 111 = .ok (.iload_n 3, 1) := by decide +kernel
theorem dX6_fill_112 : decode cX6_fill 112 = .ok (.invokevirtual 111, 3) := by decide +kernel
theorem dX6_fill_115 : decode cX6_fill 115 = .ok (.iload_n 1, 1) := by decide +kernel
theorem dX6_fill_116 : decode cX6_fill 116 = .ok (.if_icmp .ne 14, 3) := by decide +kernel
theorem dX6_fill_119 : decode cX6_fill 119 = .ok (.aload_n 0, 1) := by decide +kernel
theorem dX6_fill_120 : decode cX6_fill 120 = .ok (.getfield 10, 3) := by decide +kernel
theorem dX6_fill_123 : decode cX6_fill 123 = .ok (.iload 4, 2) := by decide +kernel
theorem dX6_fill_125 : decode cX6_fill 125 = .ok (.iload_n 3, 1) := by decide +kernel
theorem dX6_fill_126 : decode cX6_fill 126 = .ok (.iload_n 2, 1) := by decide +kernel
theorem dX6_fill_127 : decode cX6_fill 127 = .ok (.invokevirtual 202, 3) := by decide +kernel
theorem dX6_fill_130 : decode cX6_fill 130 = .ok (.iinc 4 1, 3) := by decide +kernel
theorem dX6_fill_133 : decode cX6_fill 133 = .ok (.goto (-40), 3) := by decide +kernel
theorem dX6_fill_136 : decode cX6_fill 136 = .ok (.iinc 3 1, 3) := by decide +kernel
theorem dX6_fill_139 : decode cX6_fill 139 = .ok (.goto (-60), 3) := by decide +kernel
theorem dX6_fill_142 : decode cX6_fill 142 = .ok (.aload_n 0, 1) := by decide +kernel
theorem dX6_fill_143 : decode cX6_fill 143 = .ok (.getfield 43, 3) := by decide +kernel
theorem dX6_fill_146 : decode cX6_fill 146 = .ok (.iload_n 1, 1) := by decide +kernel
theorem dX6_fill_147 : decode cX6_fill 147 = .ok (.invokevirtual 122, 3) := by decide +kernel
theorem dX6_fill_150 : decode cX6_fill 150 = .ok (.ireturn, 1) := by decide +kernel
theorem dX6_grow_0 : decode cX6_grow 0 = .ok (.aload_n 0, 1) := by decide +kernel
theorem dX6_grow_1 : decode cX6_grow 1 = .ok (.invokevirtual 206, 3) := by decide +kernel
theorem dX6_grow_4 : decode cX6_grow 4 = .ok (.iconst 0, 1) := by decide +kernel
theorem dX6_grow_5 : decode cX6_grow 5 = .ok (.istore_n 1, 1) := by decide +kernel
theorem dX6_grow_6 : decode cX6_grow 6 = .ok (.iconst 0, 1) := by decide +kernel
theorem dX6_grow_7 : decode cX6_grow 7 = .ok (.istore_n 2, 1) := by decide +kernel
theorem dX6_grow_8 : decode cX6_grow 8 = .ok (.iload_n 2, 1) := by decide +kernel
theorem dX6_grow_9 : decode cX6_grow 9 = .ok (.bipush 48, 2) := by decide +kernel
theorem dX6_grow_11 : decode cX6_grow 11 = .ok (.if_icmp .ge 30, 3) := by decide +kernel
theorem dX6_grow_14 : decode cX6_grow 14 = .ok (.aload_n 0, 1) := by decide +kernel
theorem dX6_grow_15 : decode cX6_grow 15 = .ok (.getfield 60, 3) := by decide +kernel
theorem dX6_grow_18 : decode cX6_grow 18 = .ok (.iload_n 2, 1) := by decide +kernel
theorem dX6_grow_19 : decode cX6_grow 19 = .ok (.iaload, 1) := by decide +kernel
theorem dX6_grow_20 : decode cX6_grow 20 = .ok (.aload_n 0, 1) := by decide +kernel
theorem dX6_grow_21 : decode cX6_grow 21 = .ok (.getfield 10, 3) := by decide +kernel
theorem dX6_grow_24 : decode cX6_grow 24 = .ok (.getfield 209, 3) := by decide +kernel
theorem dX6_grow_27 : decode cX6_grow 27 = .ok (.iload_n 2, 1) := by decide +kernel
theorem dX6_grow_28 : decode cX6_grow 28 = .ok (.iaload, 1) := by decide +kernel
theorem dX6_grow_29 : decode cX6_grow 29 = .ok (.if_icmp .eq 6, 3) := by decide +kernel
theorem dX6_grow_32 : decode cX6_grow 32 = .ok (.iinc 1 1, 3) := by decide +kernel
theorem dX6_grow_35 : decode cX6_grow 35 = .ok (.iinc 2 1, 3) := by decide +kernel
theorem dX6_grow_38 : decode cX6_grow 38 = .ok (.goto (-30), 3) := by decide +kernel
theorem dX6_grow_41 : decode cX6_grow 41 = .ok (.iload_n 1, 1) := by decide +kernel
theorem dX6_grow_42 : decode cX6_grow 42 = .ok (.ifCond .ne 6, 3) := by decide +kernel
theorem dX6_grow_45 : decode cX6_grow 45 = .ok (.bipush (-2), 2) := by decide +kernel
theorem dX6_grow_47 : decode cX6_grow 47 = .ok (.ireturn, 1) := by decide +kernel
theorem dX6_grow_48 : decode cX6_grow 48 = .ok (.aload_n 0, 1) := by decide +kernel
theorem dX6_grow_49 : decode cX6_grow 49 = .ok (.getfield 19, 3) := by decide +kernel
theorem dX6_grow_52 : decode cX6_grow 52 = .ok (.aload_n 0, 1) := by decide +kernel
theorem dX6_grow_53 : decode cX6_grow 53 = .ok (.getfield 10, 3) := by decide +kernel
theorem dX6_grow_56 : decode cX6_grow 56 = .ok (.invokevirtual 196, 3) := by decide +kernel
theorem dX6_grow_59 : decode cX6_grow 59 = .ok (.aload_n 0, 1) := by decide +kernel
theorem dX6_grow_60 : decode cX6_grow 60 = .ok (.getfield 60, 3) := by decide +kernel
theorem dX6_grow_63 : decode cX6_grow 63 = .ok (.iconst 0, 1) := by decide +kernel
theorem dX6_grow_64 : decode cX6_grow 64 = .ok (.aload_n 0, 1) := by decide +kernel
theorem dX6_grow_65 : decode cX6_grow 65 = .ok (.getfield 10, 3) := by decide +kernel
theorem dX6_grow_68 : decode cX6_grow 68 = .ok (.getfield 209, 3) := by decide +kernel
theorem dX6_grow_71 : decode cX6_grow 71 = .ok (.iconst 0, 1) := by decide +kernel
theorem dX6_grow_72 : decode cX6_grow 72 = .ok (.bipush 48, 2) := by decide +kernel
theorem dX6_grow_74 : decode cX6_grow 74 = .ok (.invokestatic 210, 3) := by decide +kernel
theorem dX6_grow_77 : decode cX6_grow 77 = .ok (.iload_n 1, 1) := by decide +kernel
theorem dX6_grow_78 : decode cX6_grow 78 = .ok (.ireturn, 1) := by decide +kernel
theorem dX6_size_0 : decode cX6_size 0 = .ok (.iload_n 1, 1) := by decide +kernel
theorem dX6_size_1 : decode cX6_size 1 = .ok (.iconst 2, 1) := by decide +kernel
theorem dX6_size_2 : decode cX6_size 2 = .ok (.invokestatic 71, 3) := by decide +kernel
theorem dX6_size_5 : decode cX6_size 5 = .ok (.ifCond .eq 23, 3) := by decide +kernel
theorem dX6_size_8 : decode cX6_size 8 = .ok (.iload_n 2, 1) := by decide +kernel
theorem dX6_size_9 : decode cX6_size 9 = .ok (.iconst 1, 1) := by decide +kernel
theorem dX6_size_10 : decode cX6_size 10 = .ok (.if_icmp .lt 18, 3) := by decide +kernel
theorem dX6_size_13 : decode cX6_size 13 = .ok (.iload_n 2, 1) := by decide +kernel
theorem dX6_size_14 : decode cX6_size 14 = .ok (.iload_n 1, 1) := by decide +kernel
theorem dX6_size_15 : decode cX6_size 15 = .ok (.ifCond .ne 8, 3) := by decide +kernel
theorem dX6_size_18 : decode cX6_size 18 = .ok (.bipush 8, 2) := by decide +kernel
theorem dX6_size_20 : decode cX6_size 20 = .ok (.goto 5, 3) := by decide +kernel
theorem dX6_size_23 : decode cX6_size 23 = .ok (.bipush 6, 2) := by decide +kernel
theorem dX6_size_25 : decode cX6_size 25 = .ok (.if_icmp .le 5, 3) := by decide +kernel
theorem dX6_size_28 : decode cX6_size 28 = .ok (.iconst (-1), 1) := by decide +kernel
theorem dX6_size_29 : decode cX6_size 29 = .ok (.ireturn, 1) := by decide +kernel
theorem dX6_size_30 : decode cX6_size 30 = .ok (.iload_n 1, 1) := by decide +kernel
theorem dX6_size_31 : decode cX6_size 31 = .ok (.ifCond .ne 13, 3) := by decide +kernel
theorem dX6_size_34 : decode cX6_size 34 = .ok (.aload_n 0, 1) := by decide +kernel
theorem dX6_size_35 : decode cX6_size 35 = .ok (.getfield 10, 3) := by decide +kernel
theorem dX6_size_38 : decode cX6_size 38 = .ok (.getfield 160, 3) := by decide +kernel
theorem dX6_size_41 : decode cX6_size 41 = .ok (.goto 10, 3) := by decide +kernel
theorem dX6_size_44 : decode cX6_size 44 = .ok (.aload_n 0, 1) := by decide +kernel
theorem dX6_size_45 : decode cX6_size 45 = .ok (.getfield 10, 3) := by decide +kernel
theorem dX6_size_48 : decode cX6_size 48 = .ok (.getfield 161, 3) := by decide +kernel
theorem dX6_size_51 : decode cX6_size 51 = .ok (.istore_n 3, 1) := by decide +kernel
theorem dX6_size_52 : decode cX6_size 52 = .ok (.iload_n 3, 1) := by decide +kernel
theorem dX6_size_53 : decode cX6_size 53 = .ok (.iload_n 2, 1) := by decide +kernel
theorem dX6_size_54 : decode cX6_size 54 = .ok (.if_icmp .ne 6, 3) := by decide +kernel
theorem dX6_size_57 : decode cX6_size 57 = .ok (.bipush (-2), 2) := by decide +kernel
theorem dX6_size_59 : decode cX6_size 59 = .ok (.ireturn, 1) := by decide +kernel
theorem dX6_size_60 : decode cX6_size 60 = .ok (.aload_n 0, 1) := by decide +kernel
theorem dX6_size_61 : decode cX6_size 61 = .ok (.getfield 19, 3) := by decide +kernel
theorem dX6_size_64 : decode cX6_size 64 = .ok (.aload_n 0, 1) := by decide +kernel
theorem dX6_size_65 : decode cX6_size 65 = .ok (.getfield 10, 3) := by decide +kernel
theorem dX6_size_68 : decode cX6_size 68 = .ok (.invokevirtual 196, 3) := by decide +kernel
theorem dX6_size_71 : decode cX6_size 71 = .ok (.iload_n 1, 1) := by decide +kernel
theorem dX6_size_72 : decode cX6_size 72 = .ok (.ifCond .ne 14, 3) := by decide +kernel
theorem dX6_size_75 : decode cX6_size 75 = .ok (.aload_n 0, 1) := by decide +kernel
theorem dX6_size_76 : decode cX6_size 76 = .ok (.getfield 10, 3) := by decide +kernel
theorem dX6_size_79 : decode cX6_size 79 = .ok (.iload_n 2, 1) := by decide +kernel
theorem dX6_size_80 : decode cX6_size 80 = .ok (.putfield 160, 3) := by decide +kernel
theorem dX6_size_83 : decode cX6_size 83 = .ok (.goto 11, 3) := by decide +kernel
theorem dX6_size_86 : decode cX6_size 86 = .ok (.aload_n 0, 1) := by decide +kernel
theorem dX6_size_87 : decode cX6_size 87 = .ok (.getfield 10, 3) := by decide +kernel
theorem dX6_size_90 : decode cX6_size 90 = .ok (.iload_n 2, 1) := by decide +kernel
theorem dX6_size_91 : decode cX6_size 91 = .ok (.putfield 161, 3) := by decide +kernel
theorem dX6_size_94 : decode cX6_size 94 = .ok (.aload_n 0, 1) := by decide +kernel
theorem dX6_size_95 : decode cX6_size 95 = .ok (.getfield 10, 3) := by decide +kernel
theorem dX6_size_98 : decode cX6_size 98 = .ok (.invokevirtual 216, 3) := by decide +kernel
theorem dX6_size_101 : decode cX6_size 101 = .ok (.iload_n 3, 1) := by decide +kernel
theorem dX6_size_102 : decode cX6_size 102 = .ok (.ireturn, 1) := by decide +kernel
theorem dX6_drift_0 : decode cX6_drift 0 = .ok (.iload_n 1, 1) := by decide +kernel
theorem dX6_drift_1 : decode cX6_drift 1 = .ok (.iconst 1, 1) := by decide +kernel
theorem dX6_drift_2 : decode cX6_drift 2 = .ok (.if_icmp .lt 9, 3) := by decide +kernel
theorem dX6_drift_5 : decode cX6_drift 5 = .ok (.iload_n 1, 1) := by decide +kernel
theorem dX6_drift_6 : decode cX6_drift 6 = .ok (.bipush 40, 2) := by decide +kernel
theorem dX6_drift_8 : decode cX6_drift 8 = .ok (.if_icmp .le 5, 3) := by decide +kernel
theorem dX6_drift_11 : decode cX6_drift 11 = .ok (.iconst (-1), 1) := by decide +kernel
theorem dX6_drift_12 : decode cX6_drift 12 = .ok (.ireturn, 1) := by decide +kernel
theorem dX6_drift_13 : decode cX6_drift 13 = .ok (.iconst 0, 1) := by decide +kernel
theorem dX6_drift_14 : decode cX6_drift 14 = .ok (.istore_n 2, 1) := by decide +kernel
theorem dX6_drift_15 : decode cX6_drift 15 = .ok (.iload_n 2, 1) := by decide +kernel
theorem dX6_drift_16 : decode cX6_drift 16 = .ok (.iload_n 1, 1) := by decide +kernel
theorem dX6_drift_17 : decode cX6_drift 17 = .ok (.if_icmp .ge 24, 3) := by decide +kernel
theorem dX6_drift_20 : decode cX6_drift 20 = .ok (.aload_n 0, 1) := by decide +kernel
theorem dX6_drift_21 : decode cX6_drift 21 = .ok (.getfield 19, 3) := by decide +kernel
theorem dX6_drift_24 : decode cX6_drift 24 = .ok (.aload_n 0, 1) := by decide +kernel
theorem dX6_drift_25 : decode cX6_drift 25 = .ok (.getfield 10, 3) := by decide +kernel
theorem dX6_drift_28 : decode cX6_drift 28 = .ok (.invokevirtual 196, 3) := by decide +kernel
theorem dX6_drift_31 : decode cX6_drift 31 = .ok (.aload_n 0, 1) := by decide +kernel
theorem dX6_drift_32 : decode cX6_drift 32 = .ok (.invokevirtual 219, 3) := by decide +kernel
theorem dX6_drift_35 : decode cX6_drift 35 = .ok (.iinc 2 1, 3) := by decide +kernel
theorem dX6_drift_38 : decode cX6_drift 38 = .ok (.goto (-23), 3) := by decide +kernel
theorem dX6_drift_41 : decode cX6_drift 41 = .ok (.aload_n 0, 1) := by decide +kernel
theorem dX6_drift_42 : decode cX6_drift 42 = .ok (.getfield 43, 3) := by decide +kernel
theorem dX6_drift_45 : decode cX6_drift 45 = .ok (.aload_n 0, 1) := by decide +kernel
theorem dX6_drift_46 : decode cX6_drift 46 = .ok (.getfield 10, 3) := by decide +kernel
theorem dX6_drift_49 : decode cX6_drift 49 = .ok (.invokevirtual 107, 3) := by decide +kernel
theorem dX6_drift_52 : decode cX6_drift 52 = .ok (.aload_n 0, 1) := by decide +kernel
theorem dX6_drift_53 : decode cX6_drift 53 = .ok (.getfield 43, 3) := by decide +kernel
theorem dX6_drift_56 : decode cX6_drift 56 = .ok (.getfield 112, 3) := by decide +kernel
theorem dX6_drift_59 : decode cX6_drift 59 = .ok (.ireturn, 1) := by decide +kernel
theorem dX6_undo_0 : decode cX6_undo 0 = .ok (.aload_n 0, 1) := by decide +kernel
theorem dX6_undo_1 : decode cX6_undo 1 = .ok (.getfield 19, 3) := by decide +kernel
theorem dX6_undo_4 : decode cX6_undo 4 = .ok (.aload_n 0, 1) := by decide +kernel
theorem dX6_undo_5 : decode cX6_undo 5 = .ok (.getfield 10, 3) := by decide +kernel
theorem dX6_undo_8 : decode cX6_undo 8 = .ok (.invokevirtual 222, 3) := by decide +kernel
theorem dX6_undo_11 : decode cX6_undo 11 = .ok (.ifCond .eq 13, 3) := by decide +kernel
theorem dX6_undo_14 : decode cX6_undo 14 = .ok (.aload_n 0, 1) := by decide +kernel
theorem dX6_undo_15 : decode cX6_undo 15 = .ok (.getfield 19, 3) := by decide +kernel
theorem dX6_undo_18 : decode cX6_undo 18 = .ok (.getfield 157, 3) := by decide +kernel
theorem dX6_undo_21 : decode cX6_undo 21 = .ok (.goto 5, 3) := by decide +kernel
theorem dX6_undo_24 : decode cX6_undo 24 = .ok (.bipush (-4), 2) := by decide +kernel
theorem dX6_undo_26 : decode cX6_undo 26 = .ok (.ireturn, 1) := by decide +kernel
theorem dX6_seed_0 : decode cX6_seed 0 = .ok (.iload_n 1, 1) := by decide +kernel
theorem dX6_seed_1 : decode cX6_seed 1 = .ok (.ifCond .ge 5, 3) := by decide +kernel
theorem dX6_seed_4 : decode cX6_seed 4 = .ok (.iconst (-1), 1) := by decide +kernel
theorem dX6_seed_5 : decode cX6_seed 5 = .ok (.ireturn, 1) := by decide +kernel
theorem dX6_seed_6 : decode cX6_seed 6 = .ok (.aload_n 0, 1) := by decide +kernel
theorem dX6_seed_7 : decode cX6_seed 7 = .ok (.getfield 10, 3) := by decide +kernel
theorem dX6_seed_10 : decode cX6_seed 10 = .ok (.getfield 226, 3) := by decide +kernel
theorem dX6_seed_13 : decode cX6_seed 13 = .ok (.istore_n 2, 1) := by decide +kernel
theorem dX6_seed_14 : decode cX6_seed 14 = .ok (.aload_n 0, 1) := by decide +kernel
theorem dX6_seed_15 : decode cX6_seed 15 = .ok (.getfield 10, 3) := by decide +kernel
theorem dX6_seed_18 : decode cX6_seed 18 = .ok (.iload_n 1, 1) := by decide +kernel
theorem dX6_seed_19 : decode cX6_seed 19 = .ok (.putfield 226, 3) := by decide +kernel
theorem dX6_seed_22 : decode cX6_seed 22 = .ok (.iload_n 2, 1) := by decide +kernel
theorem dX6_seed_23 : decode cX6_seed 23 = .ok (.ireturn, 1) := by decide +kernel
theorem dX6_gaps_0 : decode cX6_gaps 0 = .ok (.iload_n 1, 1) := by decide +kernel
theorem dX6_gaps_1 : decode cX6_gaps 1 = .ok (.iload_n 2, 1) := by decide +kernel
theorem dX6_gaps_2 : decode cX6_gaps 2 = .ok (.iload_n 3, 1) := by decide +kernel
theorem dX6_gaps_3 : decode cX6_gaps 3 = .ok (.invokestatic 229, 3) := by decide +kernel
theorem dX6_gaps_6 : decode cX6_gaps 6 = .ok (.ifCond .eq 13, 3) := by decide +kernel
theorem dX6_gaps_9 : decode cX6_gaps 9 = .ok (.aload_n 0, 1) := by decide +kernel
theorem dX6_gaps_10 : decode cX6_gaps 10 = .ok (.iload_n 1, 1) := by decide +kernel
theorem dX6_gaps_11 : decode cX6_gaps 11 = .ok (.iload_n 2, 1) := by decide +kernel
theorem dX6_gaps_12 : decode cX6_gaps 12 = .ok (.iload_n 3, 1) := by decide +kernel
theorem dX6_gaps_13 : decode cX6_gaps 13 = .ok (.invokevirtual 233, 3) := by decide +kernel
theorem dX6_gaps_16 : decode cX6_gaps 16 = .ok (.goto 4, 3) := by decide +kernel
theorem dX6_gaps_19 : decode cX6_gaps 19 = .ok (.iconst (-1), 1) := by decide +kernel
theorem dX6_gaps_20 : decode cX6_gaps 20 = .ok (.ireturn, 1) := by decide +kernel
theorem dX6_aside_0 : decode cX6_aside 0 = .ok (.iload_n 1, 1) := by decide +kernel
theorem dX6_aside_1 : decode cX6_aside 1 = .ok (.iload_n 2, 1) := by decide +kernel
theorem dX6_aside_2 : decode cX6_aside 2 = .ok (.iload_n 3, 1) := by decide +kernel
theorem dX6_aside_3 : decode cX6_aside 3 = .ok (.invokestatic 229, 3) := by decide +kernel
theorem dX6_aside_6 : decode cX6_aside 6 = .ok (.ifCond .eq 17, 3) := by decide +kernel
theorem dX6_aside_9 : decode cX6_aside 9 = .ok (.aload_n 0, 1) := by decide +kernel
theorem dX6_aside_10 : decode cX6_aside 10 = .ok (.getfield 10, 3) := by decide +kernel
theorem dX6_aside_13 : decode cX6_aside 13 = .ok (.iload 4, 2) := by decide +kernel
theorem dX6_aside_15 : decode cX6_aside 15 = .ok (.iload 5, 2) := by decide +kernel
theorem dX6_aside_17 : decode cX6_aside 17 = .ok (.invokevirtual 100, 3) := by decide +kernel
theorem dX6_aside_20 : decode cX6_aside 20 = .ok (.ifCond .ne 5, 3) := by decide +kernel
theorem dX6_aside_23 : decode cX6_aside 23 = .ok (.iconst (-1), 1) := by decide +kernel
theorem dX6_aside_24 : decode cX6_aside 24 = .ok (.ireturn, 1) := by decide +kernel
theorem dX6_aside_25 : decode cX6_aside 25 = .ok (.aload_n 0, 1) := by decide +kernel
theorem dX6_aside_26 : decode cX6_aside 26 = .ok (.iload_n 1, 1) := by decide +kernel
theorem dX6_aside_27 : decode cX6_aside 27 = .ok (.iload_n 2, 1) := by decide +kernel
theorem dX6_aside_28 : decode cX6_aside 28 = .ok (.iload_n 3, 1) := by decide +kernel
theorem dX6_aside_29 : decode cX6_aside 29 = .ok (.iload 4, 2) := by decide +kernel
theorem dX6_aside_31 : decode cX6_aside 31 = .ok (.iload 5, 2) := by decide +kernel
theorem dX6_aside_33 : decode cX6_aside 33 = .ok (.invokevirtual 237, 3) := by decide +kernel
theorem dX6_aside_36 : decode cX6_aside 36 = .ok (.ireturn, 1) := by decide +kernel
theorem dX6_fail_0 : decode cX6_fail 0 = .ok (.iload_n 1, 1) := by decide +kernel
theorem dX6_fail_1 : decode cX6_fail 1 = .ok (.ifCond .lt 17, 3) := by decide +kernel
theorem dX6_fail_4 : decode cX6_fail 4 = .ok (.iload_n 1, 1) := by decide +kernel
theorem dX6_fail_5 : decode cX6_fail 5 = .ok (.bipush 10, 2) := by decide +kernel
theorem dX6_fail_7 : decode cX6_fail 7 = .ok (.if_icmp .gt 11, 3) := by decide +kernel
theorem dX6_fail_10 : decode cX6_fail 10 = .ok (.iload_n 2, 1) := by decide +kernel
theorem dX6_fail_11 : decode cX6_fail 11 = .ok (.iconst 2, 1) := by decide +kernel
theorem dX6_fail_12 : decode cX6_fail 12 = .ok (.invokestatic 71, 3) := by decide +kernel
theorem dX6_fail_15 : decode cX6_fail 15 = .ok (.ifCond .ne 5, 3) := by decide +kernel
theorem dX6_fail_18 : decode cX6_fail 18 = .ok (.iconst (-1), 1) := by decide +kernel
theorem dX6_fail_19 : decode cX6_fail 19 = .ok (.ireturn, 1) := by decide +kernel
theorem dX6_fail_20 : decode cX6_fail 20 = .ok (.aload_n 0, 1) := by decide +kernel
theorem dX6_fail_21 : decode cX6_fail 21 = .ok (.iload_n 1, 1) := by decide +kernel
theorem dX6_fail_22 : decode cX6_fail 22 = .ok (.invokevirtual 241, 3) := by decide +kernel
theorem dX6_fail_25 : decode cX6_fail 25 = .ok (.istore_n 3, 1) := by decide +kernel
theorem dX6_fail_26 : decode cX6_fail 26 = .ok (.bipush 10, 2) := by decide +kernel
theorem dX6_fail_28 : decode cX6_fail 28 = .ok (.aload_n 0, 1) := by decide +kernel
theorem dX6_fail_29 : decode cX6_fail 29 = .ok (.getfield 10, 3) := by decide +kernel
theorem dX6_fail_32 : decode cX6_fail 32 = .ok (.invokevirtual 193, 3) := by decide +kernel
theorem dX6_fail_35 : decode cX6_fail 35 = .ok (.invokestatic 244, 3) := by decide +kernel
theorem dX6_fail_38 : decode cX6_fail 38 = .ok (.invokestatic 249, 3) := by decide +kernel
theorem dX6_fail_41 : decode cX6_fail 41 = .ok (.istore 4, 2) := by decide +kernel
theorem dX6_fail_43 : decode cX6_fail 43 = .ok (.iload_n 3, 1) := by decide +kernel
theorem dX6_fail_44 : decode cX6_fail 44 = .ok (.iload 4, 2) := by decide +kernel
theorem dX6_fail_46 : decode cX6_fail 46 = .ok (.invokestatic 252, 3) := by decide +kernel
theorem dX6_fail_49 : decode cX6_fail 49 = .ok (.istore 5, 2) := by decide +kernel
theorem dX6_fail_51 : decode cX6_fail 51 = .ok (.iload 5, 2) := by decide +kernel
theorem dX6_fail_53 : decode cX6_fail 53 = .ok (.iconst 1, 1) := by decide +kernel
theorem dX6_fail_54 : decode cX6_fail 54 = .ok (.if_icmp .ge 5, 3) := by decide +kernel
theorem dX6_fail_57 : decode cX6_fail 57 = .ok (.iconst (-1), 1) := by decide +kernel
theorem dX6_fail_58 : decode cX6_fail 58 = .ok (.ireturn, 1) := by decide +kernel
theorem dX6_fail_59 : decode cX6_fail 59 = .ok (.iload_n 2, 1) := by decide +kernel
theorem dX6_fail_60 : decode cX6_fail 60 = .ok (.ifCond .ne 7, 3) := by decide +kernel
theorem dX6_fail_63 : decode cX6_fail 63 = .ok (.iload_n 3, 1) := by decide +kernel
theorem dX6_fail_64 : decode cX6_fail 64 = .ok (.goto 5, 3) := by decide +kernel
theorem dX6_fail_67 : decode cX6_fail 67 = .ok (.iload 4, 2) := by decide +kernel
theorem dX6_fail_69 : decode cX6_fail 69 = .ok (.iload 5, 2) := by decide +kernel
theorem dX6_fail_71 : decode cX6_fail 71 = .ok (.idiv, 1) := by decide +kernel
theorem dX6_fail_72 : decode cX6_fail 72 = .ok (.ireturn, 1) := by decide +kernel
theorem dX6_image_0 : decode cX6_image 0 = .ok (.aload_n 0, 1) := by decide +kernel
theorem dX6_image_1 : decode cX6_image 1 = .ok (.getfield 23, 3) := by decide +kernel
theorem dX6_image_4 : decode cX6_image 4 = .ok (.aload_n 0, 1) := by decide +kernel
theorem dX6_image_5 : decode cX6_image 5 = .ok (.getfield 10, 3) := by decide +kernel
theorem dX6_image_8 : decode cX6_image 8 = .ok (.invokevirtual 255, 3) := by decide +kernel
theorem dX6_image_11 : decode cX6_image 11 = .ok (.aload_n 0, 1) := by decide +kernel
theorem dX6_image_12 : decode cX6_image 12 = .ok (.getfield 26, 3) := by decide +kernel
theorem dX6_image_15 : decode cX6_image 15 = .ok (.aload_n 0, 1) := by decide +kernel
theorem dX6_image_16 : decode cX6_image 16 = .ok (.getfield 19, 3) := by decide +kernel
theorem dX6_image_19 : decode cX6_image 19 = .ok (.invokevirtual 257, 3) := by decide +kernel
theorem dX6_image_22 : decode cX6_image 22 = .ok (.aload_n 0, 1) := by decide +kernel
theorem dX6_image_23 : decode cX6_image 23 = .ok (.iconst 1, 1) := by decide +kernel
theorem dX6_image_24 : decode cX6_image 24 = .ok (.putfield 29, 3) := by decide +kernel
theorem dX6_image_27 : decode cX6_image 27 = .ok (.iconst 1, 1) := by decide +kernel
theorem dX6_image_28 : decode cX6_image 28 = .ok (.ireturn, 1) := by decide +kernel
theorem dX6_restore_0 : decode cX6_restore 0 = .ok (.aload_n 0, 1) := by decide +kernel
theorem dX6_restore_1 : decode cX6_restore 1 = .ok (.getfield 29, 3) := by decide +kernel
theorem dX6_restore_4 : decode cX6_restore 4 = .ok (.ifCond .ne 6, 3) := by decide +kernel
theorem dX6_restore_7 : decode cX6_restore 7 = .ok (.bipush (-4), 2) := by decide +kernel
theorem dX6_restore_9 : decode cX6_restore 9 = .ok (.ireturn, 1) := by decide +kernel
theorem dX6_restore_10 : decode cX6_restore 10 = .ok (.aload_n 0, 1) := by decide +kernel
theorem dX6_restore_11 : decode cX6_restore 11 = .ok (.getfield 10, 3) := by decide +kernel
theorem dX6_restore_14 : decode cX6_restore 14 = .ok (.aload_n 0, 1) := by decide +kernel
theorem dX6_restore_15 : decode cX6_restore 15 = .ok (.getfield 23, 3) := by decide +kernel
theorem dX6_restore_18 : decode cX6_restore 18 = .ok (.invokevirtual 255, 3) := by decide +kernel
theorem dX6_restore_21 : decode cX6_restore 21 = .ok (.aload_n 0, 1) := by decide +kernel
theorem dX6_restore_22 : decode cX6_restore 22 = .ok (.getfield 19, 3) := by decide +kernel
theorem dX6_restore_25 : decode cX6_restore 25 = .ok (.aload_n 0, 1) := by decide +kernel
theorem dX6_restore_26 : decode cX6_restore 26 = .ok (.getfield 26, 3) := by decide +kernel
theorem dX6_restore_29 : decode cX6_restore 29 = .ok (.invokevirtual 257, 3) := by decide +kernel
theorem dX6_restore_32 : decode cX6_restore 32 = .ok (.iconst 1, 1) := by decide +kernel
theorem dX6_restore_33 : decode cX6_restore 33 = .ok (.ireturn, 1) := by decide +kernel
theorem dX6_seen_0 : decode cX6_seen 0 = .ok (.iload_n 1, 1) := by decide +kernel
theorem dX6_seen_1 : decode cX6_seen 1 = .ok (.iconst 5, 1) := by decide +kernel
theorem dX6_seen_2 : decode cX6_seen 2 = .ok (.invokestatic 71, 3) := by decide +kernel
theorem dX6_seen_5 : decode cX6_seen 5 = .ok (.ifCond .eq 24, 3) := by decide +kernel
theorem dX6_seen_8 : decode cX6_seen 8 = .ok (.iload_n 2, 1) := by decide +kernel
theorem dX6_seen_9 : decode cX6_seen 9 = .ok (.iload_n 3, 1) := by decide +kernel
theorem dX6_seen_10 : decode cX6_seen 10 = .ok (.invokestatic 260, 3) := by decide +kernel
theorem dX6_seen_13 : decode cX6_seen 13 = .ok (.ifCond .eq 16, 3) := by decide +kernel
theorem dX6_seen_16 : decode cX6_seen 16 = .ok (.iload 5, 2) := by decide +kernel
theorem dX6_seen_18 : decode cX6_seen 18 = .ok (.iconst 1, 1) := by decide +kernel
theorem dX6_seen_19 : decode cX6_seen 19 = .ok (.if_icmp .lt 10, 3) := by decide +kernel
theorem dX6_seen_22 : decode cX6_seen 22 = .ok (.iload 5, 2) := by decide +kernel
theorem dX6_seen_24 : decode cX6_seen 24 = .ok (.bipush 6, 2) := by decide +kernel
theorem dX6_seen_26 : decode cX6_seen 26 = .ok (.if_icmp .le 5, 3) := by decide +kernel
theorem dX6_seen_29 : decode cX6_seen 29 = .ok (.iconst (-1), 1) := by decide +kernel
theorem dX6_seen_30 : decode cX6_seen 30 = .ok (.ireturn, 1) := by decide +kernel
theorem dX6_seen_31 : decode cX6_seen 31 = .ok (.aload_n 0, 1) := by decide +kernel
theorem dX6_seen_32 : decode cX6_seen 32 = .ok (.getfield 56, 3) := by decide +kernel
theorem dX6_seen_35 : decode cX6_seen 35 = .ok (.iload_n 2, 1) := by decide +kernel
theorem dX6_seen_36 : decode cX6_seen 36 = .ok (.aaload, 1) := by decide +kernel
theorem dX6_seen_37 : decode cX6_seen 37 = .ok (.astore 6, 2) := by decide +kernel
theorem dX6_seen_39 : decode cX6_seen 39 = .ok (.aload 6, 2) := by decide +kernel
theorem dX6_seen_41 : decode cX6_seen 41 = .ok (.iload_n 3, 1) := by decide +kernel
theorem dX6_seen_42 : decode cX6_seen 42 = .ok (.iload 4, 2) := by decide +kernel
theorem dX6_seen_44 : decode cX6_seen 44 = .ok (.iconst 2, 1) := by decide +kernel
theorem dX6_seen_45 : decode cX6_seen 45 = .ok (.iload 5, 2) := by decide +kernel
theorem dX6_seen_47 : decode cX6_seen 47 = .ok (.imul, 1) := by decide +kernel
theorem dX6_seen_48 : decode cX6_seen 48 = .ok (.invokevirtual 263, 3) := by decide +kernel
theorem dX6_seen_51 : decode cX6_seen 51 = .ok (.istore 7, 2) := by decide +kernel
theorem dX6_seen_53 : decode cX6_seen 53 = .ok (.iload 7, 2) := by decide +kernel
theorem dX6_seen_55 : decode cX6_seen 55 = .ok (.ifCond .eq 6, 3) := by decide +kernel
theorem dX6_seen_58 : decode cX6_seen 58 = .ok (.iload 7, 2) := by decide +kernel
theorem dX6_seen_60 : decode cX6_seen 60 = .ok (.ireturn, 1) := by decide +kernel
theorem dX6_seen_61 : decode cX6_seen 61 = .ok (.aload 6, 2) := by decide +kernel
theorem dX6_seen_63 : decode cX6_seen 63 = .ok (.iload 4, 2) := by decide +kernel
theorem dX6_seen_65 : decode cX6_seen 65 = .ok (.iload 5, 2) := by decide +kernel
theorem dX6_seen_67 : decode cX6_seen 67 = .ok (.invokestatic 266, 3) := by decide +kernel
theorem dX6_seen_70 : decode cX6_seen 70 = .ok (.ifCond .eq 17, 3) := by decide +kernel
theorem dX6_seen_73 : decode cX6_seen 73 = .ok (.aload_n 0, 1) := by decide +kernel
theorem dX6_seen_74 : decode cX6_seen 74 = .ok (.iload_n 1, 1) := by decide +kernel
theorem dX6_seen_75 : decode cX6_seen 75 = .ok (.aload 6, 2) := by decide +kernel
theorem dX6_seen_77 : decode cX6_seen 77 = .ok (.iload 4, 2) := by decide +kernel
theorem dX6_seen_79 : decode cX6_seen 79 = .ok (.iload 5, 2) := by decide +kernel
theorem dX6_seen_81 : decode cX6_seen 81 = .ok (.invokevirtual 270, 3) := by decide +kernel
theorem dX6_seen_84 : decode cX6_seen 84 = .ok (.goto 5, 3) := by decide +kernel
theorem dX6_seen_87 : decode cX6_seen 87 = .ok (.bipush (-2), 2) := by decide +kernel
theorem dX6_seen_89 : decode cX6_seen 89 = .ok (.ireturn, 1) := by decide +kernel
theorem dX6_film_0 : decode cX6_film 0 = .ok (.iload_n 1, 1) := by decide +kernel
theorem dX6_film_1 : decode cX6_film 1 = .ok (.aload_n 0, 1) := by decide +kernel
theorem dX6_film_2 : decode cX6_film 2 = .ok (.getfield 10, 3) := by decide +kernel
theorem dX6_film_5 : decode cX6_film 5 = .ok (.getfield 161, 3) := by decide +kernel
theorem dX6_film_8 : decode cX6_film 8 = .ok (.invokestatic 71, 3) := by decide +kernel
theorem dX6_film_11 : decode cX6_film 11 = .ok (.ifCond .eq 11, 3) := by decide +kernel
theorem dX6_film_14 : decode cX6_film 14 = .ok (.iload_n 2, 1) := by decide +kernel
theorem dX6_film_15 : decode cX6_film 15 = .ok (.iload_n 3, 1) := by decide +kernel
theorem dX6_film_16 : decode cX6_film 16 = .ok (.invokestatic 260, 3) := by decide +kernel
theorem dX6_film_19 : decode cX6_film 19 = .ok (.ifCond .ne 5, 3) := by decide +kernel
theorem dX6_film_22 : decode cX6_film 22 = .ok (.iconst (-1), 1) := by decide +kernel
theorem dX6_film_23 : decode cX6_film 23 = .ok (.ireturn, 1) := by decide +kernel
theorem dX6_film_24 : decode cX6_film 24 = .ok (.aload_n 0, 1) := by decide +kernel
theorem dX6_film_25 : decode cX6_film 25 = .ok (.getfield 56, 3) := by decide +kernel
theorem dX6_film_28 : decode cX6_film 28 = .ok (.iload_n 2, 1) := by decide +kernel
theorem dX6_film_29 : decode cX6_film 29 = .ok (.aaload, 1) := by decide +kernel
theorem dX6_film_30 : decode cX6_film 30 = .ok (.astore 5, 2) := by decide +kernel
theorem dX6_film_32 : decode cX6_film 32 = .ok (.aload 5, 2) := by decide +kernel
theorem dX6_film_34 : decode cX6_film 34 = .ok (.iload_n 3, 1) := by decide +kernel
theorem dX6_film_35 : decode cX6_film 35 = .ok (.iload 4, 2) := by decide +kernel
theorem dX6_film_37 : decode cX6_film 37 = .ok (.aload_n 0, 1) := by decide +kernel
theorem dX6_film_38 : decode cX6_film 38 = .ok (.getfield 10, 3) := by decide +kernel
theorem dX6_film_41 : decode cX6_film 41 = .ok (.getfield 160, 3) := by decide +kernel
theorem dX6_film_44 : decode cX6_film 44 = .ok (.invokevirtual 263, 3) := by decide +kernel
theorem dX6_film_47 : decode cX6_film 47 = .ok (.istore 6, 2) := by decide +kernel
theorem dX6_film_49 : decode cX6_film 49 = .ok (.iload 6, 2) := by decide +kernel
theorem dX6_film_51 : decode cX6_film 51 = .ok (.ifCond .eq 6, 3) := by decide +kernel
theorem dX6_film_54 : decode cX6_film 54 = .ok (.iload 6, 2) := by decide +kernel
theorem dX6_film_56 : decode cX6_film 56 = .ok (.ireturn, 1) := by decide +kernel
theorem dX6_film_57 : decode cX6_film 57 = .ok (.iconst 0, 1) := by decide +kernel
theorem dX6_film_58 : decode cX6_film 58 = .ok (.istore 7, 2) := by decide +kernel
theorem dX6_film_60 : decode cX6_film 60 = .ok (.iload 7, 2) := by decide +kernel
theorem dX6_film_62 : decode cX6_film 62 = .ok (.aload_n 0, 1) := by decide +kernel
theorem dX6_film_63 : decode cX6_film 63 = .ok (.getfield 10, 3) := by decide +kernel
theorem dX6_film_66 : decode cX6_film 66 = .ok (.getfield 160, 3) := by decide +kernel
theorem dX6_film_69 : decode cX6_film 69 = .ok (.if_icmp .ge 34, 3) := by decide +kernel
theorem dX6_film_72 : decode cX6_film 72 = .ok (.aload 5, 2) := by decide +kernel
theorem dX6_film_74 : decode cX6_film 74 = .ok (.iload 4, 2) := by decide +kernel
theorem dX6_film_76 : decode cX6_film 76 = .ok (.iload 7, 2) := by decide +kernel
theorem dX6_film_78 : decode cX6_film 78 = .ok (.iadd, 1) := by decide +kernel
theorem dX6_film_79 : decode cX6_film 79 = .ok (.aload_n 0, 1) := by decide +kernel
theorem dX6_film_80 : decode cX6_film 80 = .ok (.aload_n 0, 1) := by decide +kernel
theorem dX6_film_81 : decode cX6_film 81 = .ok (.getfield 10, 3) := by decide +kernel
theorem dX6_film_84 : decode cX6_film 84 = .ok (.iload 7, 2) := by decide +kernel
theorem dX6_film_86 : decode cX6_film 86 = .ok (.iload_n 1, 1) := by decide +kernel
theorem dX6_film_87 : decode cX6_film 87 = .ok (.invokevirtual 103, 3) := by decide +kernel
theorem dX6_film_90 : decode cX6_film 90 = .ok (.invokevirtual 85, 3) := by decide +kernel
theorem dX6_film_93 : decode cX6_film 93 = .ok (.i2l, 1) := by decide +kernel
theorem dX6_film_94 : decode cX6_film 94 = .ok (.invokevirtual 274, 3) := by decide +kernel
theorem dX6_film_97 : decode cX6_film 97 = .ok (.iinc 7 1, 3) := by decide +kernel
theorem dX6_film_100 : decode cX6_film 100 = .ok (.goto (-40), 3) := by decide +kernel
theorem dX6_film_103 : decode cX6_film 103 = .ok (.aload_n 0, 1) := by decide +kernel
theorem dX6_film_104 : decode cX6_film 104 = .ok (.getfield 10, 3) := by decide +kernel
theorem dX6_film_107 : decode cX6_film 107 = .ok (.getfield 160, 3) := by decide +kernel
theorem dX6_film_110 : decode cX6_film 110 = .ok (.ireturn, 1) := by decide +kernel
theorem dX6_sheet_0 : decode cX6_sheet 0 = .ok (.iload_n 1, 1) := by decide +kernel
theorem dX6_sheet_1 : decode cX6_sheet 1 = .ok (.iload_n 2, 1) := by decide +kernel
theorem dX6_sheet_2 : decode cX6_sheet 2 = .ok (.invokestatic 260, 3) := by decide +kernel
theorem dX6_sheet_5 : decode cX6_sheet 5 = .ok (.ifCond .eq 9, 3) := by decide +kernel
theorem dX6_sheet_8 : decode cX6_sheet 8 = .ok (.iload_n 3, 1) := by decide +kernel
theorem dX6_sheet_9 : decode cX6_sheet 9 = .ok (.bipush 24, 2) := by decide +kernel
theorem dX6_sheet_11 : decode cX6_sheet 11 = .ok (.if_icmp .le 5, 3) := by decide +kernel
theorem dX6_sheet_14 : decode cX6_sheet 14 = .ok (.iconst (-1), 1) := by decide +kernel
theorem dX6_sheet_15 : decode cX6_sheet 15 = .ok (.ireturn, 1) := by decide +kernel
theorem dX6_sheet_16 : decode cX6_sheet 16 = .ok (.iload_n 3, 1) := by decide +kernel
theorem dX6_sheet_17 : decode cX6_sheet 17 = .ok (.ifCond .ge 6, 3) := by decide +kernel
theorem dX6_sheet_20 : decode cX6_sheet 20 = .ok (.bipush (-14), 2) := by decide +kernel
theorem dX6_sheet_22 : decode cX6_sheet 22 = .ok (.ireturn, 1) := by decide +kernel
theorem dX6_sheet_23 : decode cX6_sheet 23 = .ok (.aload_n 0, 1) := by decide +kernel
theorem dX6_sheet_24 : decode cX6_sheet 24 = .ok (.getfield 56, 3) := by decide +kernel
theorem dX6_sheet_27 : decode cX6_sheet 27 = .ok (.iload_n 1, 1) := by decide +kernel
theorem dX6_sheet_28 : decode cX6_sheet 28 = .ok (.aaload, 1) := by decide +kernel
theorem dX6_sheet_29 : decode cX6_sheet 29 = .ok (.iload_n 2, 1) := by decide +kernel
theorem dX6_sheet_30 : decode cX6_sheet 30 = .ok (.iload_n 3, 1) := by decide +kernel
theorem dX6_sheet_31 : decode cX6_sheet 31 = .ok (.invokevirtual 277, 3) := by decide +kernel
theorem dX6_sheet_34 : decode cX6_sheet 34 = .ok (.iload_n 3, 1) := by decide +kernel
theorem dX6_sheet_35 : decode cX6_sheet 35 = .ok (.ireturn, 1) := by decide +kernel
theorem dX6_drop_0 : decode cX6_drop 0 = .ok (.iload_n 1, 1) := by decide +kernel
theorem dX6_drop_1 : decode cX6_drop 1 = .ok (.iconst 4, 1) := by decide +kernel
theorem dX6_drop_2 : decode cX6_drop 2 = .ok (.invokestatic 71, 3) := by decide +kernel
theorem dX6_drop_5 : decode cX6_drop 5 = .ok (.ifCond .ne 5, 3) := by decide +kernel
theorem dX6_drop_8 : decode cX6_drop 8 = .ok (.iconst (-1), 1) := by decide +kernel
theorem dX6_drop_9 : decode cX6_drop 9 = .ok (.ireturn, 1) := by decide +kernel
theorem dX6_drop_10 : decode cX6_drop 10 = .ok (.aload_n 0, 1) := by decide +kernel
theorem dX6_drop_11 : decode cX6_drop 11 = .ok (.getfield 56, 3) := by decide +kernel
theorem dX6_drop_14 : decode cX6_drop 14 = .ok (.iload_n 1, 1) := by decide +kernel
theorem dX6_drop_15 : decode cX6_drop 15 = .ok (.aaload, 1) := by decide +kernel
theorem dX6_drop_16 : decode cX6_drop 16 = .ok (.astore_n 2, 1) := by decide +kernel
theorem dX6_drop_17 : decode cX6_drop 17 = .ok (.aload_n 2, 1) := by decide +kernel
theorem dX6_drop_18 : decode cX6_drop 18 = .ok (.getfield 281, 3) := by decide +kernel
theorem dX6_drop_21 : decode cX6_drop 21 = .ok (.ifCond .ne 6, 3) := by decide +kernel
theorem dX6_drop_24 : decode cX6_drop 24 = .ok (.bipush (-11), 2) := by decide +kernel
theorem dX6_drop_26 : decode cX6_drop 26 = .ok (.ireturn, 1) := by decide +kernel
theorem dX6_drop_27 : decode cX6_drop 27 = .ok (.aload_n 2, 1) := by decide +kernel
theorem dX6_drop_28 : decode cX6_drop 28 = .ok (.iconst 0, 1) := by decide +kernel
theorem dX6_drop_29 : decode cX6_drop 29 = .ok (.putfield 281, 3) := by decide +kernel
theorem dX6_drop_32 : decode cX6_drop 32 = .ok (.aload_n 2, 1) := by decide +kernel
theorem dX6_drop_33 : decode cX6_drop 33 = .ok (.getfield 284, 3) := by decide +kernel
theorem dX6_drop_36 : decode cX6_drop 36 = .ok (.ireturn, 1) := by decide +kernel
theorem dX6_item_0 : decode cX6_item 0 = .ok (.iload_n 1, 1) := by decide +kernel
theorem dX6_item_1 : decode cX6_item 1 = .ok (.iload_n 2, 1) := by decide +kernel
theorem dX6_item_2 : decode cX6_item 2 = .ok (.invokestatic 260, 3) := by decide +kernel
theorem dX6_item_5 : decode cX6_item 5 = .ok (.ifCond .ne 5, 3) := by decide +kernel
theorem dX6_item_8 : decode cX6_item 8 = .ok (.iconst (-1), 1) := by decide +kernel
theorem dX6_item_9 : decode cX6_item 9 = .ok (.ireturn, 1) := by decide +kernel
theorem dX6_item_10 : decode cX6_item 10 = .ok (.aload_n 0, 1) := by decide +kernel
theorem dX6_item_11 : decode cX6_item 11 = .ok (.getfield 56, 3) := by decide +kernel
theorem dX6_item_14 : decode cX6_item 14 = .ok (.iload_n 1, 1) := by decide +kernel
theorem dX6_item_15 : decode cX6_item 15 = .ok (.aaload, 1) := by decide +kernel
theorem dX6_item_16 : decode cX6_item 16 = .ok (.iload_n 2, 1) := by decide +kernel
theorem dX6_item_17 : decode cX6_item 17 = .ok (.iload_n 3, 1) := by decide +kernel
theorem dX6_item_18 : decode cX6_item 18 = .ok (.iconst 1, 1) := by decide +kernel
theorem dX6_item_19 : decode cX6_item 19 = .ok (.invokevirtual 263, 3) := by decide +kernel
theorem dX6_item_22 : decode cX6_item 22 = .ok (.istore 6, 2) := by decide +kernel
theorem dX6_item_24 : decode cX6_item 24 = .ok (.iload 6, 2) := by decide +kernel
theorem dX6_item_26 : decode cX6_item 26 = .ok (.ifCond .eq 6, 3) := by decide +kernel
theorem dX6_item_29 : decode cX6_item 29 = .ok (.iload 6, 2) := by decide +kernel
theorem dX6_item_31 : decode cX6_item 31 = .ok (.ireturn, 1) := by decide +kernel
theorem dX6_item_32 : decode cX6_item 32 = .ok (.aload_n 0, 1) := by decide +kernel
theorem dX6_item_33 : decode cX6_item 33 = .ok (.getfield 56, 3) := by decide +kernel
theorem dX6_item_36 : decode cX6_item 36 = .ok (.iload_n 1, 1) := by decide +kernel
theorem dX6_item_37 : decode cX6_item 37 = .ok (.aaload, 1) := by decide +kernel
theorem dX6_item_38 : decode cX6_item 38 = .ok (.iload_n 3, 1) := by decide +kernel
theorem dX6_item_39 : decode cX6_item 39 = .ok (.lload 4, 2) := by decide +kernel
theorem dX6_item_41 : decode cX6_item 41 = .ok (.invokevirtual 274, 3) := by decide +kernel
theorem dX6_item_44 : decode cX6_item 44 = .ok (.iconst 1, 1) := by decide +kernel
theorem dX6_item_45 : decode cX6_item 45 = .ok (.ireturn, 1) := by decide +kernel
theorem dX6_copy_0 : decode cX6_copy 0 = .ok (.iload_n 1, 1) := by decide +kernel
theorem dX6_copy_1 : decode cX6_copy 1 = .ok (.iconst 4, 1) := by decide +kernel
theorem dX6_copy_2 : decode cX6_copy 2 = .ok (.invokestatic 71, 3) := by decide +kernel
theorem dX6_copy_5 : decode cX6_copy 5 = .ok (.ifCond .eq 11, 3) := by decide +kernel
theorem dX6_copy_8 : decode cX6_copy 8 = .ok (.iload_n 3, 1) := by decide +kernel
theorem dX6_copy_9 : decode cX6_copy 9 = .ok (.iconst 4, 1) := by decide +kernel
theorem dX6_copy_10 : decode cX6_copy 10 = .ok (.invokestatic 71, 3) := by decide +kernel
theorem dX6_copy_13 : decode cX6_copy 13 = .ok (.ifCond .ne 5, 3) := by decide +kernel
theorem dX6_copy_16 : decode cX6_copy 16 = .ok (.iconst (-1), 1) := by decide +kernel
theorem dX6_copy_17 : decode cX6_copy 17 = .ok (.ireturn, 1) := by decide +kernel
theorem dX6_copy_18 : decode cX6_copy 18 = .ok (.aload_n 0, 1) := by decide +kernel
theorem dX6_copy_19 : decode cX6_copy 19 = .ok (.getfield 56, 3) := by decide +kernel
theorem dX6_copy_22 : decode cX6_copy 22 = .ok (.iload_n 1, 1) := by decide +kernel
theorem dX6_copy_23 : decode cX6_copy 23 = .ok (.aaload, 1) := by decide +kernel
theorem dX6_copy_24 : decode cX6_copy 24 = .ok (.astore 6, 2) := by decide +kernel
theorem dX6_copy_26 : decode cX6_copy 26 = .ok (.aload_n 0, 1) := by decide +kernel
theorem dX6_copy_27 : decode cX6_copy 27 = .ok (.getfield 56, 3) := by decide +kernel
theorem dX6_copy_30 : decode cX6_copy 30 = .ok (.iload_n 3, 1) := by decide +kernel
theorem dX6_copy_31 : decode cX6_copy 31 = .ok (.aaload, 1) := by decide +kernel
theorem dX6_copy_32 : decode cX6_copy 32 = .ok (.astore 7, 2) := by decide +kernel
theorem dX6_copy_34 : decode cX6_copy 34 = .ok (.aload 6, 2) := by decide +kernel
theorem dX6_copy_36 : decode cX6_copy 36 = .ok (.getfield 281, 3) := by decide +kernel
theorem dX6_copy_39 : decode cX6_copy 39 = .ok (.ifCond .eq 11, 3) := by decide +kernel
theorem dX6_copy_42 : decode cX6_copy 42 = .ok (.aload 7, 2) := by decide +kernel
theorem dX6_copy_44 : decode cX6_copy 44 = .ok (.getfield 281, 3) := by decide +kernel
theorem dX6_copy_47 : decode cX6_copy 47 = .ok (.ifCond .ne 6, 3) := by decide +kernel
theorem dX6_copy_50 : decode cX6_copy 50 = .ok (.bipush (-11), 2) := by decide +kernel
theorem dX6_copy_52 : decode cX6_copy 52 = .ok (.ireturn, 1) := by decide +kernel
theorem dX6_copy_53 : decode cX6_copy 53 = .ok (.aload 6, 2) := by decide +kernel
theorem dX6_copy_55 : decode cX6_copy 55 = .ok (.getfield 285, 3) := by decide +kernel
theorem dX6_copy_58 : decode cX6_copy 58 = .ok (.aload 7, 2) := by decide +kernel
theorem dX6_copy_60 : decode cX6_copy 60 = .ok (.getfield 285, 3) := by decide +kernel
theorem dX6_copy_63 : decode cX6_copy 63 = .ok (.if_icmp .eq 6, 3) := by decide +kernel
theorem dX6_copy_66 : decode cX6_copy 66 = .ok (.bipush (-12), 2) := by decide +kernel
theorem dX6_copy_68 : decode cX6_copy 68 = .ok (.ireturn, 1) := by decide +kernel
theorem dX6_copy_69 : decode cX6_copy 69 = .ok (.aload 6, 2) := by decide +kernel
theorem dX6_copy_71 : decode cX6_copy 71 = .ok (.iload_n 2, 1) := by decide +kernel
theorem dX6_copy_72 : decode cX6_copy 72 = .ok (.iload 5, 2) := by decide +kernel
theorem dX6_copy_74 : decode cX6_copy 74 = .ok (.invokevirtual 288, 3) := by decide +kernel
theorem dX6_copy_77 : decode cX6_copy 77 = .ok (.ifCond .eq 15, 3) := by decide +kernel
theorem dX6_copy_80 : decode cX6_copy 80 = .ok (.aload 7, 2) := by decide +kernel
theorem dX6_copy_82 : decode cX6_copy 82 = .ok (.iload 4, 2) := by decide +kernel
theorem dX6_copy_84 : decode cX6_copy 84 = .ok (.iload 5, 2) := by decide +kernel
theorem dX6_copy_86 : decode cX6_copy 86 = .ok (.invokevirtual 288, 3) := by decide +kernel
theorem dX6_copy_89 : decode cX6_copy 89 = .ok (.ifCond .ne 6, 3) := by decide +kernel
theorem dX6_copy_92 : decode cX6_copy 92 = .ok (.bipush (-13), 2) := by decide +kernel
theorem dX6_copy_94 : decode cX6_copy 94 = .ok (.ireturn, 1) := by decide +kernel
theorem dX6_copy_95 : decode cX6_copy 95 = .ok (.aload 6, 2) := by decide +kernel
theorem dX6_copy_97 : decode cX6_copy 97 = .ok (.getfield 291, 3) := by decide +kernel
theorem dX6_copy_100 : decode cX6_copy 100 = .ok (.iload_n 2, 1) := by decide +kernel
theorem dX6_copy_101 : decode cX6_copy 101 = .ok (.aload 7, 2) := by decide +kernel
theorem dX6_copy_103 : decode cX6_copy 103 = .ok (.getfield 291, 3) := by decide +kernel
theorem dX6_copy_106 : decode cX6_copy 106 = .ok (.iload 4, 2) := by decide +kernel
theorem dX6_copy_108 : decode cX6_copy 108 = .ok (.iload 5, 2) := by decide +kernel
theorem dX6_copy_110 : decode cX6_copy 110 = .ok (.invokestatic 210, 3) := by decide +kernel
theorem dX6_copy_113 : decode cX6_copy 113 = .ok (.iload 5, 2) := by decide +kernel
theorem dX6_copy_115 : decode cX6_copy 115 = .ok (.ireturn, 1) := by decide +kernel
theorem dX6_isBelow_0 : decode cX6_isBelow 0 = .ok (.iload_n 0, 1) := by decide +kernel
theorem dX6_isBelow_1 : decode cX6_isBelow 1 = .ok (.ifCond .lt 12, 3) := by decide +kernel
theorem dX6_isBelow_4 : decode cX6_isBelow 4 = .ok (.iload_n 0, 1) := by decide +kernel
theorem dX6_isBelow_5 : decode cX6_isBelow 5 = .ok (.iload_n 1, 1) := by decide +kernel
theorem dX6_isBelow_6 : decode cX6_isBelow 6 = .ok (.if_icmp .ge 7, 3) := by decide +kernel
theorem dX6_isBelow_9 : decode cX6_isBelow 9 = .ok (.iconst 1, 1) := by decide +kernel
theorem dX6_isBelow_10 : decode cX6_isBelow 10 = .ok (.goto 4, 3) := by decide +kernel
theorem dX6_isBelow_13 : decode cX6_isBelow 13 = .ok (.iconst 0, 1) := by decide +kernel
theorem dX6_isBelow_14 : decode cX6_isBelow 14 = .ok (.ireturn, 1) := by decide +kernel
theorem dX6_hasBit_0 : decode cX6_hasBit 0 = .ok (.iload_n 0, 1) := by decide +kernel
theorem dX6_hasBit_1 : decode cX6_hasBit 1 = .ok (.iload_n 1, 1) := by decide +kernel
theorem dX6_hasBit_2 : decode cX6_hasBit 2 = .ok (.ishr, 1) := by decide +kernel
theorem dX6_hasBit_3 : decode cX6_hasBit 3 = .ok (.iconst 1, 1) := by decide +kernel
theorem dX6_hasBit_4 : decode cX6_hasBit 4 = .ok (.iand, 1) := by decide +kernel
theorem dX6_hasBit_5 : decode cX6_hasBit 5 = .ok (.iconst 1, 1) := by decide +kernel
theorem dX6_hasBit_6 : decode cX6_hasBit 6 = .ok (.if_icmp .ne 7, 3) := by decide +kernel
theorem dX6_hasBit_9 : decode cX6_hasBit 9 = .ok (.iconst 1, 1) := by decide +kernel
theorem dX6_hasBit_10 : decode cX6_hasBit 10 = .ok (.goto 4, 3) := by decide +kernel
theorem dX6_hasBit_13 : decode cX6_hasBit 13 = .ok (.iconst 0, 1) := by decide +kernel
theorem dX6_hasBit_14 : decode cX6_hasBit 14 = .ok (.ireturn, 1) := by decide +kernel
theorem dX6_isPlateAside_0 : decode cX6_isPlateAside 0 = .ok (.iload_n 0, 1) := by decide +kernel
theorem dX6_isPlateAside_1 : decode cX6_isPlateAside 1 = .ok (.iconst 5, 1) := by decide +kernel
theorem dX6_isPlateAside_2 : decode cX6_isPlateAside 2 = .ok (.invokestatic 71, 3) := by decide +kernel
theorem dX6_isPlateAside_5 : decode cX6_isPlateAside 5 = .ok (.ifCond .eq 27, 3) := by decide +kernel
theorem dX6_isPlateAside_8 : decode cX6_isPlateAside 8 = .ok (.iload_n 1, 1) := by decide +kernel
theorem dX6_isPlateAside_9 : decode cX6_isPlateAside 9 = .ok (.iconst (-1), 1) := by decide +kernel
theorem dX6_isPlateAside_10 : decode cX6_isPlateAside 10 = .ok (.if_icmp .lt 22, 3) := by decide +kernel
theorem dX6_isPlateAside_13 : decode cX6_isPlateAside 13 = .ok (.iload_n 1, 1) := by decide +kernel
theorem dX6_isPlateAside_14 : decode cX6_isPlateAside 14 = .ok (.iconst 1, 1) := by decide +kernel
theorem dX6_isPlateAside_15 : decode cX6_isPlateAside 15 = .ok (.if_icmp .gt 17, 3) := by decide +kernel
theorem dX6_isPlateAside_18 : decode cX6_isPlateAside 18 = .ok (.iload_n 2, 1) := by decide +kernel
theorem dX6_isPlateAside_19 : decode cX6_isPlateAside 19 = .ok (.iconst (-1), 1) := by decide +kernel
theorem dX6_isPlateAside_20 : decode cX6_isPlateAside 20 = .ok (.if_icmp .lt 12, 3) := by decide +kernel
theorem dX6_isPlateAside_23 : decode cX6_isPlateAside 23 = .ok (.iload_n 2, 1) := by decide +kernel
theorem dX6_isPlateAside_24 : decode cX6_isPlateAside 24 = .ok (.iconst 1, 1) := by decide +kernel
theorem dX6_isPlateAside_25 : decode cX6_isPlateAside 25 = .ok (.if_icmp .gt 7, 3) := by decide +kernel
theorem dX6_isPlateAside_28 : decode cX6_isPlateAside 28 = .ok (.iconst 1, 1) := by decide +kernel
theorem dX6_isPlateAside_29 : decode cX6_isPlateAside 29 = .ok (.goto 4, 3) := by decide +kernel
theorem dX6_isPlateAside_32 : decode cX6_isPlateAside 32 = .ok (.iconst 0, 1) := by decide +kernel
theorem dX6_isPlateAside_33 : decode cX6_isPlateAside 33 = .ok (.ireturn, 1) := by decide +kernel
theorem dX6_isTaking_0 : decode cX6_isTaking 0 = .ok (.iload_n 0, 1) := by decide +kernel
theorem dX6_isTaking_1 : decode cX6_isTaking 1 = .ok (.iconst 4, 1) := by decide +kernel
theorem dX6_isTaking_2 : decode cX6_isTaking 2 = .ok (.invokestatic 71, 3) := by decide +kernel
theorem dX6_isTaking_5 : decode cX6_isTaking 5 = .ok (.ifCond .eq 15, 3) := by decide +kernel
theorem dX6_isTaking_8 : decode cX6_isTaking 8 = .ok (.iload_n 1, 1) := by decide +kernel
theorem dX6_isTaking_9 : decode cX6_isTaking 9 = .ok (.iconst 4, 1) := by decide +kernel
theorem dX6_isTaking_10 : decode cX6_isTaking 10 = .ok (.invokestatic 71, 3) := by decide +kernel
theorem dX6_isTaking_13 : decode cX6_isTaking 13 = .ok (.ifCond .eq 7, 3) := by decide +kernel
theorem dX6_isTaking_16 : decode cX6_isTaking 16 = .ok (.iconst 1, 1) := by decide +kernel
theorem dX6_isTaking_17 : decode cX6_isTaking 17 = .ok (.goto 4, 3) := by decide +kernel
theorem dX6_isTaking_20 : decode cX6_isTaking 20 = .ok (.iconst 0, 1) := by decide +kernel
theorem dX6_isTaking_21 : decode cX6_isTaking 21 = .ok (.ireturn, 1) := by decide +kernel
theorem dX6_isOrder_0 : decode cX6_isOrder 0 = .ok (.iload_n 0, 1) := by decide +kernel
theorem dX6_isOrder_1 : decode cX6_isOrder 1 = .ok (.ifCond .lt 10, 3) := by decide +kernel
theorem dX6_isOrder_4 : decode cX6_isOrder 4 = .ok (.iload_n 0, 1) := by decide +kernel
theorem dX6_isOrder_5 : decode cX6_isOrder 5 = .ok (.ldc_w 295, 3) := by decide +kernel
theorem dX6_isOrder_8 : decode cX6_isOrder 8 = .ok (.if_icmp .le 5, 3) := by decide +kernel
theorem dX6_isOrder_11 : decode cX6_isOrder 11 = .ok (.iconst 0, 1) := by decide +kernel
theorem dX6_isOrder_12 : decode cX6_isOrder 12 = .ok (.ireturn, 1) := by decide +kernel
theorem dX6_isOrder_13 : decode cX6_isOrder 13 = .ok (.iconst 0, 1) := by decide +kernel
theorem dX6_isOrder_14 : decode cX6_isOrder 14 = .ok (.istore_n 1, 1) := by decide +kernel
theorem dX6_isOrder_15 : decode cX6_isOrder 15 = .ok (.iload_n 0, 1) := by decide +kernel
theorem dX6_isOrder_16 : decode cX6_isOrder 16 = .ok (.istore_n 2, 1) := by decide +kernel
theorem dX6_isOrder_17 : decode cX6_isOrder 17 = .ok (.iconst 0, 1) := by decide +kernel
theorem dX6_isOrder_18 : decode cX6_isOrder 18 = .ok (.istore_n 3, 1) := by decide +kernel
theorem dX6_isOrder_19 : decode cX6_isOrder 19 = .ok (.iload_n 3, 1) := by decide +kernel
theorem dX6_isOrder_20 : decode cX6_isOrder 20 = .ok (.iconst 5, 1) := by decide +kernel
theorem dX6_isOrder_21 : decode cX6_isOrder 21 = .ok (.if_icmp .ge 23, 3) := by decide +kernel
theorem dX6_isOrder_24 : decode cX6_isOrder 24 = .ok (.iload_n 1, 1) := by decide +kernel
theorem dX6_isOrder_25 : decode cX6_isOrder 25 = .ok (.iconst 1, 1) := by decide +kernel
theorem dX6_isOrder_26 : decode cX6_isOrder 26 = .ok (.iload_n 2, 1) := by decide +kernel
theorem dX6_isOrder_27 : decode cX6_isOrder 27 = .ok (.bipush 10, 2) := by decide +kernel
theorem dX6_isOrder_29 : decode cX6_isOrder 29 = .ok (.irem, 1) := by decide +kernel
theorem dX6_isOrder_30 : decode cX6_isOrder 30 = .ok (.ishl, 1) := by decide +kernel
theorem dX6_isOrder_31 : decode cX6_isOrder 31 = .ok (.ior, 1) := by decide +kernel
theorem dX6_isOrder_32 : decode cX6_isOrder 32 = .ok (.istore_n 1, 1) := by decide +kernel
theorem dX6_isOrder_33 : decode cX6_isOrder 33 = .ok (.iload_n 2, 1) := by decide +kernel
theorem dX6_isOrder_34 : decode cX6_isOrder 34 = .ok (.bipush 10, 2) := by decide +kernel
theorem dX6_isOrder_36 : decode cX6_isOrder 36 = .ok (.idiv, 1) := by decide +kernel
theorem dX6_isOrder_37 : decode cX6_isOrder 37 = .ok (.istore_n 2, 1) := by decide +kernel
theorem dX6_isOrder_38 : decode cX6_isOrder 38 = .ok (.iinc 3 1, 3) := by decide +kernel
theorem dX6_isOrder_41 : decode cX6_isOrder 41 = .ok (.goto (-22), 3) := by decide +kernel
theorem dX6_isOrder_44 : decode cX6_isOrder 44 = .ok (.iload_n 1, 1) := by decide +kernel
theorem dX6_isOrder_45 : decode cX6_isOrder 45 = .ok (.bipush 31, 2) := by decide +kernel
theorem dX6_isOrder_47 : decode cX6_isOrder 47 = .ok (.if_icmp .ne 7, 3) := by decide +kernel
theorem dX6_isOrder_50 : decode cX6_isOrder 50 = .ok (.iconst 1, 1) := by decide +kernel
theorem dX6_isOrder_51 : decode cX6_isOrder 51 = .ok (.goto 4, 3) := by decide +kernel
theorem dX6_isOrder_54 : decode cX6_isOrder 54 = .ok (.iconst 0, 1) := by decide +kernel
theorem dX6_isOrder_55 : decode cX6_isOrder 55 = .ok (.ireturn, 1) := by decide +kernel
theorem dX6_figuresOf_0 : decode cX6_figuresOf 0 = .ok (.iconst 0, 1) := by decide +kernel
theorem dX6_figuresOf_1 : decode cX6_figuresOf 1 = .ok (.istore_n 1, 1) := by decide +kernel
theorem dX6_figuresOf_2 : decode cX6_figuresOf 2 = .ok (.iconst 0, 1) := by decide +kernel
theorem dX6_figuresOf_3 : decode cX6_figuresOf 3 = .ok (.istore_n 2, 1) := by decide +kernel
theorem dX6_figuresOf_4 : decode cX6_figuresOf 4 = .ok (.iload_n 2, 1) := by decide +kernel
theorem dX6_figuresOf_5 : decode cX6_figuresOf 5 = .ok (.iconst 5, 1) := by decide +kernel
theorem dX6_figuresOf_6 : decode cX6_figuresOf 6 = .ok (.if_icmp .ge 18, 3) := by decide +kernel
theorem dX6_figuresOf_9 : decode cX6_figuresOf 9 = .ok (.iload_n 1, 1) := by decide +kernel
theorem dX6_figuresOf_10 : decode cX6_figuresOf 10 = .ok (.bipush 10, 2) := by decide +kernel
theorem dX6_figuresOf_12 : decode cX6_figuresOf 12 = .ok (.imul, 1) := by decide +kernel
theorem dX6_figuresOf_13 : decode cX6_figuresOf 13 = .ok (.aload_n 0, 1) := by decide +kernel
theorem dX6_figuresOf_14 : decode cX6_figuresOf 14 = .ok (.iload_n 2, 1) := by decide +kernel
theorem dX6_figuresOf_15 : decode cX6_figuresOf 15 = .ok (.iaload, 1) := by decide +kernel
theorem dX6_figuresOf_16 : decode cX6_figuresOf 16 = .ok (.iadd, 1) := by decide +kernel
theorem dX6_figuresOf_17 : decode cX6_figuresOf 17 = .ok (.istore_n 1, 1) := by decide +kernel
theorem dX6_figuresOf_18 : decode cX6_figuresOf 18 = .ok (.iinc 2 1, 3) := by decide +kernel
theorem dX6_figuresOf_21 : decode cX6_figuresOf 21 = .ok (.goto (-17), 3) := by decide +kernel
theorem dX6_figuresOf_24 : decode cX6_figuresOf 24 = .ok (.iload_n 1, 1) := by decide +kernel
theorem dX6_figuresOf_25 : decode cX6_figuresOf 25 = .ok (.ireturn, 1) := by decide +kernel
theorem dX6_printedOver_0 : decode cX6_printedOver 0 = .ok (.iload_n 1, 1) := by decide +kernel
theorem dX6_printedOver_1 : decode cX6_printedOver 1 = .ok (.iload_n 2, 1) := by decide +kernel
theorem dX6_printedOver_2 : decode cX6_printedOver 2 = .ok (.imul, 1) := by decide +kernel
theorem dX6_printedOver_3 : decode cX6_printedOver 3 = .ok (.bipush 15, 2) := by decide +kernel
theorem dX6_printedOver_5 : decode cX6_printedOver 5 = .ok (.idiv, 1) := by decide +kernel
theorem dX6_printedOver_6 : decode cX6_printedOver 6 = .ok (.istore_n 3, 1) := by decide +kernel
theorem dX6_printedOver_7 : decode cX6_printedOver 7 = .ok (.iload_n 0, 1) := by decide +kernel
theorem dX6_printedOver_8 : decode cX6_printedOver 8 = .ok (.tableswitch 45 1 3 #[28, 30, 36], 28) := by decide +kernel
theorem dX6_printedOver_36 : decode cX6_printedOver 36 = .ok (.iload_n 2, 1) := by decide +kernel
theorem dX6_printedOver_37 : decode cX6_printedOver 37 = .ok (.ireturn, 1) := by decide +kernel
theorem dX6_printedOver_38 : decode cX6_printedOver 38 = .ok (.iload_n 3, 1) := by decide +kernel
theorem dX6_printedOver_39 : decode cX6_printedOver 39 = .ok (.iload_n 2, 1) := by decide +kernel
theorem dX6_printedOver_40 : decode cX6_printedOver 40 = .ok (.iadd, 1) := by decide +kernel
theorem dX6_printedOver_41 : decode cX6_printedOver 41 = .ok (.iconst 2, 1) := by decide +kernel
theorem dX6_printedOver_42 : decode cX6_printedOver 42 = .ok (.idiv, 1) := by decide +kernel
theorem dX6_printedOver_43 : decode cX6_printedOver 43 = .ok (.ireturn, 1) := by decide +kernel
theorem dX6_printedOver_44 : decode cX6_printedOver 44 = .ok (.iload_n 2, 1) := by decide +kernel
theorem dX6_printedOver_45 : decode cX6_printedOver 45 = .ok (.iconst 1, 1) := by decide +kernel
theorem dX6_printedOver_46 : decode cX6_printedOver 46 = .ok (.iadd, 1) := by decide +kernel
theorem dX6_printedOver_47 : decode cX6_printedOver 47 = .ok (.bipush 15, 2) := by decide +kernel
theorem dX6_printedOver_49 : decode cX6_printedOver 49 = .ok (.invokestatic 296, 3) := by decide +kernel
theorem dX6_printedOver_52 : decode cX6_printedOver 52 = .ok (.ireturn, 1) := by decide +kernel
theorem dX6_printedOver_53 : decode cX6_printedOver 53 = .ok (.iload_n 3, 1) := by decide +kernel
theorem dX6_printedOver_54 : decode cX6_printedOver 54 = .ok (.ireturn, 1) := by decide +kernel
theorem dX6_lookBy_0 : decode cX6_lookBy 0 = .ok (.iconst 0, 1) := by decide +kernel
theorem dX6_lookBy_1 : decode cX6_lookBy 1 = .ok (.istore 4, 2) := by decide +kernel
theorem dX6_lookBy_3 : decode cX6_lookBy 3 = .ok (.bipush 8, 2) := by decide +kernel
theorem dX6_lookBy_5 : decode cX6_lookBy 5 = .ok (.istore 5, 2) := by decide +kernel
theorem dX6_lookBy_7 : decode cX6_lookBy 7 = .ok (.iload 5, 2) := by decide +kernel
theorem dX6_lookBy_9 : decode cX6_lookBy 9 = .ok (.ifCond .lt 83, 3) := by decide +kernel
theorem dX6_lookBy_12 : decode cX6_lookBy 12 = .ok (.bipush 15, 2) := by decide +kernel
theorem dX6_lookBy_14 : decode cX6_lookBy 14 = .ok (.istore 6, 2) := by decide +kernel
theorem dX6_lookBy_16 : decode cX6_lookBy 16 = .ok (.iconst 0, 1) := by decide +kernel
theorem dX6_lookBy_17 : decode cX6_lookBy 17 = .ok (.istore 7, 2) := by decide +kernel
theorem dX6_lookBy_19 : decode cX6_lookBy 19 = .ok (.iload 7, 2) := by decide +kernel
theorem dX6_lookBy_21 : decode cX6_lookBy 21 = .ok (.iconst 5, 1) := by decide +kernel
theorem dX6_lookBy_22 : decode cX6_lookBy 22 = .ok (.if_icmp .ge 54, 3) := by decide +kernel
theorem dX6_lookBy_25 : decode cX6_lookBy 25 = .ok (.aload_n 2, 1) := by decide +kernel
theorem dX6_lookBy_26 : decode cX6_lookBy 26 = .ok (.iload 7, 2) := by decide +kernel
theorem dX6_lookBy_28 : decode cX6_lookBy 28 = .ok (.iaload, 1) := by decide +kernel
theorem dX6_lookBy_29 : decode cX6_lookBy 29 = .ok (.istore 8, 2) := by decide +kernel
theorem dX6_lookBy_31 : decode cX6_lookBy 31 = .ok (.iload 8, 2) := by decide +kernel
theorem dX6_lookBy_33 : decode cX6_lookBy 33 = .ok (.iconst 5, 1) := by decide +kernel
theorem dX6_lookBy_34 : decode cX6_lookBy 34 = .ok (.invokestatic 71, 3) := by decide +kernel
theorem dX6_lookBy_37 : decode cX6_lookBy 37 = .ok (.ifCond .eq 33, 3) := by decide +kernel
theorem dX6_lookBy_40 : decode cX6_lookBy 40 = .ok (.iload_n 3, 1) := by decide +kernel
theorem dX6_lookBy_41 : decode cX6_lookBy 41 = .ok (.iload 8, 2) := by decide +kernel
theorem dX6_lookBy_43 : decode cX6_lookBy 43 = .ok (.invokestatic 301, 3) := by decide +kernel
theorem dX6_lookBy_46 : decode cX6_lookBy 46 = .ok (.ifCond .eq 24, 3) := by decide +kernel
theorem dX6_lookBy_49 : decode cX6_lookBy 49 = .ok (.aload_n 0, 1) := by decide +kernel
theorem dX6_lookBy_50 : decode cX6_lookBy 50 = .ok (.iload 8, 2) := by decide +kernel
theorem dX6_lookBy_52 : decode cX6_lookBy 52 = .ok (.iaload, 1) := by decide +kernel
theorem dX6_lookBy_53 : decode cX6_lookBy 53 = .ok (.iload 6, 2) := by decide +kernel
theorem dX6_lookBy_55 : decode cX6_lookBy 55 = .ok (.aload_n 1, 1) := by decide +kernel
theorem dX6_lookBy_56 : decode cX6_lookBy 56 = .ok (.iload 8, 2) := by decide +kernel
theorem dX6_lookBy_58 : decode cX6_lookBy 58 = .ok (.iaload, 1) := by decide +kernel
theorem dX6_lookBy_59 : decode cX6_lookBy 59 = .ok (.iload 5, 2) := by decide +kernel
theorem dX6_lookBy_61 : decode cX6_lookBy 61 = .ok (.ishr, 1) := by decide +kernel
theorem dX6_lookBy_62 : decode cX6_lookBy 62 = .ok (.bipush 15, 2) := by decide +kernel
theorem dX6_lookBy_64 : decode cX6_lookBy 64 = .ok (.iand, 1) := by decide +kernel
theorem dX6_lookBy_65 : decode cX6_lookBy 65 = .ok (.invokestatic 304, 3) := by decide +kernel
theorem dX6_lookBy_68 : decode cX6_lookBy 68 = .ok (.istore 6, 2) := by decide +kernel
theorem dX6_lookBy_70 : decode cX6_lookBy 70 = .ok (.iinc 7 1, 3) := by decide +kernel
theorem dX6_lookBy_73 : decode cX6_lookBy 73 = .ok (.goto (-54), 3) := by decide +kernel
theorem dX6_lookBy_76 : decode cX6_lookBy 76 = .ok (.iload 4, 2) := by decide +kernel
theorem dX6_lookBy_78 : decode cX6_lookBy 78 = .ok (.bipush 16, 2) := by decide +kernel
theorem dX6_lookBy_80 : decode cX6_lookBy 80 = .ok (.imul, 1) := by decide +kernel
theorem dX6_lookBy_81 : decode cX6_lookBy 81 = .ok (.iload 6, 2) := by decide +kernel
theorem dX6_lookBy_83 : decode cX6_lookBy 83 = .ok (.iadd, 1) := by decide +kernel
theorem dX6_lookBy_84 : decode cX6_lookBy 84 = .ok (.istore 4, 2) := by decide +kernel
theorem dX6_lookBy_86 : decode cX6_lookBy 86 = .ok (.iinc 5 (-4), 3) := by decide +kernel
theorem dX6_lookBy_89 : decode cX6_lookBy 89 = .ok (.goto (-82), 3) := by decide +kernel
theorem dX6_lookBy_92 : decode cX6_lookBy 92 = .ok (.iload 4, 2) := by decide +kernel
theorem dX6_lookBy_94 : decode cX6_lookBy 94 = .ok (.ireturn, 1) := by decide +kernel
theorem dX6_darkOf_0 : decode cX6_darkOf 0 = .ok (.bipush 45, 2) := by decide +kernel
theorem dX6_darkOf_2 : decode cX6_darkOf 2 = .ok (.iload_n 0, 1) := by decide +kernel
theorem dX6_darkOf_3 : decode cX6_darkOf 3 = .ok (.bipush 8, 2) := by decide +kernel
theorem dX6_darkOf_5 : decode cX6_darkOf 5 = .ok (.ishr, 1) := by decide +kernel
theorem dX6_darkOf_6 : decode cX6_darkOf 6 = .ok (.isub, 1) := by decide +kernel
theorem dX6_darkOf_7 : decode cX6_darkOf 7 = .ok (.iload_n 0, 1) := by decide +kernel
theorem dX6_darkOf_8 : decode cX6_darkOf 8 = .ok (.iconst 4, 1) := by decide +kernel
theorem dX6_darkOf_9 : decode cX6_darkOf 9 = .ok (.ishr, 1) := by decide +kernel
theorem dX6_darkOf_10 : decode cX6_darkOf 10 = .ok (.bipush 15, 2) := by decide +kernel
theorem dX6_darkOf_12 : decode cX6_darkOf 12 = .ok (.iand, 1) := by decide +kernel
theorem dX6_darkOf_13 : decode cX6_darkOf 13 = .ok (.isub, 1) := by decide +kernel
theorem dX6_darkOf_14 : decode cX6_darkOf 14 = .ok (.iload_n 0, 1) := by decide +kernel
theorem dX6_darkOf_15 : decode cX6_darkOf 15 = .ok (.bipush 15, 2) := by decide +kernel
theorem dX6_darkOf_17 : decode cX6_darkOf 17 = .ok (.iand, 1) := by decide +kernel
theorem dX6_darkOf_18 : decode cX6_darkOf 18 = .ok (.isub, 1) := by decide +kernel
theorem dX6_darkOf_19 : decode cX6_darkOf 19 = .ok (.ireturn, 1) := by decide +kernel
theorem dX6_lookNow_0 : decode cX6_lookNow 0 = .ok (.aload_n 0, 1) := by decide +kernel
theorem dX6_lookNow_1 : decode cX6_lookNow 1 = .ok (.getfield 10, 3) := by decide +kernel
theorem dX6_lookNow_4 : decode cX6_lookNow 4 = .ok (.getfield 75, 3) := by decide +kernel
theorem dX6_lookNow_7 : decode cX6_lookNow 7 = .ok (.aload_n 0, 1) := by decide +kernel
theorem dX6_lookNow_8 : decode cX6_lookNow 8 = .ok (.getfield 10, 3) := by decide +kernel
theorem dX6_lookNow_11 : decode cX6_lookNow 11 = .ok (.getfield 78, 3) := by decide +kernel
theorem dX6_lookNow_14 : decode cX6_lookNow 14 = .ok (.aload_n 0, 1) := by decide +kernel
theorem dX6_lookNow_15 : decode cX6_lookNow 15 = .ok (.getfield 10, 3) := by decide +kernel
theorem dX6_lookNow_18 : decode cX6_lookNow 18 = .ok (.getfield 164, 3) := by decide +kernel
theorem dX6_lookNow_21 : decode cX6_lookNow 21 = .ok (.iload_n 1, 1) := by decide +kernel
theorem dX6_lookNow_22 : decode cX6_lookNow 22 = .ok (.invokestatic 307, 3) := by decide +kernel
theorem dX6_lookNow_25 : decode cX6_lookNow 25 = .ok (.ireturn, 1) := by decide +kernel
theorem dX6_alikeTo_0 : decode cX6_alikeTo 0 = .ok (.aload_n 0, 1) := by decide +kernel
theorem dX6_alikeTo_1 : decode cX6_alikeTo 1 = .ok (.getfield 36, 3) := by decide +kernel
theorem dX6_alikeTo_4 : decode cX6_alikeTo 4 = .ok (.aload_n 0, 1) := by decide +kernel
theorem dX6_alikeTo_5 : decode cX6_alikeTo 5 = .ok (.getfield 10, 3) := by decide +kernel
theorem dX6_alikeTo_8 : decode cX6_alikeTo 8 = .ok (.invokevirtual 311, 3) := by decide +kernel
theorem dX6_alikeTo_11 : decode cX6_alikeTo 11 = .ok (.aload_n 0, 1) := by decide +kernel
theorem dX6_alikeTo_12 : decode cX6_alikeTo 12 = .ok (.getfield 36, 3) := by decide +kernel
theorem dX6_alikeTo_15 : decode cX6_alikeTo 15 = .ok (.iload_n 1, 1) := by decide +kernel
theorem dX6_alikeTo_16 : decode cX6_alikeTo 16 = .ok (.invokevirtual 312, 3) := by decide +kernel
theorem dX6_alikeTo_19 : decode cX6_alikeTo 19 = .ok (.ireturn, 1) := by decide +kernel
theorem dX6_unlikeLooks_0 : decode cX6_unlikeLooks 0 = .ok (.aload_n 0, 1) := by decide +kernel
theorem dX6_unlikeLooks_1 : decode cX6_unlikeLooks 1 = .ok (.getfield 36, 3) := by decide +kernel
theorem dX6_unlikeLooks_4 : decode cX6_unlikeLooks 4 = .ok (.aload_n 0, 1) := by decide +kernel
theorem dX6_unlikeLooks_5 : decode cX6_unlikeLooks 5 = .ok (.getfield 10, 3) := by decide +kernel
theorem dX6_unlikeLooks_8 : decode cX6_unlikeLooks 8 = .ok (.invokevirtual 311, 3) := by decide +kernel
theorem dX6_unlikeLooks_11 : decode cX6_unlikeLooks 11 = .ok (.aload_n 0, 1) := by decide +kernel
theorem dX6_unlikeLooks_12 : decode cX6_unlikeLooks 12 = .ok (.getfield 36, 3) := by decide +kernel
theorem dX6_unlikeLooks_15 : decode cX6_unlikeLooks 15 = .ok (.aload_n 0, 1) := by decide +kernel
theorem dX6_unlikeLooks_16 : decode cX6_unlikeLooks 16 = .ok (.getfield 10, 3) := by decide +kernel
theorem dX6_unlikeLooks_19 : decode cX6_unlikeLooks 19 = .ok (.invokevirtual 313, 3) := by decide +kernel
theorem dX6_unlikeLooks_22 : decode cX6_unlikeLooks 22 = .ok (.invokevirtual 316, 3) := by decide +kernel
theorem dX6_unlikeLooks_25 : decode cX6_unlikeLooks 25 = .ok (.ireturn, 1) := by decide +kernel
theorem dX6_fewestInks_0 : decode cX6_fewestInks 0 = .ok (.aload_n 0, 1) := by decide +kernel
theorem dX6_fewestInks_1 : decode cX6_fewestInks 1 = .ok (.getfield 36, 3) := by decide +kernel
theorem dX6_fewestInks_4 : decode cX6_fewestInks 4 = .ok (.aload_n 0, 1) := by decide +kernel
theorem dX6_fewestInks_5 : decode cX6_fewestInks 5 = .ok (.getfield 10, 3) := by decide +kernel
theorem dX6_fewestInks_8 : decode cX6_fewestInks 8 = .ok (.invokevirtual 311, 3) := by decide +kernel
theorem dX6_fewestInks_11 : decode cX6_fewestInks 11 = .ok (.aload_n 0, 1) := by decide +kernel
theorem dX6_fewestInks_12 : decode cX6_fewestInks 12 = .ok (.getfield 36, 3) := by decide +kernel
theorem dX6_fewestInks_15 : decode cX6_fewestInks 15 = .ok (.aload_n 0, 1) := by decide +kernel
theorem dX6_fewestInks_16 : decode cX6_fewestInks 16 = .ok (.getfield 10, 3) := by decide +kernel
theorem dX6_fewestInks_19 : decode cX6_fewestInks 19 = .ok (.invokevirtual 313, 3) := by decide +kernel
theorem dX6_fewestInks_22 : decode cX6_fewestInks 22 = .ok (.invokevirtual 319, 3) := by decide +kernel
theorem dX6_fewestInks_25 : decode cX6_fewestInks 25 = .ok (.ireturn, 1) := by decide +kernel
theorem dX6_printedBy_0 : decode cX6_printedBy 0 = .ok (.iconst 1, 1) := by decide +kernel
theorem dX6_printedBy_1 : decode cX6_printedBy 1 = .ok (.iload_n 1, 1) := by decide +kernel
theorem dX6_printedBy_2 : decode cX6_printedBy 2 = .ok (.ishl, 1) := by decide +kernel
theorem dX6_printedBy_3 : decode cX6_printedBy 3 = .ok (.istore 6, 2) := by decide +kernel
theorem dX6_printedBy_5 : decode cX6_printedBy 5 = .ok (.aload_n 0, 1) := by decide +kernel
theorem dX6_printedBy_6 : decode cX6_printedBy 6 = .ok (.getfield 10, 3) := by decide +kernel
theorem dX6_printedBy_9 : decode cX6_printedBy 9 = .ok (.iload 4, 2) := by decide +kernel
theorem dX6_printedBy_11 : decode cX6_printedBy 11 = .ok (.iload 5, 2) := by decide +kernel
theorem dX6_printedBy_13 : decode cX6_printedBy 13 = .ok (.invokevirtual 103, 3) := by decide +kernel
theorem dX6_printedBy_16 : decode cX6_printedBy 16 = .ok (.iload 6, 2) := by decide +kernel
theorem dX6_printedBy_18 : decode cX6_printedBy 18 = .ok (.iconst (-1), 1) := by decide +kernel
theorem dX6_printedBy_19 : decode cX6_printedBy 19 = .ok (.ixor, 1) := by decide +kernel
theorem dX6_printedBy_20 : decode cX6_printedBy 20 = .ok (.iand, 1) := by decide +kernel
theorem dX6_printedBy_21 : decode cX6_printedBy 21 = .ok (.aload_n 0, 1) := by decide +kernel
theorem dX6_printedBy_22 : decode cX6_printedBy 22 = .ok (.getfield 10, 3) := by decide +kernel
theorem dX6_printedBy_25 : decode cX6_printedBy 25 = .ok (.iload 4, 2) := by decide +kernel
theorem dX6_printedBy_27 : decode cX6_printedBy 27 = .ok (.iload_n 2, 1) := by decide +kernel
theorem dX6_printedBy_28 : decode cX6_printedBy 28 = .ok (.isub, 1) := by decide +kernel
theorem dX6_printedBy_29 : decode cX6_printedBy 29 = .ok (.iload 5, 2) := by decide +kernel
theorem dX6_printedBy_31 : decode cX6_printedBy 31 = .ok (.iload_n 3, 1) := by decide +kernel
theorem dX6_printedBy_32 : decode cX6_printedBy 32 = .ok (.isub, 1) := by decide +kernel
theorem dX6_printedBy_33 : decode cX6_printedBy 33 = .ok (.invokevirtual 103, 3) := by decide +kernel
theorem dX6_printedBy_36 : decode cX6_printedBy 36 = .ok (.iload 6, 2) := by decide +kernel
theorem dX6_printedBy_38 : decode cX6_printedBy 38 = .ok (.iand, 1) := by decide +kernel
theorem dX6_printedBy_39 : decode cX6_printedBy 39 = .ok (.ior, 1) := by decide +kernel
theorem dX6_printedBy_40 : decode cX6_printedBy 40 = .ok (.ireturn, 1) := by decide +kernel
theorem dX6_gapsBy_0 : decode cX6_gapsBy 0 = .ok (.iconst 0, 1) := by decide +kernel
theorem dX6_gapsBy_1 : decode cX6_gapsBy 1 = .ok (.istore 4, 2) := by decide +kernel
theorem dX6_gapsBy_3 : decode cX6_gapsBy 3 = .ok (.iconst 0, 1) := by decide +kernel
theorem dX6_gapsBy_4 : decode cX6_gapsBy 4 = .ok (.istore 5, 2) := by decide +kernel
theorem dX6_gapsBy_6 : decode cX6_gapsBy 6 = .ok (.iload 5, 2) := by decide +kernel
theorem dX6_gapsBy_8 : decode cX6_gapsBy 8 = .ok (.aload_n 0, 1) := by decide +kernel
theorem dX6_gapsBy_9 : decode cX6_gapsBy 9 = .ok (.getfield 10, 3) := by decide +kernel
theorem dX6_gapsBy_12 : decode cX6_gapsBy 12 = .ok (.getfield 161, 3) := by decide +kernel
theorem dX6_gapsBy_15 : decode cX6_gapsBy 15 = .ok (.if_icmp .ge 61, 3) := by decide +kernel
theorem dX6_gapsBy_18 : decode cX6_gapsBy 18 = .ok (.iconst 0, 1) := by decide +kernel
theorem dX6_gapsBy_19 : decode cX6_gapsBy 19 = .ok (.istore 6, 2) := by decide +kernel
theorem dX6_gapsBy_21 : decode cX6_gapsBy 21 = .ok (.iload 6, 2) := by decide +kernel
theorem dX6_gapsBy_23 : decode cX6_gapsBy 23 = .ok (.aload_n 0, 1) := by decide +kernel
theorem dX6_gapsBy_24 : decode cX6_gapsBy 24 = .ok (.getfield 10, 3) := by decide +kernel
theorem dX6_gapsBy_27 : decode cX6_gapsBy 27 = .ok (.getfield 160, 3) := by decide +kernel
theorem dX6_gapsBy_30 : decode cX6_gapsBy 30 = .ok (.if_icmp .ge 40, 3) := by decide +kernel
theorem dX6_gapsBy_33 : decode cX6_gapsBy 33 = .ok (.aload_n 0, 1) := by decide +kernel
theorem dX6_gapsBy_34 : decode cX6_gapsBy 34 = .ok (.getfield 10, 3) := by decide +kernel
theorem dX6_gapsBy_37 : decode cX6_gapsBy 37 = .ok (.iload 6, 2) := by decide +kernel
theorem dX6_gapsBy_39 : decode cX6_gapsBy 39 = .ok (.iload 5, 2) := by decide +kernel
theorem dX6_gapsBy_41 : decode cX6_gapsBy 41 = .ok (.invokevirtual 103, 3) := by decide +kernel
theorem dX6_gapsBy_44 : decode cX6_gapsBy 44 = .ok (.ifCond .eq 20, 3) := by decide +kernel
theorem dX6_gapsBy_47 : decode cX6_gapsBy 47 = .ok (.aload_n 0, 1) := by decide +kernel
theorem dX6_gapsBy_48 : decode cX6_gapsBy 48 = .ok (.iload_n 1, 1) := by decide +kernel
theorem dX6_gapsBy_49 : decode cX6_gapsBy 49 = .ok (.iload_n 2, 1) := by decide +kernel
theorem dX6_gapsBy_50 : decode cX6_gapsBy 50 = .ok (.iload_n 3, 1) := by decide +kernel
theorem dX6_gapsBy_51 : decode cX6_gapsBy 51 = .ok (.iload 6, 2) := by decide +kernel
theorem dX6_gapsBy_53 : decode cX6_gapsBy 53 = .ok (.iload 5, 2) := by decide +kernel
theorem dX6_gapsBy_55 : decode cX6_gapsBy 55 = .ok (.invokevirtual 237, 3) := by decide +kernel
theorem dX6_gapsBy_58 : decode cX6_gapsBy 58 = .ok (.ifCond .ne 6, 3) := by decide +kernel
theorem dX6_gapsBy_61 : decode cX6_gapsBy 61 = .ok (.iinc 4 1, 3) := by decide +kernel
theorem dX6_gapsBy_64 : decode cX6_gapsBy 64 = .ok (.iinc 6 1, 3) := by decide +kernel
theorem dX6_gapsBy_67 : decode cX6_gapsBy 67 = .ok (.goto (-46), 3) := by decide +kernel
theorem dX6_gapsBy_70 : decode cX6_gapsBy 70 = .ok (.iinc 5 1, 3) := by decide +kernel
theorem dX6_gapsBy_73 : decode cX6_gapsBy 73 = .ok (.goto (-67), 3) := by decide +kernel
theorem dX6_gapsBy_76 : decode cX6_gapsBy 76 = .ok (.iload 4, 2) := by decide +kernel
theorem dX6_gapsBy_78 : decode cX6_gapsBy 78 = .ok (.ireturn, 1) := by decide +kernel
theorem dX6_worstAside_0 : decode cX6_worstAside 0 = .ok (.bipush (-4), 2) := by decide +kernel
theorem dX6_worstAside_2 : decode cX6_worstAside 2 = .ok (.istore_n 1, 1) := by decide +kernel
theorem dX6_worstAside_3 : decode cX6_worstAside 3 = .ok (.iconst 0, 1) := by decide +kernel
theorem dX6_worstAside_4 : decode cX6_worstAside 4 = .ok (.istore_n 2, 1) := by decide +kernel
theorem dX6_worstAside_5 : decode cX6_worstAside 5 = .ok (.iconst 0, 1) := by decide +kernel
theorem dX6_worstAside_6 : decode cX6_worstAside 6 = .ok (.istore_n 3, 1) := by decide +kernel
theorem dX6_worstAside_7 : decode cX6_worstAside 7 = .ok (.iload_n 3, 1) := by decide +kernel
theorem dX6_worstAside_8 : decode cX6_worstAside 8 = .ok (.iconst 5, 1) := by decide +kernel
theorem dX6_worstAside_9 : decode cX6_worstAside 9 = .ok (.if_icmp .ge 77, 3) := by decide +kernel
theorem dX6_worstAside_12 : decode cX6_worstAside 12 = .ok (.iconst (-1), 1) := by decide +kernel
theorem dX6_worstAside_13 : decode cX6_worstAside 13 = .ok (.istore 4, 2) := by decide +kernel
theorem dX6_worstAside_15 : decode cX6_worstAside 15 = .ok (.iload 4, 2) := by decide +kernel
theorem dX6_worstAside_17 : decode cX6_worstAside 17 = .ok (.iconst 1, 1) := by decide +kernel
theorem dX6_worstAside_18 : decode cX6_worstAside 18 = .ok (.if_icmp .gt 62, 3) := by decide +kernel
theorem dX6_worstAside_21 : decode cX6_worstAside 21 = .ok (.iconst (-1), 1) := by decide +kernel
theorem dX6_worstAside_22 : decode cX6_worstAside 22 = .ok (.istore 5, 2) := by decide +kernel
theorem dX6_worstAside_24 : decode cX6_worstAside 24 = .ok (.iload 5, 2) := by decide +kernel
theorem dX6_worstAside_26 : decode cX6_worstAside 26 = .ok (.iconst 1, 1) := by decide +kernel
theorem dX6_worstAside_27 : decode cX6_worstAside 27 = .ok (.if_icmp .gt 47, 3) := by decide +kernel
theorem dX6_worstAside_30 : decode cX6_worstAside 30 = .ok (.aload_n 0, 1) := by decide +kernel
theorem dX6_worstAside_31 : decode cX6_worstAside 31 = .ok (.iload_n 3, 1) := by decide +kernel
theorem dX6_worstAside_32 : decode cX6_worstAside 32 = .ok (.iload 5, 2) := by decide +kernel
theorem dX6_worstAside_34 : decode cX6_worstAside 34 = .ok (.iload 4, 2) := by decide +kernel
theorem dX6_worstAside_36 : decode cX6_worstAside 36 = .ok (.invokevirtual 233, 3) := by decide +kernel
theorem dX6_worstAside_39 : decode cX6_worstAside 39 = .ok (.istore 6, 2) := by decide +kernel
theorem dX6_worstAside_41 : decode cX6_worstAside 41 = .ok (.iload 6, 2) := by decide +kernel
theorem dX6_worstAside_43 : decode cX6_worstAside 43 = .ok (.iload_n 2, 1) := by decide +kernel
theorem dX6_worstAside_44 : decode cX6_worstAside 44 = .ok (.if_icmp .le 24, 3) := by decide +kernel
theorem dX6_worstAside_47 : decode cX6_worstAside 47 = .ok (.iload 6, 2) := by decide +kernel
theorem dX6_worstAside_49 : decode cX6_worstAside 49 = .ok (.istore_n 2, 1) := by decide +kernel
theorem dX6_worstAside_50 : decode cX6_worstAside 50 = .ok (.bipush 100, 2) := by decide +kernel
theorem dX6_worstAside_52 : decode cX6_worstAside 52 = .ok (.iload_n 3, 1) := by decide +kernel
theorem dX6_worstAside_53 : decode cX6_worstAside 53 = .ok (.imul, 1) := by decide +kernel
theorem dX6_worstAside_54 : decode cX6_worstAside 54 = .ok (.bipush 10, 2) := by decide +kernel
theorem dX6_worstAside_56 : decode cX6_worstAside 56 = .ok (.iload 4, 2) := by decide +kernel
theorem dX6_worstAside_58 : decode cX6_worstAside 58 = .ok (.iconst 1, 1) := by decide +kernel
theorem dX6_worstAside_59 : decode cX6_worstAside 59 = .ok (.iadd, 1) := by decide +kernel
theorem dX6_worstAside_60 : decode cX6_worstAside 60 = .ok (.imul, 1) := by decide +kernel
theorem dX6_worstAside_61 : decode cX6_worstAside 61 = .ok (.iadd, 1) := by decide +kernel
theorem dX6_worstAside_62 : decode cX6_worstAside 62 = .ok (.iload 5, 2) := by decide +kernel
theorem dX6_worstAside_64 : decode cX6_worstAside 64 = .ok (.iadd, 1) := by decide +kernel
theorem dX6_worstAside_65 : decode cX6_worstAside 65 = .ok (.iconst 1, 1) := by decide +kernel
theorem dX6_worstAside_66 : decode cX6_worstAside 66 = .ok (.iadd, 1) := by decide +kernel
theorem dX6_worstAside_67 : decode cX6_worstAside 67 = .ok (.istore_n 1, 1) := by decide +kernel
theorem dX6_worstAside_68 : decode cX6_worstAside 68 = .ok (.iinc 5 1, 3) := by decide +kernel
theorem dX6_worstAside_71 : decode cX6_worstAside 71 = .ok (.goto (-47), 3) := by decide +kernel
theorem dX6_worstAside_74 : decode cX6_worstAside 74 = .ok (.iinc 4 1, 3) := by decide +kernel
theorem dX6_worstAside_77 : decode cX6_worstAside 77 = .ok (.goto (-62), 3) := by decide +kernel
theorem dX6_worstAside_80 : decode cX6_worstAside 80 = .ok (.iinc 3 1, 3) := by decide +kernel
theorem dX6_worstAside_83 : decode cX6_worstAside 83 = .ok (.goto (-76), 3) := by decide +kernel
theorem dX6_worstAside_86 : decode cX6_worstAside 86 = .ok (.iload_n 1, 1) := by decide +kernel
theorem dX6_worstAside_87 : decode cX6_worstAside 87 = .ok (.ireturn, 1) := by decide +kernel
theorem dX6_worstGaps_0 : decode cX6_worstGaps 0 = .ok (.aload_n 0, 1) := by decide +kernel
theorem dX6_worstGaps_1 : decode cX6_worstGaps 1 = .ok (.invokevirtual 178, 3) := by decide +kernel
theorem dX6_worstGaps_4 : decode cX6_worstGaps 4 = .ok (.istore_n 1, 1) := by decide +kernel
theorem dX6_worstGaps_5 : decode cX6_worstGaps 5 = .ok (.iload_n 1, 1) := by decide +kernel
theorem dX6_worstGaps_6 : decode cX6_worstGaps 6 = .ok (.ifCond .ge 5, 3) := by decide +kernel
theorem dX6_worstGaps_9 : decode cX6_worstGaps 9 = .ok (.iconst 0, 1) := by decide +kernel
theorem dX6_worstGaps_10 : decode cX6_worstGaps 10 = .ok (.ireturn, 1) := by decide +kernel
theorem dX6_worstGaps_11 : decode cX6_worstGaps 11 = .ok (.aload_n 0, 1) := by decide +kernel
theorem dX6_worstGaps_12 : decode cX6_worstGaps 12 = .ok (.iload_n 1, 1) := by decide +kernel
theorem dX6_worstGaps_13 : decode cX6_worstGaps 13 = .ok (.bipush 100, 2) := by decide +kernel
theorem dX6_worstGaps_15 : decode cX6_worstGaps 15 = .ok (.idiv, 1) := by decide +kernel
theorem dX6_worstGaps_16 : decode cX6_worstGaps 16 = .ok (.iload_n 1, 1) := by decide +kernel
theorem dX6_worstGaps_17 : decode cX6_worstGaps 17 = .ok (.bipush 10, 2) := by decide +kernel
theorem dX6_worstGaps_19 : decode cX6_worstGaps 19 = .ok (.irem, 1) := by decide +kernel
theorem dX6_worstGaps_20 : decode cX6_worstGaps 20 = .ok (.iconst 1, 1) := by decide +kernel
theorem dX6_worstGaps_21 : decode cX6_worstGaps 21 = .ok (.isub, 1) := by decide +kernel
theorem dX6_worstGaps_22 : decode cX6_worstGaps 22 = .ok (.iload_n 1, 1) := by decide +kernel
theorem dX6_worstGaps_23 : decode cX6_worstGaps 23 = .ok (.bipush 10, 2) := by decide +kernel
theorem dX6_worstGaps_25 : decode cX6_worstGaps 25 = .ok (.idiv, 1) := by decide +kernel
theorem dX6_worstGaps_26 : decode cX6_worstGaps 26 = .ok (.bipush 10, 2) := by decide +kernel
theorem dX6_worstGaps_28 : decode cX6_worstGaps 28 = .ok (.irem, 1) := by decide +kernel
theorem dX6_worstGaps_29 : decode cX6_worstGaps 29 = .ok (.iconst 1, 1) := by decide +kernel
theorem dX6_worstGaps_30 : decode cX6_worstGaps 30 = .ok (.isub, 1) := by decide +kernel
theorem dX6_worstGaps_31 : decode cX6_worstGaps 31 = .ok (.invokevirtual 233, 3) := by decide +kernel
theorem dX6_worstGaps_34 : decode cX6_worstGaps 34 = .ok (.ireturn, 1) := by decide +kernel
theorem dX6_ordersAlike_0 : decode cX6_ordersAlike 0 = .ok (.aload_n 0, 1) := by decide +kernel
theorem dX6_ordersAlike_1 : decode cX6_ordersAlike 1 = .ok (.getfield 10, 3) := by decide +kernel
theorem dX6_ordersAlike_4 : decode cX6_ordersAlike 4 = .ok (.invokevirtual 313, 3) := by decide +kernel
theorem dX6_ordersAlike_7 : decode cX6_ordersAlike 7 = .ok (.istore_n 1, 1) := by decide +kernel
theorem dX6_ordersAlike_8 : decode cX6_ordersAlike 8 = .ok (.aload_n 0, 1) := by decide +kernel
theorem dX6_ordersAlike_9 : decode cX6_ordersAlike 9 = .ok (.getfield 36, 3) := by decide +kernel
theorem dX6_ordersAlike_12 : decode cX6_ordersAlike 12 = .ok (.aload_n 0, 1) := by decide +kernel
theorem dX6_ordersAlike_13 : decode cX6_ordersAlike 13 = .ok (.getfield 10, 3) := by decide +kernel
theorem dX6_ordersAlike_16 : decode cX6_ordersAlike 16 = .ok (.invokevirtual 311, 3) := by decide +kernel
theorem dX6_ordersAlike_19 : decode cX6_ordersAlike 19 = .ok (.iconst 0, 1) := by decide +kernel
theorem dX6_ordersAlike_20 : decode cX6_ordersAlike 20 = .ok (.istore_n 2, 1) := by decide +kernel
theorem dX6_ordersAlike_21 : decode cX6_ordersAlike 21 = .ok (.iconst 0, 1) := by decide +kernel
theorem dX6_ordersAlike_22 : decode cX6_ordersAlike 22 = .ok (.istore_n 3, 1) := by decide +kernel
theorem dX6_ordersAlike_23 : decode cX6_ordersAlike 23 = .ok (.iload_n 3, 1) := by decide +kernel
theorem dX6_ordersAlike_24 : decode cX6_ordersAlike 24 = .ok (.bipush 120, 2) := by decide +kernel
theorem dX6_ordersAlike_26 : decode cX6_ordersAlike 26 = .ok (.if_icmp .ge 21, 3) := by decide +kernel
theorem dX6_ordersAlike_29 : decode cX6_ordersAlike 29 = .ok (.aload_n 0, 1) := by decide +kernel
theorem dX6_ordersAlike_30 : decode cX6_ordersAlike 30 = .ok (.iload_n 3, 1) := by decide +kernel
theorem dX6_ordersAlike_31 : decode cX6_ordersAlike 31 = .ok (.iload_n 1, 1) := by decide +kernel
theorem dX6_ordersAlike_32 : decode cX6_ordersAlike 32 = .ok (.invokevirtual 322, 3) := by decide +kernel
theorem dX6_ordersAlike_35 : decode cX6_ordersAlike 35 = .ok (.ifCond .eq 6, 3) := by decide +kernel
theorem dX6_ordersAlike_38 : decode cX6_ordersAlike 38 = .ok (.iinc 2 1, 3) := by decide +kernel
theorem dX6_ordersAlike_41 : decode cX6_ordersAlike 41 = .ok (.iinc 3 1, 3) := by decide +kernel
theorem dX6_ordersAlike_44 : decode cX6_ordersAlike 44 = .ok (.goto (-21), 3) := by decide +kernel
theorem dX6_ordersAlike_47 : decode cX6_ordersAlike 47 = .ok (.iload_n 2, 1) := by decide +kernel
theorem dX6_ordersAlike_48 : decode cX6_ordersAlike 48 = .ok (.ireturn, 1) := by decide +kernel
theorem dX6_firstOrderAlike_0 : decode cX6_firstOrderAlike 0 = .ok (.aload_n 0, 1) := by decide +kernel
theorem dX6_firstOrderAlike_1 : decode cX6_firstOrderAlike 1 = .ok (.getfield 10, 3) := by decide +kernel
theorem dX6_firstOrderAlike_4 : decode cX6_firstOrderAlike 4 = .ok (.invokevirtual 313, 3) := by decide +kernel
theorem dX6_firstOrderAlike_7 : decode cX6_firstOrderAlike 7 = .ok (.istore_n 1, 1) := by decide +kernel
theorem dX6_firstOrderAlike_8 : decode cX6_firstOrderAlike 8 = .ok (.aload_n 0, 1) := by decide +kernel
theorem dX6_firstOrderAlike_9 : decode cX6_firstOrderAlike 9 = .ok (.getfield 36, 3) := by decide +kernel
theorem dX6_firstOrderAlike_12 : decode cX6_firstOrderAlike 12 = .ok (.aload_n 0, 1) := by decide +kernel
theorem dX6_firstOrderAlike_13 : decode cX6_firstOrderAlike 13 = .ok (.getfield 10, 3) := by decide +kernel
theorem dX6_firstOrderAlike_16 : decode cX6_firstOrderAlike 16 = .ok (.invokevirtual 311, 3) := by decide +kernel
theorem dX6_firstOrderAlike_19 : decode cX6_firstOrderAlike 19 = .ok (.iconst 0, 1) := by decide +kernel
theorem dX6_firstOrderAlike_20 : decode cX6_firstOrderAlike 20 = .ok (.istore_n 2, 1) := by decide +kernel
theorem dX6_firstOrderAlike_21 : decode cX6_firstOrderAlike 21 = .ok (.iload_n 2, 1) := by decide +kernel
theorem dX6_firstOrderAlike_22 : decode cX6_firstOrderAlike 22 = .ok (.bipush 120, 2) := by decide +kernel
theorem dX6_firstOrderAlike_24 : decode cX6_firstOrderAlike 24 = .ok (.if_icmp .ge 26, 3) := by decide +kernel
theorem dX6_firstOrderAlike_27 : decode cX6_firstOrderAlike 27 = .ok (.aload_n 0, 1) := by decide +kernel
theorem dX6_firstOrderAlike_28 : decode cX6_firstOrderAlike 28 = .ok (.iload_n 2, 1) := by decide +kernel
theorem dX6_firstOrderAlike_29 : decode cX6_firstOrderAlike 29 = .ok (.iload_n 1, 1) := by decide +kernel
theorem dX6_firstOrderAlike_30 : decode cX6_firstOrderAlike 30 = .ok (.invokevirtual 322, 3) := by decide +kernel
theorem dX6_firstOrderAlike_33 : decode cX6_firstOrderAlike 33 = .ok (.ifCond .eq 11, 3) := by decide +kernel
theorem dX6_firstOrderAlike_36 : decode cX6_firstOrderAlike 36 = .ok (.aload_n 0, 1) := by decide +kernel
theorem dX6_firstOrderAlike_37 : decode cX6_firstOrderAlike 37 = .ok (.getfield 64, 3) := by decide +kernel
theorem dX6_firstOrderAlike_40 : decode cX6_firstOrderAlike 40 = .ok (.invokestatic 167, 3) := by decide +kernel
theorem dX6_firstOrderAlike_43 : decode cX6_firstOrderAlike 43 = .ok (.ireturn, 1) := by decide +kernel
theorem dX6_firstOrderAlike_44 : decode cX6_firstOrderAlike 44 = .ok (.iinc 2 1, 3) := by decide +kernel
theorem dX6_firstOrderAlike_47 : decode cX6_firstOrderAlike 47 = .ok (.goto (-26), 3) := by decide +kernel
theorem dX6_firstOrderAlike_50 : decode cX6_firstOrderAlike 50 = .ok (.aload_n 0, 1) := by decide +kernel
theorem dX6_firstOrderAlike_51 : decode cX6_firstOrderAlike 51 = .ok (.getfield 10, 3) := by decide +kernel
theorem dX6_firstOrderAlike_54 : decode cX6_firstOrderAlike 54 = .ok (.getfield 164, 3) := by decide +kernel
theorem dX6_firstOrderAlike_57 : decode cX6_firstOrderAlike 57 = .ok (.invokestatic 167, 3) := by decide +kernel
theorem dX6_firstOrderAlike_60 : decode cX6_firstOrderAlike 60 = .ok (.ireturn, 1) := by decide +kernel
theorem dX6_isAlikeByOrder_0 : decode cX6_isAlikeByOrder 0 = .ok (.iload_n 1, 1) := by decide +kernel
theorem dX6_isAlikeByOrder_1 : decode cX6_isAlikeByOrder 1 = .ok (.aload_n 0, 1) := by decide +kernel
theorem dX6_isAlikeByOrder_2 : decode cX6_isAlikeByOrder 2 = .ok (.getfield 64, 3) := by decide +kernel
theorem dX6_isAlikeByOrder_5 : decode cX6_isAlikeByOrder 5 = .ok (.invokestatic 325, 3) := by decide +kernel
theorem dX6_isAlikeByOrder_8 : decode cX6_isAlikeByOrder 8 = .ok (.iconst 0, 1) := by decide +kernel
theorem dX6_isAlikeByOrder_9 : decode cX6_isAlikeByOrder 9 = .ok (.istore_n 3, 1) := by decide +kernel
theorem dX6_isAlikeByOrder_10 : decode cX6_isAlikeByOrder 10 = .ok (.iload_n 3, 1) := by decide +kernel
theorem dX6_isAlikeByOrder_11 : decode cX6_isAlikeByOrder 11 = .ok (.bipush 32, 2) := by decide +kernel
theorem dX6_isAlikeByOrder_13 : decode cX6_isAlikeByOrder 13 = .ok (.if_icmp .ge 53, 3) := by decide +kernel
theorem dX6_isAlikeByOrder_16 : decode cX6_isAlikeByOrder 16 = .ok (.iload_n 2, 1) := by decide +kernel
theorem dX6_isAlikeByOrder_17 : decode cX6_isAlikeByOrder 17 = .ok (.iload_n 3, 1) := by decide +kernel
theorem dX6_isAlikeByOrder_18 : decode cX6_isAlikeByOrder 18 = .ok (.invokestatic 301, 3) := by decide +kernel
theorem dX6_isAlikeByOrder_21 : decode cX6_isAlikeByOrder 21 = .ok (.ifCond .eq 39, 3) := by decide +kernel
theorem dX6_isAlikeByOrder_24 : decode cX6_isAlikeByOrder 24 = .ok (.aload_n 0, 1) := by decide +kernel
theorem dX6_isAlikeByOrder_25 : decode cX6_isAlikeByOrder 25 = .ok (.getfield 10, 3) := by decide +kernel
theorem dX6_isAlikeByOrder_28 : decode cX6_isAlikeByOrder 28 = .ok (.getfield 75, 3) := by decide +kernel
theorem dX6_isAlikeByOrder_31 : decode cX6_isAlikeByOrder 31 = .ok (.aload_n 0, 1) := by decide +kernel
theorem dX6_isAlikeByOrder_32 : decode cX6_isAlikeByOrder 32 = .ok (.getfield 10, 3) := by decide +kernel
theorem dX6_isAlikeByOrder_35 : decode cX6_isAlikeByOrder 35 = .ok (.getfield 78, 3) := by decide +kernel
theorem dX6_isAlikeByOrder_38 : decode cX6_isAlikeByOrder 38 = .ok (.aload_n 0, 1) := by decide +kernel
theorem dX6_isAlikeByOrder_39 : decode cX6_isAlikeByOrder 39 = .ok (.getfield 64, 3) := by decide +kernel
theorem dX6_isAlikeByOrder_42 : decode cX6_isAlikeByOrder 42 = .ok (.iload_n 3, 1) := by decide +kernel
theorem dX6_isAlikeByOrder_43 : decode cX6_isAlikeByOrder 43 = .ok (.invokestatic 307, 3) := by decide +kernel
theorem dX6_isAlikeByOrder_46 : decode cX6_isAlikeByOrder 46 = .ok (.aload_n 0, 1) := by decide +kernel
theorem dX6_isAlikeByOrder_47 : decode cX6_isAlikeByOrder 47 = .ok (.getfield 36, 3) := by decide +kernel
theorem dX6_isAlikeByOrder_50 : decode cX6_isAlikeByOrder 50 = .ok (.getfield 329, 3) := by decide +kernel
theorem dX6_isAlikeByOrder_53 : decode cX6_isAlikeByOrder 53 = .ok (.iload_n 3, 1) := by decide +kernel
theorem dX6_isAlikeByOrder_54 : decode cX6_isAlikeByOrder 54 = .ok (.iaload, 1) := by decide +kernel
theorem dX6_isAlikeByOrder_55 : decode cX6_isAlikeByOrder 55 = .ok (.if_icmp .eq 5, 3) := by decide +kernel
theorem dX6_isAlikeByOrder_58 : decode cX6_isAlikeByOrder 58 = .ok (.iconst 0, 1) := by decide +kernel
theorem dX6_isAlikeByOrder_59 : decode cX6_isAlikeByOrder 59 = .ok (.ireturn, 1) := by decide +kernel
theorem dX6_isAlikeByOrder_60 : decode cX6_isAlikeByOrder 60 = .ok (.iinc 3 1, 3) := by decide +kernel
theorem dX6_isAlikeByOrder_63 : decode cX6_isAlikeByOrder 63 = .ok (.goto (-53), 3) := by decide +kernel
theorem dX6_isAlikeByOrder_66 : decode cX6_isAlikeByOrder 66 = .ok (.iconst 1, 1) := by decide +kernel
theorem dX6_isAlikeByOrder_67 : decode cX6_isAlikeByOrder 67 = .ok (.ireturn, 1) := by decide +kernel
theorem dX6_writeOrder_0 : decode cX6_writeOrder 0 = .ok (.bipush 31, 2) := by decide +kernel
theorem dX6_writeOrder_2 : decode cX6_writeOrder 2 = .ok (.istore_n 2, 1) := by decide +kernel
theorem dX6_writeOrder_3 : decode cX6_writeOrder 3 = .ok (.iload_n 0, 1) := by decide +kernel
theorem dX6_writeOrder_4 : decode cX6_writeOrder 4 = .ok (.istore_n 3, 1) := by decide +kernel
theorem dX6_writeOrder_5 : decode cX6_writeOrder 5 = .ok (.iconst 0, 1) := by decide +kernel
theorem dX6_writeOrder_6 : decode cX6_writeOrder 6 = .ok (.istore 4, 2) := by decide +kernel
theorem dX6_writeOrder_8 : decode cX6_writeOrder 8 = .ok (.iload 4, 2) := by decide +kernel
theorem dX6_writeOrder_10 : decode cX6_writeOrder 10 = .ok (.iconst 5, 1) := by decide +kernel
theorem dX6_writeOrder_11 : decode cX6_writeOrder 11 = .ok (.if_icmp .ge 51, 3) := by decide +kernel
theorem dX6_writeOrder_14 : decode cX6_writeOrder 14 = .ok (.iconst 1, 1) := by decide +kernel
theorem dX6_writeOrder_15 : decode cX6_writeOrder 15 = .ok (.getstatic 332, 3) := by decide +kernel
theorem dX6_writeOrder_18 : decode cX6_writeOrder 18 = .ok (.iload 4, 2) := by decide +kernel
theorem dX6_writeOrder_20 : decode cX6_writeOrder 20 = .ok (.iaload, 1) := by decide +kernel
theorem dX6_writeOrder_21 : decode cX6_writeOrder 21 = .ok (.invokestatic 335, 3) := by decide +kernel
theorem dX6_writeOrder_24 : decode cX6_writeOrder 24 = .ok (.istore 5, 2) := by decide +kernel
theorem dX6_writeOrder_26 : decode cX6_writeOrder 26 = .ok (.iload_n 2, 1) := by decide +kernel
theorem dX6_writeOrder_27 : decode cX6_writeOrder 27 = .ok (.iload_n 3, 1) := by decide +kernel
theorem dX6_writeOrder_28 : decode cX6_writeOrder 28 = .ok (.iload 5, 2) := by decide +kernel
theorem dX6_writeOrder_30 : decode cX6_writeOrder 30 = .ok (.idiv, 1) := by decide +kernel
theorem dX6_writeOrder_31 : decode cX6_writeOrder 31 = .ok (.invokestatic 338, 3) := by decide +kernel
theorem dX6_writeOrder_34 : decode cX6_writeOrder 34 = .ok (.istore 6, 2) := by decide +kernel
theorem dX6_writeOrder_36 : decode cX6_writeOrder 36 = .ok (.aload_n 1, 1) := by decide +kernel
theorem dX6_writeOrder_37 : decode cX6_writeOrder 37 = .ok (.iload 4, 2) := by decide +kernel
theorem dX6_writeOrder_39 : decode cX6_writeOrder 39 = .ok (.iload 6, 2) := by decide +kernel
theorem dX6_writeOrder_41 : decode cX6_writeOrder 41 = .ok (.iastore, 1) := by decide +kernel
theorem dX6_writeOrder_42 : decode cX6_writeOrder 42 = .ok (.iload_n 2, 1) := by decide +kernel
theorem dX6_writeOrder_43 : decode cX6_writeOrder 43 = .ok (.iconst 1, 1) := by decide +kernel
theorem dX6_writeOrder_44 : decode cX6_writeOrder 44 = .ok (.iload 6, 2) := by decide +kernel
theorem dX6_writeOrder_46 : decode cX6_writeOrder 46 = .ok (.ishl, 1) := by decide +kernel
theorem dX6_writeOrder_47 : decode cX6_writeOrder 47 = .ok (.iconst (-1), 1) := by decide +kernel
theorem dX6_writeOrder_48 : decode cX6_writeOrder 48 = .ok (.ixor, 1) := by decide +kernel
theorem dX6_writeOrder_49 : decode cX6_writeOrder 49 = .ok (.iand, 1) := by decide +kernel
theorem dX6_writeOrder_50 : decode cX6_writeOrder 50 = .ok (.istore_n 2, 1) := by decide +kernel
theorem dX6_writeOrder_51 : decode cX6_writeOrder 51 = .ok (.iload_n 3, 1) := by decide +kernel
theorem dX6_writeOrder_52 : decode cX6_writeOrder 52 = .ok (.iload 5, 2) := by decide +kernel
theorem dX6_writeOrder_54 : decode cX6_writeOrder 54 = .ok (.irem, 1) := by decide +kernel
theorem dX6_writeOrder_55 : decode cX6_writeOrder 55 = .ok (.istore_n 3, 1) := by decide +kernel
theorem dX6_writeOrder_56 : decode cX6_writeOrder 56 = .ok (.iinc 4 1, 3) := by decide +kernel
theorem dX6_writeOrder_59 : decode cX6_writeOrder 59 = .ok (.goto (-51), 3) := by decide +kernel
theorem dX6_writeOrder_62 : decode cX6_writeOrder 62 = .ok (.return_, 1) := by decide +kernel
theorem dX6_nthInk_0 : decode cX6_nthInk 0 = .ok (.iconst 0, 1) := by decide +kernel
theorem dX6_nthInk_1 : decode cX6_nthInk 1 = .ok (.istore_n 2, 1) := by decide +kernel
theorem dX6_nthInk_2 : decode cX6_nthInk 2 = .ok (.iconst 0, 1) := by decide +kernel
theorem dX6_nthInk_3 : decode cX6_nthInk 3 = .ok (.istore_n 3, 1) := by decide +kernel
theorem dX6_nthInk_4 : decode cX6_nthInk 4 = .ok (.iload_n 3, 1) := by decide +kernel
theorem dX6_nthInk_5 : decode cX6_nthInk 5 = .ok (.iconst 5, 1) := by decide +kernel
theorem dX6_nthInk_6 : decode cX6_nthInk 6 = .ok (.if_icmp .ge 27, 3) := by decide +kernel
theorem dX6_nthInk_9 : decode cX6_nthInk 9 = .ok (.iload_n 0, 1) := by decide +kernel
theorem dX6_nthInk_10 : decode cX6_nthInk 10 = .ok (.iload_n 3, 1) := by decide +kernel
theorem dX6_nthInk_11 : decode cX6_nthInk 11 = .ok (.invokestatic 301, 3) := by decide +kernel
theorem dX6_nthInk_14 : decode cX6_nthInk 14 = .ok (.ifCond .eq 13, 3) := by decide +kernel
theorem dX6_nthInk_17 : decode cX6_nthInk 17 = .ok (.iload_n 2, 1) := by decide +kernel
theorem dX6_nthInk_18 : decode cX6_nthInk 18 = .ok (.iload_n 1, 1) := by decide +kernel
theorem dX6_nthInk_19 : decode cX6_nthInk 19 = .ok (.if_icmp .ne 5, 3) := by decide +kernel
theorem dX6_nthInk_22 : decode cX6_nthInk 22 = .ok (.iload_n 3, 1) := by decide +kernel
theorem dX6_nthInk_23 : decode cX6_nthInk 23 = .ok (.ireturn, 1) := by decide +kernel
theorem dX6_nthInk_24 : decode cX6_nthInk 24 = .ok (.iinc 2 1, 3) := by decide +kernel
theorem dX6_nthInk_27 : decode cX6_nthInk 27 = .ok (.iinc 3 1, 3) := by decide +kernel
theorem dX6_nthInk_30 : decode cX6_nthInk 30 = .ok (.goto (-26), 3) := by decide +kernel
theorem dX6_nthInk_33 : decode cX6_nthInk 33 = .ok (.iconst 0, 1) := by decide +kernel
theorem dX6_nthInk_34 : decode cX6_nthInk 34 = .ok (.ireturn, 1) := by decide +kernel
theorem dX6_orderByDark_0 : decode cX6_orderByDark 0 = .ok (.iconst 0, 1) := by decide +kernel
theorem dX6_orderByDark_1 : decode cX6_orderByDark 1 = .ok (.istore_n 1, 1) := by decide +kernel
theorem dX6_orderByDark_2 : decode cX6_orderByDark 2 = .ok (.iconst 0, 1) := by decide +kernel
theorem dX6_orderByDark_3 : decode cX6_orderByDark 3 = .ok (.istore_n 2, 1) := by decide +kernel
theorem dX6_orderByDark_4 : decode cX6_orderByDark 4 = .ok (.iload_n 2, 1) := by decide +kernel
theorem dX6_orderByDark_5 : decode cX6_orderByDark 5 = .ok (.iconst 5, 1) := by decide +kernel
theorem dX6_orderByDark_6 : decode cX6_orderByDark 6 = .ok (.if_icmp .ge 38, 3) := by decide +kernel
theorem dX6_orderByDark_9 : decode cX6_orderByDark 9 = .ok (.iconst 0, 1) := by decide +kernel
theorem dX6_orderByDark_10 : decode cX6_orderByDark 10 = .ok (.istore_n 3, 1) := by decide +kernel
theorem dX6_orderByDark_11 : decode cX6_orderByDark 11 = .ok (.iload_n 3, 1) := by decide +kernel
theorem dX6_orderByDark_12 : decode cX6_orderByDark 12 = .ok (.iconst 5, 1) := by decide +kernel
theorem dX6_orderByDark_13 : decode cX6_orderByDark 13 = .ok (.if_icmp .ge 25, 3) := by decide +kernel
theorem dX6_orderByDark_16 : decode cX6_orderByDark 16 = .ok (.aload_n 0, 1) := by decide +kernel
theorem dX6_orderByDark_17 : decode cX6_orderByDark 17 = .ok (.iload_n 3, 1) := by decide +kernel
theorem dX6_orderByDark_18 : decode cX6_orderByDark 18 = .ok (.invokevirtual 341, 3) := by decide +kernel
theorem dX6_orderByDark_21 : decode cX6_orderByDark 21 = .ok (.iload_n 2, 1) := by decide +kernel
theorem dX6_orderByDark_22 : decode cX6_orderByDark 22 = .ok (.if_icmp .ne 10, 3) := by decide +kernel
theorem dX6_orderByDark_25 : decode cX6_orderByDark 25 = .ok (.iload_n 1, 1) := by decide +kernel
theorem dX6_orderByDark_26 : decode cX6_orderByDark 26 = .ok (.bipush 10, 2) := by decide +kernel
theorem dX6_orderByDark_28 : decode cX6_orderByDark 28 = .ok (.imul, 1) := by decide +kernel
theorem dX6_orderByDark_29 : decode cX6_orderByDark 29 = .ok (.iload_n 3, 1) := by decide +kernel
theorem dX6_orderByDark_30 : decode cX6_orderByDark 30 = .ok (.iadd, 1) := by decide +kernel
theorem dX6_orderByDark_31 : decode cX6_orderByDark 31 = .ok (.istore_n 1, 1) := by decide +kernel
theorem dX6_orderByDark_32 : decode cX6_orderByDark 32 = .ok (.iinc 3 1, 3) := by decide +kernel
theorem dX6_orderByDark_35 : decode cX6_orderByDark 35 = .ok (.goto (-24), 3) := by decide +kernel
theorem dX6_orderByDark_38 : decode cX6_orderByDark 38 = .ok (.iinc 2 1, 3) := by decide +kernel
theorem dX6_orderByDark_41 : decode cX6_orderByDark 41 = .ok (.goto (-37), 3) := by decide +kernel
theorem dX6_orderByDark_44 : decode cX6_orderByDark 44 = .ok (.iload_n 1, 1) := by decide +kernel
theorem dX6_orderByDark_45 : decode cX6_orderByDark 45 = .ok (.ireturn, 1) := by decide +kernel
theorem dX6_lighterInks_0 : decode cX6_lighterInks 0 = .ok (.aload_n 0, 1) := by decide +kernel
theorem dX6_lighterInks_1 : decode cX6_lighterInks 1 = .ok (.iconst 1, 1) := by decide +kernel
theorem dX6_lighterInks_2 : decode cX6_lighterInks 2 = .ok (.iload_n 1, 1) := by decide +kernel
theorem dX6_lighterInks_3 : decode cX6_lighterInks 3 = .ok (.ishl, 1) := by decide +kernel
theorem dX6_lighterInks_4 : decode cX6_lighterInks 4 = .ok (.invokevirtual 85, 3) := by decide +kernel
theorem dX6_lighterInks_7 : decode cX6_lighterInks 7 = .ok (.invokestatic 88, 3) := by decide +kernel
theorem dX6_lighterInks_10 : decode cX6_lighterInks 10 = .ok (.istore_n 2, 1) := by decide +kernel
theorem dX6_lighterInks_11 : decode cX6_lighterInks 11 = .ok (.iconst 0, 1) := by decide +kernel
theorem dX6_lighterInks_12 : decode cX6_lighterInks 12 = .ok (.istore_n 3, 1) := by decide +kernel
theorem dX6_lighterInks_13 : decode cX6_lighterInks 13 = .ok (.iconst 0, 1) := by decide +kernel
theorem dX6_lighterInks_14 : decode cX6_lighterInks 14 = .ok (.istore 4, 2) := by decide +kernel
theorem dX6_lighterInks_16 : decode cX6_lighterInks 16 = .ok (.iload 4, 2) := by decide +kernel
theorem dX6_lighterInks_18 : decode cX6_lighterInks 18 = .ok (.iconst 5, 1) := by decide +kernel
theorem dX6_lighterInks_19 : decode cX6_lighterInks 19 = .ok (.if_icmp .ge 43, 3) := by decide +kernel
theorem dX6_lighterInks_22 : decode cX6_lighterInks 22 = .ok (.aload_n 0, 1) := by decide +kernel
theorem dX6_lighterInks_23 : decode cX6_lighterInks 23 = .ok (.iconst 1, 1) := by decide +kernel
theorem dX6_lighterInks_24 : decode cX6_lighterInks 24 = .ok (.iload 4, 2) := by decide +kernel
theorem dX6_lighterInks_26 : decode cX6_lighterInks 26 = .ok (.ishl, 1) := by decide +kernel
theorem dX6_lighterInks_27 : decode cX6_lighterInks 27 = .ok (.invokevirtual 85, 3) := by decide +kernel
theorem dX6_lighterInks_30 : decode cX6_lighterInks 30 = .ok (.invokestatic 88, 3) := by decide +kernel
theorem dX6_lighterInks_33 : decode cX6_lighterInks 33 = .ok (.istore 5, 2) := by decide +kernel
theorem dX6_lighterInks_35 : decode cX6_lighterInks 35 = .ok (.iload 5, 2) := by decide +kernel
theorem dX6_lighterInks_37 : decode cX6_lighterInks 37 = .ok (.iload_n 2, 1) := by decide +kernel
theorem dX6_lighterInks_38 : decode cX6_lighterInks 38 = .ok (.if_icmp .lt 15, 3) := by decide +kernel
theorem dX6_lighterInks_41 : decode cX6_lighterInks 41 = .ok (.iload 5, 2) := by decide +kernel
theorem dX6_lighterInks_43 : decode cX6_lighterInks 43 = .ok (.iload_n 2, 1) := by decide +kernel
theorem dX6_lighterInks_44 : decode cX6_lighterInks 44 = .ok (.if_icmp .ne 12, 3) := by decide +kernel
theorem dX6_lighterInks_47 : decode cX6_lighterInks 47 = .ok (.iload 4, 2) := by decide +kernel
theorem dX6_lighterInks_49 : decode cX6_lighterInks 49 = .ok (.iload_n 1, 1) := by decide +kernel
theorem dX6_lighterInks_50 : decode cX6_lighterInks 50 = .ok (.if_icmp .ge 6, 3) := by decide +kernel
theorem dX6_lighterInks_53 : decode cX6_lighterInks 53 = .ok (.iinc 3 1, 3) := by decide +kernel
theorem dX6_lighterInks_56 : decode cX6_lighterInks 56 = .ok (.iinc 4 1, 3) := by decide +kernel
theorem dX6_lighterInks_59 : decode cX6_lighterInks 59 = .ok (.goto (-43), 3) := by decide +kernel
theorem dX6_lighterInks_62 : decode cX6_lighterInks 62 = .ok (.iload_n 3, 1) := by decide +kernel
theorem dX6_lighterInks_63 : decode cX6_lighterInks 63 = .ok (.ireturn, 1) := by decide +kernel
theorem dX6_growAside_0 : decode cX6_growAside 0 = .ok (.aload_n 0, 1) := by decide +kernel
theorem dX6_growAside_1 : decode cX6_growAside 1 = .ok (.getfield 10, 3) := by decide +kernel
theorem dX6_growAside_4 : decode cX6_growAside 4 = .ok (.getfield 209, 3) := by decide +kernel
theorem dX6_growAside_7 : decode cX6_growAside 7 = .ok (.iconst 0, 1) := by decide +kernel
theorem dX6_growAside_8 : decode cX6_growAside 8 = .ok (.aload_n 0, 1) := by decide +kernel
theorem dX6_growAside_9 : decode cX6_growAside 9 = .ok (.getfield 60, 3) := by decide +kernel
theorem dX6_growAside_12 : decode cX6_growAside 12 = .ok (.iconst 0, 1) := by decide +kernel
theorem dX6_growAside_13 : decode cX6_growAside 13 = .ok (.bipush 48, 2) := by decide +kernel
theorem dX6_growAside_15 : decode cX6_growAside 15 = .ok (.invokestatic 210, 3) := by decide +kernel
theorem dX6_growAside_18 : decode cX6_growAside 18 = .ok (.aload_n 0, 1) := by decide +kernel
theorem dX6_growAside_19 : decode cX6_growAside 19 = .ok (.getfield 36, 3) := by decide +kernel
theorem dX6_growAside_22 : decode cX6_growAside 22 = .ok (.aload_n 0, 1) := by decide +kernel
theorem dX6_growAside_23 : decode cX6_growAside 23 = .ok (.getfield 10, 3) := by decide +kernel
theorem dX6_growAside_26 : decode cX6_growAside 26 = .ok (.invokevirtual 311, 3) := by decide +kernel
theorem dX6_growAside_29 : decode cX6_growAside 29 = .ok (.iconst 0, 1) := by decide +kernel
theorem dX6_growAside_30 : decode cX6_growAside 30 = .ok (.istore_n 1, 1) := by decide +kernel
theorem dX6_growAside_31 : decode cX6_growAside 31 = .ok (.iload_n 1, 1) := by decide +kernel
theorem dX6_growAside_32 : decode cX6_growAside 32 = .ok (.aload_n 0, 1) := by decide +kernel
theorem dX6_growAside_33 : decode cX6_growAside 33 = .ok (.getfield 10, 3) := by decide +kernel
theorem dX6_growAside_36 : decode cX6_growAside 36 = .ok (.getfield 161, 3) := by decide +kernel
theorem dX6_growAside_39 : decode cX6_growAside 39 = .ok (.if_icmp .ge 86, 3) := by decide +kernel
theorem dX6_growAside_42 : decode cX6_growAside 42 = .ok (.iconst 0, 1) := by decide +kernel
theorem dX6_growAside_43 : decode cX6_growAside 43 = .ok (.istore_n 2, 1) := by decide +kernel
theorem dX6_growAside_44 : decode cX6_growAside 44 = .ok (.iload_n 2, 1) := by decide +kernel
theorem dX6_growAside_45 : decode cX6_growAside 45 = .ok (.aload_n 0, 1) := by decide +kernel
theorem dX6_growAside_46 : decode cX6_growAside 46 = .ok (.getfield 10, 3) := by decide +kernel
theorem dX6_growAside_49 : decode cX6_growAside 49 = .ok (.getfield 160, 3) := by decide +kernel
theorem dX6_growAside_52 : decode cX6_growAside 52 = .ok (.if_icmp .ge 67, 3) := by decide +kernel
theorem dX6_growAside_55 : decode cX6_growAside 55 = .ok (.iload_n 2, 1) := by decide +kernel
theorem dX6_growAside_56 : decode cX6_growAside 56 = .ok (.iconst 1, 1) := by decide +kernel
theorem dX6_growAside_57 : decode cX6_growAside 57 = .ok (.iadd, 1) := by decide +kernel
theorem dX6_growAside_58 : decode cX6_growAside 58 = .ok (.aload_n 0, 1) := by decide +kernel
theorem dX6_growAside_59 : decode cX6_growAside 59 = .ok (.getfield 10, 3) := by decide +kernel
theorem dX6_growAside_62 : decode cX6_growAside 62 = .ok (.getfield 160, 3) := by decide +kernel
theorem dX6_growAside_65 : decode cX6_growAside 65 = .ok (.if_icmp .ge 19, 3) := by decide +kernel
theorem dX6_growAside_68 : decode cX6_growAside 68 = .ok (.aload_n 0, 1) := by decide +kernel
theorem dX6_growAside_69 : decode cX6_growAside 69 = .ok (.iload_n 2, 1) := by decide +kernel
theorem dX6_growAside_70 : decode cX6_growAside 70 = .ok (.iload_n 1, 1) := by decide +kernel
theorem dX6_growAside_71 : decode cX6_growAside 71 = .ok (.invokestatic 344, 3) := by decide +kernel
theorem dX6_growAside_74 : decode cX6_growAside 74 = .ok (.iload_n 2, 1) := by decide +kernel
theorem dX6_growAside_75 : decode cX6_growAside 75 = .ok (.iconst 1, 1) := by decide +kernel
theorem dX6_growAside_76 : decode cX6_growAside 76 = .ok (.iadd, 1) := by decide +kernel
theorem dX6_growAside_77 : decode cX6_growAside 77 = .ok (.iload_n 1, 1) := by decide +kernel
theorem dX6_growAside_78 : decode cX6_growAside 78 = .ok (.invokestatic 344, 3) := by decide +kernel
theorem dX6_growAside_81 : decode cX6_growAside 81 = .ok (.invokevirtual 347, 3) := by decide +kernel
theorem dX6_growAside_84 : decode cX6_growAside 84 = .ok (.iload_n 1, 1) := by decide +kernel
theorem dX6_growAside_85 : decode cX6_growAside 85 = .ok (.iconst 1, 1) := by decide +kernel
theorem dX6_growAside_86 : decode cX6_growAside 86 = .ok (.iadd, 1) := by decide +kernel
theorem dX6_growAside_87 : decode cX6_growAside 87 = .ok (.aload_n 0, 1) := by decide +kernel
theorem dX6_growAside_88 : decode cX6_growAside 88 = .ok (.getfield 10, 3) := by decide +kernel
theorem dX6_growAside_91 : decode cX6_growAside 91 = .ok (.getfield 161, 3) := by decide +kernel
theorem dX6_growAside_94 : decode cX6_growAside 94 = .ok (.if_icmp .ge 19, 3) := by decide +kernel
theorem dX6_growAside_97 : decode cX6_growAside 97 = .ok (.aload_n 0, 1) := by decide +kernel
theorem dX6_growAside_98 : decode cX6_growAside 98 = .ok (.iload_n 2, 1) := by decide +kernel
theorem dX6_growAside_99 : decode cX6_growAside 99 = .ok (.iload_n 1, 1) := by decide +kernel
theorem dX6_growAside_100 : decode cX6_growAside 100 = .ok (.invokestatic 344, 3) := by decide +kernel
theorem dX6_growAside_103 : decode cX6_growAside 103 = .ok (.iload_n 2, 1) := by decide +kernel
theorem dX6_growAside_104 : decode cX6_growAside 104 = .ok (.iload_n 1, 1) := by decide +kernel
theorem dX6_growAside_105 : decode cX6_growAside 105 = .ok (.iconst 1, 1) := by decide +kernel
theorem dX6_growAside_106 : decode cX6_growAside 106 = .ok (.iadd, 1) := by decide +kernel
theorem dX6_growAside_107 : decode cX6_growAside 107 = .ok (.invokestatic 344, 3) := by decide +kernel
theorem dX6_growAside_110 : decode cX6_growAside 110 = .ok (.invokevirtual 347, 3) := by decide +kernel
theorem dX6_growAside_113 : decode cX6_growAside 113 = .ok (.iinc 2 1, 3) := by decide +kernel
theorem dX6_growAside_116 : decode cX6_growAside 116 = .ok (.goto (-72), 3) := by decide +kernel
theorem dX6_growAside_119 : decode cX6_growAside 119 = .ok (.iinc 1 1, 3) := by decide +kernel
theorem dX6_growAside_122 : decode cX6_growAside 122 = .ok (.goto (-91), 3) := by decide +kernel
theorem dX6_growAside_125 : decode cX6_growAside 125 = .ok (.return_, 1) := by decide +kernel
theorem dX6_growBetween_0 : decode cX6_growBetween 0 = .ok (.iload_n 1, 1) := by decide +kernel
theorem dX6_growBetween_1 : decode cX6_growBetween 1 = .ok (.bipush 48, 2) := by decide +kernel
theorem dX6_growBetween_3 : decode cX6_growBetween 3 = .ok (.invokestatic 71, 3) := by decide +kernel
theorem dX6_growBetween_6 : decode cX6_growBetween 6 = .ok (.ifCond .eq 12, 3) := by decide +kernel
theorem dX6_growBetween_9 : decode cX6_growBetween 9 = .ok (.iload_n 2, 1) := by decide +kernel
theorem dX6_growBetween_10 : decode cX6_growBetween 10 = .ok (.bipush 48, 2) := by decide +kernel
theorem dX6_growBetween_12 : decode cX6_growBetween 12 = .ok (.invokestatic 71, 3) := by decide +kernel
theorem dX6_growBetween_15 : decode cX6_growBetween 15 = .ok (.ifCond .ne 4, 3) := by decide +kernel
theorem dX6_growBetween_18 : decode cX6_growBetween 18 = .ok (.return_, 1) := by decide +kernel
theorem dX6_growBetween_19 : decode cX6_growBetween 19 = .ok (.aload_n 0, 1) := by decide +kernel
theorem dX6_growBetween_20 : decode cX6_growBetween 20 = .ok (.getfield 10, 3) := by decide +kernel
theorem dX6_growBetween_23 : decode cX6_growBetween 23 = .ok (.getfield 209, 3) := by decide +kernel
theorem dX6_growBetween_26 : decode cX6_growBetween 26 = .ok (.iload_n 1, 1) := by decide +kernel
theorem dX6_growBetween_27 : decode cX6_growBetween 27 = .ok (.iaload, 1) := by decide +kernel
theorem dX6_growBetween_28 : decode cX6_growBetween 28 = .ok (.istore_n 3, 1) := by decide +kernel
theorem dX6_growBetween_29 : decode cX6_growBetween 29 = .ok (.aload_n 0, 1) := by decide +kernel
theorem dX6_growBetween_30 : decode cX6_growBetween 30 = .ok (.getfield 10, 3) := by decide +kernel
theorem dX6_growBetween_33 : decode cX6_growBetween 33 = .ok (.getfield 209, 3) := by decide +kernel
theorem dX6_growBetween_36 : decode cX6_growBetween 36 = .ok (.iload_n 2, 1) := by decide +kernel
theorem dX6_growBetween_37 : decode cX6_growBetween 37 = .ok (.iaload, 1) := by decide +kernel
theorem dX6_growBetween_38 : decode cX6_growBetween 38 = .ok (.istore 4, 2) := by decide +kernel
theorem dX6_growBetween_40 : decode cX6_growBetween 40 = .ok (.iload_n 3, 1) := by decide +kernel
theorem dX6_growBetween_41 : decode cX6_growBetween 41 = .ok (.ifCond .eq 15, 3) := by decide +kernel
theorem dX6_growBetween_44 : decode cX6_growBetween 44 = .ok (.iload 4, 2) := by decide +kernel
theorem dX6_growBetween_46 : decode cX6_growBetween 46 = .ok (.ifCond .eq 10, 3) := by decide +kernel
theorem dX6_growBetween_49 : decode cX6_growBetween 49 = .ok (.iload_n 3, 1) := by decide +kernel
theorem dX6_growBetween_50 : decode cX6_growBetween 50 = .ok (.iload 4, 2) := by decide +kernel
theorem dX6_growBetween_52 : decode cX6_growBetween 52 = .ok (.iand, 1) := by decide +kernel
theorem dX6_growBetween_53 : decode cX6_growBetween 53 = .ok (.ifCond .eq 4, 3) := by decide +kernel
theorem dX6_growBetween_56 : decode cX6_growBetween 56 = .ok (.return_, 1) := by decide +kernel
theorem dX6_growBetween_57 : decode cX6_growBetween 57 = .ok (.aload_n 0, 1) := by decide +kernel
theorem dX6_growBetween_58 : decode cX6_growBetween 58 = .ok (.getfield 36, 3) := by decide +kernel
theorem dX6_growBetween_61 : decode cX6_growBetween 61 = .ok (.iload_n 3, 1) := by decide +kernel
theorem dX6_growBetween_62 : decode cX6_growBetween 62 = .ok (.invokevirtual 350, 3) := by decide +kernel
theorem dX6_growBetween_65 : decode cX6_growBetween 65 = .ok (.aload_n 0, 1) := by decide +kernel
theorem dX6_growBetween_66 : decode cX6_growBetween 66 = .ok (.getfield 36, 3) := by decide +kernel
theorem dX6_growBetween_69 : decode cX6_growBetween 69 = .ok (.iload 4, 2) := by decide +kernel
theorem dX6_growBetween_71 : decode cX6_growBetween 71 = .ok (.invokevirtual 350, 3) := by decide +kernel
theorem dX6_growBetween_74 : decode cX6_growBetween 74 = .ok (.if_icmp .gt 20, 3) := by decide +kernel
theorem dX6_growBetween_77 : decode cX6_growBetween 77 = .ok (.aload_n 0, 1) := by decide +kernel
theorem dX6_growBetween_78 : decode cX6_growBetween 78 = .ok (.getfield 60, 3) := by decide +kernel
theorem dX6_growBetween_81 : decode cX6_growBetween 81 = .ok (.iload_n 2, 1) := by decide +kernel
theorem dX6_growBetween_82 : decode cX6_growBetween 82 = .ok (.aload_n 0, 1) := by decide +kernel
theorem dX6_growBetween_83 : decode cX6_growBetween 83 = .ok (.getfield 60, 3) := by decide +kernel
theorem dX6_growBetween_86 : decode cX6_growBetween 86 = .ok (.iload_n 2, 1) := by decide +kernel
theorem dX6_growBetween_87 : decode cX6_growBetween 87 = .ok (.iaload, 1) := by decide +kernel
theorem dX6_growBetween_88 : decode cX6_growBetween 88 = .ok (.iload_n 3, 1) := by decide +kernel
theorem dX6_growBetween_89 : decode cX6_growBetween 89 = .ok (.ior, 1) := by decide +kernel
theorem dX6_growBetween_90 : decode cX6_growBetween 90 = .ok (.iastore, 1) := by decide +kernel
theorem dX6_growBetween_91 : decode cX6_growBetween 91 = .ok (.goto 18, 3) := by decide +kernel
theorem dX6_growBetween_94 : decode cX6_growBetween 94 = .ok (.aload_n 0, 1) := by decide +kernel
theorem dX6_growBetween_95 : decode cX6_growBetween 95 = .ok (.getfield 60, 3) := by decide +kernel
theorem dX6_growBetween_98 : decode cX6_growBetween 98 = .ok (.iload_n 1, 1) := by decide +kernel
theorem dX6_growBetween_99 : decode cX6_growBetween 99 = .ok (.aload_n 0, 1) := by decide +kernel
theorem dX6_growBetween_100 : decode cX6_growBetween 100 = .ok (.getfield 60, 3) := by decide +kernel
theorem dX6_growBetween_103 : decode cX6_growBetween 103 = .ok (.iload_n 1, 1) := by decide +kernel
theorem dX6_growBetween_104 : decode cX6_growBetween 104 = .ok (.iaload, 1) := by decide +kernel
theorem dX6_growBetween_105 : decode cX6_growBetween 105 = .ok (.iload 4, 2) := by decide +kernel
theorem dX6_growBetween_107 : decode cX6_growBetween 107 = .ok (.ior, 1) := by decide +kernel
theorem dX6_growBetween_108 : decode cX6_growBetween 108 = .ok (.iastore, 1) := by decide +kernel
theorem dX6_growBetween_109 : decode cX6_growBetween 109 = .ok (.return_, 1) := by decide +kernel
theorem dX6_driftOnce_0 : decode cX6_driftOnce 0 = .ok (.aload_n 0, 1) := by decide +kernel
theorem dX6_driftOnce_1 : decode cX6_driftOnce 1 = .ok (.getfield 10, 3) := by decide +kernel
theorem dX6_driftOnce_4 : decode cX6_driftOnce 4 = .ok (.aload_n 0, 1) := by decide +kernel
theorem dX6_driftOnce_5 : decode cX6_driftOnce 5 = .ok (.getfield 10, 3) := by decide +kernel
theorem dX6_driftOnce_8 : decode cX6_driftOnce 8 = .ok (.getfield 226, 3) := by decide +kernel
theorem dX6_driftOnce_11 : decode cX6_driftOnce 11 = .ok (.i2l, 1) := by decide +kernel
theorem dX6_driftOnce_12 : decode cX6_driftOnce 12 = .ok (.ldc2_w 353, 3) := by decide +kernel
theorem dX6_driftOnce_15 : decode cX6_driftOnce 15 = .ok (.lmul, 1) := by decide +kernel
theorem dX6_driftOnce_16 : decode cX6_driftOnce 16 = .ok (.ldc2_w 355, 3) := by decide +kernel
theorem dX6_driftOnce_19 : decode cX6_driftOnce 19 = .ok (.ladd, 1) := by decide +kernel
theorem dX6_driftOnce_20 : decode cX6_driftOnce 20 = .ok (.ldc2_w 357, 3) := by decide +kernel
theorem dX6_driftOnce_23 : decode cX6_driftOnce 23 = .ok (.land, 1) := by decide +kernel
theorem dX6_driftOnce_24 : decode cX6_driftOnce 24 = .ok (.l2i, 1) := by decide +kernel
theorem dX6_driftOnce_25 : decode cX6_driftOnce 25 = .ok (.putfield 226, 3) := by decide +kernel
theorem dX6_driftOnce_28 : decode cX6_driftOnce 28 = .ok (.aload_n 0, 1) := by decide +kernel
theorem dX6_driftOnce_29 : decode cX6_driftOnce 29 = .ok (.getfield 10, 3) := by decide +kernel
theorem dX6_driftOnce_32 : decode cX6_driftOnce 32 = .ok (.getfield 226, 3) := by decide +kernel
theorem dX6_driftOnce_35 : decode cX6_driftOnce 35 = .ok (.ldc_w 359, 3) := by decide +kernel
theorem dX6_driftOnce_38 : decode cX6_driftOnce 38 = .ok (.idiv, 1) := by decide +kernel
theorem dX6_driftOnce_39 : decode cX6_driftOnce 39 = .ok (.istore_n 1, 1) := by decide +kernel
theorem dX6_driftOnce_40 : decode cX6_driftOnce 40 = .ok (.aload_n 0, 1) := by decide +kernel
theorem dX6_driftOnce_41 : decode cX6_driftOnce 41 = .ok (.getfield 10, 3) := by decide +kernel
theorem dX6_driftOnce_44 : decode cX6_driftOnce 44 = .ok (.getfield 160, 3) := by decide +kernel
theorem dX6_driftOnce_47 : decode cX6_driftOnce 47 = .ok (.ifCond .le 48, 3) := by decide +kernel
theorem dX6_driftOnce_50 : decode cX6_driftOnce 50 = .ok (.aload_n 0, 1) := by decide +kernel
theorem dX6_driftOnce_51 : decode cX6_driftOnce 51 = .ok (.getfield 10, 3) := by decide +kernel
theorem dX6_driftOnce_54 : decode cX6_driftOnce 54 = .ok (.getfield 161, 3) := by decide +kernel
theorem dX6_driftOnce_57 : decode cX6_driftOnce 57 = .ok (.ifCond .le 38, 3) := by decide +kernel
theorem dX6_driftOnce_60 : decode cX6_driftOnce 60 = .ok (.aload_n 0, 1) := by decide +kernel
theorem dX6_driftOnce_61 : decode cX6_driftOnce 61 = .ok (.getfield 10, 3) := by decide +kernel
theorem dX6_driftOnce_64 : decode cX6_driftOnce 64 = .ok (.iload_n 1, 1) := by decide +kernel
theorem dX6_driftOnce_65 : decode cX6_driftOnce 65 = .ok (.aload_n 0, 1) := by decide +kernel
theorem dX6_driftOnce_66 : decode cX6_driftOnce 66 = .ok (.getfield 10, 3) := by decide +kernel
theorem dX6_driftOnce_69 : decode cX6_driftOnce 69 = .ok (.getfield 160, 3) := by decide +kernel
theorem dX6_driftOnce_72 : decode cX6_driftOnce 72 = .ok (.irem, 1) := by decide +kernel
theorem dX6_driftOnce_73 : decode cX6_driftOnce 73 = .ok (.iload_n 1, 1) := by decide +kernel
theorem dX6_driftOnce_74 : decode cX6_driftOnce 74 = .ok (.bipush 8, 2) := by decide +kernel
theorem dX6_driftOnce_76 : decode cX6_driftOnce 76 = .ok (.idiv, 1) := by decide +kernel
theorem dX6_driftOnce_77 : decode cX6_driftOnce 77 = .ok (.aload_n 0, 1) := by decide +kernel
theorem dX6_driftOnce_78 : decode cX6_driftOnce 78 = .ok (.getfield 10, 3) := by decide +kernel
theorem dX6_driftOnce_81 : decode cX6_driftOnce 81 = .ok (.getfield 161, 3) := by decide +kernel
theorem dX6_driftOnce_84 : decode cX6_driftOnce 84 = .ok (.irem, 1) := by decide +kernel
theorem dX6_driftOnce_85 : decode cX6_driftOnce 85 = .ok (.iload_n 1, 1) := by decide +kernel
theorem dX6_driftOnce_86 : decode cX6_driftOnce 86 = .ok (.bipush 64, 2) := by decide +kernel
theorem dX6_driftOnce_88 : decode cX6_driftOnce 88 = .ok (.idiv, 1) := by decide +kernel
theorem dX6_driftOnce_89 : decode cX6_driftOnce 89 = .ok (.bipush 32, 2) := by decide +kernel
theorem dX6_driftOnce_91 : decode cX6_driftOnce 91 = .ok (.irem, 1) := by decide +kernel
theorem dX6_driftOnce_92 : decode cX6_driftOnce 92 = .ok (.invokevirtual 202, 3) := by decide +kernel
theorem dX6_driftOnce_95 : decode cX6_driftOnce 95 = .ok (.return_, 1) := by decide +kernel
theorem dX6_gaplessOdds_0 : decode cX6_gaplessOdds 0 = .ok (.aload_n 0, 1) := by decide +kernel
theorem dX6_gaplessOdds_1 : decode cX6_gaplessOdds 1 = .ok (.getfield 10, 3) := by decide +kernel
theorem dX6_gaplessOdds_4 : decode cX6_gaplessOdds 4 = .ok (.invokevirtual 193, 3) := by decide +kernel
theorem dX6_gaplessOdds_7 : decode cX6_gaplessOdds 7 = .ok (.istore_n 2, 1) := by decide +kernel
theorem dX6_gaplessOdds_8 : decode cX6_gaplessOdds 8 = .ok (.aload_n 0, 1) := by decide +kernel
theorem dX6_gaplessOdds_9 : decode cX6_gaplessOdds 9 = .ok (.getfield 10, 3) := by decide +kernel
theorem dX6_gaplessOdds_12 : decode cX6_gaplessOdds 12 = .ok (.invokevirtual 313, 3) := by decide +kernel
theorem dX6_gaplessOdds_15 : decode cX6_gaplessOdds 15 = .ok (.istore_n 3, 1) := by decide +kernel
theorem dX6_gaplessOdds_16 : decode cX6_gaplessOdds 16 = .ok (.iconst 0, 1) := by decide +kernel
theorem dX6_gaplessOdds_17 : decode cX6_gaplessOdds 17 = .ok (.istore 4, 2) := by decide +kernel
theorem dX6_gaplessOdds_19 : decode cX6_gaplessOdds 19 = .ok (.iconst 0, 1) := by decide +kernel
theorem dX6_gaplessOdds_20 : decode cX6_gaplessOdds 20 = .ok (.istore 5, 2) := by decide +kernel
theorem dX6_gaplessOdds_22 : decode cX6_gaplessOdds 22 = .ok (.iload 5, 2) := by decide +kernel
theorem dX6_gaplessOdds_24 : decode cX6_gaplessOdds 24 = .ok (.bipush 32, 2) := by decide +kernel
theorem dX6_gaplessOdds_26 : decode cX6_gaplessOdds 26 = .ok (.if_icmp .ge 60, 3) := by decide +kernel
theorem dX6_gaplessOdds_29 : decode cX6_gaplessOdds 29 = .ok (.iload 5, 2) := by decide +kernel
theorem dX6_gaplessOdds_31 : decode cX6_gaplessOdds 31 = .ok (.iload_n 2, 1) := by decide +kernel
theorem dX6_gaplessOdds_32 : decode cX6_gaplessOdds 32 = .ok (.iconst (-1), 1) := by decide +kernel
theorem dX6_gaplessOdds_33 : decode cX6_gaplessOdds 33 = .ok (.ixor, 1) := by decide +kernel
theorem dX6_gaplessOdds_34 : decode cX6_gaplessOdds 34 = .ok (.iand, 1) := by decide +kernel
theorem dX6_gaplessOdds_35 : decode cX6_gaplessOdds 35 = .ok (.ifCond .ne 45, 3) := by decide +kernel
theorem dX6_gaplessOdds_38 : decode cX6_gaplessOdds 38 = .ok (.iload 5, 2) := by decide +kernel
theorem dX6_gaplessOdds_40 : decode cX6_gaplessOdds 40 = .ok (.iload_n 3, 1) := by decide +kernel
theorem dX6_gaplessOdds_41 : decode cX6_gaplessOdds 41 = .ok (.invokestatic 360, 3) := by decide +kernel
theorem dX6_gaplessOdds_44 : decode cX6_gaplessOdds 44 = .ok (.ifCond .ne 36, 3) := by decide +kernel
theorem dX6_gaplessOdds_47 : decode cX6_gaplessOdds 47 = .ok (.iload 5, 2) := by decide +kernel
theorem dX6_gaplessOdds_49 : decode cX6_gaplessOdds 49 = .ok (.invokestatic 244, 3) := by decide +kernel
theorem dX6_gaplessOdds_52 : decode cX6_gaplessOdds 52 = .ok (.istore 6, 2) := by decide +kernel
theorem dX6_gaplessOdds_54 : decode cX6_gaplessOdds 54 = .ok (.iload 4, 2) := by decide +kernel
theorem dX6_gaplessOdds_56 : decode cX6_gaplessOdds 56 = .ok (.iload_n 1, 1) := by decide +kernel
theorem dX6_gaplessOdds_57 : decode cX6_gaplessOdds 57 = .ok (.iload 6, 2) := by decide +kernel
theorem dX6_gaplessOdds_59 : decode cX6_gaplessOdds 59 = .ok (.invokestatic 249, 3) := by decide +kernel
theorem dX6_gaplessOdds_62 : decode cX6_gaplessOdds 62 = .ok (.bipush 10, 2) := by decide +kernel
theorem dX6_gaplessOdds_64 : decode cX6_gaplessOdds 64 = .ok (.iload_n 1, 1) := by decide +kernel
theorem dX6_gaplessOdds_65 : decode cX6_gaplessOdds 65 = .ok (.isub, 1) := by decide +kernel
theorem dX6_gaplessOdds_66 : decode cX6_gaplessOdds 66 = .ok (.iload_n 2, 1) := by decide +kernel
theorem dX6_gaplessOdds_67 : decode cX6_gaplessOdds 67 = .ok (.invokestatic 244, 3) := by decide +kernel
theorem dX6_gaplessOdds_70 : decode cX6_gaplessOdds 70 = .ok (.iload 6, 2) := by decide +kernel
theorem dX6_gaplessOdds_72 : decode cX6_gaplessOdds 72 = .ok (.isub, 1) := by decide +kernel
theorem dX6_gaplessOdds_73 : decode cX6_gaplessOdds 73 = .ok (.invokestatic 249, 3) := by decide +kernel
theorem dX6_gaplessOdds_76 : decode cX6_gaplessOdds 76 = .ok (.imul, 1) := by decide +kernel
theorem dX6_gaplessOdds_77 : decode cX6_gaplessOdds 77 = .ok (.iadd, 1) := by decide +kernel
theorem dX6_gaplessOdds_78 : decode cX6_gaplessOdds 78 = .ok (.istore 4, 2) := by decide +kernel
theorem dX6_gaplessOdds_80 : decode cX6_gaplessOdds 80 = .ok (.iinc 5 1, 3) := by decide +kernel
theorem dX6_gaplessOdds_83 : decode cX6_gaplessOdds 83 = .ok (.goto (-61), 3) := by decide +kernel
theorem dX6_gaplessOdds_86 : decode cX6_gaplessOdds 86 = .ok (.iload 4, 2) := by decide +kernel
theorem dX6_gaplessOdds_88 : decode cX6_gaplessOdds 88 = .ok (.ireturn, 1) := by decide +kernel
theorem dX6_leavesGap_0 : decode cX6_leavesGap 0 = .ok (.iconst 1, 1) := by decide +kernel
theorem dX6_leavesGap_1 : decode cX6_leavesGap 1 = .ok (.istore_n 2, 1) := by decide +kernel
theorem dX6_leavesGap_2 : decode cX6_leavesGap 2 = .ok (.iload_n 2, 1) := by decide +kernel
theorem dX6_leavesGap_3 : decode cX6_leavesGap 3 = .ok (.bipush 32, 2) := by decide +kernel
theorem dX6_leavesGap_5 : decode cX6_leavesGap 5 = .ok (.if_icmp .ge 27, 3) := by decide +kernel
theorem dX6_leavesGap_8 : decode cX6_leavesGap 8 = .ok (.iload_n 1, 1) := by decide +kernel
theorem dX6_leavesGap_9 : decode cX6_leavesGap 9 = .ok (.iload_n 2, 1) := by decide +kernel
theorem dX6_leavesGap_10 : decode cX6_leavesGap 10 = .ok (.invokestatic 301, 3) := by decide +kernel
theorem dX6_leavesGap_13 : decode cX6_leavesGap 13 = .ok (.ifCond .eq 13, 3) := by decide +kernel
theorem dX6_leavesGap_16 : decode cX6_leavesGap 16 = .ok (.iload_n 2, 1) := by decide +kernel
theorem dX6_leavesGap_17 : decode cX6_leavesGap 17 = .ok (.iload_n 0, 1) := by decide +kernel
theorem dX6_leavesGap_18 : decode cX6_leavesGap 18 = .ok (.iconst (-1), 1) := by decide +kernel
theorem dX6_leavesGap_19 : decode cX6_leavesGap 19 = .ok (.ixor, 1) := by decide +kernel
theorem dX6_leavesGap_20 : decode cX6_leavesGap 20 = .ok (.iand, 1) := by decide +kernel
theorem dX6_leavesGap_21 : decode cX6_leavesGap 21 = .ok (.ifCond .ne 5, 3) := by decide +kernel
theorem dX6_leavesGap_24 : decode cX6_leavesGap 24 = .ok (.iconst 1, 1) := by decide +kernel
theorem dX6_leavesGap_25 : decode cX6_leavesGap 25 = .ok (.ireturn, 1) := by decide +kernel
theorem dX6_leavesGap_26 : decode cX6_leavesGap 26 = .ok (.iinc 2 1, 3) := by decide +kernel
theorem dX6_leavesGap_29 : decode cX6_leavesGap 29 = .ok (.goto (-27), 3) := by decide +kernel
theorem dX6_leavesGap_32 : decode cX6_leavesGap 32 = .ok (.iconst 0, 1) := by decide +kernel
theorem dX6_leavesGap_33 : decode cX6_leavesGap 33 = .ok (.ireturn, 1) := by decide +kernel
theorem dX6_power_0 : decode cX6_power 0 = .ok (.iconst 1, 1) := by decide +kernel
theorem dX6_power_1 : decode cX6_power 1 = .ok (.istore_n 2, 1) := by decide +kernel
theorem dX6_power_2 : decode cX6_power 2 = .ok (.iconst 0, 1) := by decide +kernel
theorem dX6_power_3 : decode cX6_power 3 = .ok (.istore_n 3, 1) := by decide +kernel
theorem dX6_power_4 : decode cX6_power 4 = .ok (.iload_n 3, 1) := by decide +kernel
theorem dX6_power_5 : decode cX6_power 5 = .ok (.iload_n 1, 1) := by decide +kernel
theorem dX6_power_6 : decode cX6_power 6 = .ok (.if_icmp .ge 18, 3) := by decide +kernel
theorem dX6_power_9 : decode cX6_power 9 = .ok (.iload_n 3, 1) := by decide +kernel
theorem dX6_power_10 : decode cX6_power 10 = .ok (.iconst 5, 1) := by decide +kernel
theorem dX6_power_11 : decode cX6_power 11 = .ok (.if_icmp .ge 13, 3) := by decide +kernel
theorem dX6_power_14 : decode cX6_power 14 = .ok (.iload_n 2, 1) := by decide +kernel
theorem dX6_power_15 : decode cX6_power 15 = .ok (.iload_n 0, 1) := by decide +kernel
theorem dX6_power_16 : decode cX6_power 16 = .ok (.imul, 1) := by decide +kernel
theorem dX6_power_17 : decode cX6_power 17 = .ok (.istore_n 2, 1) := by decide +kernel
theorem dX6_power_18 : decode cX6_power 18 = .ok (.iinc 3 1, 3) := by decide +kernel
theorem dX6_power_21 : decode cX6_power 21 = .ok (.goto (-17), 3) := by decide +kernel
theorem dX6_power_24 : decode cX6_power 24 = .ok (.iload_n 2, 1) := by decide +kernel
theorem dX6_power_25 : decode cX6_power 25 = .ok (.ireturn, 1) := by decide +kernel
theorem dX6_commonDivisor_0 : decode cX6_commonDivisor 0 = .ok (.iload_n 0, 1) := by decide +kernel
theorem dX6_commonDivisor_1 : decode cX6_commonDivisor 1 = .ok (.istore_n 2, 1) := by decide +kernel
theorem dX6_commonDivisor_2 : decode cX6_commonDivisor 2 = .ok (.iload_n 1, 1) := by decide +kernel
theorem dX6_commonDivisor_3 : decode cX6_commonDivisor 3 = .ok (.istore_n 3, 1) := by decide +kernel
theorem dX6_commonDivisor_4 : decode cX6_commonDivisor 4 = .ok (.iconst 0, 1) := by decide +kernel
theorem dX6_commonDivisor_5 : decode cX6_commonDivisor 5 = .ok (.istore 4, 2) := by decide +kernel
theorem dX6_commonDivisor_7 : decode cX6_commonDivisor 7 = .ok (.iload 4, 2) := by decide +kernel
theorem dX6_commonDivisor_9 : decode cX6_commonDivisor 9 = .ok (.bipush 64, 2) := by decide +kernel
theorem dX6_commonDivisor_11 : decode cX6_commonDivisor 11 = .ok (.if_icmp .ge 23, 3) := by decide +kernel
theorem dX6_commonDivisor_14 : decode cX6_commonDivisor 14 = .ok (.iload_n 3, 1) := by decide +kernel
theorem dX6_commonDivisor_15 : decode cX6_commonDivisor 15 = .ok (.ifCond .eq 19, 3) := by decide +kernel
theorem dX6_commonDivisor_18 : decode cX6_commonDivisor 18 = .ok (.iload_n 2, 1) := by decide +kernel
theorem dX6_commonDivisor_19 : decode cX6_commonDivisor 19 = .ok (.iload_n 3, 1) := by decide +kernel
theorem dX6_commonDivisor_20 : decode cX6_commonDivisor 20 = .ok (.irem, 1) := by decide +kernel
theorem dX6_commonDivisor_21 : decode cX6_commonDivisor 21 = .ok (.istore 5, 2) := by decide +kernel
theorem dX6_commonDivisor_23 : decode cX6_commonDivisor 23 = .ok (.iload_n 3, 1) := by decide +kernel
theorem dX6_commonDivisor_24 : decode cX6_commonDivisor 24 = .ok (.istore_n 2, 1) := by decide +kernel
theorem dX6_commonDivisor_25 : decode cX6_commonDivisor 25 = .ok (.iload 5, 2) := by decide +kernel
theorem dX6_commonDivisor_27 : decode cX6_commonDivisor 27 = .ok (.istore_n 3, 1) := by decide +kernel
theorem dX6_commonDivisor_28 : decode cX6_commonDivisor 28 = .ok (.iinc 4 1, 3) := by decide +kernel
theorem dX6_commonDivisor_31 : decode cX6_commonDivisor 31 = .ok (.goto (-24), 3) := by decide +kernel
theorem dX6_commonDivisor_34 : decode cX6_commonDivisor 34 = .ok (.iload_n 2, 1) := by decide +kernel
theorem dX6_commonDivisor_35 : decode cX6_commonDivisor 35 = .ok (.ireturn, 1) := by decide +kernel
theorem dX6_tellsSets_0 : decode cX6_tellsSets 0 = .ok (.iconst 0, 1) := by decide +kernel
theorem dX6_tellsSets_1 : decode cX6_tellsSets 1 = .ok (.istore_n 3, 1) := by decide +kernel
theorem dX6_tellsSets_2 : decode cX6_tellsSets 2 = .ok (.iload_n 3, 1) := by decide +kernel
theorem dX6_tellsSets_3 : decode cX6_tellsSets 3 = .ok (.iload_n 2, 1) := by decide +kernel
theorem dX6_tellsSets_4 : decode cX6_tellsSets 4 = .ok (.if_icmp .ge 38, 3) := by decide +kernel
theorem dX6_tellsSets_7 : decode cX6_tellsSets 7 = .ok (.aload_n 0, 1) := by decide +kernel
theorem dX6_tellsSets_8 : decode cX6_tellsSets 8 = .ok (.iload_n 1, 1) := by decide +kernel
theorem dX6_tellsSets_9 : decode cX6_tellsSets 9 = .ok (.iconst 2, 1) := by decide +kernel
theorem dX6_tellsSets_10 : decode cX6_tellsSets 10 = .ok (.iload_n 3, 1) := by decide +kernel
theorem dX6_tellsSets_11 : decode cX6_tellsSets 11 = .ok (.imul, 1) := by decide +kernel
theorem dX6_tellsSets_12 : decode cX6_tellsSets 12 = .ok (.iadd, 1) := by decide +kernel
theorem dX6_tellsSets_13 : decode cX6_tellsSets 13 = .ok (.invokevirtual 363, 3) := by decide +kernel
theorem dX6_tellsSets_16 : decode cX6_tellsSets 16 = .ok (.lstore 4, 2) := by decide +kernel
theorem dX6_tellsSets_18 : decode cX6_tellsSets 18 = .ok (.lload 4, 2) := by decide +kernel
theorem dX6_tellsSets_20 : decode cX6_tellsSets 20 = .ok (.lconst 0, 1) := by decide +kernel
theorem dX6_tellsSets_21 : decode cX6_tellsSets 21 = .ok (.lcmp, 1) := by decide +kernel
theorem dX6_tellsSets_22 : decode cX6_tellsSets 22 = .ok (.ifCond .lt 12, 3) := by decide +kernel
theorem dX6_tellsSets_25 : decode cX6_tellsSets 25 = .ok (.lload 4, 2) := by decide +kernel
theorem dX6_tellsSets_27 : decode cX6_tellsSets 27 = .ok (.ldc2_w 366, 3) := by decide +kernel
theorem dX6_tellsSets_30 : decode cX6_tellsSets 30 = .ok (.lcmp, 1) := by decide +kernel
theorem dX6_tellsSets_31 : decode cX6_tellsSets 31 = .ok (.ifCond .lt 5, 3) := by decide +kernel
theorem dX6_tellsSets_34 : decode cX6_tellsSets 34 = .ok (.iconst 0, 1) := by decide +kernel
theorem dX6_tellsSets_35 : decode cX6_tellsSets 35 = .ok (.ireturn, 1) := by decide +kernel
theorem dX6_tellsSets_36 : decode cX6_tellsSets 36 = .ok (.iinc 3 1, 3) := by decide +kernel
theorem dX6_tellsSets_39 : decode cX6_tellsSets 39 = .ok (.goto (-37), 3) := by decide +kernel
theorem dX6_tellsSets_42 : decode cX6_tellsSets 42 = .ok (.iconst 1, 1) := by decide +kernel
theorem dX6_tellsSets_43 : decode cX6_tellsSets 43 = .ok (.ireturn, 1) := by decide +kernel
theorem dX6_kindsSeen_0 : decode cX6_kindsSeen 0 = .ok (.aload_n 0, 1) := by decide +kernel
theorem dX6_kindsSeen_1 : decode cX6_kindsSeen 1 = .ok (.getfield 10, 3) := by decide +kernel
theorem dX6_kindsSeen_4 : decode cX6_kindsSeen 4 = .ok (.getfield 75, 3) := by decide +kernel
theorem dX6_kindsSeen_7 : decode cX6_kindsSeen 7 = .ok (.iconst 0, 1) := by decide +kernel
theorem dX6_kindsSeen_8 : decode cX6_kindsSeen 8 = .ok (.aload_n 0, 1) := by decide +kernel
theorem dX6_kindsSeen_9 : decode cX6_kindsSeen 9 = .ok (.getfield 67, 3) := by decide +kernel
theorem dX6_kindsSeen_12 : decode cX6_kindsSeen 12 = .ok (.iconst 0, 1) := by decide +kernel
theorem dX6_kindsSeen_13 : decode cX6_kindsSeen 13 = .ok (.iconst 5, 1) := by decide +kernel
theorem dX6_kindsSeen_14 : decode cX6_kindsSeen 14 = .ok (.invokestatic 210, 3) := by decide +kernel
theorem dX6_kindsSeen_17 : decode cX6_kindsSeen 17 = .ok (.iconst 0, 1) := by decide +kernel
theorem dX6_kindsSeen_18 : decode cX6_kindsSeen 18 = .ok (.istore 5, 2) := by decide +kernel
theorem dX6_kindsSeen_20 : decode cX6_kindsSeen 20 = .ok (.iconst 0, 1) := by decide +kernel
theorem dX6_kindsSeen_21 : decode cX6_kindsSeen 21 = .ok (.istore 6, 2) := by decide +kernel
theorem dX6_kindsSeen_23 : decode cX6_kindsSeen 23 = .ok (.iload 6, 2) := by decide +kernel
theorem dX6_kindsSeen_25 : decode cX6_kindsSeen 25 = .ok (.iconst 4, 1) := by decide +kernel
theorem dX6_kindsSeen_26 : decode cX6_kindsSeen 26 = .ok (.if_icmp .ge 45, 3) := by decide +kernel
theorem dX6_kindsSeen_29 : decode cX6_kindsSeen 29 = .ok (.iload_n 1, 1) := by decide +kernel
theorem dX6_kindsSeen_30 : decode cX6_kindsSeen 30 = .ok (.iconst 5, 1) := by decide +kernel
theorem dX6_kindsSeen_31 : decode cX6_kindsSeen 31 = .ok (.invokestatic 71, 3) := by decide +kernel
theorem dX6_kindsSeen_34 : decode cX6_kindsSeen 34 = .ok (.ifCond .eq 11, 3) := by decide +kernel
theorem dX6_kindsSeen_37 : decode cX6_kindsSeen 37 = .ok (.aload_n 0, 1) := by decide +kernel
theorem dX6_kindsSeen_38 : decode cX6_kindsSeen 38 = .ok (.getfield 67, 3) := by decide +kernel
theorem dX6_kindsSeen_41 : decode cX6_kindsSeen 41 = .ok (.iload_n 1, 1) := by decide +kernel
theorem dX6_kindsSeen_42 : decode cX6_kindsSeen 42 = .ok (.iload 6, 2) := by decide +kernel
theorem dX6_kindsSeen_44 : decode cX6_kindsSeen 44 = .ok (.iastore, 1) := by decide +kernel
theorem dX6_kindsSeen_45 : decode cX6_kindsSeen 45 = .ok (.aload_n 0, 1) := by decide +kernel
theorem dX6_kindsSeen_46 : decode cX6_kindsSeen 46 = .ok (.aload_n 2, 1) := by decide +kernel
theorem dX6_kindsSeen_47 : decode cX6_kindsSeen 47 = .ok (.iload_n 3, 1) := by decide +kernel
theorem dX6_kindsSeen_48 : decode cX6_kindsSeen 48 = .ok (.iload 4, 2) := by decide +kernel
theorem dX6_kindsSeen_50 : decode cX6_kindsSeen 50 = .ok (.invokevirtual 368, 3) := by decide +kernel
theorem dX6_kindsSeen_53 : decode cX6_kindsSeen 53 = .ok (.ifCond .eq 12, 3) := by decide +kernel
theorem dX6_kindsSeen_56 : decode cX6_kindsSeen 56 = .ok (.iload 5, 2) := by decide +kernel
theorem dX6_kindsSeen_58 : decode cX6_kindsSeen 58 = .ok (.iconst 1, 1) := by decide +kernel
theorem dX6_kindsSeen_59 : decode cX6_kindsSeen 59 = .ok (.iload 6, 2) := by decide +kernel
theorem dX6_kindsSeen_61 : decode cX6_kindsSeen 61 = .ok (.ishl, 1) := by decide +kernel
theorem dX6_kindsSeen_62 : decode cX6_kindsSeen 62 = .ok (.ior, 1) := by decide +kernel
theorem dX6_kindsSeen_63 : decode cX6_kindsSeen 63 = .ok (.istore 5, 2) := by decide +kernel
theorem dX6_kindsSeen_65 : decode cX6_kindsSeen 65 = .ok (.iinc 6 1, 3) := by decide +kernel
theorem dX6_kindsSeen_68 : decode cX6_kindsSeen 68 = .ok (.goto (-45), 3) := by decide +kernel
theorem dX6_kindsSeen_71 : decode cX6_kindsSeen 71 = .ok (.iload 5, 2) := by decide +kernel
theorem dX6_kindsSeen_73 : decode cX6_kindsSeen 73 = .ok (.ireturn, 1) := by decide +kernel
theorem dX6_looksAsTold_0 : decode cX6_looksAsTold 0 = .ok (.iconst 0, 1) := by decide +kernel
theorem dX6_looksAsTold_1 : decode cX6_looksAsTold 1 = .ok (.istore 4, 2) := by decide +kernel
theorem dX6_looksAsTold_3 : decode cX6_looksAsTold 3 = .ok (.iload 4, 2) := by decide +kernel
theorem dX6_looksAsTold_5 : decode cX6_looksAsTold 5 = .ok (.iload_n 3, 1) := by decide +kernel
theorem dX6_looksAsTold_6 : decode cX6_looksAsTold 6 = .ok (.if_icmp .ge 64, 3) := by decide +kernel
theorem dX6_looksAsTold_9 : decode cX6_looksAsTold 9 = .ok (.aload_n 1, 1) := by decide +kernel
theorem dX6_looksAsTold_10 : decode cX6_looksAsTold 10 = .ok (.iload_n 2, 1) := by decide +kernel
theorem dX6_looksAsTold_11 : decode cX6_looksAsTold 11 = .ok (.iconst 2, 1) := by decide +kernel
theorem dX6_looksAsTold_12 : decode cX6_looksAsTold 12 = .ok (.iload 4, 2) := by decide +kernel
theorem dX6_looksAsTold_14 : decode cX6_looksAsTold 14 = .ok (.imul, 1) := by decide +kernel
theorem dX6_looksAsTold_15 : decode cX6_looksAsTold 15 = .ok (.iadd, 1) := by decide +kernel
theorem dX6_looksAsTold_16 : decode cX6_looksAsTold 16 = .ok (.invokevirtual 363, 3) := by decide +kernel
theorem dX6_looksAsTold_19 : decode cX6_looksAsTold 19 = .ok (.l2i, 1) := by decide +kernel
theorem dX6_looksAsTold_20 : decode cX6_looksAsTold 20 = .ok (.istore 5, 2) := by decide +kernel
theorem dX6_looksAsTold_22 : decode cX6_looksAsTold 22 = .ok (.aload_n 0, 1) := by decide +kernel
theorem dX6_looksAsTold_23 : decode cX6_looksAsTold 23 = .ok (.getfield 67, 3) := by decide +kernel
theorem dX6_looksAsTold_26 : decode cX6_looksAsTold 26 = .ok (.aload_n 0, 1) := by decide +kernel
theorem dX6_looksAsTold_27 : decode cX6_looksAsTold 27 = .ok (.getfield 10, 3) := by decide +kernel
theorem dX6_looksAsTold_30 : decode cX6_looksAsTold 30 = .ok (.getfield 78, 3) := by decide +kernel
theorem dX6_looksAsTold_33 : decode cX6_looksAsTold 33 = .ok (.aload_n 0, 1) := by decide +kernel
theorem dX6_looksAsTold_34 : decode cX6_looksAsTold 34 = .ok (.getfield 10, 3) := by decide +kernel
theorem dX6_looksAsTold_37 : decode cX6_looksAsTold 37 = .ok (.getfield 164, 3) := by decide +kernel
theorem dX6_looksAsTold_40 : decode cX6_looksAsTold 40 = .ok (.iload 5, 2) := by decide +kernel
theorem dX6_looksAsTold_42 : decode cX6_looksAsTold 42 = .ok (.invokestatic 307, 3) := by decide +kernel
theorem dX6_looksAsTold_45 : decode cX6_looksAsTold 45 = .ok (.i2l, 1) := by decide +kernel
theorem dX6_looksAsTold_46 : decode cX6_looksAsTold 46 = .ok (.aload_n 1, 1) := by decide +kernel
theorem dX6_looksAsTold_47 : decode cX6_looksAsTold 47 = .ok (.iload_n 2, 1) := by decide +kernel
theorem dX6_looksAsTold_48 : decode cX6_looksAsTold 48 = .ok (.iconst 2, 1) := by decide +kernel
theorem dX6_looksAsTold_49 : decode cX6_looksAsTold 49 = .ok (.iload 4, 2) := by decide +kernel
theorem dX6_looksAsTold_51 : decode cX6_looksAsTold 51 = .ok (.imul, 1) := by decide +kernel
theorem dX6_looksAsTold_52 : decode cX6_looksAsTold 52 = .ok (.iadd, 1) := by decide +kernel
theorem dX6_looksAsTold_53 : decode cX6_looksAsTold 53 = .ok (.iconst 1, 1) := by decide +kernel
theorem dX6_looksAsTold_54 : decode cX6_looksAsTold 54 = .ok (.iadd, 1) := by decide +kernel
theorem dX6_looksAsTold_55 : decode cX6_looksAsTold 55 = .ok (.invokevirtual 363, 3) := by decide +kernel
theorem dX6_looksAsTold_58 : decode cX6_looksAsTold 58 = .ok (.lcmp, 1) := by decide +kernel
theorem dX6_looksAsTold_59 : decode cX6_looksAsTold 59 = .ok (.ifCond .eq 5, 3) := by decide +kernel
theorem dX6_looksAsTold_62 : decode cX6_looksAsTold 62 = .ok (.iconst 0, 1) := by decide +kernel
theorem dX6_looksAsTold_63 : decode cX6_looksAsTold 63 = .ok (.ireturn, 1) := by decide +kernel
theorem dX6_looksAsTold_64 : decode cX6_looksAsTold 64 = .ok (.iinc 4 1, 3) := by decide +kernel
theorem dX6_looksAsTold_67 : decode cX6_looksAsTold 67 = .ok (.goto (-64), 3) := by decide +kernel
theorem dX6_looksAsTold_70 : decode cX6_looksAsTold 70 = .ok (.iconst 1, 1) := by decide +kernel
theorem dX6_looksAsTold_71 : decode cX6_looksAsTold 71 = .ok (.ireturn, 1) := by decide +kernel
end
section
theorem dX7_in_0 : decode cX7_in 0 = .ok (.lload_n 0, 1) := by decide +kernel
theorem dX7_in_1 : decode cX7_in 1 = .ok (.lload_n 2, 1) := by decide +kernel
theorem dX7_in_2 : decode cX7_in 2 = .ok (.lcmp, 1) := by decide +kernel
theorem dX7_in_3 : decode cX7_in 3 = .ok (.ifCond .lt 14, 3) := by decide +kernel
theorem dX7_in_6 : decode cX7_in 6 = .ok (.lload_n 0, 1) := by decide +kernel
theorem dX7_in_7 : decode cX7_in 7 = .ok (.lload 4, 2) := by decide +kernel
theorem dX7_in_9 : decode cX7_in 9 = .ok (.lcmp, 1) := by decide +kernel
theorem dX7_in_10 : decode cX7_in 10 = .ok (.ifCond .gt 7, 3) := by decide +kernel
theorem dX7_in_13 : decode cX7_in 13 = .ok (.iconst 1, 1) := by decide +kernel
theorem dX7_in_14 : decode cX7_in 14 = .ok (.goto 4, 3) := by decide +kernel
theorem dX7_in_17 : decode cX7_in 17 = .ok (.iconst 0, 1) := by decide +kernel
theorem dX7_in_18 : decode cX7_in 18 = .ok (.ireturn, 1) := by decide +kernel
theorem dX7_init_0 : decode cX7_init 0 = .ok (.aload_n 0, 1) := by decide +kernel
theorem dX7_init_1 : decode cX7_init 1 = .ok (.invokespecial 1, 3) := by decide +kernel
theorem dX7_init_4 : decode cX7_init 4 = .ok (.aload_n 0, 1) := by decide +kernel
theorem dX7_init_5 : decode cX7_init 5 = .ok (.bipush 62, 2) := by decide +kernel
theorem dX7_init_7 : decode cX7_init 7 = .ok (.newarray .int, 2) := by decide +kernel
theorem dX7_init_9 : decode cX7_init 9 = .ok (.putfield 7, 3) := by decide +kernel
theorem dX7_init_12 : decode cX7_init 12 = .ok (.aload_n 0, 1) := by decide +kernel
theorem dX7_init_13 : decode cX7_init 13 = .ok (.bipush 32, 2) := by decide +kernel
theorem dX7_init_15 : decode cX7_init 15 = .ok (.newarray .int, 2) := by decide +kernel
theorem dX7_init_17 : decode cX7_init 17 = .ok (.putfield 13, 3) := by decide +kernel
theorem dX7_init_20 : decode cX7_init 20 = .ok (.aload_n 0, 1) := by decide +kernel
theorem dX7_init_21 : decode cX7_init 21 = .ok (.bipush 48, 2) := by decide +kernel
theorem dX7_init_23 : decode cX7_init 23 = .ok (.newarray .int, 2) := by decide +kernel
theorem dX7_init_25 : decode cX7_init 25 = .ok (.putfield 16, 3) := by decide +kernel
theorem dX7_init_28 : decode cX7_init 28 = .ok (.aload_n 0, 1) := by decide +kernel
theorem dX7_init_29 : decode cX7_init 29 = .ok (.bipush 48, 2) := by decide +kernel
theorem dX7_init_31 : decode cX7_init 31 = .ok (.newarray .int, 2) := by decide +kernel
theorem dX7_init_33 : decode cX7_init 33 = .ok (.putfield 19, 3) := by decide +kernel
theorem dX7_init_36 : decode cX7_init 36 = .ok (.aload_n 0, 1) := by decide +kernel
theorem dX7_init_37 : decode cX7_init 37 = .ok (.sipush 372, 3) := by decide +kernel
theorem dX7_init_40 : decode cX7_init 40 = .ok (.newarray .int, 2) := by decide +kernel
theorem dX7_init_42 : decode cX7_init 42 = .ok (.putfield 22, 3) := by decide +kernel
theorem dX7_init_45 : decode cX7_init 45 = .ok (.aload_n 0, 1) := by decide +kernel
theorem dX7_init_46 : decode cX7_init 46 = .ok (.bipush 48, 2) := by decide +kernel
theorem dX7_init_48 : decode cX7_init 48 = .ok (.newarray .int, 2) := by decide +kernel
theorem dX7_init_50 : decode cX7_init 50 = .ok (.putfield 25, 3) := by decide +kernel
theorem dX7_init_53 : decode cX7_init 53 = .ok (.aload_n 0, 1) := by decide +kernel
theorem dX7_init_54 : decode cX7_init 54 = .ok (.bipush 100, 2) := by decide +kernel
theorem dX7_init_56 : decode cX7_init 56 = .ok (.newarray .int, 2) := by decide +kernel
theorem dX7_init_58 : decode cX7_init 58 = .ok (.putfield 28, 3) := by decide +kernel
theorem dX7_init_61 : decode cX7_init 61 = .ok (.aload_n 0, 1) := by decide +kernel
theorem dX7_init_62 : decode cX7_init 62 = .ok (.bipush 48, 2) := by decide +kernel
theorem dX7_init_64 : decode cX7_init 64 = .ok (.newarray .int, 2) := by decide +kernel
theorem dX7_init_66 : decode cX7_init 66 = .ok (.putfield 31, 3) := by decide +kernel
theorem dX7_init_69 : decode cX7_init 69 = .ok (.aload_n 0, 1) := by decide +kernel
theorem dX7_init_70 : decode cX7_init 70 = .ok (.bipush 62, 2) := by decide +kernel
theorem dX7_init_72 : decode cX7_init 72 = .ok (.newarray .int, 2) := by decide +kernel
theorem dX7_init_74 : decode cX7_init 74 = .ok (.putfield 34, 3) := by decide +kernel
theorem dX7_init_77 : decode cX7_init 77 = .ok (.aload_n 0, 1) := by decide +kernel
theorem dX7_init_78 : decode cX7_init 78 = .ok (.sipush 372, 3) := by decide +kernel
theorem dX7_init_81 : decode cX7_init 81 = .ok (.newarray .int, 2) := by decide +kernel
theorem dX7_init_83 : decode cX7_init 83 = .ok (.putfield 37, 3) := by decide +kernel
theorem dX7_init_86 : decode cX7_init 86 = .ok (.aload_n 0, 1) := by decide +kernel
theorem dX7_init_87 : decode cX7_init 87 = .ok (.iconst (-1), 1) := by decide +kernel
theorem dX7_init_88 : decode cX7_init 88 = .ok (.putfield 40, 3) := by decide +kernel
theorem dX7_init_91 : decode cX7_init 91 = .ok (.aload_n 0, 1) := by decide +kernel
theorem dX7_init_92 : decode cX7_init 92 = .ok (.iconst 4, 1) := by decide +kernel
theorem dX7_init_93 : decode cX7_init 93 = .ok (.newarray .int, 2) := by decide +kernel
theorem dX7_init_95 : decode cX7_init 95 = .ok (.putfield 44, 3) := by decide +kernel
theorem dX7_init_98 : decode cX7_init 98 = .ok (.aload_n 0, 1) := by decide +kernel
theorem dX7_init_99 : decode cX7_init 99 = .ok (.iconst 4, 1) := by decide +kernel
theorem dX7_init_100 : decode cX7_init 100 = .ok (.newarray .int, 2) := by decide +kernel
theorem dX7_init_102 : decode cX7_init 102 = .ok (.putfield 47, 3) := by decide +kernel
theorem dX7_init_105 : decode cX7_init 105 = .ok (.aload_n 0, 1) := by decide +kernel
theorem dX7_init_106 : decode cX7_init 106 = .ok (.bipush 96, 2) := by decide +kernel
theorem dX7_init_108 : decode cX7_init 108 = .ok (.newarray .long, 2) := by decide +kernel
theorem dX7_init_110 : decode cX7_init 110 = .ok (.putfield 50, 3) := by decide +kernel
theorem dX7_init_113 : decode cX7_init 113 = .ok (.aload_n 0, 1) := by decide +kernel
theorem dX7_init_114 : decode cX7_init 114 = .ok (.bipush 24, 2) := by decide +kernel
theorem dX7_init_116 : decode cX7_init 116 = .ok (.newarray .long, 2) := by decide +kernel
theorem dX7_init_118 : decode cX7_init 118 = .ok (.putfield 54, 3) := by decide +kernel
theorem dX7_init_121 : decode cX7_init 121 = .ok (.aload_n 0, 1) := by decide +kernel
theorem dX7_init_122 : decode cX7_init 122 = .ok (.getfield 7, 3) := by decide +kernel
theorem dX7_init_125 : decode cX7_init 125 = .ok (.iconst 0, 1) := by decide +kernel
theorem dX7_init_126 : decode cX7_init 126 = .ok (.iconst 4, 1) := by decide +kernel
theorem dX7_init_127 : decode cX7_init 127 = .ok (.iastore, 1) := by decide +kernel
theorem dX7_init_128 : decode cX7_init 128 = .ok (.aload_n 0, 1) := by decide +kernel
theorem dX7_init_129 : decode cX7_init 129 = .ok (.getfield 7, 3) := by decide +kernel
theorem dX7_init_132 : decode cX7_init 132 = .ok (.iconst 1, 1) := by decide +kernel
theorem dX7_init_133 : decode cX7_init 133 = .ok (.iconst 3, 1) := by decide +kernel
theorem dX7_init_134 : decode cX7_init 134 = .ok (.iastore, 1) := by decide +kernel
theorem dX7_init_135 : decode cX7_init 135 = .ok (.aload_n 0, 1) := by decide +kernel
theorem dX7_init_136 : decode cX7_init 136 = .ok (.getfield 7, 3) := by decide +kernel
theorem dX7_init_139 : decode cX7_init 139 = .ok (.iconst 2, 1) := by decide +kernel
theorem dX7_init_140 : decode cX7_init 140 = .ok (.iconst 1, 1) := by decide +kernel
theorem dX7_init_141 : decode cX7_init 141 = .ok (.iastore, 1) := by decide +kernel
theorem dX7_init_142 : decode cX7_init 142 = .ok (.aload_n 0, 1) := by decide +kernel
theorem dX7_init_143 : decode cX7_init 143 = .ok (.getfield 7, 3) := by decide +kernel
theorem dX7_init_146 : decode cX7_init 146 = .ok (.iconst 3, 1) := by decide +kernel
theorem dX7_init_147 : decode cX7_init 147 = .ok (.sipush 1234, 3) := by decide +kernel
theorem dX7_init_150 : decode cX7_init 150 = .ok (.iastore, 1) := by decide +kernel
theorem dX7_init_151 : decode cX7_init 151 = .ok (.aload_n 0, 1) := by decide +kernel
theorem dX7_init_152 : decode cX7_init 152 = .ok (.getfield 7, 3) := by decide +kernel
theorem dX7_init_155 : decode cX7_init 155 = .ok (.bipush 9, 2) := by decide +kernel
theorem dX7_init_157 : decode cX7_init 157 = .ok (.sipush 4080, 3) := by decide +kernel
theorem dX7_init_160 : decode cX7_init 160 = .ok (.iastore, 1) := by decide +kernel
theorem dX7_init_161 : decode cX7_init 161 = .ok (.aload_n 0, 1) := by decide +kernel
theorem dX7_init_162 : decode cX7_init 162 = .ok (.getfield 7, 3) := by decide +kernel
theorem dX7_init_165 : decode cX7_init 165 = .ok (.bipush 10, 2) := by decide +kernel
theorem dX7_init_167 : decode cX7_init 167 = .ok (.sipush 3855, 3) := by decide +kernel
theorem dX7_init_170 : decode cX7_init 170 = .ok (.iastore, 1) := by decide +kernel
theorem dX7_init_171 : decode cX7_init 171 = .ok (.aload_n 0, 1) := by decide +kernel
theorem dX7_init_172 : decode cX7_init 172 = .ok (.getfield 7, 3) := by decide +kernel
theorem dX7_init_175 : decode cX7_init 175 = .ok (.bipush 11, 2) := by decide +kernel
theorem dX7_init_177 : decode cX7_init 177 = .ok (.sipush 255, 3) := by decide +kernel
theorem dX7_init_180 : decode cX7_init 180 = .ok (.iastore, 1) := by decide +kernel
theorem dX7_init_181 : decode cX7_init 181 = .ok (.aload_n 0, 1) := by decide +kernel
theorem dX7_init_182 : decode cX7_init 182 = .ok (.getfield 7, 3) := by decide +kernel
theorem dX7_init_185 : decode cX7_init 185 = .ok (.bipush 12, 2) := by decide +kernel
theorem dX7_init_187 : decode cX7_init 187 = .ok (.sipush 2184, 3) := by decide +kernel
theorem dX7_init_190 : decode cX7_init 190 = .ok (.iastore, 1) := by decide +kernel
theorem dX7_init_191 : decode cX7_init 191 = .ok (.aload_n 0, 1) := by decide +kernel
theorem dX7_init_192 : decode cX7_init 192 = .ok (.getfield 7, 3) := by decide +kernel
theorem dX7_init_195 : decode cX7_init 195 = .ok (.bipush 13, 2) := by decide +kernel
theorem dX7_init_197 : decode cX7_init 197 = .ok (.sipush 1092, 3) := by decide +kernel
theorem dX7_init_200 : decode cX7_init 200 = .ok (.iastore, 1) := by decide +kernel
theorem dX7_init_201 : decode cX7_init 201 = .ok (.iconst 0, 1) := by decide +kernel
theorem dX7_init_202 : decode cX7_init 202 = .ok (.istore_n 1, 1) := by decide +kernel
theorem dX7_init_203 : decode cX7_init 203 = .ok (.iload_n 1, 1) := by decide +kernel
theorem dX7_init_204 : decode cX7_init 204 = .ok (.iconst 4, 1) := by decide +kernel
theorem dX7_init_205 : decode cX7_init 205 = .ok (.if_icmp .ge 16, 3) := by decide +kernel
theorem dX7_init_208 : decode cX7_init 208 = .ok (.aload_n 0, 1) := by decide +kernel
theorem dX7_init_209 : decode cX7_init 209 = .ok (.getfield 44, 3) := by decide +kernel
theorem dX7_init_212 : decode cX7_init 212 = .ok (.iload_n 1, 1) := by decide +kernel
theorem dX7_init_213 : decode cX7_init 213 = .ok (.iconst (-1), 1) := by decide +kernel
theorem dX7_init_214 : decode cX7_init 214 = .ok (.iastore, 1) := by decide +kernel
theorem dX7_init_215 : decode cX7_init 215 = .ok (.iinc 1 1, 3) := by decide +kernel
theorem dX7_init_218 : decode cX7_init 218 = .ok (.goto (-15), 3) := by decide +kernel
theorem dX7_init_221 : decode cX7_init 221 = .ok (.return_, 1) := by decide +kernel
theorem dX7_isInk_0 : decode cX7_isInk 0 = .ok (.iload_n 0, 1) := by decide +kernel
theorem dX7_isInk_1 : decode cX7_isInk 1 = .ok (.i2l, 1) := by decide +kernel
theorem dX7_isInk_2 : decode cX7_isInk 2 = .ok (.lconst 0, 1) := by decide +kernel
theorem dX7_isInk_3 : decode cX7_isInk 3 = .ok (.ldc2_w 57, 3) := by decide +kernel
theorem dX7_isInk_6 : decode cX7_isInk 6 = .ok (.invokestatic 59, 3) := by decide +kernel
theorem dX7_isInk_9 : decode cX7_isInk 9 = .ok (.ireturn, 1) := by decide +kernel
theorem dX7_isSet_0 : decode cX7_isSet 0 = .ok (.lload_n 0, 1) := by decide +kernel
theorem dX7_isSet_1 : decode cX7_isSet 1 = .ok (.lconst 0, 1) := by decide +kernel
theorem dX7_isSet_2 : decode cX7_isSet 2 = .ok (.ldc2_w 63, 3) := by decide +kernel
theorem dX7_isSet_5 : decode cX7_isSet 5 = .ok (.invokestatic 59, 3) := by decide +kernel
theorem dX7_isSet_8 : decode cX7_isSet 8 = .ok (.ireturn, 1) := by decide +kernel
theorem dX7_hasInk_0 : decode cX7_hasInk 0 = .ok (.iload_n 0, 1) := by decide +kernel
theorem dX7_hasInk_1 : decode cX7_hasInk 1 = .ok (.iload_n 1, 1) := by decide +kernel
theorem dX7_hasInk_2 : decode cX7_hasInk 2 = .ok (.ishr, 1) := by decide +kernel
theorem dX7_hasInk_3 : decode cX7_hasInk 3 = .ok (.iconst 1, 1) := by decide +kernel
theorem dX7_hasInk_4 : decode cX7_hasInk 4 = .ok (.iand, 1) := by decide +kernel
theorem dX7_hasInk_5 : decode cX7_hasInk 5 = .ok (.iconst 1, 1) := by decide +kernel
theorem dX7_hasInk_6 : decode cX7_hasInk 6 = .ok (.if_icmp .ne 7, 3) := by decide +kernel
theorem dX7_hasInk_9 : decode cX7_hasInk 9 = .ok (.iconst 1, 1) := by decide +kernel
theorem dX7_hasInk_10 : decode cX7_hasInk 10 = .ok (.goto 4, 3) := by decide +kernel
theorem dX7_hasInk_13 : decode cX7_hasInk 13 = .ok (.iconst 0, 1) := by decide +kernel
theorem dX7_hasInk_14 : decode cX7_hasInk 14 = .ok (.ireturn, 1) := by decide +kernel
theorem dX7_bits_0 : decode cX7_bits 0 = .ok (.iconst 0, 1) := by decide +kernel
theorem dX7_bits_1 : decode cX7_bits 1 = .ok (.istore_n 1, 1) := by decide +kernel
theorem dX7_bits_2 : decode cX7_bits 2 = .ok (.iconst 0, 1) := by decide +kernel
theorem dX7_bits_3 : decode cX7_bits 3 = .ok (.istore_n 2, 1) := by decide +kernel
theorem dX7_bits_4 : decode cX7_bits 4 = .ok (.iload_n 2, 1) := by decide +kernel
theorem dX7_bits_5 : decode cX7_bits 5 = .ok (.iconst 5, 1) := by decide +kernel
theorem dX7_bits_6 : decode cX7_bits 6 = .ok (.if_icmp .ge 17, 3) := by decide +kernel
theorem dX7_bits_9 : decode cX7_bits 9 = .ok (.iload_n 1, 1) := by decide +kernel
theorem dX7_bits_10 : decode cX7_bits 10 = .ok (.iload_n 0, 1) := by decide +kernel
theorem dX7_bits_11 : decode cX7_bits 11 = .ok (.iload_n 2, 1) := by decide +kernel
theorem dX7_bits_12 : decode cX7_bits 12 = .ok (.ishr, 1) := by decide +kernel
theorem dX7_bits_13 : decode cX7_bits 13 = .ok (.iconst 1, 1) := by decide +kernel
theorem dX7_bits_14 : decode cX7_bits 14 = .ok (.iand, 1) := by decide +kernel
theorem dX7_bits_15 : decode cX7_bits 15 = .ok (.iadd, 1) := by decide +kernel
theorem dX7_bits_16 : decode cX7_bits 16 = .ok (.istore_n 1, 1) := by decide +kernel
theorem dX7_bits_17 : decode cX7_bits 17 = .ok (.iinc 2 1, 3) := by decide +kernel
theorem dX7_bits_20 : decode cX7_bits 20 = .ok (.goto (-16), 3) := by decide +kernel
theorem dX7_bits_23 : decode cX7_bits 23 = .ok (.iload_n 1, 1) := by decide +kernel
theorem dX7_bits_24 : decode cX7_bits 24 = .ok (.ireturn, 1) := by decide +kernel
theorem dX7_isPlace_0 : decode cX7_isPlace 0 = .ok (.iload_n 1, 1) := by decide +kernel
theorem dX7_isPlace_1 : decode cX7_isPlace 1 = .ok (.i2l, 1) := by decide +kernel
theorem dX7_isPlace_2 : decode cX7_isPlace 2 = .ok (.lconst 0, 1) := by decide +kernel
theorem dX7_isPlace_3 : decode cX7_isPlace 3 = .ok (.aload_n 0, 1) := by decide +kernel
theorem dX7_isPlace_4 : decode cX7_isPlace 4 = .ok (.getfield 7, 3) := by decide +kernel
theorem dX7_isPlace_7 : decode cX7_isPlace 7 = .ok (.iconst 0, 1) := by decide +kernel
theorem dX7_isPlace_8 : decode cX7_isPlace 8 = .ok (.iaload, 1) := by decide +kernel
theorem dX7_isPlace_9 : decode cX7_isPlace 9 = .ok (.iconst 1, 1) := by decide +kernel
theorem dX7_isPlace_10 : decode cX7_isPlace 10 = .ok (.isub, 1) := by decide +kernel
theorem dX7_isPlace_11 : decode cX7_isPlace 11 = .ok (.i2l, 1) := by decide +kernel
theorem dX7_isPlace_12 : decode cX7_isPlace 12 = .ok (.invokestatic 59, 3) := by decide +kernel
theorem dX7_isPlace_15 : decode cX7_isPlace 15 = .ok (.ifCond .eq 25, 3) := by decide +kernel
theorem dX7_isPlace_18 : decode cX7_isPlace 18 = .ok (.iload_n 2, 1) := by decide +kernel
theorem dX7_isPlace_19 : decode cX7_isPlace 19 = .ok (.i2l, 1) := by decide +kernel
theorem dX7_isPlace_20 : decode cX7_isPlace 20 = .ok (.lconst 0, 1) := by decide +kernel
theorem dX7_isPlace_21 : decode cX7_isPlace 21 = .ok (.aload_n 0, 1) := by decide +kernel
theorem dX7_isPlace_22 : decode cX7_isPlace 22 = .ok (.getfield 7, 3) := by decide +kernel
theorem dX7_isPlace_25 : decode cX7_isPlace 25 = .ok (.iconst 1, 1) := by decide +kernel
theorem dX7_isPlace_26 : decode cX7_isPlace 26 = .ok (.iaload, 1) := by decide +kernel
theorem dX7_isPlace_27 : decode cX7_isPlace 27 = .ok (.iconst 1, 1) := by decide +kernel
theorem dX7_isPlace_28 : decode cX7_isPlace 28 = .ok (.isub, 1) := by decide +kernel
theorem dX7_isPlace_29 : decode cX7_isPlace 29 = .ok (.i2l, 1) := by decide +kernel
theorem dX7_isPlace_30 : decode cX7_isPlace 30 = .ok (.invokestatic 59, 3) := by decide +kernel
theorem dX7_isPlace_33 : decode cX7_isPlace 33 = .ok (.ifCond .eq 7, 3) := by decide +kernel
theorem dX7_isPlace_36 : decode cX7_isPlace 36 = .ok (.iconst 1, 1) := by decide +kernel
theorem dX7_isPlace_37 : decode cX7_isPlace 37 = .ok (.goto 4, 3) := by decide +kernel
theorem dX7_isPlace_40 : decode cX7_isPlace 40 = .ok (.iconst 0, 1) := by decide +kernel
theorem dX7_isPlace_41 : decode cX7_isPlace 41 = .ok (.ireturn, 1) := by decide +kernel
theorem dX7_setAt_0 : decode cX7_setAt 0 = .ok (.aload_n 0, 1) := by decide +kernel
theorem dX7_setAt_1 : decode cX7_setAt 1 = .ok (.getfield 7, 3) := by decide +kernel
theorem dX7_setAt_4 : decode cX7_setAt 4 = .ok (.bipush 14, 2) := by decide +kernel
theorem dX7_setAt_6 : decode cX7_setAt 6 = .ok (.iload_n 1, 1) := by decide +kernel
theorem dX7_setAt_7 : decode cX7_setAt 7 = .ok (.iadd, 1) := by decide +kernel
theorem dX7_setAt_8 : decode cX7_setAt 8 = .ok (.iaload, 1) := by decide +kernel
theorem dX7_setAt_9 : decode cX7_setAt 9 = .ok (.ireturn, 1) := by decide +kernel
theorem dX7_isIn_0 : decode cX7_isIn 0 = .ok (.aload_n 0, 1) := by decide +kernel
theorem dX7_isIn_1 : decode cX7_isIn 1 = .ok (.iload_n 1, 1) := by decide +kernel
theorem dX7_isIn_2 : decode cX7_isIn 2 = .ok (.bipush 8, 2) := by decide +kernel
theorem dX7_isIn_4 : decode cX7_isIn 4 = .ok (.irem, 1) := by decide +kernel
theorem dX7_isIn_5 : decode cX7_isIn 5 = .ok (.iload_n 1, 1) := by decide +kernel
theorem dX7_isIn_6 : decode cX7_isIn 6 = .ok (.bipush 8, 2) := by decide +kernel
theorem dX7_isIn_8 : decode cX7_isIn 8 = .ok (.idiv, 1) := by decide +kernel
theorem dX7_isIn_9 : decode cX7_isIn 9 = .ok (.invokevirtual 65, 3) := by decide +kernel
theorem dX7_isIn_12 : decode cX7_isIn 12 = .ok (.ireturn, 1) := by decide +kernel
theorem dX7_over_0 : decode cX7_over 0 = .ok (.iload_n 0, 1) := by decide +kernel
theorem dX7_over_1 : decode cX7_over 1 = .ok (.iload_n 1, 1) := by decide +kernel
theorem dX7_over_2 : decode cX7_over 2 = .ok (.imul, 1) := by decide +kernel
theorem dX7_over_3 : decode cX7_over 3 = .ok (.bipush 15, 2) := by decide +kernel
theorem dX7_over_5 : decode cX7_over 5 = .ok (.idiv, 1) := by decide +kernel
theorem dX7_over_6 : decode cX7_over 6 = .ok (.istore_n 3, 1) := by decide +kernel
theorem dX7_over_7 : decode cX7_over 7 = .ok (.iload_n 2, 1) := by decide +kernel
theorem dX7_over_8 : decode cX7_over 8 = .ok (.tableswitch 38 0 2 #[28, 30, 32], 28) := by decide +kernel
theorem dX7_over_36 : decode cX7_over 36 = .ok (.iload_n 3, 1) := by decide +kernel
theorem dX7_over_37 : decode cX7_over 37 = .ok (.ireturn, 1) := by decide +kernel
theorem dX7_over_38 : decode cX7_over 38 = .ok (.iload_n 1, 1) := by decide +kernel
theorem dX7_over_39 : decode cX7_over 39 = .ok (.ireturn, 1) := by decide +kernel
theorem dX7_over_40 : decode cX7_over 40 = .ok (.iload_n 3, 1) := by decide +kernel
theorem dX7_over_41 : decode cX7_over 41 = .ok (.iload_n 1, 1) := by decide +kernel
theorem dX7_over_42 : decode cX7_over 42 = .ok (.iadd, 1) := by decide +kernel
theorem dX7_over_43 : decode cX7_over 43 = .ok (.iconst 2, 1) := by decide +kernel
theorem dX7_over_44 : decode cX7_over 44 = .ok (.idiv, 1) := by decide +kernel
theorem dX7_over_45 : decode cX7_over 45 = .ok (.ireturn, 1) := by decide +kernel
theorem dX7_over_46 : decode cX7_over 46 = .ok (.iload_n 1, 1) := by decide +kernel
theorem dX7_over_47 : decode cX7_over 47 = .ok (.bipush 15, 2) := by decide +kernel
theorem dX7_over_49 : decode cX7_over 49 = .ok (.if_icmp .ge 9, 3) := by decide +kernel
theorem dX7_over_52 : decode cX7_over 52 = .ok (.iload_n 1, 1) := by decide +kernel
theorem dX7_over_53 : decode cX7_over 53 = .ok (.iconst 1, 1) := by decide +kernel
theorem dX7_over_54 : decode cX7_over 54 = .ok (.iadd, 1) := by decide +kernel
theorem dX7_over_55 : decode cX7_over 55 = .ok (.goto 5, 3) := by decide +kernel
theorem dX7_over_58 : decode cX7_over 58 = .ok (.bipush 15, 2) := by decide +kernel
theorem dX7_over_60 : decode cX7_over 60 = .ok (.ireturn, 1) := by decide +kernel
theorem dX7_number_0 : decode cX7_number 0 = .ok (.bipush 15, 2) := by decide +kernel
theorem dX7_number_2 : decode cX7_number 2 = .ok (.istore 6, 2) := by decide +kernel
theorem dX7_number_4 : decode cX7_number 4 = .ok (.sipush 10000, 3) := by decide +kernel
theorem dX7_number_7 : decode cX7_number 7 = .ok (.istore 7, 2) := by decide +kernel
theorem dX7_number_9 : decode cX7_number 9 = .ok (.iload 7, 2) := by decide +kernel
theorem dX7_number_11 : decode cX7_number 11 = .ok (.ifCond .le 74, 3) := by decide +kernel
theorem dX7_number_14 : decode cX7_number 14 = .ok (.iload_n 3, 1) := by decide +kernel
theorem dX7_number_15 : decode cX7_number 15 = .ok (.iload 7, 2) := by decide +kernel
theorem dX7_number_17 : decode cX7_number 17 = .ok (.idiv, 1) := by decide +kernel
theorem dX7_number_18 : decode cX7_number 18 = .ok (.bipush 10, 2) := by decide +kernel
theorem dX7_number_20 : decode cX7_number 20 = .ok (.irem, 1) := by decide +kernel
theorem dX7_number_21 : decode cX7_number 21 = .ok (.istore 8, 2) := by decide +kernel
theorem dX7_number_23 : decode cX7_number 23 = .ok (.iload_n 1, 1) := by decide +kernel
theorem dX7_number_24 : decode cX7_number 24 = .ok (.iload 8, 2) := by decide +kernel
theorem dX7_number_26 : decode cX7_number 26 = .ok (.invokestatic 69, 3) := by decide +kernel
theorem dX7_number_29 : decode cX7_number 29 = .ok (.ifCond .eq 46, 3) := by decide +kernel
theorem dX7_number_32 : decode cX7_number 32 = .ok (.iload 6, 2) := by decide +kernel
theorem dX7_number_34 : decode cX7_number 34 = .ok (.aload_n 0, 1) := by decide +kernel
theorem dX7_number_35 : decode cX7_number 35 = .ok (.getfield 7, 3) := by decide +kernel
theorem dX7_number_38 : decode cX7_number 38 = .ok (.bipush 9, 2) := by decide +kernel
theorem dX7_number_40 : decode cX7_number 40 = .ok (.iload 8, 2) := by decide +kernel
theorem dX7_number_42 : decode cX7_number 42 = .ok (.iadd, 1) := by decide +kernel
theorem dX7_number_43 : decode cX7_number 43 = .ok (.iaload, 1) := by decide +kernel
theorem dX7_number_44 : decode cX7_number 44 = .ok (.iload_n 2, 1) := by decide +kernel
theorem dX7_number_45 : decode cX7_number 45 = .ok (.ishr, 1) := by decide +kernel
theorem dX7_number_46 : decode cX7_number 46 = .ok (.bipush 15, 2) := by decide +kernel
theorem dX7_number_48 : decode cX7_number 48 = .ok (.iand, 1) := by decide +kernel
theorem dX7_number_49 : decode cX7_number 49 = .ok (.iload 8, 2) := by decide +kernel
theorem dX7_number_51 : decode cX7_number 51 = .ok (.iload 4, 2) := by decide +kernel
theorem dX7_number_53 : decode cX7_number 53 = .ok (.if_icmp .ne 8, 3) := by decide +kernel
theorem dX7_number_56 : decode cX7_number 56 = .ok (.iload 5, 2) := by decide +kernel
theorem dX7_number_58 : decode cX7_number 58 = .ok (.goto 12, 3) := by decide +kernel
theorem dX7_number_61 : decode cX7_number 61 = .ok (.aload_n 0, 1) := by decide +kernel
theorem dX7_number_62 : decode cX7_number 62 = .ok (.getfield 7, 3) := by decide +kernel
theorem dX7_number_65 : decode cX7_number 65 = .ok (.iconst 4, 1) := by decide +kernel
theorem dX7_number_66 : decode cX7_number 66 = .ok (.iload 8, 2) := by decide +kernel
theorem dX7_number_68 : decode cX7_number 68 = .ok (.iadd, 1) := by decide +kernel
theorem dX7_number_69 : decode cX7_number 69 = .ok (.iaload, 1) := by decide +kernel
theorem dX7_number_70 : decode cX7_number 70 = .ok (.invokestatic 72, 3) := by decide +kernel
theorem dX7_number_73 : decode cX7_number 73 = .ok (.istore 6, 2) := by decide +kernel
theorem dX7_number_75 : decode cX7_number 75 = .ok (.iload 7, 2) := by decide +kernel
theorem dX7_number_77 : decode cX7_number 77 = .ok (.bipush 10, 2) := by decide +kernel
theorem dX7_number_79 : decode cX7_number 79 = .ok (.idiv, 1) := by decide +kernel
theorem dX7_number_80 : decode cX7_number 80 = .ok (.istore 7, 2) := by decide +kernel
theorem dX7_number_82 : decode cX7_number 82 = .ok (.goto (-73), 3) := by decide +kernel
theorem dX7_number_85 : decode cX7_number 85 = .ok (.iload 6, 2) := by decide +kernel
theorem dX7_number_87 : decode cX7_number 87 = .ok (.ireturn, 1) := by decide +kernel
theorem dX7_lookBy_0 : decode cX7_lookBy 0 = .ok (.sipush 256, 3) := by decide +kernel
theorem dX7_lookBy_3 : decode cX7_lookBy 3 = .ok (.aload_n 0, 1) := by decide +kernel
theorem dX7_lookBy_4 : decode cX7_lookBy 4 = .ok (.iload_n 1, 1) := by decide +kernel
theorem dX7_lookBy_5 : decode cX7_lookBy 5 = .ok (.bipush 8, 2) := by decide +kernel
theorem dX7_lookBy_7 : decode cX7_lookBy 7 = .ok (.iload_n 2, 1) := by decide +kernel
theorem dX7_lookBy_8 : decode cX7_lookBy 8 = .ok (.iload_n 3, 1) := by decide +kernel
theorem dX7_lookBy_9 : decode cX7_lookBy 9 = .ok (.iload 4, 2) := by decide +kernel
theorem dX7_lookBy_11 : decode cX7_lookBy 11 = .ok (.invokevirtual 76, 3) := by decide +kernel
theorem dX7_lookBy_14 : decode cX7_lookBy 14 = .ok (.imul, 1) := by decide +kernel
theorem dX7_lookBy_15 : decode cX7_lookBy 15 = .ok (.bipush 16, 2) := by decide +kernel
theorem dX7_lookBy_17 : decode cX7_lookBy 17 = .ok (.aload_n 0, 1) := by decide +kernel
theorem dX7_lookBy_18 : decode cX7_lookBy 18 = .ok (.iload_n 1, 1) := by decide +kernel
theorem dX7_lookBy_19 : decode cX7_lookBy 19 = .ok (.iconst 4, 1) := by decide +kernel
theorem dX7_lookBy_20 : decode cX7_lookBy 20 = .ok (.iload_n 2, 1) := by decide +kernel
theorem dX7_lookBy_21 : decode cX7_lookBy 21 = .ok (.iload_n 3, 1) := by decide +kernel
theorem dX7_lookBy_22 : decode cX7_lookBy 22 = .ok (.iload 4, 2) := by decide +kernel
theorem dX7_lookBy_24 : decode cX7_lookBy 24 = .ok (.invokevirtual 76, 3) := by decide +kernel
theorem dX7_lookBy_27 : decode cX7_lookBy 27 = .ok (.imul, 1) := by decide +kernel
theorem dX7_lookBy_28 : decode cX7_lookBy 28 = .ok (.iadd, 1) := by decide +kernel
theorem dX7_lookBy_29 : decode cX7_lookBy 29 = .ok (.aload_n 0, 1) := by decide +kernel
theorem dX7_lookBy_30 : decode cX7_lookBy 30 = .ok (.iload_n 1, 1) := by decide +kernel
theorem dX7_lookBy_31 : decode cX7_lookBy 31 = .ok (.iconst 0, 1) := by decide +kernel
theorem dX7_lookBy_32 : decode cX7_lookBy 32 = .ok (.iload_n 2, 1) := by decide +kernel
theorem dX7_lookBy_33 : decode cX7_lookBy 33 = .ok (.iload_n 3, 1) := by decide +kernel
theorem dX7_lookBy_34 : decode cX7_lookBy 34 = .ok (.iload 4, 2) := by decide +kernel
theorem dX7_lookBy_36 : decode cX7_lookBy 36 = .ok (.invokevirtual 76, 3) := by decide +kernel
theorem dX7_lookBy_39 : decode cX7_lookBy 39 = .ok (.iadd, 1) := by decide +kernel
theorem dX7_lookBy_40 : decode cX7_lookBy 40 = .ok (.ireturn, 1) := by decide +kernel
theorem dX7_lookOf_0 : decode cX7_lookOf 0 = .ok (.aload_n 0, 1) := by decide +kernel
theorem dX7_lookOf_1 : decode cX7_lookOf 1 = .ok (.iload_n 1, 1) := by decide +kernel
theorem dX7_lookOf_2 : decode cX7_lookOf 2 = .ok (.aload_n 0, 1) := by decide +kernel
theorem dX7_lookOf_3 : decode cX7_lookOf 3 = .ok (.getfield 7, 3) := by decide +kernel
theorem dX7_lookOf_6 : decode cX7_lookOf 6 = .ok (.iconst 3, 1) := by decide +kernel
theorem dX7_lookOf_7 : decode cX7_lookOf 7 = .ok (.iaload, 1) := by decide +kernel
theorem dX7_lookOf_8 : decode cX7_lookOf 8 = .ok (.iconst (-1), 1) := by decide +kernel
theorem dX7_lookOf_9 : decode cX7_lookOf 9 = .ok (.iconst 0, 1) := by decide +kernel
theorem dX7_lookOf_10 : decode cX7_lookOf 10 = .ok (.invokevirtual 80, 3) := by decide +kernel
theorem dX7_lookOf_13 : decode cX7_lookOf 13 = .ok (.ireturn, 1) := by decide +kernel
theorem dX7_dark_0 : decode cX7_dark 0 = .ok (.aload_n 0, 1) := by decide +kernel
theorem dX7_dark_1 : decode cX7_dark 1 = .ok (.iload_n 1, 1) := by decide +kernel
theorem dX7_dark_2 : decode cX7_dark 2 = .ok (.invokevirtual 84, 3) := by decide +kernel
theorem dX7_dark_5 : decode cX7_dark 5 = .ok (.istore_n 2, 1) := by decide +kernel
theorem dX7_dark_6 : decode cX7_dark 6 = .ok (.bipush 45, 2) := by decide +kernel
theorem dX7_dark_8 : decode cX7_dark 8 = .ok (.iload_n 2, 1) := by decide +kernel
theorem dX7_dark_9 : decode cX7_dark 9 = .ok (.bipush 8, 2) := by decide +kernel
theorem dX7_dark_11 : decode cX7_dark 11 = .ok (.ishr, 1) := by decide +kernel
theorem dX7_dark_12 : decode cX7_dark 12 = .ok (.isub, 1) := by decide +kernel
theorem dX7_dark_13 : decode cX7_dark 13 = .ok (.iload_n 2, 1) := by decide +kernel
theorem dX7_dark_14 : decode cX7_dark 14 = .ok (.iconst 4, 1) := by decide +kernel
theorem dX7_dark_15 : decode cX7_dark 15 = .ok (.ishr, 1) := by decide +kernel
theorem dX7_dark_16 : decode cX7_dark 16 = .ok (.bipush 15, 2) := by decide +kernel
theorem dX7_dark_18 : decode cX7_dark 18 = .ok (.iand, 1) := by decide +kernel
theorem dX7_dark_19 : decode cX7_dark 19 = .ok (.isub, 1) := by decide +kernel
theorem dX7_dark_20 : decode cX7_dark 20 = .ok (.iload_n 2, 1) := by decide +kernel
theorem dX7_dark_21 : decode cX7_dark 21 = .ok (.bipush 15, 2) := by decide +kernel
theorem dX7_dark_23 : decode cX7_dark 23 = .ok (.iand, 1) := by decide +kernel
theorem dX7_dark_24 : decode cX7_dark 24 = .ok (.isub, 1) := by decide +kernel
theorem dX7_dark_25 : decode cX7_dark 25 = .ok (.ireturn, 1) := by decide +kernel
theorem dX7_looksOfAll_0 : decode cX7_looksOfAll 0 = .ok (.iconst 0, 1) := by decide +kernel
theorem dX7_looksOfAll_1 : decode cX7_looksOfAll 1 = .ok (.istore_n 1, 1) := by decide +kernel
theorem dX7_looksOfAll_2 : decode cX7_looksOfAll 2 = .ok (.iload_n 1, 1) := by decide +kernel
theorem dX7_looksOfAll_3 : decode cX7_looksOfAll 3 = .ok (.bipush 32, 2) := by decide +kernel
theorem dX7_looksOfAll_5 : decode cX7_looksOfAll 5 = .ok (.if_icmp .ge 20, 3) := by decide +kernel
theorem dX7_looksOfAll_8 : decode cX7_looksOfAll 8 = .ok (.aload_n 0, 1) := by decide +kernel
theorem dX7_looksOfAll_9 : decode cX7_looksOfAll 9 = .ok (.getfield 13, 3) := by decide +kernel
theorem dX7_looksOfAll_12 : decode cX7_looksOfAll 12 = .ok (.iload_n 1, 1) := by decide +kernel
theorem dX7_looksOfAll_13 : decode cX7_looksOfAll 13 = .ok (.aload_n 0, 1) := by decide +kernel
theorem dX7_looksOfAll_14 : decode cX7_looksOfAll 14 = .ok (.iload_n 1, 1) := by decide +kernel
theorem dX7_looksOfAll_15 : decode cX7_looksOfAll 15 = .ok (.invokevirtual 84, 3) := by decide +kernel
theorem dX7_looksOfAll_18 : decode cX7_looksOfAll 18 = .ok (.iastore, 1) := by decide +kernel
theorem dX7_looksOfAll_19 : decode cX7_looksOfAll 19 = .ok (.iinc 1 1, 3) := by decide +kernel
theorem dX7_looksOfAll_22 : decode cX7_looksOfAll 22 = .ok (.goto (-20), 3) := by decide +kernel
theorem dX7_looksOfAll_25 : decode cX7_looksOfAll 25 = .ok (.return_, 1) := by decide +kernel
theorem dX7_alike_0 : decode cX7_alike 0 = .ok (.iconst 0, 1) := by decide +kernel
theorem dX7_alike_1 : decode cX7_alike 1 = .ok (.istore_n 2, 1) := by decide +kernel
theorem dX7_alike_2 : decode cX7_alike 2 = .ok (.iconst 0, 1) := by decide +kernel
theorem dX7_alike_3 : decode cX7_alike 3 = .ok (.istore_n 3, 1) := by decide +kernel
theorem dX7_alike_4 : decode cX7_alike 4 = .ok (.iload_n 3, 1) := by decide +kernel
theorem dX7_alike_5 : decode cX7_alike 5 = .ok (.bipush 32, 2) := by decide +kernel
theorem dX7_alike_7 : decode cX7_alike 7 = .ok (.if_icmp .ge 30, 3) := by decide +kernel
theorem dX7_alike_10 : decode cX7_alike 10 = .ok (.iload_n 2, 1) := by decide +kernel
theorem dX7_alike_11 : decode cX7_alike 11 = .ok (.aload_n 0, 1) := by decide +kernel
theorem dX7_alike_12 : decode cX7_alike 12 = .ok (.iload_n 3, 1) := by decide +kernel
theorem dX7_alike_13 : decode cX7_alike 13 = .ok (.invokevirtual 84, 3) := by decide +kernel
theorem dX7_alike_16 : decode cX7_alike 16 = .ok (.aload_n 0, 1) := by decide +kernel
theorem dX7_alike_17 : decode cX7_alike 17 = .ok (.iload_n 1, 1) := by decide +kernel
theorem dX7_alike_18 : decode cX7_alike 18 = .ok (.invokevirtual 84, 3) := by decide +kernel
theorem dX7_alike_21 : decode cX7_alike 21 = .ok (.if_icmp .ne 7, 3) := by decide +kernel
theorem dX7_alike_24 : decode cX7_alike 24 = .ok (.iconst 1, 1) := by decide +kernel
theorem dX7_alike_25 : decode cX7_alike 25 = .ok (.goto 4, 3) := by decide +kernel
theorem dX7_alike_28 : decode cX7_alike 28 = .ok (.iconst 0, 1) := by decide +kernel
theorem dX7_alike_29 : decode cX7_alike 29 = .ok (.iadd, 1) := by decide +kernel
theorem dX7_alike_30 : decode cX7_alike 30 = .ok (.istore_n 2, 1) := by decide +kernel
theorem dX7_alike_31 : decode cX7_alike 31 = .ok (.iinc 3 1, 3) := by decide +kernel
theorem dX7_alike_34 : decode cX7_alike 34 = .ok (.goto (-30), 3) := by decide +kernel
theorem dX7_alike_37 : decode cX7_alike 37 = .ok (.iload_n 2, 1) := by decide +kernel
theorem dX7_alike_38 : decode cX7_alike 38 = .ok (.ireturn, 1) := by decide +kernel
theorem dX7_placesOf_0 : decode cX7_placesOf 0 = .ok (.iconst 0, 1) := by decide +kernel
theorem dX7_placesOf_1 : decode cX7_placesOf 1 = .ok (.istore_n 2, 1) := by decide +kernel
theorem dX7_placesOf_2 : decode cX7_placesOf 2 = .ok (.iconst 0, 1) := by decide +kernel
theorem dX7_placesOf_3 : decode cX7_placesOf 3 = .ok (.istore_n 3, 1) := by decide +kernel
theorem dX7_placesOf_4 : decode cX7_placesOf 4 = .ok (.iload_n 3, 1) := by decide +kernel
theorem dX7_placesOf_5 : decode cX7_placesOf 5 = .ok (.bipush 48, 2) := by decide +kernel
theorem dX7_placesOf_7 : decode cX7_placesOf 7 = .ok (.if_icmp .ge 34, 3) := by decide +kernel
theorem dX7_placesOf_10 : decode cX7_placesOf 10 = .ok (.iload_n 2, 1) := by decide +kernel
theorem dX7_placesOf_11 : decode cX7_placesOf 11 = .ok (.aload_n 0, 1) := by decide +kernel
theorem dX7_placesOf_12 : decode cX7_placesOf 12 = .ok (.iload_n 3, 1) := by decide +kernel
theorem dX7_placesOf_13 : decode cX7_placesOf 13 = .ok (.invokevirtual 88, 3) := by decide +kernel
theorem dX7_placesOf_16 : decode cX7_placesOf 16 = .ok (.ifCond .eq 16, 3) := by decide +kernel
theorem dX7_placesOf_19 : decode cX7_placesOf 19 = .ok (.aload_n 0, 1) := by decide +kernel
theorem dX7_placesOf_20 : decode cX7_placesOf 20 = .ok (.iload_n 3, 1) := by decide +kernel
theorem dX7_placesOf_21 : decode cX7_placesOf 21 = .ok (.invokevirtual 92, 3) := by decide +kernel
theorem dX7_placesOf_24 : decode cX7_placesOf 24 = .ok (.iload_n 1, 1) := by decide +kernel
theorem dX7_placesOf_25 : decode cX7_placesOf 25 = .ok (.if_icmp .ne 7, 3) := by decide +kernel
theorem dX7_placesOf_28 : decode cX7_placesOf 28 = .ok (.iconst 1, 1) := by decide +kernel
theorem dX7_placesOf_29 : decode cX7_placesOf 29 = .ok (.goto 4, 3) := by decide +kernel
theorem dX7_placesOf_32 : decode cX7_placesOf 32 = .ok (.iconst 0, 1) := by decide +kernel
theorem dX7_placesOf_33 : decode cX7_placesOf 33 = .ok (.iadd, 1) := by decide +kernel
theorem dX7_placesOf_34 : decode cX7_placesOf 34 = .ok (.istore_n 2, 1) := by decide +kernel
theorem dX7_placesOf_35 : decode cX7_placesOf 35 = .ok (.iinc 3 1, 3) := by decide +kernel
theorem dX7_placesOf_38 : decode cX7_placesOf 38 = .ok (.goto (-34), 3) := by decide +kernel
theorem dX7_placesOf_41 : decode cX7_placesOf 41 = .ok (.iload_n 2, 1) := by decide +kernel
theorem dX7_placesOf_42 : decode cX7_placesOf 42 = .ok (.ireturn, 1) := by decide +kernel
theorem dX7_placesWith_0 : decode cX7_placesWith 0 = .ok (.iconst 0, 1) := by decide +kernel
theorem dX7_placesWith_1 : decode cX7_placesWith 1 = .ok (.istore_n 2, 1) := by decide +kernel
theorem dX7_placesWith_2 : decode cX7_placesWith 2 = .ok (.iconst 0, 1) := by decide +kernel
theorem dX7_placesWith_3 : decode cX7_placesWith 3 = .ok (.istore_n 3, 1) := by decide +kernel
theorem dX7_placesWith_4 : decode cX7_placesWith 4 = .ok (.iload_n 3, 1) := by decide +kernel
theorem dX7_placesWith_5 : decode cX7_placesWith 5 = .ok (.bipush 48, 2) := by decide +kernel
theorem dX7_placesWith_7 : decode cX7_placesWith 7 = .ok (.if_icmp .ge 37, 3) := by decide +kernel
theorem dX7_placesWith_10 : decode cX7_placesWith 10 = .ok (.iload_n 2, 1) := by decide +kernel
theorem dX7_placesWith_11 : decode cX7_placesWith 11 = .ok (.aload_n 0, 1) := by decide +kernel
theorem dX7_placesWith_12 : decode cX7_placesWith 12 = .ok (.iload_n 3, 1) := by decide +kernel
theorem dX7_placesWith_13 : decode cX7_placesWith 13 = .ok (.invokevirtual 88, 3) := by decide +kernel
theorem dX7_placesWith_16 : decode cX7_placesWith 16 = .ok (.ifCond .eq 19, 3) := by decide +kernel
theorem dX7_placesWith_19 : decode cX7_placesWith 19 = .ok (.aload_n 0, 1) := by decide +kernel
theorem dX7_placesWith_20 : decode cX7_placesWith 20 = .ok (.iload_n 3, 1) := by decide +kernel
theorem dX7_placesWith_21 : decode cX7_placesWith 21 = .ok (.invokevirtual 92, 3) := by decide +kernel
theorem dX7_placesWith_24 : decode cX7_placesWith 24 = .ok (.iload_n 1, 1) := by decide +kernel
theorem dX7_placesWith_25 : decode cX7_placesWith 25 = .ok (.invokestatic 69, 3) := by decide +kernel
theorem dX7_placesWith_28 : decode cX7_placesWith 28 = .ok (.ifCond .eq 7, 3) := by decide +kernel
theorem dX7_placesWith_31 : decode cX7_placesWith 31 = .ok (.iconst 1, 1) := by decide +kernel
theorem dX7_placesWith_32 : decode cX7_placesWith 32 = .ok (.goto 4, 3) := by decide +kernel
theorem dX7_placesWith_35 : decode cX7_placesWith 35 = .ok (.iconst 0, 1) := by decide +kernel
theorem dX7_placesWith_36 : decode cX7_placesWith 36 = .ok (.iadd, 1) := by decide +kernel
theorem dX7_placesWith_37 : decode cX7_placesWith 37 = .ok (.istore_n 2, 1) := by decide +kernel
theorem dX7_placesWith_38 : decode cX7_placesWith 38 = .ok (.iinc 3 1, 3) := by decide +kernel
theorem dX7_placesWith_41 : decode cX7_placesWith 41 = .ok (.goto (-37), 3) := by decide +kernel
theorem dX7_placesWith_44 : decode cX7_placesWith 44 = .ok (.iload_n 2, 1) := by decide +kernel
theorem dX7_placesWith_45 : decode cX7_placesWith 45 = .ok (.ireturn, 1) := by decide +kernel
theorem dX7_drawn_0 : decode cX7_drawn 0 = .ok (.iconst 0, 1) := by decide +kernel
theorem dX7_drawn_1 : decode cX7_drawn 1 = .ok (.istore_n 1, 1) := by decide +kernel
theorem dX7_drawn_2 : decode cX7_drawn 2 = .ok (.iconst 0, 1) := by decide +kernel
theorem dX7_drawn_3 : decode cX7_drawn 3 = .ok (.istore_n 2, 1) := by decide +kernel
theorem dX7_drawn_4 : decode cX7_drawn 4 = .ok (.iload_n 2, 1) := by decide +kernel
theorem dX7_drawn_5 : decode cX7_drawn 5 = .ok (.bipush 48, 2) := by decide +kernel
theorem dX7_drawn_7 : decode cX7_drawn 7 = .ok (.if_icmp .ge 29, 3) := by decide +kernel
theorem dX7_drawn_10 : decode cX7_drawn 10 = .ok (.iload_n 1, 1) := by decide +kernel
theorem dX7_drawn_11 : decode cX7_drawn 11 = .ok (.aload_n 0, 1) := by decide +kernel
theorem dX7_drawn_12 : decode cX7_drawn 12 = .ok (.iload_n 2, 1) := by decide +kernel
theorem dX7_drawn_13 : decode cX7_drawn 13 = .ok (.invokevirtual 88, 3) := by decide +kernel
theorem dX7_drawn_16 : decode cX7_drawn 16 = .ok (.ifCond .eq 11, 3) := by decide +kernel
theorem dX7_drawn_19 : decode cX7_drawn 19 = .ok (.aload_n 0, 1) := by decide +kernel
theorem dX7_drawn_20 : decode cX7_drawn 20 = .ok (.iload_n 2, 1) := by decide +kernel
theorem dX7_drawn_21 : decode cX7_drawn 21 = .ok (.invokevirtual 92, 3) := by decide +kernel
theorem dX7_drawn_24 : decode cX7_drawn 24 = .ok (.goto 4, 3) := by decide +kernel
theorem dX7_drawn_27 : decode cX7_drawn 27 = .ok (.iconst 0, 1) := by decide +kernel
theorem dX7_drawn_28 : decode cX7_drawn 28 = .ok (.ior, 1) := by decide +kernel
theorem dX7_drawn_29 : decode cX7_drawn 29 = .ok (.istore_n 1, 1) := by decide +kernel
theorem dX7_drawn_30 : decode cX7_drawn 30 = .ok (.iinc 2 1, 3) := by decide +kernel
theorem dX7_drawn_33 : decode cX7_drawn 33 = .ok (.goto (-29), 3) := by decide +kernel
theorem dX7_drawn_36 : decode cX7_drawn 36 = .ok (.iload_n 1, 1) := by decide +kernel
theorem dX7_drawn_37 : decode cX7_drawn 37 = .ok (.ireturn, 1) := by decide +kernel
theorem dX7_unlike_0 : decode cX7_unlike 0 = .ok (.iconst 0, 1) := by decide +kernel
theorem dX7_unlike_1 : decode cX7_unlike 1 = .ok (.istore_n 1, 1) := by decide +kernel
theorem dX7_unlike_2 : decode cX7_unlike 2 = .ok (.iconst 0, 1) := by decide +kernel
theorem dX7_unlike_3 : decode cX7_unlike 3 = .ok (.istore_n 2, 1) := by decide +kernel
theorem dX7_unlike_4 : decode cX7_unlike 4 = .ok (.iload_n 2, 1) := by decide +kernel
theorem dX7_unlike_5 : decode cX7_unlike 5 = .ok (.bipush 48, 2) := by decide +kernel
theorem dX7_unlike_7 : decode cX7_unlike 7 = .ok (.if_icmp .ge 85, 3) := by decide +kernel
theorem dX7_unlike_10 : decode cX7_unlike 10 = .ok (.aload_n 0, 1) := by decide +kernel
theorem dX7_unlike_11 : decode cX7_unlike 11 = .ok (.iload_n 2, 1) := by decide +kernel
theorem dX7_unlike_12 : decode cX7_unlike 12 = .ok (.invokevirtual 88, 3) := by decide +kernel
theorem dX7_unlike_15 : decode cX7_unlike 15 = .ok (.istore_n 3, 1) := by decide +kernel
theorem dX7_unlike_16 : decode cX7_unlike 16 = .ok (.iconst 0, 1) := by decide +kernel
theorem dX7_unlike_17 : decode cX7_unlike 17 = .ok (.istore 4, 2) := by decide +kernel
theorem dX7_unlike_19 : decode cX7_unlike 19 = .ok (.iload 4, 2) := by decide +kernel
theorem dX7_unlike_21 : decode cX7_unlike 21 = .ok (.iload_n 2, 1) := by decide +kernel
theorem dX7_unlike_22 : decode cX7_unlike 22 = .ok (.if_icmp .ge 52, 3) := by decide +kernel
theorem dX7_unlike_25 : decode cX7_unlike 25 = .ok (.iload_n 3, 1) := by decide +kernel
theorem dX7_unlike_26 : decode cX7_unlike 26 = .ok (.ifCond .eq 40, 3) := by decide +kernel
theorem dX7_unlike_29 : decode cX7_unlike 29 = .ok (.aload_n 0, 1) := by decide +kernel
theorem dX7_unlike_30 : decode cX7_unlike 30 = .ok (.iload 4, 2) := by decide +kernel
theorem dX7_unlike_32 : decode cX7_unlike 32 = .ok (.invokevirtual 88, 3) := by decide +kernel
theorem dX7_unlike_35 : decode cX7_unlike 35 = .ok (.ifCond .eq 27, 3) := by decide +kernel
theorem dX7_unlike_38 : decode cX7_unlike 38 = .ok (.aload_n 0, 1) := by decide +kernel
theorem dX7_unlike_39 : decode cX7_unlike 39 = .ok (.getfield 13, 3) := by decide +kernel
theorem dX7_unlike_42 : decode cX7_unlike 42 = .ok (.aload_n 0, 1) := by decide +kernel
theorem dX7_unlike_43 : decode cX7_unlike 43 = .ok (.iload 4, 2) := by decide +kernel
theorem dX7_unlike_45 : decode cX7_unlike 45 = .ok (.invokevirtual 92, 3) := by decide +kernel
theorem dX7_unlike_48 : decode cX7_unlike 48 = .ok (.iaload, 1) := by decide +kernel
theorem dX7_unlike_49 : decode cX7_unlike 49 = .ok (.aload_n 0, 1) := by decide +kernel
theorem dX7_unlike_50 : decode cX7_unlike 50 = .ok (.getfield 13, 3) := by decide +kernel
theorem dX7_unlike_53 : decode cX7_unlike 53 = .ok (.aload_n 0, 1) := by decide +kernel
theorem dX7_unlike_54 : decode cX7_unlike 54 = .ok (.iload_n 2, 1) := by decide +kernel
theorem dX7_unlike_55 : decode cX7_unlike 55 = .ok (.invokevirtual 92, 3) := by decide +kernel
theorem dX7_unlike_58 : decode cX7_unlike 58 = .ok (.iaload, 1) := by decide +kernel
theorem dX7_unlike_59 : decode cX7_unlike 59 = .ok (.if_icmp .eq 7, 3) := by decide +kernel
theorem dX7_unlike_62 : decode cX7_unlike 62 = .ok (.iconst 1, 1) := by decide +kernel
theorem dX7_unlike_63 : decode cX7_unlike 63 = .ok (.goto 4, 3) := by decide +kernel
theorem dX7_unlike_66 : decode cX7_unlike 66 = .ok (.iconst 0, 1) := by decide +kernel
theorem dX7_unlike_67 : decode cX7_unlike 67 = .ok (.istore_n 3, 1) := by decide +kernel
theorem dX7_unlike_68 : decode cX7_unlike 68 = .ok (.iinc 4 1, 3) := by decide +kernel
theorem dX7_unlike_71 : decode cX7_unlike 71 = .ok (.goto (-52), 3) := by decide +kernel
theorem dX7_unlike_74 : decode cX7_unlike 74 = .ok (.iload_n 1, 1) := by decide +kernel
theorem dX7_unlike_75 : decode cX7_unlike 75 = .ok (.iload_n 3, 1) := by decide +kernel
theorem dX7_unlike_76 : decode cX7_unlike 76 = .ok (.ifCond .eq 7, 3) := by decide +kernel
theorem dX7_unlike_79 : decode cX7_unlike 79 = .ok (.iconst 1, 1) := by decide +kernel
theorem dX7_unlike_80 : decode cX7_unlike 80 = .ok (.goto 4, 3) := by decide +kernel
theorem dX7_unlike_83 : decode cX7_unlike 83 = .ok (.iconst 0, 1) := by decide +kernel
theorem dX7_unlike_84 : decode cX7_unlike 84 = .ok (.iadd, 1) := by decide +kernel
theorem dX7_unlike_85 : decode cX7_unlike 85 = .ok (.istore_n 1, 1) := by decide +kernel
theorem dX7_unlike_86 : decode cX7_unlike 86 = .ok (.iinc 2 1, 3) := by decide +kernel
theorem dX7_unlike_89 : decode cX7_unlike 89 = .ok (.goto (-85), 3) := by decide +kernel
theorem dX7_unlike_92 : decode cX7_unlike 92 = .ok (.iload_n 1, 1) := by decide +kernel
theorem dX7_unlike_93 : decode cX7_unlike 93 = .ok (.ireturn, 1) := by decide +kernel
theorem dX7_canLook_0 : decode cX7_canLook 0 = .ok (.iconst 0, 1) := by decide +kernel
theorem dX7_canLook_1 : decode cX7_canLook 1 = .ok (.istore_n 3, 1) := by decide +kernel
theorem dX7_canLook_2 : decode cX7_canLook 2 = .ok (.iconst 0, 1) := by decide +kernel
theorem dX7_canLook_3 : decode cX7_canLook 3 = .ok (.istore 4, 2) := by decide +kernel
theorem dX7_canLook_5 : decode cX7_canLook 5 = .ok (.iload 4, 2) := by decide +kernel
theorem dX7_canLook_7 : decode cX7_canLook 7 = .ok (.bipush 32, 2) := by decide +kernel
theorem dX7_canLook_9 : decode cX7_canLook 9 = .ok (.if_icmp .ge 39, 3) := by decide +kernel
theorem dX7_canLook_12 : decode cX7_canLook 12 = .ok (.iload_n 3, 1) := by decide +kernel
theorem dX7_canLook_13 : decode cX7_canLook 13 = .ok (.ifCond .ne 23, 3) := by decide +kernel
theorem dX7_canLook_16 : decode cX7_canLook 16 = .ok (.iload 4, 2) := by decide +kernel
theorem dX7_canLook_18 : decode cX7_canLook 18 = .ok (.iload_n 1, 1) := by decide +kernel
theorem dX7_canLook_19 : decode cX7_canLook 19 = .ok (.iconst (-1), 1) := by decide +kernel
theorem dX7_canLook_20 : decode cX7_canLook 20 = .ok (.ixor, 1) := by decide +kernel
theorem dX7_canLook_21 : decode cX7_canLook 21 = .ok (.iand, 1) := by decide +kernel
theorem dX7_canLook_22 : decode cX7_canLook 22 = .ok (.ifCond .ne 18, 3) := by decide +kernel
theorem dX7_canLook_25 : decode cX7_canLook 25 = .ok (.aload_n 0, 1) := by decide +kernel
theorem dX7_canLook_26 : decode cX7_canLook 26 = .ok (.getfield 13, 3) := by decide +kernel
theorem dX7_canLook_29 : decode cX7_canLook 29 = .ok (.iload 4, 2) := by decide +kernel
theorem dX7_canLook_31 : decode cX7_canLook 31 = .ok (.iaload, 1) := by decide +kernel
theorem dX7_canLook_32 : decode cX7_canLook 32 = .ok (.iload_n 2, 1) := by decide +kernel
theorem dX7_canLook_33 : decode cX7_canLook 33 = .ok (.if_icmp .ne 7, 3) := by decide +kernel
theorem dX7_canLook_36 : decode cX7_canLook 36 = .ok (.iconst 1, 1) := by decide +kernel
theorem dX7_canLook_37 : decode cX7_canLook 37 = .ok (.goto 4, 3) := by decide +kernel
theorem dX7_canLook_40 : decode cX7_canLook 40 = .ok (.iconst 0, 1) := by decide +kernel
theorem dX7_canLook_41 : decode cX7_canLook 41 = .ok (.istore_n 3, 1) := by decide +kernel
theorem dX7_canLook_42 : decode cX7_canLook 42 = .ok (.iinc 4 1, 3) := by decide +kernel
theorem dX7_canLook_45 : decode cX7_canLook 45 = .ok (.goto (-40), 3) := by decide +kernel
theorem dX7_canLook_48 : decode cX7_canLook 48 = .ok (.iload_n 3, 1) := by decide +kernel
theorem dX7_canLook_49 : decode cX7_canLook 49 = .ok (.ireturn, 1) := by decide +kernel
theorem dX7_canAll_0 : decode cX7_canAll 0 = .ok (.iconst 1, 1) := by decide +kernel
theorem dX7_canAll_1 : decode cX7_canAll 1 = .ok (.istore_n 2, 1) := by decide +kernel
theorem dX7_canAll_2 : decode cX7_canAll 2 = .ok (.iconst 0, 1) := by decide +kernel
theorem dX7_canAll_3 : decode cX7_canAll 3 = .ok (.istore_n 3, 1) := by decide +kernel
theorem dX7_canAll_4 : decode cX7_canAll 4 = .ok (.iload_n 3, 1) := by decide +kernel
theorem dX7_canAll_5 : decode cX7_canAll 5 = .ok (.bipush 48, 2) := by decide +kernel
theorem dX7_canAll_7 : decode cX7_canAll 7 = .ok (.if_icmp .ge 45, 3) := by decide +kernel
theorem dX7_canAll_10 : decode cX7_canAll 10 = .ok (.iload_n 2, 1) := by decide +kernel
theorem dX7_canAll_11 : decode cX7_canAll 11 = .ok (.ifCond .eq 41, 3) := by decide +kernel
theorem dX7_canAll_14 : decode cX7_canAll 14 = .ok (.aload_n 0, 1) := by decide +kernel
theorem dX7_canAll_15 : decode cX7_canAll 15 = .ok (.iload_n 3, 1) := by decide +kernel
theorem dX7_canAll_16 : decode cX7_canAll 16 = .ok (.invokevirtual 88, 3) := by decide +kernel
theorem dX7_canAll_19 : decode cX7_canAll 19 = .ok (.ifCond .eq 21, 3) := by decide +kernel
theorem dX7_canAll_22 : decode cX7_canAll 22 = .ok (.aload_n 0, 1) := by decide +kernel
theorem dX7_canAll_23 : decode cX7_canAll 23 = .ok (.iload_n 1, 1) := by decide +kernel
theorem dX7_canAll_24 : decode cX7_canAll 24 = .ok (.aload_n 0, 1) := by decide +kernel
theorem dX7_canAll_25 : decode cX7_canAll 25 = .ok (.getfield 13, 3) := by decide +kernel
theorem dX7_canAll_28 : decode cX7_canAll 28 = .ok (.aload_n 0, 1) := by decide +kernel
theorem dX7_canAll_29 : decode cX7_canAll 29 = .ok (.iload_n 3, 1) := by decide +kernel
theorem dX7_canAll_30 : decode cX7_canAll 30 = .ok (.invokevirtual 92, 3) := by decide +kernel
theorem dX7_canAll_33 : decode cX7_canAll 33 = .ok (.iaload, 1) := by decide +kernel
theorem dX7_canAll_34 : decode cX7_canAll 34 = .ok (.invokevirtual 95, 3) := by decide +kernel
theorem dX7_canAll_37 : decode cX7_canAll 37 = .ok (.ifCond .eq 7, 3) := by decide +kernel
theorem dX7_canAll_40 : decode cX7_canAll 40 = .ok (.iconst 1, 1) := by decide +kernel
theorem dX7_canAll_41 : decode cX7_canAll 41 = .ok (.goto 4, 3) := by decide +kernel
theorem dX7_canAll_44 : decode cX7_canAll 44 = .ok (.iconst 0, 1) := by decide +kernel
theorem dX7_canAll_45 : decode cX7_canAll 45 = .ok (.istore_n 2, 1) := by decide +kernel
theorem dX7_canAll_46 : decode cX7_canAll 46 = .ok (.iinc 3 1, 3) := by decide +kernel
theorem dX7_canAll_49 : decode cX7_canAll 49 = .ok (.goto (-45), 3) := by decide +kernel
theorem dX7_canAll_52 : decode cX7_canAll 52 = .ok (.iload_n 2, 1) := by decide +kernel
theorem dX7_canAll_53 : decode cX7_canAll 53 = .ok (.ireturn, 1) := by decide +kernel
theorem dX7_few_0 : decode cX7_few 0 = .ok (.iconst 0, 1) := by decide +kernel
theorem dX7_few_1 : decode cX7_few 1 = .ok (.istore_n 1, 1) := by decide +kernel
theorem dX7_few_2 : decode cX7_few 2 = .ok (.iload_n 1, 1) := by decide +kernel
theorem dX7_few_3 : decode cX7_few 3 = .ok (.iconst 5, 1) := by decide +kernel
theorem dX7_few_4 : decode cX7_few 4 = .ok (.if_icmp .ge 41, 3) := by decide +kernel
theorem dX7_few_7 : decode cX7_few 7 = .ok (.iconst 0, 1) := by decide +kernel
theorem dX7_few_8 : decode cX7_few 8 = .ok (.istore_n 2, 1) := by decide +kernel
theorem dX7_few_9 : decode cX7_few 9 = .ok (.iload_n 2, 1) := by decide +kernel
theorem dX7_few_10 : decode cX7_few 10 = .ok (.bipush 32, 2) := by decide +kernel
theorem dX7_few_12 : decode cX7_few 12 = .ok (.if_icmp .ge 27, 3) := by decide +kernel
theorem dX7_few_15 : decode cX7_few 15 = .ok (.iload_n 2, 1) := by decide +kernel
theorem dX7_few_16 : decode cX7_few 16 = .ok (.invokestatic 98, 3) := by decide +kernel
theorem dX7_few_19 : decode cX7_few 19 = .ok (.iload_n 1, 1) := by decide +kernel
theorem dX7_few_20 : decode cX7_few 20 = .ok (.if_icmp .ne 13, 3) := by decide +kernel
theorem dX7_few_23 : decode cX7_few 23 = .ok (.aload_n 0, 1) := by decide +kernel
theorem dX7_few_24 : decode cX7_few 24 = .ok (.iload_n 2, 1) := by decide +kernel
theorem dX7_few_25 : decode cX7_few 25 = .ok (.invokevirtual 101, 3) := by decide +kernel
theorem dX7_few_28 : decode cX7_few 28 = .ok (.ifCond .eq 5, 3) := by decide +kernel
theorem dX7_few_31 : decode cX7_few 31 = .ok (.iload_n 2, 1) := by decide +kernel
theorem dX7_few_32 : decode cX7_few 32 = .ok (.ireturn, 1) := by decide +kernel
theorem dX7_few_33 : decode cX7_few 33 = .ok (.iinc 2 1, 3) := by decide +kernel
theorem dX7_few_36 : decode cX7_few 36 = .ok (.goto (-27), 3) := by decide +kernel
theorem dX7_few_39 : decode cX7_few 39 = .ok (.iinc 1 1, 3) := by decide +kernel
theorem dX7_few_42 : decode cX7_few 42 = .ok (.goto (-40), 3) := by decide +kernel
theorem dX7_few_45 : decode cX7_few 45 = .ok (.bipush 31, 2) := by decide +kernel
theorem dX7_few_47 : decode cX7_few 47 = .ok (.ireturn, 1) := by decide +kernel
theorem dX7_beside_0 : decode cX7_beside 0 = .ok (.iload_n 1, 1) := by decide +kernel
theorem dX7_beside_1 : decode cX7_beside 1 = .ok (.bipush 8, 2) := by decide +kernel
theorem dX7_beside_3 : decode cX7_beside 3 = .ok (.irem, 1) := by decide +kernel
theorem dX7_beside_4 : decode cX7_beside 4 = .ok (.iload_n 2, 1) := by decide +kernel
theorem dX7_beside_5 : decode cX7_beside 5 = .ok (.iconst 1, 1) := by decide +kernel
theorem dX7_beside_6 : decode cX7_beside 6 = .ok (.if_icmp .ne 7, 3) := by decide +kernel
theorem dX7_beside_9 : decode cX7_beside 9 = .ok (.iconst (-1), 1) := by decide +kernel
theorem dX7_beside_10 : decode cX7_beside 10 = .ok (.goto 13, 3) := by decide +kernel
theorem dX7_beside_13 : decode cX7_beside 13 = .ok (.iload_n 2, 1) := by decide +kernel
theorem dX7_beside_14 : decode cX7_beside 14 = .ok (.iconst 2, 1) := by decide +kernel
theorem dX7_beside_15 : decode cX7_beside 15 = .ok (.if_icmp .ne 7, 3) := by decide +kernel
theorem dX7_beside_18 : decode cX7_beside 18 = .ok (.iconst 1, 1) := by decide +kernel
theorem dX7_beside_19 : decode cX7_beside 19 = .ok (.goto 4, 3) := by decide +kernel
theorem dX7_beside_22 : decode cX7_beside 22 = .ok (.iconst 0, 1) := by decide +kernel
theorem dX7_beside_23 : decode cX7_beside 23 = .ok (.iadd, 1) := by decide +kernel
theorem dX7_beside_24 : decode cX7_beside 24 = .ok (.istore_n 3, 1) := by decide +kernel
theorem dX7_beside_25 : decode cX7_beside 25 = .ok (.iload_n 1, 1) := by decide +kernel
theorem dX7_beside_26 : decode cX7_beside 26 = .ok (.bipush 8, 2) := by decide +kernel
theorem dX7_beside_28 : decode cX7_beside 28 = .ok (.idiv, 1) := by decide +kernel
theorem dX7_beside_29 : decode cX7_beside 29 = .ok (.iload_n 2, 1) := by decide +kernel
theorem dX7_beside_30 : decode cX7_beside 30 = .ok (.ifCond .ne 7, 3) := by decide +kernel
theorem dX7_beside_33 : decode cX7_beside 33 = .ok (.iconst (-1), 1) := by decide +kernel
theorem dX7_beside_34 : decode cX7_beside 34 = .ok (.goto 13, 3) := by decide +kernel
theorem dX7_beside_37 : decode cX7_beside 37 = .ok (.iload_n 2, 1) := by decide +kernel
theorem dX7_beside_38 : decode cX7_beside 38 = .ok (.iconst 3, 1) := by decide +kernel
theorem dX7_beside_39 : decode cX7_beside 39 = .ok (.if_icmp .ne 7, 3) := by decide +kernel
theorem dX7_beside_42 : decode cX7_beside 42 = .ok (.iconst 1, 1) := by decide +kernel
theorem dX7_beside_43 : decode cX7_beside 43 = .ok (.goto 4, 3) := by decide +kernel
theorem dX7_beside_46 : decode cX7_beside 46 = .ok (.iconst 0, 1) := by decide +kernel
theorem dX7_beside_47 : decode cX7_beside 47 = .ok (.iadd, 1) := by decide +kernel
theorem dX7_beside_48 : decode cX7_beside 48 = .ok (.istore 4, 2) := by decide +kernel
theorem dX7_beside_50 : decode cX7_beside 50 = .ok (.aload_n 0, 1) := by decide +kernel
theorem dX7_beside_51 : decode cX7_beside 51 = .ok (.iload_n 3, 1) := by decide +kernel
theorem dX7_beside_52 : decode cX7_beside 52 = .ok (.iload 4, 2) := by decide +kernel
theorem dX7_beside_54 : decode cX7_beside 54 = .ok (.invokevirtual 65, 3) := by decide +kernel
theorem dX7_beside_57 : decode cX7_beside 57 = .ok (.ifCond .eq 13, 3) := by decide +kernel
theorem dX7_beside_60 : decode cX7_beside 60 = .ok (.bipush 8, 2) := by decide +kernel
theorem dX7_beside_62 : decode cX7_beside 62 = .ok (.iload 4, 2) := by decide +kernel
theorem dX7_beside_64 : decode cX7_beside 64 = .ok (.imul, 1) := by decide +kernel
theorem dX7_beside_65 : decode cX7_beside 65 = .ok (.iload_n 3, 1) := by decide +kernel
theorem dX7_beside_66 : decode cX7_beside 66 = .ok (.iadd, 1) := by decide +kernel
theorem dX7_beside_67 : decode cX7_beside 67 = .ok (.goto 4, 3) := by decide +kernel
theorem dX7_beside_70 : decode cX7_beside 70 = .ok (.iconst (-1), 1) := by decide +kernel
theorem dX7_beside_71 : decode cX7_beside 71 = .ok (.ireturn, 1) := by decide +kernel
theorem dX7_leastBeside_0 : decode cX7_leastBeside 0 = .ok (.aload_n 0, 1) := by decide +kernel
theorem dX7_leastBeside_1 : decode cX7_leastBeside 1 = .ok (.getfield 16, 3) := by decide +kernel
theorem dX7_leastBeside_4 : decode cX7_leastBeside 4 = .ok (.iload_n 1, 1) := by decide +kernel
theorem dX7_leastBeside_5 : decode cX7_leastBeside 5 = .ok (.iaload, 1) := by decide +kernel
theorem dX7_leastBeside_6 : decode cX7_leastBeside 6 = .ok (.istore_n 2, 1) := by decide +kernel
theorem dX7_leastBeside_7 : decode cX7_leastBeside 7 = .ok (.iconst 0, 1) := by decide +kernel
theorem dX7_leastBeside_8 : decode cX7_leastBeside 8 = .ok (.istore_n 3, 1) := by decide +kernel
theorem dX7_leastBeside_9 : decode cX7_leastBeside 9 = .ok (.iload_n 3, 1) := by decide +kernel
theorem dX7_leastBeside_10 : decode cX7_leastBeside 10 = .ok (.iconst 4, 1) := by decide +kernel
theorem dX7_leastBeside_11 : decode cX7_leastBeside 11 = .ok (.if_icmp .ge 59, 3) := by decide +kernel
theorem dX7_leastBeside_14 : decode cX7_leastBeside 14 = .ok (.aload_n 0, 1) := by decide +kernel
theorem dX7_leastBeside_15 : decode cX7_leastBeside 15 = .ok (.iload_n 1, 1) := by decide +kernel
theorem dX7_leastBeside_16 : decode cX7_leastBeside 16 = .ok (.iload_n 3, 1) := by decide +kernel
theorem dX7_leastBeside_17 : decode cX7_leastBeside 17 = .ok (.invokevirtual 104, 3) := by decide +kernel
theorem dX7_leastBeside_20 : decode cX7_leastBeside 20 = .ok (.istore 4, 2) := by decide +kernel
theorem dX7_leastBeside_22 : decode cX7_leastBeside 22 = .ok (.iload 4, 2) := by decide +kernel
theorem dX7_leastBeside_24 : decode cX7_leastBeside 24 = .ok (.ifCond .lt 38, 3) := by decide +kernel
theorem dX7_leastBeside_27 : decode cX7_leastBeside 27 = .ok (.aload_n 0, 1) := by decide +kernel
theorem dX7_leastBeside_28 : decode cX7_leastBeside 28 = .ok (.iload 4, 2) := by decide +kernel
theorem dX7_leastBeside_30 : decode cX7_leastBeside 30 = .ok (.invokevirtual 92, 3) := by decide +kernel
theorem dX7_leastBeside_33 : decode cX7_leastBeside 33 = .ok (.aload_n 0, 1) := by decide +kernel
theorem dX7_leastBeside_34 : decode cX7_leastBeside 34 = .ok (.iload_n 1, 1) := by decide +kernel
theorem dX7_leastBeside_35 : decode cX7_leastBeside 35 = .ok (.invokevirtual 92, 3) := by decide +kernel
theorem dX7_leastBeside_38 : decode cX7_leastBeside 38 = .ok (.if_icmp .ne 24, 3) := by decide +kernel
theorem dX7_leastBeside_41 : decode cX7_leastBeside 41 = .ok (.aload_n 0, 1) := by decide +kernel
theorem dX7_leastBeside_42 : decode cX7_leastBeside 42 = .ok (.getfield 16, 3) := by decide +kernel
theorem dX7_leastBeside_45 : decode cX7_leastBeside 45 = .ok (.iload 4, 2) := by decide +kernel
theorem dX7_leastBeside_47 : decode cX7_leastBeside 47 = .ok (.iaload, 1) := by decide +kernel
theorem dX7_leastBeside_48 : decode cX7_leastBeside 48 = .ok (.iload_n 2, 1) := by decide +kernel
theorem dX7_leastBeside_49 : decode cX7_leastBeside 49 = .ok (.if_icmp .ge 13, 3) := by decide +kernel
theorem dX7_leastBeside_52 : decode cX7_leastBeside 52 = .ok (.aload_n 0, 1) := by decide +kernel
theorem dX7_leastBeside_53 : decode cX7_leastBeside 53 = .ok (.getfield 16, 3) := by decide +kernel
theorem dX7_leastBeside_56 : decode cX7_leastBeside 56 = .ok (.iload 4, 2) := by decide +kernel
theorem dX7_leastBeside_58 : decode cX7_leastBeside 58 = .ok (.iaload, 1) := by decide +kernel
theorem dX7_leastBeside_59 : decode cX7_leastBeside 59 = .ok (.goto 4, 3) := by decide +kernel
theorem dX7_leastBeside_62 : decode cX7_leastBeside 62 = .ok (.iload_n 2, 1) := by decide +kernel
theorem dX7_leastBeside_63 : decode cX7_leastBeside 63 = .ok (.istore_n 2, 1) := by decide +kernel
theorem dX7_leastBeside_64 : decode cX7_leastBeside 64 = .ok (.iinc 3 1, 3) := by decide +kernel
theorem dX7_leastBeside_67 : decode cX7_leastBeside 67 = .ok (.goto (-58), 3) := by decide +kernel
theorem dX7_leastBeside_70 : decode cX7_leastBeside 70 = .ok (.iload_n 2, 1) := by decide +kernel
theorem dX7_leastBeside_71 : decode cX7_leastBeside 71 = .ok (.ireturn, 1) := by decide +kernel
theorem dX7_areas_0 : decode cX7_areas 0 = .ok (.iconst 0, 1) := by decide +kernel
theorem dX7_areas_1 : decode cX7_areas 1 = .ok (.istore_n 1, 1) := by decide +kernel
theorem dX7_areas_2 : decode cX7_areas 2 = .ok (.iload_n 1, 1) := by decide +kernel
theorem dX7_areas_3 : decode cX7_areas 3 = .ok (.bipush 48, 2) := by decide +kernel
theorem dX7_areas_5 : decode cX7_areas 5 = .ok (.if_icmp .ge 16, 3) := by decide +kernel
theorem dX7_areas_8 : decode cX7_areas 8 = .ok (.aload_n 0, 1) := by decide +kernel
theorem dX7_areas_9 : decode cX7_areas 9 = .ok (.getfield 16, 3) := by decide +kernel
theorem dX7_areas_12 : decode cX7_areas 12 = .ok (.iload_n 1, 1) := by decide +kernel
theorem dX7_areas_13 : decode cX7_areas 13 = .ok (.iload_n 1, 1) := by decide +kernel
theorem dX7_areas_14 : decode cX7_areas 14 = .ok (.iastore, 1) := by decide +kernel
theorem dX7_areas_15 : decode cX7_areas 15 = .ok (.iinc 1 1, 3) := by decide +kernel
theorem dX7_areas_18 : decode cX7_areas 18 = .ok (.goto (-16), 3) := by decide +kernel
theorem dX7_areas_21 : decode cX7_areas 21 = .ok (.iconst 1, 1) := by decide +kernel
theorem dX7_areas_22 : decode cX7_areas 22 = .ok (.istore_n 1, 1) := by decide +kernel
theorem dX7_areas_23 : decode cX7_areas 23 = .ok (.iconst 0, 1) := by decide +kernel
theorem dX7_areas_24 : decode cX7_areas 24 = .ok (.istore_n 2, 1) := by decide +kernel
theorem dX7_areas_25 : decode cX7_areas 25 = .ok (.iload_n 2, 1) := by decide +kernel
theorem dX7_areas_26 : decode cX7_areas 26 = .ok (.bipush 50, 2) := by decide +kernel
theorem dX7_areas_28 : decode cX7_areas 28 = .ok (.if_icmp .ge 77, 3) := by decide +kernel
theorem dX7_areas_31 : decode cX7_areas 31 = .ok (.iload_n 1, 1) := by decide +kernel
theorem dX7_areas_32 : decode cX7_areas 32 = .ok (.ifCond .eq 73, 3) := by decide +kernel
theorem dX7_areas_35 : decode cX7_areas 35 = .ok (.iconst 0, 1) := by decide +kernel
theorem dX7_areas_36 : decode cX7_areas 36 = .ok (.istore_n 1, 1) := by decide +kernel
theorem dX7_areas_37 : decode cX7_areas 37 = .ok (.iconst 0, 1) := by decide +kernel
theorem dX7_areas_38 : decode cX7_areas 38 = .ok (.istore_n 3, 1) := by decide +kernel
theorem dX7_areas_39 : decode cX7_areas 39 = .ok (.iload_n 3, 1) := by decide +kernel
theorem dX7_areas_40 : decode cX7_areas 40 = .ok (.bipush 48, 2) := by decide +kernel
theorem dX7_areas_42 : decode cX7_areas 42 = .ok (.if_icmp .ge 57, 3) := by decide +kernel
theorem dX7_areas_45 : decode cX7_areas 45 = .ok (.aload_n 0, 1) := by decide +kernel
theorem dX7_areas_46 : decode cX7_areas 46 = .ok (.iload_n 3, 1) := by decide +kernel
theorem dX7_areas_47 : decode cX7_areas 47 = .ok (.invokevirtual 88, 3) := by decide +kernel
theorem dX7_areas_50 : decode cX7_areas 50 = .ok (.ifCond .eq 11, 3) := by decide +kernel
theorem dX7_areas_53 : decode cX7_areas 53 = .ok (.aload_n 0, 1) := by decide +kernel
theorem dX7_areas_54 : decode cX7_areas 54 = .ok (.iload_n 3, 1) := by decide +kernel
theorem dX7_areas_55 : decode cX7_areas 55 = .ok (.invokevirtual 108, 3) := by decide +kernel
theorem dX7_areas_58 : decode cX7_areas 58 = .ok (.goto 4, 3) := by decide +kernel
theorem dX7_areas_61 : decode cX7_areas 61 = .ok (.iload_n 3, 1) := by decide +kernel
theorem dX7_areas_62 : decode cX7_areas 62 = .ok (.istore 4, 2) := by decide +kernel
theorem dX7_areas_64 : decode cX7_areas 64 = .ok (.iload_n 1, 1) := by decide +kernel
theorem dX7_areas_65 : decode cX7_areas 65 = .ok (.ifCond .ne 14, 3) := by decide +kernel
theorem dX7_areas_68 : decode cX7_areas 68 = .ok (.iload 4, 2) := by decide +kernel
theorem dX7_areas_70 : decode cX7_areas 70 = .ok (.aload_n 0, 1) := by decide +kernel
theorem dX7_areas_71 : decode cX7_areas 71 = .ok (.getfield 16, 3) := by decide +kernel
theorem dX7_areas_74 : decode cX7_areas 74 = .ok (.iload_n 3, 1) := by decide +kernel
theorem dX7_areas_75 : decode cX7_areas 75 = .ok (.iaload, 1) := by decide +kernel
theorem dX7_areas_76 : decode cX7_areas 76 = .ok (.if_icmp .eq 7, 3) := by decide +kernel
theorem dX7_areas_79 : decode cX7_areas 79 = .ok (.iconst 1, 1) := by decide +kernel
theorem dX7_areas_80 : decode cX7_areas 80 = .ok (.goto 4, 3) := by decide +kernel
theorem dX7_areas_83 : decode cX7_areas 83 = .ok (.iconst 0, 1) := by decide +kernel
theorem dX7_areas_84 : decode cX7_areas 84 = .ok (.istore_n 1, 1) := by decide +kernel
theorem dX7_areas_85 : decode cX7_areas 85 = .ok (.aload_n 0, 1) := by decide +kernel
theorem dX7_areas_86 : decode cX7_areas 86 = .ok (.getfield 16, 3) := by decide +kernel
theorem dX7_areas_89 : decode cX7_areas 89 = .ok (.iload_n 3, 1) := by decide +kernel
theorem dX7_areas_90 : decode cX7_areas 90 = .ok (.iload 4, 2) := by decide +kernel
theorem dX7_areas_92 : decode cX7_areas 92 = .ok (.iastore, 1) := by decide +kernel
theorem dX7_areas_93 : decode cX7_areas 93 = .ok (.iinc 3 1, 3) := by decide +kernel
theorem dX7_areas_96 : decode cX7_areas 96 = .ok (.goto (-57), 3) := by decide +kernel
theorem dX7_areas_99 : decode cX7_areas 99 = .ok (.iinc 2 1, 3) := by decide +kernel
theorem dX7_areas_102 : decode cX7_areas 102 = .ok (.goto (-77), 3) := by decide +kernel
theorem dX7_areas_105 : decode cX7_areas 105 = .ok (.iconst 0, 1) := by decide +kernel
theorem dX7_areas_106 : decode cX7_areas 106 = .ok (.istore_n 2, 1) := by decide +kernel
theorem dX7_areas_107 : decode cX7_areas 107 = .ok (.iconst 0, 1) := by decide +kernel
theorem dX7_areas_108 : decode cX7_areas 108 = .ok (.istore_n 3, 1) := by decide +kernel
theorem dX7_areas_109 : decode cX7_areas 109 = .ok (.iload_n 3, 1) := by decide +kernel
theorem dX7_areas_110 : decode cX7_areas 110 = .ok (.bipush 48, 2) := by decide +kernel
theorem dX7_areas_112 : decode cX7_areas 112 = .ok (.if_icmp .ge 37, 3) := by decide +kernel
theorem dX7_areas_115 : decode cX7_areas 115 = .ok (.aload_n 0, 1) := by decide +kernel
theorem dX7_areas_116 : decode cX7_areas 116 = .ok (.iload_n 3, 1) := by decide +kernel
theorem dX7_areas_117 : decode cX7_areas 117 = .ok (.invokevirtual 88, 3) := by decide +kernel
theorem dX7_areas_120 : decode cX7_areas 120 = .ok (.ifCond .eq 23, 3) := by decide +kernel
theorem dX7_areas_123 : decode cX7_areas 123 = .ok (.aload_n 0, 1) := by decide +kernel
theorem dX7_areas_124 : decode cX7_areas 124 = .ok (.getfield 16, 3) := by decide +kernel
theorem dX7_areas_127 : decode cX7_areas 127 = .ok (.iload_n 3, 1) := by decide +kernel
theorem dX7_areas_128 : decode cX7_areas 128 = .ok (.iaload, 1) := by decide +kernel
theorem dX7_areas_129 : decode cX7_areas 129 = .ok (.iload_n 3, 1) := by decide +kernel
theorem dX7_areas_130 : decode cX7_areas 130 = .ok (.if_icmp .ne 13, 3) := by decide +kernel
theorem dX7_areas_133 : decode cX7_areas 133 = .ok (.aload_n 0, 1) := by decide +kernel
theorem dX7_areas_134 : decode cX7_areas 134 = .ok (.getfield 19, 3) := by decide +kernel
theorem dX7_areas_137 : decode cX7_areas 137 = .ok (.iload_n 2, 1) := by decide +kernel
theorem dX7_areas_138 : decode cX7_areas 138 = .ok (.iload_n 3, 1) := by decide +kernel
theorem dX7_areas_139 : decode cX7_areas 139 = .ok (.iastore, 1) := by decide +kernel
theorem dX7_areas_140 : decode cX7_areas 140 = .ok (.iinc 2 1, 3) := by decide +kernel
theorem dX7_areas_143 : decode cX7_areas 143 = .ok (.iinc 3 1, 3) := by decide +kernel
theorem dX7_areas_146 : decode cX7_areas 146 = .ok (.goto (-37), 3) := by decide +kernel
theorem dX7_areas_149 : decode cX7_areas 149 = .ok (.iload_n 2, 1) := by decide +kernel
theorem dX7_areas_150 : decode cX7_areas 150 = .ok (.ireturn, 1) := by decide +kernel
theorem dX7_areaOf_0 : decode cX7_areaOf 0 = .ok (.iconst 0, 1) := by decide +kernel
theorem dX7_areaOf_1 : decode cX7_areaOf 1 = .ok (.istore_n 2, 1) := by decide +kernel
theorem dX7_areaOf_2 : decode cX7_areaOf 2 = .ok (.iload_n 2, 1) := by decide +kernel
theorem dX7_areaOf_3 : decode cX7_areaOf 3 = .ok (.bipush 47, 2) := by decide +kernel
theorem dX7_areaOf_5 : decode cX7_areaOf 5 = .ok (.if_icmp .ge 24, 3) := by decide +kernel
theorem dX7_areaOf_8 : decode cX7_areaOf 8 = .ok (.aload_n 0, 1) := by decide +kernel
theorem dX7_areaOf_9 : decode cX7_areaOf 9 = .ok (.getfield 19, 3) := by decide +kernel
theorem dX7_areaOf_12 : decode cX7_areaOf 12 = .ok (.iload_n 2, 1) := by decide +kernel
theorem dX7_areaOf_13 : decode cX7_areaOf 13 = .ok (.iaload, 1) := by decide +kernel
theorem dX7_areaOf_14 : decode cX7_areaOf 14 = .ok (.aload_n 0, 1) := by decide +kernel
theorem dX7_areaOf_15 : decode cX7_areaOf 15 = .ok (.getfield 16, 3) := by decide +kernel
theorem dX7_areaOf_18 : decode cX7_areaOf 18 = .ok (.iload_n 1, 1) := by decide +kernel
theorem dX7_areaOf_19 : decode cX7_areaOf 19 = .ok (.iaload, 1) := by decide +kernel
theorem dX7_areaOf_20 : decode cX7_areaOf 20 = .ok (.if_icmp .eq 9, 3) := by decide +kernel
theorem dX7_areaOf_23 : decode cX7_areaOf 23 = .ok (.iinc 2 1, 3) := by decide +kernel
theorem dX7_areaOf_26 : decode cX7_areaOf 26 = .ok (.goto (-24), 3) := by decide +kernel
theorem dX7_areaOf_29 : decode cX7_areaOf 29 = .ok (.iload_n 2, 1) := by decide +kernel
theorem dX7_areaOf_30 : decode cX7_areaOf 30 = .ok (.ireturn, 1) := by decide +kernel
theorem dX7_isOf_0 : decode cX7_isOf 0 = .ok (.aload_n 0, 1) := by decide +kernel
theorem dX7_isOf_1 : decode cX7_isOf 1 = .ok (.iload_n 1, 1) := by decide +kernel
theorem dX7_isOf_2 : decode cX7_isOf 2 = .ok (.invokevirtual 88, 3) := by decide +kernel
theorem dX7_isOf_5 : decode cX7_isOf 5 = .ok (.ifCond .eq 22, 3) := by decide +kernel
theorem dX7_isOf_8 : decode cX7_isOf 8 = .ok (.aload_n 0, 1) := by decide +kernel
theorem dX7_isOf_9 : decode cX7_isOf 9 = .ok (.getfield 16, 3) := by decide +kernel
theorem dX7_isOf_12 : decode cX7_isOf 12 = .ok (.iload_n 1, 1) := by decide +kernel
theorem dX7_isOf_13 : decode cX7_isOf 13 = .ok (.iaload, 1) := by decide +kernel
theorem dX7_isOf_14 : decode cX7_isOf 14 = .ok (.aload_n 0, 1) := by decide +kernel
theorem dX7_isOf_15 : decode cX7_isOf 15 = .ok (.getfield 19, 3) := by decide +kernel
theorem dX7_isOf_18 : decode cX7_isOf 18 = .ok (.iload_n 2, 1) := by decide +kernel
theorem dX7_isOf_19 : decode cX7_isOf 19 = .ok (.iaload, 1) := by decide +kernel
theorem dX7_isOf_20 : decode cX7_isOf 20 = .ok (.if_icmp .ne 7, 3) := by decide +kernel
theorem dX7_isOf_23 : decode cX7_isOf 23 = .ok (.iconst 1, 1) := by decide +kernel
theorem dX7_isOf_24 : decode cX7_isOf 24 = .ok (.goto 4, 3) := by decide +kernel
theorem dX7_isOf_27 : decode cX7_isOf 27 = .ok (.iconst 0, 1) := by decide +kernel
theorem dX7_isOf_28 : decode cX7_isOf 28 = .ok (.ireturn, 1) := by decide +kernel
theorem dX7_placesOfArea_0 : decode cX7_placesOfArea 0 = .ok (.iconst 0, 1) := by decide +kernel
theorem dX7_placesOfArea_1 : decode cX7_placesOfArea 1 = .ok (.istore_n 2, 1) := by decide +kernel
theorem dX7_placesOfArea_2 : decode cX7_placesOfArea 2 = .ok (.iconst 0, 1) := by decide +kernel
theorem dX7_placesOfArea_3 : decode cX7_placesOfArea 3 = .ok (.istore_n 3, 1) := by decide +kernel
theorem dX7_placesOfArea_4 : decode cX7_placesOfArea 4 = .ok (.iload_n 3, 1) := by decide +kernel
theorem dX7_placesOfArea_5 : decode cX7_placesOfArea 5 = .ok (.bipush 48, 2) := by decide +kernel
theorem dX7_placesOfArea_7 : decode cX7_placesOfArea 7 = .ok (.if_icmp .ge 26, 3) := by decide +kernel
theorem dX7_placesOfArea_10 : decode cX7_placesOfArea 10 = .ok (.iload_n 2, 1) := by decide +kernel
theorem dX7_placesOfArea_11 : decode cX7_placesOfArea 11 = .ok (.aload_n 0, 1) := by decide +kernel
theorem dX7_placesOfArea_12 : decode cX7_placesOfArea 12 = .ok (.iload_n 3, 1) := by decide +kernel
theorem dX7_placesOfArea_13 : decode cX7_placesOfArea 13 = .ok (.iload_n 1, 1) := by decide +kernel
theorem dX7_placesOfArea_14 : decode cX7_placesOfArea 14 = .ok (.invokevirtual 111, 3) := by decide +kernel
theorem dX7_placesOfArea_17 : decode cX7_placesOfArea 17 = .ok (.ifCond .eq 7, 3) := by decide +kernel
theorem dX7_placesOfArea_20 : decode cX7_placesOfArea 20 = .ok (.iconst 1, 1) := by decide +kernel
theorem dX7_placesOfArea_21 : decode cX7_placesOfArea 21 = .ok (.goto 4, 3) := by decide +kernel
theorem dX7_placesOfArea_24 : decode cX7_placesOfArea 24 = .ok (.iconst 0, 1) := by decide +kernel
theorem dX7_placesOfArea_25 : decode cX7_placesOfArea 25 = .ok (.iadd, 1) := by decide +kernel
theorem dX7_placesOfArea_26 : decode cX7_placesOfArea 26 = .ok (.istore_n 2, 1) := by decide +kernel
theorem dX7_placesOfArea_27 : decode cX7_placesOfArea 27 = .ok (.iinc 3 1, 3) := by decide +kernel
theorem dX7_placesOfArea_30 : decode cX7_placesOfArea 30 = .ok (.goto (-26), 3) := by decide +kernel
theorem dX7_placesOfArea_33 : decode cX7_placesOfArea 33 = .ok (.iload_n 2, 1) := by decide +kernel
theorem dX7_placesOfArea_34 : decode cX7_placesOfArea 34 = .ok (.ireturn, 1) := by decide +kernel
theorem dX7_isBeside_0 : decode cX7_isBeside 0 = .ok (.iconst 0, 1) := by decide +kernel
theorem dX7_isBeside_1 : decode cX7_isBeside 1 = .ok (.istore_n 3, 1) := by decide +kernel
theorem dX7_isBeside_2 : decode cX7_isBeside 2 = .ok (.iconst 0, 1) := by decide +kernel
theorem dX7_isBeside_3 : decode cX7_isBeside 3 = .ok (.istore 4, 2) := by decide +kernel
theorem dX7_isBeside_5 : decode cX7_isBeside 5 = .ok (.iload 4, 2) := by decide +kernel
theorem dX7_isBeside_7 : decode cX7_isBeside 7 = .ok (.bipush 48, 2) := by decide +kernel
theorem dX7_isBeside_9 : decode cX7_isBeside 9 = .ok (.if_icmp .ge 69, 3) := by decide +kernel
theorem dX7_isBeside_12 : decode cX7_isBeside 12 = .ok (.iconst 0, 1) := by decide +kernel
theorem dX7_isBeside_13 : decode cX7_isBeside 13 = .ok (.istore 5, 2) := by decide +kernel
theorem dX7_isBeside_15 : decode cX7_isBeside 15 = .ok (.iload 5, 2) := by decide +kernel
theorem dX7_isBeside_17 : decode cX7_isBeside 17 = .ok (.iconst 4, 1) := by decide +kernel
theorem dX7_isBeside_18 : decode cX7_isBeside 18 = .ok (.if_icmp .ge 54, 3) := by decide +kernel
theorem dX7_isBeside_21 : decode cX7_isBeside 21 = .ok (.aload_n 0, 1) := by decide +kernel
theorem dX7_isBeside_22 : decode cX7_isBeside 22 = .ok (.iload 4, 2) := by decide +kernel
theorem dX7_isBeside_24 : decode cX7_isBeside 24 = .ok (.iload_n 1, 1) := by decide +kernel
theorem dX7_isBeside_25 : decode cX7_isBeside 25 = .ok (.invokevirtual 111, 3) := by decide +kernel
theorem dX7_isBeside_28 : decode cX7_isBeside 28 = .ok (.ifCond .eq 44, 3) := by decide +kernel
theorem dX7_isBeside_31 : decode cX7_isBeside 31 = .ok (.aload_n 0, 1) := by decide +kernel
theorem dX7_isBeside_32 : decode cX7_isBeside 32 = .ok (.iload 4, 2) := by decide +kernel
theorem dX7_isBeside_34 : decode cX7_isBeside 34 = .ok (.iload 5, 2) := by decide +kernel
theorem dX7_isBeside_36 : decode cX7_isBeside 36 = .ok (.invokevirtual 104, 3) := by decide +kernel
theorem dX7_isBeside_39 : decode cX7_isBeside 39 = .ok (.istore 6, 2) := by decide +kernel
theorem dX7_isBeside_41 : decode cX7_isBeside 41 = .ok (.iload_n 3, 1) := by decide +kernel
theorem dX7_isBeside_42 : decode cX7_isBeside 42 = .ok (.ifCond .ne 18, 3) := by decide +kernel
theorem dX7_isBeside_45 : decode cX7_isBeside 45 = .ok (.iload 6, 2) := by decide +kernel
theorem dX7_isBeside_47 : decode cX7_isBeside 47 = .ok (.ifCond .lt 17, 3) := by decide +kernel
theorem dX7_isBeside_50 : decode cX7_isBeside 50 = .ok (.aload_n 0, 1) := by decide +kernel
theorem dX7_isBeside_51 : decode cX7_isBeside 51 = .ok (.iload 6, 2) := by decide +kernel
theorem dX7_isBeside_53 : decode cX7_isBeside 53 = .ok (.iload_n 2, 1) := by decide +kernel
theorem dX7_isBeside_54 : decode cX7_isBeside 54 = .ok (.invokevirtual 111, 3) := by decide +kernel
theorem dX7_isBeside_57 : decode cX7_isBeside 57 = .ok (.ifCond .eq 7, 3) := by decide +kernel
theorem dX7_isBeside_60 : decode cX7_isBeside 60 = .ok (.iconst 1, 1) := by decide +kernel
theorem dX7_isBeside_61 : decode cX7_isBeside 61 = .ok (.goto 4, 3) := by decide +kernel
theorem dX7_isBeside_64 : decode cX7_isBeside 64 = .ok (.iconst 0, 1) := by decide +kernel
theorem dX7_isBeside_65 : decode cX7_isBeside 65 = .ok (.istore_n 3, 1) := by decide +kernel
theorem dX7_isBeside_66 : decode cX7_isBeside 66 = .ok (.iinc 5 1, 3) := by decide +kernel
theorem dX7_isBeside_69 : decode cX7_isBeside 69 = .ok (.goto (-54), 3) := by decide +kernel
theorem dX7_isBeside_72 : decode cX7_isBeside 72 = .ok (.iinc 4 1, 3) := by decide +kernel
theorem dX7_isBeside_75 : decode cX7_isBeside 75 = .ok (.goto (-70), 3) := by decide +kernel
theorem dX7_isBeside_78 : decode cX7_isBeside 78 = .ok (.iload_n 3, 1) := by decide +kernel
theorem dX7_isBeside_79 : decode cX7_isBeside 79 = .ok (.ireturn, 1) := by decide +kernel
theorem dX7_neighbours_0 : decode cX7_neighbours 0 = .ok (.iconst 0, 1) := by decide +kernel
theorem dX7_neighbours_1 : decode cX7_neighbours 1 = .ok (.istore_n 3, 1) := by decide +kernel
theorem dX7_neighbours_2 : decode cX7_neighbours 2 = .ok (.iconst 0, 1) := by decide +kernel
theorem dX7_neighbours_3 : decode cX7_neighbours 3 = .ok (.istore 4, 2) := by decide +kernel
theorem dX7_neighbours_5 : decode cX7_neighbours 5 = .ok (.iload 4, 2) := by decide +kernel
theorem dX7_neighbours_7 : decode cX7_neighbours 7 = .ok (.iload_n 2, 1) := by decide +kernel
theorem dX7_neighbours_8 : decode cX7_neighbours 8 = .ok (.if_icmp .ge 33, 3) := by decide +kernel
theorem dX7_neighbours_11 : decode cX7_neighbours 11 = .ok (.iload_n 3, 1) := by decide +kernel
theorem dX7_neighbours_12 : decode cX7_neighbours 12 = .ok (.iload 4, 2) := by decide +kernel
theorem dX7_neighbours_14 : decode cX7_neighbours 14 = .ok (.iload_n 1, 1) := by decide +kernel
theorem dX7_neighbours_15 : decode cX7_neighbours 15 = .ok (.if_icmp .eq 17, 3) := by decide +kernel
theorem dX7_neighbours_18 : decode cX7_neighbours 18 = .ok (.aload_n 0, 1) := by decide +kernel
theorem dX7_neighbours_19 : decode cX7_neighbours 19 = .ok (.iload_n 1, 1) := by decide +kernel
theorem dX7_neighbours_20 : decode cX7_neighbours 20 = .ok (.iload 4, 2) := by decide +kernel
theorem dX7_neighbours_22 : decode cX7_neighbours 22 = .ok (.invokevirtual 114, 3) := by decide +kernel
theorem dX7_neighbours_25 : decode cX7_neighbours 25 = .ok (.ifCond .eq 7, 3) := by decide +kernel
theorem dX7_neighbours_28 : decode cX7_neighbours 28 = .ok (.iconst 1, 1) := by decide +kernel
theorem dX7_neighbours_29 : decode cX7_neighbours 29 = .ok (.goto 4, 3) := by decide +kernel
theorem dX7_neighbours_32 : decode cX7_neighbours 32 = .ok (.iconst 0, 1) := by decide +kernel
theorem dX7_neighbours_33 : decode cX7_neighbours 33 = .ok (.iadd, 1) := by decide +kernel
theorem dX7_neighbours_34 : decode cX7_neighbours 34 = .ok (.istore_n 3, 1) := by decide +kernel
theorem dX7_neighbours_35 : decode cX7_neighbours 35 = .ok (.iinc 4 1, 3) := by decide +kernel
theorem dX7_neighbours_38 : decode cX7_neighbours 38 = .ok (.goto (-33), 3) := by decide +kernel
theorem dX7_neighbours_41 : decode cX7_neighbours 41 = .ok (.iload_n 3, 1) := by decide +kernel
theorem dX7_neighbours_42 : decode cX7_neighbours 42 = .ok (.ireturn, 1) := by decide +kernel
theorem dX7_greater_0 : decode cX7_greater 0 = .ok (.aload_n 0, 1) := by decide +kernel
theorem dX7_greater_1 : decode cX7_greater 1 = .ok (.iload_n 1, 1) := by decide +kernel
theorem dX7_greater_2 : decode cX7_greater 2 = .ok (.invokevirtual 117, 3) := by decide +kernel
theorem dX7_greater_5 : decode cX7_greater 5 = .ok (.istore_n 3, 1) := by decide +kernel
theorem dX7_greater_6 : decode cX7_greater 6 = .ok (.iconst 0, 1) := by decide +kernel
theorem dX7_greater_7 : decode cX7_greater 7 = .ok (.istore 4, 2) := by decide +kernel
theorem dX7_greater_9 : decode cX7_greater 9 = .ok (.iconst 0, 1) := by decide +kernel
theorem dX7_greater_10 : decode cX7_greater 10 = .ok (.istore 5, 2) := by decide +kernel
theorem dX7_greater_12 : decode cX7_greater 12 = .ok (.iload 5, 2) := by decide +kernel
theorem dX7_greater_14 : decode cX7_greater 14 = .ok (.iload_n 2, 1) := by decide +kernel
theorem dX7_greater_15 : decode cX7_greater 15 = .ok (.if_icmp .ge 45, 3) := by decide +kernel
theorem dX7_greater_18 : decode cX7_greater 18 = .ok (.aload_n 0, 1) := by decide +kernel
theorem dX7_greater_19 : decode cX7_greater 19 = .ok (.iload 5, 2) := by decide +kernel
theorem dX7_greater_21 : decode cX7_greater 21 = .ok (.invokevirtual 117, 3) := by decide +kernel
theorem dX7_greater_24 : decode cX7_greater 24 = .ok (.istore 6, 2) := by decide +kernel
theorem dX7_greater_26 : decode cX7_greater 26 = .ok (.iload 4, 2) := by decide +kernel
theorem dX7_greater_28 : decode cX7_greater 28 = .ok (.iload 6, 2) := by decide +kernel
theorem dX7_greater_30 : decode cX7_greater 30 = .ok (.iload_n 3, 1) := by decide +kernel
theorem dX7_greater_31 : decode cX7_greater 31 = .ok (.if_icmp .gt 15, 3) := by decide +kernel
theorem dX7_greater_34 : decode cX7_greater 34 = .ok (.iload 6, 2) := by decide +kernel
theorem dX7_greater_36 : decode cX7_greater 36 = .ok (.iload_n 3, 1) := by decide +kernel
theorem dX7_greater_37 : decode cX7_greater 37 = .ok (.if_icmp .ne 13, 3) := by decide +kernel
theorem dX7_greater_40 : decode cX7_greater 40 = .ok (.iload 5, 2) := by decide +kernel
theorem dX7_greater_42 : decode cX7_greater 42 = .ok (.iload_n 1, 1) := by decide +kernel
theorem dX7_greater_43 : decode cX7_greater 43 = .ok (.if_icmp .ge 7, 3) := by decide +kernel
theorem dX7_greater_46 : decode cX7_greater 46 = .ok (.iconst 1, 1) := by decide +kernel
theorem dX7_greater_47 : decode cX7_greater 47 = .ok (.goto 4, 3) := by decide +kernel
theorem dX7_greater_50 : decode cX7_greater 50 = .ok (.iconst 0, 1) := by decide +kernel
theorem dX7_greater_51 : decode cX7_greater 51 = .ok (.iadd, 1) := by decide +kernel
theorem dX7_greater_52 : decode cX7_greater 52 = .ok (.istore 4, 2) := by decide +kernel
theorem dX7_greater_54 : decode cX7_greater 54 = .ok (.iinc 5 1, 3) := by decide +kernel
theorem dX7_greater_57 : decode cX7_greater 57 = .ok (.goto (-45), 3) := by decide +kernel
theorem dX7_greater_60 : decode cX7_greater 60 = .ok (.iload 4, 2) := by decide +kernel
theorem dX7_greater_62 : decode cX7_greater 62 = .ok (.ireturn, 1) := by decide +kernel
theorem dX7_area_0 : decode cX7_area 0 = .ok (.aload_n 0, 1) := by decide +kernel
theorem dX7_area_1 : decode cX7_area 1 = .ok (.invokevirtual 120, 3) := by decide +kernel
theorem dX7_area_4 : decode cX7_area 4 = .ok (.istore_n 3, 1) := by decide +kernel
theorem dX7_area_5 : decode cX7_area 5 = .ok (.iload_n 1, 1) := by decide +kernel
theorem dX7_area_6 : decode cX7_area 6 = .ok (.i2l, 1) := by decide +kernel
theorem dX7_area_7 : decode cX7_area 7 = .ok (.lconst 0, 1) := by decide +kernel
theorem dX7_area_8 : decode cX7_area 8 = .ok (.iload_n 3, 1) := by decide +kernel
theorem dX7_area_9 : decode cX7_area 9 = .ok (.iconst 1, 1) := by decide +kernel
theorem dX7_area_10 : decode cX7_area 10 = .ok (.isub, 1) := by decide +kernel
theorem dX7_area_11 : decode cX7_area 11 = .ok (.i2l, 1) := by decide +kernel
theorem dX7_area_12 : decode cX7_area 12 = .ok (.invokestatic 59, 3) := by decide +kernel
theorem dX7_area_15 : decode cX7_area 15 = .ok (.ifCond .ne 5, 3) := by decide +kernel
theorem dX7_area_18 : decode cX7_area 18 = .ok (.iconst (-1), 1) := by decide +kernel
theorem dX7_area_19 : decode cX7_area 19 = .ok (.ireturn, 1) := by decide +kernel
theorem dX7_area_20 : decode cX7_area 20 = .ok (.iload_n 2, 1) := by decide +kernel
theorem dX7_area_21 : decode cX7_area 21 = .ok (.tableswitch 90 0 5 #[39, 50, 56, 63, 73, 83], 39) := by decide +kernel
theorem dX7_area_60 : decode cX7_area 60 = .ok (.aload_n 0, 1) := by decide +kernel
theorem dX7_area_61 : decode cX7_area 61 = .ok (.aload_n 0, 1) := by decide +kernel
theorem dX7_area_62 : decode cX7_area 62 = .ok (.getfield 19, 3) := by decide +kernel
theorem dX7_area_65 : decode cX7_area 65 = .ok (.iload_n 1, 1) := by decide +kernel
theorem dX7_area_66 : decode cX7_area 66 = .ok (.iaload, 1) := by decide +kernel
theorem dX7_area_67 : decode cX7_area 67 = .ok (.invokevirtual 92, 3) := by decide +kernel
theorem dX7_area_70 : decode cX7_area 70 = .ok (.ireturn, 1) := by decide +kernel
theorem dX7_area_71 : decode cX7_area 71 = .ok (.aload_n 0, 1) := by decide +kernel
theorem dX7_area_72 : decode cX7_area 72 = .ok (.iload_n 1, 1) := by decide +kernel
theorem dX7_area_73 : decode cX7_area 73 = .ok (.invokevirtual 117, 3) := by decide +kernel
theorem dX7_area_76 : decode cX7_area 76 = .ok (.ireturn, 1) := by decide +kernel
theorem dX7_area_77 : decode cX7_area 77 = .ok (.aload_n 0, 1) := by decide +kernel
theorem dX7_area_78 : decode cX7_area 78 = .ok (.iload_n 1, 1) := by decide +kernel
theorem dX7_area_79 : decode cX7_area 79 = .ok (.iload_n 3, 1) := by decide +kernel
theorem dX7_area_80 : decode cX7_area 80 = .ok (.invokevirtual 124, 3) := by decide +kernel
theorem dX7_area_83 : decode cX7_area 83 = .ok (.ireturn, 1) := by decide +kernel
theorem dX7_area_84 : decode cX7_area 84 = .ok (.aload_n 0, 1) := by decide +kernel
theorem dX7_area_85 : decode cX7_area 85 = .ok (.getfield 19, 3) := by decide +kernel
theorem dX7_area_88 : decode cX7_area 88 = .ok (.iload_n 1, 1) := by decide +kernel
theorem dX7_area_89 : decode cX7_area 89 = .ok (.iaload, 1) := by decide +kernel
theorem dX7_area_90 : decode cX7_area 90 = .ok (.bipush 8, 2) := by decide +kernel
theorem dX7_area_92 : decode cX7_area 92 = .ok (.irem, 1) := by decide +kernel
theorem dX7_area_93 : decode cX7_area 93 = .ok (.ireturn, 1) := by decide +kernel
theorem dX7_area_94 : decode cX7_area 94 = .ok (.aload_n 0, 1) := by decide +kernel
theorem dX7_area_95 : decode cX7_area 95 = .ok (.getfield 19, 3) := by decide +kernel
theorem dX7_area_98 : decode cX7_area 98 = .ok (.iload_n 1, 1) := by decide +kernel
theorem dX7_area_99 : decode cX7_area 99 = .ok (.iaload, 1) := by decide +kernel
theorem dX7_area_100 : decode cX7_area 100 = .ok (.bipush 8, 2) := by decide +kernel
theorem dX7_area_102 : decode cX7_area 102 = .ok (.idiv, 1) := by decide +kernel
theorem dX7_area_103 : decode cX7_area 103 = .ok (.ireturn, 1) := by decide +kernel
theorem dX7_area_104 : decode cX7_area 104 = .ok (.aload_n 0, 1) := by decide +kernel
theorem dX7_area_105 : decode cX7_area 105 = .ok (.iload_n 1, 1) := by decide +kernel
theorem dX7_area_106 : decode cX7_area 106 = .ok (.iload_n 3, 1) := by decide +kernel
theorem dX7_area_107 : decode cX7_area 107 = .ok (.invokevirtual 127, 3) := by decide +kernel
theorem dX7_area_110 : decode cX7_area 110 = .ok (.ireturn, 1) := by decide +kernel
theorem dX7_area_111 : decode cX7_area 111 = .ok (.iconst (-1), 1) := by decide +kernel
theorem dX7_area_112 : decode cX7_area 112 = .ok (.ireturn, 1) := by decide +kernel
theorem dX7_rankIn_0 : decode cX7_rankIn 0 = .ok (.iconst 0, 1) := by decide +kernel
theorem dX7_rankIn_1 : decode cX7_rankIn 1 = .ok (.istore_n 2, 1) := by decide +kernel
theorem dX7_rankIn_2 : decode cX7_rankIn 2 = .ok (.iload_n 0, 1) := by decide +kernel
theorem dX7_rankIn_3 : decode cX7_rankIn 3 = .ok (.istore_n 3, 1) := by decide +kernel
theorem dX7_rankIn_4 : decode cX7_rankIn 4 = .ok (.iconst 4, 1) := by decide +kernel
theorem dX7_rankIn_5 : decode cX7_rankIn 5 = .ok (.istore 4, 2) := by decide +kernel
theorem dX7_rankIn_7 : decode cX7_rankIn 7 = .ok (.iload 4, 2) := by decide +kernel
theorem dX7_rankIn_9 : decode cX7_rankIn 9 = .ok (.ifCond .lt 29, 3) := by decide +kernel
theorem dX7_rankIn_12 : decode cX7_rankIn 12 = .ok (.iload_n 3, 1) := by decide +kernel
theorem dX7_rankIn_13 : decode cX7_rankIn 13 = .ok (.bipush 10, 2) := by decide +kernel
theorem dX7_rankIn_15 : decode cX7_rankIn 15 = .ok (.irem, 1) := by decide +kernel
theorem dX7_rankIn_16 : decode cX7_rankIn 16 = .ok (.iload_n 1, 1) := by decide +kernel
theorem dX7_rankIn_17 : decode cX7_rankIn 17 = .ok (.if_icmp .ne 8, 3) := by decide +kernel
theorem dX7_rankIn_20 : decode cX7_rankIn 20 = .ok (.iload 4, 2) := by decide +kernel
theorem dX7_rankIn_22 : decode cX7_rankIn 22 = .ok (.goto 4, 3) := by decide +kernel
theorem dX7_rankIn_25 : decode cX7_rankIn 25 = .ok (.iload_n 2, 1) := by decide +kernel
theorem dX7_rankIn_26 : decode cX7_rankIn 26 = .ok (.istore_n 2, 1) := by decide +kernel
theorem dX7_rankIn_27 : decode cX7_rankIn 27 = .ok (.iload_n 3, 1) := by decide +kernel
theorem dX7_rankIn_28 : decode cX7_rankIn 28 = .ok (.bipush 10, 2) := by decide +kernel
theorem dX7_rankIn_30 : decode cX7_rankIn 30 = .ok (.idiv, 1) := by decide +kernel
theorem dX7_rankIn_31 : decode cX7_rankIn 31 = .ok (.istore_n 3, 1) := by decide +kernel
theorem dX7_rankIn_32 : decode cX7_rankIn 32 = .ok (.iinc 4 (-1), 3) := by decide +kernel
theorem dX7_rankIn_35 : decode cX7_rankIn 35 = .ok (.goto (-28), 3) := by decide +kernel
theorem dX7_rankIn_38 : decode cX7_rankIn 38 = .ok (.iload_n 2, 1) := by decide +kernel
theorem dX7_rankIn_39 : decode cX7_rankIn 39 = .ok (.ireturn, 1) := by decide +kernel
theorem dX7_ink_0 : decode cX7_ink 0 = .ok (.iload_n 1, 1) := by decide +kernel
theorem dX7_ink_1 : decode cX7_ink 1 = .ok (.invokestatic 130, 3) := by decide +kernel
theorem dX7_ink_4 : decode cX7_ink 4 = .ok (.ifCond .ne 5, 3) := by decide +kernel
theorem dX7_ink_7 : decode cX7_ink 7 = .ok (.iconst (-1), 1) := by decide +kernel
theorem dX7_ink_8 : decode cX7_ink 8 = .ok (.ireturn, 1) := by decide +kernel
theorem dX7_ink_9 : decode cX7_ink 9 = .ok (.iload_n 2, 1) := by decide +kernel
theorem dX7_ink_10 : decode cX7_ink 10 = .ok (.tableswitch 78 0 4 #[34, 43, 53, 64, 72], 34) := by decide +kernel
theorem dX7_ink_44 : decode cX7_ink 44 = .ok (.aload_n 0, 1) := by decide +kernel
theorem dX7_ink_45 : decode cX7_ink 45 = .ok (.getfield 7, 3) := by decide +kernel
theorem dX7_ink_48 : decode cX7_ink 48 = .ok (.iconst 4, 1) := by decide +kernel
theorem dX7_ink_49 : decode cX7_ink 49 = .ok (.iload_n 1, 1) := by decide +kernel
theorem dX7_ink_50 : decode cX7_ink 50 = .ok (.iadd, 1) := by decide +kernel
theorem dX7_ink_51 : decode cX7_ink 51 = .ok (.iaload, 1) := by decide +kernel
theorem dX7_ink_52 : decode cX7_ink 52 = .ok (.ireturn, 1) := by decide +kernel
theorem dX7_ink_53 : decode cX7_ink 53 = .ok (.aload_n 0, 1) := by decide +kernel
theorem dX7_ink_54 : decode cX7_ink 54 = .ok (.getfield 7, 3) := by decide +kernel
theorem dX7_ink_57 : decode cX7_ink 57 = .ok (.bipush 9, 2) := by decide +kernel
theorem dX7_ink_59 : decode cX7_ink 59 = .ok (.iload_n 1, 1) := by decide +kernel
theorem dX7_ink_60 : decode cX7_ink 60 = .ok (.iadd, 1) := by decide +kernel
theorem dX7_ink_61 : decode cX7_ink 61 = .ok (.iaload, 1) := by decide +kernel
theorem dX7_ink_62 : decode cX7_ink 62 = .ok (.ireturn, 1) := by decide +kernel
theorem dX7_ink_63 : decode cX7_ink 63 = .ok (.aload_n 0, 1) := by decide +kernel
theorem dX7_ink_64 : decode cX7_ink 64 = .ok (.getfield 7, 3) := by decide +kernel
theorem dX7_ink_67 : decode cX7_ink 67 = .ok (.iconst 3, 1) := by decide +kernel
theorem dX7_ink_68 : decode cX7_ink 68 = .ok (.iaload, 1) := by decide +kernel
theorem dX7_ink_69 : decode cX7_ink 69 = .ok (.iload_n 1, 1) := by decide +kernel
theorem dX7_ink_70 : decode cX7_ink 70 = .ok (.invokestatic 133, 3) := by decide +kernel
theorem dX7_ink_73 : decode cX7_ink 73 = .ok (.ireturn, 1) := by decide +kernel
theorem dX7_ink_74 : decode cX7_ink 74 = .ok (.aload_n 0, 1) := by decide +kernel
theorem dX7_ink_75 : decode cX7_ink 75 = .ok (.iconst 1, 1) := by decide +kernel
theorem dX7_ink_76 : decode cX7_ink 76 = .ok (.iload_n 1, 1) := by decide +kernel
theorem dX7_ink_77 : decode cX7_ink 77 = .ok (.ishl, 1) := by decide +kernel
theorem dX7_ink_78 : decode cX7_ink 78 = .ok (.invokevirtual 136, 3) := by decide +kernel
theorem dX7_ink_81 : decode cX7_ink 81 = .ok (.ireturn, 1) := by decide +kernel
theorem dX7_ink_82 : decode cX7_ink 82 = .ok (.aload_n 0, 1) := by decide +kernel
theorem dX7_ink_83 : decode cX7_ink 83 = .ok (.iload_n 1, 1) := by decide +kernel
theorem dX7_ink_84 : decode cX7_ink 84 = .ok (.invokevirtual 139, 3) := by decide +kernel
theorem dX7_ink_87 : decode cX7_ink 87 = .ok (.ireturn, 1) := by decide +kernel
theorem dX7_ink_88 : decode cX7_ink 88 = .ok (.iconst (-1), 1) := by decide +kernel
theorem dX7_ink_89 : decode cX7_ink 89 = .ok (.ireturn, 1) := by decide +kernel
theorem dX7_set_0 : decode cX7_set 0 = .ok (.iload_n 1, 1) := by decide +kernel
theorem dX7_set_1 : decode cX7_set 1 = .ok (.i2l, 1) := by decide +kernel
theorem dX7_set_2 : decode cX7_set 2 = .ok (.invokestatic 142, 3) := by decide +kernel
theorem dX7_set_5 : decode cX7_set 5 = .ok (.ifCond .ne 5, 3) := by decide +kernel
theorem dX7_set_8 : decode cX7_set 8 = .ok (.iconst (-1), 1) := by decide +kernel
theorem dX7_set_9 : decode cX7_set 9 = .ok (.ireturn, 1) := by decide +kernel
theorem dX7_set_10 : decode cX7_set 10 = .ok (.iload_n 2, 1) := by decide +kernel
theorem dX7_set_11 : decode cX7_set 11 = .ok (.tableswitch 53 0 3 #[29, 35, 41, 47], 29) := by decide +kernel
theorem dX7_set_40 : decode cX7_set 40 = .ok (.aload_n 0, 1) := by decide +kernel
theorem dX7_set_41 : decode cX7_set 41 = .ok (.iload_n 1, 1) := by decide +kernel
theorem dX7_set_42 : decode cX7_set 42 = .ok (.invokevirtual 84, 3) := by decide +kernel
theorem dX7_set_45 : decode cX7_set 45 = .ok (.ireturn, 1) := by decide +kernel
theorem dX7_set_46 : decode cX7_set 46 = .ok (.aload_n 0, 1) := by decide +kernel
theorem dX7_set_47 : decode cX7_set 47 = .ok (.iload_n 1, 1) := by decide +kernel
theorem dX7_set_48 : decode cX7_set 48 = .ok (.invokevirtual 136, 3) := by decide +kernel
theorem dX7_set_51 : decode cX7_set 51 = .ok (.ireturn, 1) := by decide +kernel
theorem dX7_set_52 : decode cX7_set 52 = .ok (.aload_n 0, 1) := by decide +kernel
theorem dX7_set_53 : decode cX7_set 53 = .ok (.iload_n 1, 1) := by decide +kernel
theorem dX7_set_54 : decode cX7_set 54 = .ok (.invokevirtual 146, 3) := by decide +kernel
theorem dX7_set_57 : decode cX7_set 57 = .ok (.ireturn, 1) := by decide +kernel
theorem dX7_set_58 : decode cX7_set 58 = .ok (.aload_n 0, 1) := by decide +kernel
theorem dX7_set_59 : decode cX7_set 59 = .ok (.iload_n 1, 1) := by decide +kernel
theorem dX7_set_60 : decode cX7_set 60 = .ok (.invokevirtual 149, 3) := by decide +kernel
theorem dX7_set_63 : decode cX7_set 63 = .ok (.ireturn, 1) := by decide +kernel
theorem dX7_set_64 : decode cX7_set 64 = .ok (.iconst (-1), 1) := by decide +kernel
theorem dX7_set_65 : decode cX7_set 65 = .ok (.ireturn, 1) := by decide +kernel
theorem dX7_place_0 : decode cX7_place 0 = .ok (.aload_n 0, 1) := by decide +kernel
theorem dX7_place_1 : decode cX7_place 1 = .ok (.iload_n 1, 1) := by decide +kernel
theorem dX7_place_2 : decode cX7_place 2 = .ok (.iload_n 2, 1) := by decide +kernel
theorem dX7_place_3 : decode cX7_place 3 = .ok (.invokevirtual 65, 3) := by decide +kernel
theorem dX7_place_6 : decode cX7_place 6 = .ok (.ifCond .eq 15, 3) := by decide +kernel
theorem dX7_place_9 : decode cX7_place 9 = .ok (.iload_n 3, 1) := by decide +kernel
theorem dX7_place_10 : decode cX7_place 10 = .ok (.i2l, 1) := by decide +kernel
theorem dX7_place_11 : decode cX7_place 11 = .ok (.lconst 0, 1) := by decide +kernel
theorem dX7_place_12 : decode cX7_place 12 = .ok (.ldc2_w 152, 3) := by decide +kernel
theorem dX7_place_15 : decode cX7_place 15 = .ok (.invokestatic 59, 3) := by decide +kernel
theorem dX7_place_18 : decode cX7_place 18 = .ok (.ifCond .ne 5, 3) := by decide +kernel
theorem dX7_place_21 : decode cX7_place 21 = .ok (.iconst (-1), 1) := by decide +kernel
theorem dX7_place_22 : decode cX7_place 22 = .ok (.ireturn, 1) := by decide +kernel
theorem dX7_place_23 : decode cX7_place 23 = .ok (.bipush 8, 2) := by decide +kernel
theorem dX7_place_25 : decode cX7_place 25 = .ok (.iload_n 2, 1) := by decide +kernel
theorem dX7_place_26 : decode cX7_place 26 = .ok (.imul, 1) := by decide +kernel
theorem dX7_place_27 : decode cX7_place 27 = .ok (.iload_n 1, 1) := by decide +kernel
theorem dX7_place_28 : decode cX7_place 28 = .ok (.iadd, 1) := by decide +kernel
theorem dX7_place_29 : decode cX7_place 29 = .ok (.istore 4, 2) := by decide +kernel
theorem dX7_place_31 : decode cX7_place 31 = .ok (.iload_n 3, 1) := by decide +kernel
theorem dX7_place_32 : decode cX7_place 32 = .ok (.iconst 2, 1) := by decide +kernel
theorem dX7_place_33 : decode cX7_place 33 = .ok (.if_icmp .ge 27, 3) := by decide +kernel
theorem dX7_place_36 : decode cX7_place 36 = .ok (.iload_n 3, 1) := by decide +kernel
theorem dX7_place_37 : decode cX7_place 37 = .ok (.ifCond .ne 12, 3) := by decide +kernel
theorem dX7_place_40 : decode cX7_place 40 = .ok (.aload_n 0, 1) := by decide +kernel
theorem dX7_place_41 : decode cX7_place 41 = .ok (.iload 4, 2) := by decide +kernel
theorem dX7_place_43 : decode cX7_place 43 = .ok (.invokevirtual 92, 3) := by decide +kernel
theorem dX7_place_46 : decode cX7_place 46 = .ok (.goto 13, 3) := by decide +kernel
theorem dX7_place_49 : decode cX7_place 49 = .ok (.aload_n 0, 1) := by decide +kernel
theorem dX7_place_50 : decode cX7_place 50 = .ok (.aload_n 0, 1) := by decide +kernel
theorem dX7_place_51 : decode cX7_place 51 = .ok (.iload 4, 2) := by decide +kernel
theorem dX7_place_53 : decode cX7_place 53 = .ok (.invokevirtual 92, 3) := by decide +kernel
theorem dX7_place_56 : decode cX7_place 56 = .ok (.invokevirtual 84, 3) := by decide +kernel
theorem dX7_place_59 : decode cX7_place 59 = .ok (.ireturn, 1) := by decide +kernel
theorem dX7_place_60 : decode cX7_place 60 = .ok (.aload_n 0, 1) := by decide +kernel
theorem dX7_place_61 : decode cX7_place 61 = .ok (.invokevirtual 120, 3) := by decide +kernel
theorem dX7_place_64 : decode cX7_place 64 = .ok (.pop, 1) := by decide +kernel
theorem dX7_place_65 : decode cX7_place 65 = .ok (.aload_n 0, 1) := by decide +kernel
theorem dX7_place_66 : decode cX7_place 66 = .ok (.iload 4, 2) := by decide +kernel
theorem dX7_place_68 : decode cX7_place 68 = .ok (.invokevirtual 154, 3) := by decide +kernel
theorem dX7_place_71 : decode cX7_place 71 = .ok (.ireturn, 1) := by decide +kernel
theorem dX7_printed_0 : decode cX7_printed 0 = .ok (.aload_n 0, 1) := by decide +kernel
theorem dX7_printed_1 : decode cX7_printed 1 = .ok (.iload 4, 2) := by decide +kernel
theorem dX7_printed_3 : decode cX7_printed 3 = .ok (.invokevirtual 92, 3) := by decide +kernel
theorem dX7_printed_6 : decode cX7_printed 6 = .ok (.iconst 1, 1) := by decide +kernel
theorem dX7_printed_7 : decode cX7_printed 7 = .ok (.iload_n 1, 1) := by decide +kernel
theorem dX7_printed_8 : decode cX7_printed 8 = .ok (.ishl, 1) := by decide +kernel
theorem dX7_printed_9 : decode cX7_printed 9 = .ok (.iconst (-1), 1) := by decide +kernel
theorem dX7_printed_10 : decode cX7_printed 10 = .ok (.ixor, 1) := by decide +kernel
theorem dX7_printed_11 : decode cX7_printed 11 = .ok (.iand, 1) := by decide +kernel
theorem dX7_printed_12 : decode cX7_printed 12 = .ok (.istore 5, 2) := by decide +kernel
theorem dX7_printed_14 : decode cX7_printed 14 = .ok (.iload 4, 2) := by decide +kernel
theorem dX7_printed_16 : decode cX7_printed 16 = .ok (.bipush 8, 2) := by decide +kernel
theorem dX7_printed_18 : decode cX7_printed 18 = .ok (.irem, 1) := by decide +kernel
theorem dX7_printed_19 : decode cX7_printed 19 = .ok (.iload_n 2, 1) := by decide +kernel
theorem dX7_printed_20 : decode cX7_printed 20 = .ok (.isub, 1) := by decide +kernel
theorem dX7_printed_21 : decode cX7_printed 21 = .ok (.istore 6, 2) := by decide +kernel
theorem dX7_printed_23 : decode cX7_printed 23 = .ok (.iload 4, 2) := by decide +kernel
theorem dX7_printed_25 : decode cX7_printed 25 = .ok (.bipush 8, 2) := by decide +kernel
theorem dX7_printed_27 : decode cX7_printed 27 = .ok (.idiv, 1) := by decide +kernel
theorem dX7_printed_28 : decode cX7_printed 28 = .ok (.iload_n 3, 1) := by decide +kernel
theorem dX7_printed_29 : decode cX7_printed 29 = .ok (.isub, 1) := by decide +kernel
theorem dX7_printed_30 : decode cX7_printed 30 = .ok (.istore 7, 2) := by decide +kernel
theorem dX7_printed_32 : decode cX7_printed 32 = .ok (.aload_n 0, 1) := by decide +kernel
theorem dX7_printed_33 : decode cX7_printed 33 = .ok (.iload 6, 2) := by decide +kernel
theorem dX7_printed_35 : decode cX7_printed 35 = .ok (.iload 7, 2) := by decide +kernel
theorem dX7_printed_37 : decode cX7_printed 37 = .ok (.invokevirtual 65, 3) := by decide +kernel
theorem dX7_printed_40 : decode cX7_printed 40 = .ok (.ifCond .eq 31, 3) := by decide +kernel
theorem dX7_printed_43 : decode cX7_printed 43 = .ok (.aload_n 0, 1) := by decide +kernel
theorem dX7_printed_44 : decode cX7_printed 44 = .ok (.bipush 8, 2) := by decide +kernel
theorem dX7_printed_46 : decode cX7_printed 46 = .ok (.iload 7, 2) := by decide +kernel
theorem dX7_printed_48 : decode cX7_printed 48 = .ok (.imul, 1) := by decide +kernel
theorem dX7_printed_49 : decode cX7_printed 49 = .ok (.iload 6, 2) := by decide +kernel
theorem dX7_printed_51 : decode cX7_printed 51 = .ok (.iadd, 1) := by decide +kernel
theorem dX7_printed_52 : decode cX7_printed 52 = .ok (.invokevirtual 92, 3) := by decide +kernel
theorem dX7_printed_55 : decode cX7_printed 55 = .ok (.iload_n 1, 1) := by decide +kernel
theorem dX7_printed_56 : decode cX7_printed 56 = .ok (.invokestatic 69, 3) := by decide +kernel
theorem dX7_printed_59 : decode cX7_printed 59 = .ok (.ifCond .eq 12, 3) := by decide +kernel
theorem dX7_printed_62 : decode cX7_printed 62 = .ok (.iload 5, 2) := by decide +kernel
theorem dX7_printed_64 : decode cX7_printed 64 = .ok (.iconst 1, 1) := by decide +kernel
theorem dX7_printed_65 : decode cX7_printed 65 = .ok (.iload_n 1, 1) := by decide +kernel
theorem dX7_printed_66 : decode cX7_printed 66 = .ok (.ishl, 1) := by decide +kernel
theorem dX7_printed_67 : decode cX7_printed 67 = .ok (.ior, 1) := by decide +kernel
theorem dX7_printed_68 : decode cX7_printed 68 = .ok (.goto 5, 3) := by decide +kernel
theorem dX7_printed_71 : decode cX7_printed 71 = .ok (.iload 5, 2) := by decide +kernel
theorem dX7_printed_73 : decode cX7_printed 73 = .ok (.ireturn, 1) := by decide +kernel
theorem dX7_gapsBy_0 : decode cX7_gapsBy 0 = .ok (.iconst 0, 1) := by decide +kernel
theorem dX7_gapsBy_1 : decode cX7_gapsBy 1 = .ok (.istore 4, 2) := by decide +kernel
theorem dX7_gapsBy_3 : decode cX7_gapsBy 3 = .ok (.iconst 0, 1) := by decide +kernel
theorem dX7_gapsBy_4 : decode cX7_gapsBy 4 = .ok (.istore 5, 2) := by decide +kernel
theorem dX7_gapsBy_6 : decode cX7_gapsBy 6 = .ok (.iload 5, 2) := by decide +kernel
theorem dX7_gapsBy_8 : decode cX7_gapsBy 8 = .ok (.bipush 48, 2) := by decide +kernel
theorem dX7_gapsBy_10 : decode cX7_gapsBy 10 = .ok (.if_icmp .ge 49, 3) := by decide +kernel
theorem dX7_gapsBy_13 : decode cX7_gapsBy 13 = .ok (.iload 4, 2) := by decide +kernel
theorem dX7_gapsBy_15 : decode cX7_gapsBy 15 = .ok (.aload_n 0, 1) := by decide +kernel
theorem dX7_gapsBy_16 : decode cX7_gapsBy 16 = .ok (.iload 5, 2) := by decide +kernel
theorem dX7_gapsBy_18 : decode cX7_gapsBy 18 = .ok (.invokevirtual 88, 3) := by decide +kernel
theorem dX7_gapsBy_21 : decode cX7_gapsBy 21 = .ok (.ifCond .eq 28, 3) := by decide +kernel
theorem dX7_gapsBy_24 : decode cX7_gapsBy 24 = .ok (.aload_n 0, 1) := by decide +kernel
theorem dX7_gapsBy_25 : decode cX7_gapsBy 25 = .ok (.iload 5, 2) := by decide +kernel
theorem dX7_gapsBy_27 : decode cX7_gapsBy 27 = .ok (.invokevirtual 92, 3) := by decide +kernel
theorem dX7_gapsBy_30 : decode cX7_gapsBy 30 = .ok (.ifCond .eq 19, 3) := by decide +kernel
theorem dX7_gapsBy_33 : decode cX7_gapsBy 33 = .ok (.aload_n 0, 1) := by decide +kernel
theorem dX7_gapsBy_34 : decode cX7_gapsBy 34 = .ok (.iload_n 1, 1) := by decide +kernel
theorem dX7_gapsBy_35 : decode cX7_gapsBy 35 = .ok (.iload_n 2, 1) := by decide +kernel
theorem dX7_gapsBy_36 : decode cX7_gapsBy 36 = .ok (.iload_n 3, 1) := by decide +kernel
theorem dX7_gapsBy_37 : decode cX7_gapsBy 37 = .ok (.iload 5, 2) := by decide +kernel
theorem dX7_gapsBy_39 : decode cX7_gapsBy 39 = .ok (.invokevirtual 157, 3) := by decide +kernel
theorem dX7_gapsBy_42 : decode cX7_gapsBy 42 = .ok (.ifCond .ne 7, 3) := by decide +kernel
theorem dX7_gapsBy_45 : decode cX7_gapsBy 45 = .ok (.iconst 1, 1) := by decide +kernel
theorem dX7_gapsBy_46 : decode cX7_gapsBy 46 = .ok (.goto 4, 3) := by decide +kernel
theorem dX7_gapsBy_49 : decode cX7_gapsBy 49 = .ok (.iconst 0, 1) := by decide +kernel
theorem dX7_gapsBy_50 : decode cX7_gapsBy 50 = .ok (.iadd, 1) := by decide +kernel
theorem dX7_gapsBy_51 : decode cX7_gapsBy 51 = .ok (.istore 4, 2) := by decide +kernel
theorem dX7_gapsBy_53 : decode cX7_gapsBy 53 = .ok (.iinc 5 1, 3) := by decide +kernel
theorem dX7_gapsBy_56 : decode cX7_gapsBy 56 = .ok (.goto (-50), 3) := by decide +kernel
theorem dX7_gapsBy_59 : decode cX7_gapsBy 59 = .ok (.iload 4, 2) := by decide +kernel
theorem dX7_gapsBy_61 : decode cX7_gapsBy 61 = .ok (.ireturn, 1) := by decide +kernel
theorem dX7_isAside_0 : decode cX7_isAside 0 = .ok (.iload_n 0, 1) := by decide +kernel
theorem dX7_isAside_1 : decode cX7_isAside 1 = .ok (.invokestatic 130, 3) := by decide +kernel
theorem dX7_isAside_4 : decode cX7_isAside 4 = .ok (.ifCond .eq 31, 3) := by decide +kernel
theorem dX7_isAside_7 : decode cX7_isAside 7 = .ok (.iload_n 1, 1) := by decide +kernel
theorem dX7_isAside_8 : decode cX7_isAside 8 = .ok (.i2l, 1) := by decide +kernel
theorem dX7_isAside_9 : decode cX7_isAside 9 = .ok (.ldc2_w 160, 3) := by decide +kernel
theorem dX7_isAside_12 : decode cX7_isAside 12 = .ok (.lconst 1, 1) := by decide +kernel
theorem dX7_isAside_13 : decode cX7_isAside 13 = .ok (.invokestatic 59, 3) := by decide +kernel
theorem dX7_isAside_16 : decode cX7_isAside 16 = .ok (.ifCond .eq 19, 3) := by decide +kernel
theorem dX7_isAside_19 : decode cX7_isAside 19 = .ok (.iload_n 2, 1) := by decide +kernel
theorem dX7_isAside_20 : decode cX7_isAside 20 = .ok (.i2l, 1) := by decide +kernel
theorem dX7_isAside_21 : decode cX7_isAside 21 = .ok (.ldc2_w 160, 3) := by decide +kernel
theorem dX7_isAside_24 : decode cX7_isAside 24 = .ok (.lconst 1, 1) := by decide +kernel
theorem dX7_isAside_25 : decode cX7_isAside 25 = .ok (.invokestatic 59, 3) := by decide +kernel
theorem dX7_isAside_28 : decode cX7_isAside 28 = .ok (.ifCond .eq 7, 3) := by decide +kernel
theorem dX7_isAside_31 : decode cX7_isAside 31 = .ok (.iconst 1, 1) := by decide +kernel
theorem dX7_isAside_32 : decode cX7_isAside 32 = .ok (.goto 4, 3) := by decide +kernel
theorem dX7_isAside_35 : decode cX7_isAside 35 = .ok (.iconst 0, 1) := by decide +kernel
theorem dX7_isAside_36 : decode cX7_isAside 36 = .ok (.ireturn, 1) := by decide +kernel
theorem dX7_gaps_0 : decode cX7_gaps 0 = .ok (.iload_n 1, 1) := by decide +kernel
theorem dX7_gaps_1 : decode cX7_gaps 1 = .ok (.iload_n 2, 1) := by decide +kernel
theorem dX7_gaps_2 : decode cX7_gaps 2 = .ok (.iload_n 3, 1) := by decide +kernel
theorem dX7_gaps_3 : decode cX7_gaps 3 = .ok (.invokestatic 162, 3) := by decide +kernel
theorem dX7_gaps_6 : decode cX7_gaps 6 = .ok (.ifCond .eq 13, 3) := by decide +kernel
theorem dX7_gaps_9 : decode cX7_gaps 9 = .ok (.aload_n 0, 1) := by decide +kernel
theorem dX7_gaps_10 : decode cX7_gaps 10 = .ok (.iload_n 1, 1) := by decide +kernel
theorem dX7_gaps_11 : decode cX7_gaps 11 = .ok (.iload_n 2, 1) := by decide +kernel
theorem dX7_gaps_12 : decode cX7_gaps 12 = .ok (.iload_n 3, 1) := by decide +kernel
theorem dX7_gaps_13 : decode cX7_gaps 13 = .ok (.invokevirtual 166, 3) := by decide +kernel
theorem dX7_gaps_16 : decode cX7_gaps 16 = .ok (.goto 4, 3) := by decide +kernel
theorem dX7_gaps_19 : decode cX7_gaps 19 = .ok (.iconst (-1), 1) := by decide +kernel
theorem dX7_gaps_20 : decode cX7_gaps 20 = .ok (.ireturn, 1) := by decide +kernel
theorem dX7_aside_0 : decode cX7_aside 0 = .ok (.iload_n 1, 1) := by decide +kernel
theorem dX7_aside_1 : decode cX7_aside 1 = .ok (.iload_n 2, 1) := by decide +kernel
theorem dX7_aside_2 : decode cX7_aside 2 = .ok (.iload_n 3, 1) := by decide +kernel
theorem dX7_aside_3 : decode cX7_aside 3 = .ok (.invokestatic 162, 3) := by decide +kernel
theorem dX7_aside_6 : decode cX7_aside 6 = .ok (.ifCond .eq 32, 3) := by decide +kernel
theorem dX7_aside_9 : decode cX7_aside 9 = .ok (.aload_n 0, 1) := by decide +kernel
theorem dX7_aside_10 : decode cX7_aside 10 = .ok (.iload 4, 2) := by decide +kernel
theorem dX7_aside_12 : decode cX7_aside 12 = .ok (.iload 5, 2) := by decide +kernel
theorem dX7_aside_14 : decode cX7_aside 14 = .ok (.invokevirtual 65, 3) := by decide +kernel
theorem dX7_aside_17 : decode cX7_aside 17 = .ok (.ifCond .eq 21, 3) := by decide +kernel
theorem dX7_aside_20 : decode cX7_aside 20 = .ok (.aload_n 0, 1) := by decide +kernel
theorem dX7_aside_21 : decode cX7_aside 21 = .ok (.iload_n 1, 1) := by decide +kernel
theorem dX7_aside_22 : decode cX7_aside 22 = .ok (.iload_n 2, 1) := by decide +kernel
theorem dX7_aside_23 : decode cX7_aside 23 = .ok (.iload_n 3, 1) := by decide +kernel
theorem dX7_aside_24 : decode cX7_aside 24 = .ok (.bipush 8, 2) := by decide +kernel
theorem dX7_aside_26 : decode cX7_aside 26 = .ok (.iload 5, 2) := by decide +kernel
theorem dX7_aside_28 : decode cX7_aside 28 = .ok (.imul, 1) := by decide +kernel
theorem dX7_aside_29 : decode cX7_aside 29 = .ok (.iload 4, 2) := by decide +kernel
theorem dX7_aside_31 : decode cX7_aside 31 = .ok (.iadd, 1) := by decide +kernel
theorem dX7_aside_32 : decode cX7_aside 32 = .ok (.invokevirtual 157, 3) := by decide +kernel
theorem dX7_aside_35 : decode cX7_aside 35 = .ok (.goto 4, 3) := by decide +kernel
theorem dX7_aside_38 : decode cX7_aside 38 = .ok (.iconst (-1), 1) := by decide +kernel
theorem dX7_aside_39 : decode cX7_aside 39 = .ok (.ireturn, 1) := by decide +kernel
theorem dX7_worst_0 : decode cX7_worst 0 = .ok (.iconst 1, 1) := by decide +kernel
theorem dX7_worst_1 : decode cX7_worst 1 = .ok (.istore_n 2, 1) := by decide +kernel
theorem dX7_worst_2 : decode cX7_worst 2 = .ok (.bipush (-4), 2) := by decide +kernel
theorem dX7_worst_4 : decode cX7_worst 4 = .ok (.istore_n 3, 1) := by decide +kernel
theorem dX7_worst_5 : decode cX7_worst 5 = .ok (.bipush 44, 2) := by decide +kernel
theorem dX7_worst_7 : decode cX7_worst 7 = .ok (.istore 4, 2) := by decide +kernel
theorem dX7_worst_9 : decode cX7_worst 9 = .ok (.iload 4, 2) := by decide +kernel
theorem dX7_worst_11 : decode cX7_worst 11 = .ok (.ifCond .lt 67, 3) := by decide +kernel
theorem dX7_worst_14 : decode cX7_worst 14 = .ok (.aload_n 0, 1) := by decide +kernel
theorem dX7_worst_15 : decode cX7_worst 15 = .ok (.iload 4, 2) := by decide +kernel
theorem dX7_worst_17 : decode cX7_worst 17 = .ok (.bipush 9, 2) := by decide +kernel
theorem dX7_worst_19 : decode cX7_worst 19 = .ok (.idiv, 1) := by decide +kernel
theorem dX7_worst_20 : decode cX7_worst 20 = .ok (.iload 4, 2) := by decide +kernel
theorem dX7_worst_22 : decode cX7_worst 22 = .ok (.iconst 3, 1) := by decide +kernel
theorem dX7_worst_23 : decode cX7_worst 23 = .ok (.irem, 1) := by decide +kernel
theorem dX7_worst_24 : decode cX7_worst 24 = .ok (.iconst 1, 1) := by decide +kernel
theorem dX7_worst_25 : decode cX7_worst 25 = .ok (.isub, 1) := by decide +kernel
theorem dX7_worst_26 : decode cX7_worst 26 = .ok (.iload 4, 2) := by decide +kernel
theorem dX7_worst_28 : decode cX7_worst 28 = .ok (.iconst 3, 1) := by decide +kernel
theorem dX7_worst_29 : decode cX7_worst 29 = .ok (.idiv, 1) := by decide +kernel
theorem dX7_worst_30 : decode cX7_worst 30 = .ok (.iconst 3, 1) := by decide +kernel
theorem dX7_worst_31 : decode cX7_worst 31 = .ok (.irem, 1) := by decide +kernel
theorem dX7_worst_32 : decode cX7_worst 32 = .ok (.iconst 1, 1) := by decide +kernel
theorem dX7_worst_33 : decode cX7_worst 33 = .ok (.isub, 1) := by decide +kernel
theorem dX7_worst_34 : decode cX7_worst 34 = .ok (.invokevirtual 166, 3) := by decide +kernel
theorem dX7_worst_37 : decode cX7_worst 37 = .ok (.istore 5, 2) := by decide +kernel
theorem dX7_worst_39 : decode cX7_worst 39 = .ok (.iload 5, 2) := by decide +kernel
theorem dX7_worst_41 : decode cX7_worst 41 = .ok (.iload_n 2, 1) := by decide +kernel
theorem dX7_worst_42 : decode cX7_worst 42 = .ok (.if_icmp .lt 30, 3) := by decide +kernel
theorem dX7_worst_45 : decode cX7_worst 45 = .ok (.iload 5, 2) := by decide +kernel
theorem dX7_worst_47 : decode cX7_worst 47 = .ok (.istore_n 2, 1) := by decide +kernel
theorem dX7_worst_48 : decode cX7_worst 48 = .ok (.bipush 100, 2) := by decide +kernel
theorem dX7_worst_50 : decode cX7_worst 50 = .ok (.iload 4, 2) := by decide +kernel
theorem dX7_worst_52 : decode cX7_worst 52 = .ok (.bipush 9, 2) := by decide +kernel
theorem dX7_worst_54 : decode cX7_worst 54 = .ok (.idiv, 1) := by decide +kernel
theorem dX7_worst_55 : decode cX7_worst 55 = .ok (.imul, 1) := by decide +kernel
theorem dX7_worst_56 : decode cX7_worst 56 = .ok (.bipush 10, 2) := by decide +kernel
theorem dX7_worst_58 : decode cX7_worst 58 = .ok (.iload 4, 2) := by decide +kernel
theorem dX7_worst_60 : decode cX7_worst 60 = .ok (.iconst 3, 1) := by decide +kernel
theorem dX7_worst_61 : decode cX7_worst 61 = .ok (.idiv, 1) := by decide +kernel
theorem dX7_worst_62 : decode cX7_worst 62 = .ok (.iconst 3, 1) := by decide +kernel
theorem dX7_worst_63 : decode cX7_worst 63 = .ok (.irem, 1) := by decide +kernel
theorem dX7_worst_64 : decode cX7_worst 64 = .ok (.imul, 1) := by decide +kernel
theorem dX7_worst_65 : decode cX7_worst 65 = .ok (.iadd, 1) := by decide +kernel
theorem dX7_worst_66 : decode cX7_worst 66 = .ok (.iload 4, 2) := by decide +kernel
theorem dX7_worst_68 : decode cX7_worst 68 = .ok (.iconst 3, 1) := by decide +kernel
theorem dX7_worst_69 : decode cX7_worst 69 = .ok (.irem, 1) := by decide +kernel
theorem dX7_worst_70 : decode cX7_worst 70 = .ok (.iadd, 1) := by decide +kernel
theorem dX7_worst_71 : decode cX7_worst 71 = .ok (.istore_n 3, 1) := by decide +kernel
theorem dX7_worst_72 : decode cX7_worst 72 = .ok (.iinc 4 (-1), 3) := by decide +kernel
theorem dX7_worst_75 : decode cX7_worst 75 = .ok (.goto (-66), 3) := by decide +kernel
theorem dX7_worst_78 : decode cX7_worst 78 = .ok (.iload_n 1, 1) := by decide +kernel
theorem dX7_worst_79 : decode cX7_worst 79 = .ok (.ifCond .ne 7, 3) := by decide +kernel
theorem dX7_worst_82 : decode cX7_worst 82 = .ok (.iload_n 3, 1) := by decide +kernel
theorem dX7_worst_83 : decode cX7_worst 83 = .ok (.goto 14, 3) := by decide +kernel
theorem dX7_worst_86 : decode cX7_worst 86 = .ok (.iload_n 3, 1) := by decide +kernel
theorem dX7_worst_87 : decode cX7_worst 87 = .ok (.bipush (-4), 2) := by decide +kernel
theorem dX7_worst_89 : decode cX7_worst 89 = .ok (.if_icmp .ne 7, 3) := by decide +kernel
theorem dX7_worst_92 : decode cX7_worst 92 = .ok (.iconst 0, 1) := by decide +kernel
theorem dX7_worst_93 : decode cX7_worst 93 = .ok (.goto 4, 3) := by decide +kernel
theorem dX7_worst_96 : decode cX7_worst 96 = .ok (.iload_n 2, 1) := by decide +kernel
theorem dX7_worst_97 : decode cX7_worst 97 = .ok (.ireturn, 1) := by decide +kernel
theorem dX7_isOrder_0 : decode cX7_isOrder 0 = .ok (.iload_n 0, 1) := by decide +kernel
theorem dX7_isOrder_1 : decode cX7_isOrder 1 = .ok (.i2l, 1) := by decide +kernel
theorem dX7_isOrder_2 : decode cX7_isOrder 2 = .ok (.lconst 0, 1) := by decide +kernel
theorem dX7_isOrder_3 : decode cX7_isOrder 3 = .ok (.ldc2_w 169, 3) := by decide +kernel
theorem dX7_isOrder_6 : decode cX7_isOrder 6 = .ok (.invokestatic 59, 3) := by decide +kernel
theorem dX7_isOrder_9 : decode cX7_isOrder 9 = .ok (.ifCond .ne 5, 3) := by decide +kernel
theorem dX7_isOrder_12 : decode cX7_isOrder 12 = .ok (.iconst 0, 1) := by decide +kernel
theorem dX7_isOrder_13 : decode cX7_isOrder 13 = .ok (.ireturn, 1) := by decide +kernel
theorem dX7_isOrder_14 : decode cX7_isOrder 14 = .ok (.iconst 0, 1) := by decide +kernel
theorem dX7_isOrder_15 : decode cX7_isOrder 15 = .ok (.istore_n 1, 1) := by decide +kernel
theorem dX7_isOrder_16 : decode cX7_isOrder 16 = .ok (.iload_n 0, 1) := by decide +kernel
theorem dX7_isOrder_17 : decode cX7_isOrder 17 = .ok (.istore_n 2, 1) := by decide +kernel
theorem dX7_isOrder_18 : decode cX7_isOrder 18 = .ok (.iconst 0, 1) := by decide +kernel
theorem dX7_isOrder_19 : decode cX7_isOrder 19 = .ok (.istore_n 3, 1) := by decide +kernel
theorem dX7_isOrder_20 : decode cX7_isOrder 20 = .ok (.iload_n 3, 1) := by decide +kernel
theorem dX7_isOrder_21 : decode cX7_isOrder 21 = .ok (.iconst 5, 1) := by decide +kernel
theorem dX7_isOrder_22 : decode cX7_isOrder 22 = .ok (.if_icmp .ge 23, 3) := by decide +kernel
theorem dX7_isOrder_25 : decode cX7_isOrder 25 = .ok (.iload_n 1, 1) := by decide +kernel
theorem dX7_isOrder_26 : decode cX7_isOrder 26 = .ok (.iconst 1, 1) := by decide +kernel
theorem dX7_isOrder_27 : decode cX7_isOrder 27 = .ok (.iload_n 2, 1) := by decide +kernel
theorem dX7_isOrder_28 : decode cX7_isOrder 28 = .ok (.bipush 10, 2) := by decide +kernel
theorem dX7_isOrder_30 : decode cX7_isOrder 30 = .ok (.irem, 1) := by decide +kernel
theorem dX7_isOrder_31 : decode cX7_isOrder 31 = .ok (.ishl, 1) := by decide +kernel
theorem dX7_isOrder_32 : decode cX7_isOrder 32 = .ok (.ior, 1) := by decide +kernel
theorem dX7_isOrder_33 : decode cX7_isOrder 33 = .ok (.istore_n 1, 1) := by decide +kernel
theorem dX7_isOrder_34 : decode cX7_isOrder 34 = .ok (.iload_n 2, 1) := by decide +kernel
theorem dX7_isOrder_35 : decode cX7_isOrder 35 = .ok (.bipush 10, 2) := by decide +kernel
theorem dX7_isOrder_37 : decode cX7_isOrder 37 = .ok (.idiv, 1) := by decide +kernel
theorem dX7_isOrder_38 : decode cX7_isOrder 38 = .ok (.istore_n 2, 1) := by decide +kernel
theorem dX7_isOrder_39 : decode cX7_isOrder 39 = .ok (.iinc 3 1, 3) := by decide +kernel
theorem dX7_isOrder_42 : decode cX7_isOrder 42 = .ok (.goto (-22), 3) := by decide +kernel
theorem dX7_isOrder_45 : decode cX7_isOrder 45 = .ok (.iload_n 1, 1) := by decide +kernel
theorem dX7_isOrder_46 : decode cX7_isOrder 46 = .ok (.bipush 31, 2) := by decide +kernel
theorem dX7_isOrder_48 : decode cX7_isOrder 48 = .ok (.if_icmp .ne 7, 3) := by decide +kernel
theorem dX7_isOrder_51 : decode cX7_isOrder 51 = .ok (.iconst 1, 1) := by decide +kernel
theorem dX7_isOrder_52 : decode cX7_isOrder 52 = .ok (.goto 4, 3) := by decide +kernel
theorem dX7_isOrder_55 : decode cX7_isOrder 55 = .ok (.iconst 0, 1) := by decide +kernel
theorem dX7_isOrder_56 : decode cX7_isOrder 56 = .ok (.ireturn, 1) := by decide +kernel
theorem dX7_leaves_0 : decode cX7_leaves 0 = .ok (.iconst 1, 1) := by decide +kernel
theorem dX7_leaves_1 : decode cX7_leaves 1 = .ok (.istore_n 2, 1) := by decide +kernel
theorem dX7_leaves_2 : decode cX7_leaves 2 = .ok (.iconst 0, 1) := by decide +kernel
theorem dX7_leaves_3 : decode cX7_leaves 3 = .ok (.istore_n 3, 1) := by decide +kernel
theorem dX7_leaves_4 : decode cX7_leaves 4 = .ok (.iload_n 3, 1) := by decide +kernel
theorem dX7_leaves_5 : decode cX7_leaves 5 = .ok (.bipush 32, 2) := by decide +kernel
theorem dX7_leaves_7 : decode cX7_leaves 7 = .ok (.if_icmp .ge 44, 3) := by decide +kernel
theorem dX7_leaves_10 : decode cX7_leaves 10 = .ok (.iload_n 2, 1) := by decide +kernel
theorem dX7_leaves_11 : decode cX7_leaves 11 = .ok (.ifCond .eq 40, 3) := by decide +kernel
theorem dX7_leaves_14 : decode cX7_leaves 14 = .ok (.aload_n 0, 1) := by decide +kernel
theorem dX7_leaves_15 : decode cX7_leaves 15 = .ok (.iload_n 3, 1) := by decide +kernel
theorem dX7_leaves_16 : decode cX7_leaves 16 = .ok (.iload_n 1, 1) := by decide +kernel
theorem dX7_leaves_17 : decode cX7_leaves 17 = .ok (.iconst (-1), 1) := by decide +kernel
theorem dX7_leaves_18 : decode cX7_leaves 18 = .ok (.iconst 0, 1) := by decide +kernel
theorem dX7_leaves_19 : decode cX7_leaves 19 = .ok (.invokevirtual 80, 3) := by decide +kernel
theorem dX7_leaves_22 : decode cX7_leaves 22 = .ok (.aload_n 0, 1) := by decide +kernel
theorem dX7_leaves_23 : decode cX7_leaves 23 = .ok (.getfield 13, 3) := by decide +kernel
theorem dX7_leaves_26 : decode cX7_leaves 26 = .ok (.iload_n 3, 1) := by decide +kernel
theorem dX7_leaves_27 : decode cX7_leaves 27 = .ok (.iaload, 1) := by decide +kernel
theorem dX7_leaves_28 : decode cX7_leaves 28 = .ok (.if_icmp .eq 11, 3) := by decide +kernel
theorem dX7_leaves_31 : decode cX7_leaves 31 = .ok (.aload_n 0, 1) := by decide +kernel
theorem dX7_leaves_32 : decode cX7_leaves 32 = .ok (.iload_n 3, 1) := by decide +kernel
theorem dX7_leaves_33 : decode cX7_leaves 33 = .ok (.invokevirtual 149, 3) := by decide +kernel
theorem dX7_leaves_36 : decode cX7_leaves 36 = .ok (.ifCond .ne 7, 3) := by decide +kernel
theorem dX7_leaves_39 : decode cX7_leaves 39 = .ok (.iconst 1, 1) := by decide +kernel
theorem dX7_leaves_40 : decode cX7_leaves 40 = .ok (.goto 4, 3) := by decide +kernel
theorem dX7_leaves_43 : decode cX7_leaves 43 = .ok (.iconst 0, 1) := by decide +kernel
theorem dX7_leaves_44 : decode cX7_leaves 44 = .ok (.istore_n 2, 1) := by decide +kernel
theorem dX7_leaves_45 : decode cX7_leaves 45 = .ok (.iinc 3 1, 3) := by decide +kernel
theorem dX7_leaves_48 : decode cX7_leaves 48 = .ok (.goto (-44), 3) := by decide +kernel
theorem dX7_leaves_51 : decode cX7_leaves 51 = .ok (.iload_n 2, 1) := by decide +kernel
theorem dX7_leaves_52 : decode cX7_leaves 52 = .ok (.ireturn, 1) := by decide +kernel
theorem dX7_orders_0 : decode cX7_orders 0 = .ok (.iconst 0, 1) := by decide +kernel
theorem dX7_orders_1 : decode cX7_orders 1 = .ok (.istore_n 2, 1) := by decide +kernel
theorem dX7_orders_2 : decode cX7_orders 2 = .ok (.bipush (-4), 2) := by decide +kernel
theorem dX7_orders_4 : decode cX7_orders 4 = .ok (.istore_n 3, 1) := by decide +kernel
theorem dX7_orders_5 : decode cX7_orders 5 = .ok (.ldc 171, 2) := by decide +kernel
theorem dX7_orders_7 : decode cX7_orders 7 = .ok (.istore 4, 2) := by decide +kernel
theorem dX7_orders_9 : decode cX7_orders 9 = .ok (.iload 4, 2) := by decide +kernel
theorem dX7_orders_11 : decode cX7_orders 11 = .ok (.sipush 1234, 3) := by decide +kernel
theorem dX7_orders_14 : decode cX7_orders 14 = .ok (.if_icmp .lt 32, 3) := by decide +kernel
theorem dX7_orders_17 : decode cX7_orders 17 = .ok (.iload 4, 2) := by decide +kernel
theorem dX7_orders_19 : decode cX7_orders 19 = .ok (.invokestatic 172, 3) := by decide +kernel
theorem dX7_orders_22 : decode cX7_orders 22 = .ok (.ifCond .eq 18, 3) := by decide +kernel
theorem dX7_orders_25 : decode cX7_orders 25 = .ok (.aload_n 0, 1) := by decide +kernel
theorem dX7_orders_26 : decode cX7_orders 26 = .ok (.iload 4, 2) := by decide +kernel
theorem dX7_orders_28 : decode cX7_orders 28 = .ok (.invokevirtual 175, 3) := by decide +kernel
theorem dX7_orders_31 : decode cX7_orders 31 = .ok (.ifCond .eq 9, 3) := by decide +kernel
theorem dX7_orders_34 : decode cX7_orders 34 = .ok (.iinc 2 1, 3) := by decide +kernel
theorem dX7_orders_37 : decode cX7_orders 37 = .ok (.iload 4, 2) := by decide +kernel
theorem dX7_orders_39 : decode cX7_orders 39 = .ok (.istore_n 3, 1) := by decide +kernel
theorem dX7_orders_40 : decode cX7_orders 40 = .ok (.iinc 4 (-1), 3) := by decide +kernel
theorem dX7_orders_43 : decode cX7_orders 43 = .ok (.goto (-34), 3) := by decide +kernel
theorem dX7_orders_46 : decode cX7_orders 46 = .ok (.iload_n 1, 1) := by decide +kernel
theorem dX7_orders_47 : decode cX7_orders 47 = .ok (.ifCond .ne 7, 3) := by decide +kernel
theorem dX7_orders_50 : decode cX7_orders 50 = .ok (.iload_n 2, 1) := by decide +kernel
theorem dX7_orders_51 : decode cX7_orders 51 = .ok (.goto 4, 3) := by decide +kernel
theorem dX7_orders_54 : decode cX7_orders 54 = .ok (.iload_n 3, 1) := by decide +kernel
theorem dX7_orders_55 : decode cX7_orders 55 = .ok (.ireturn, 1) := by decide +kernel
theorem dX7_byDark_0 : decode cX7_byDark 0 = .ok (.iconst 0, 1) := by decide +kernel
theorem dX7_byDark_1 : decode cX7_byDark 1 = .ok (.istore_n 1, 1) := by decide +kernel
theorem dX7_byDark_2 : decode cX7_byDark 2 = .ok (.iconst 0, 1) := by decide +kernel
theorem dX7_byDark_3 : decode cX7_byDark 3 = .ok (.istore_n 2, 1) := by decide +kernel
theorem dX7_byDark_4 : decode cX7_byDark 4 = .ok (.iconst 0, 1) := by decide +kernel
theorem dX7_byDark_5 : decode cX7_byDark 5 = .ok (.istore_n 3, 1) := by decide +kernel
theorem dX7_byDark_6 : decode cX7_byDark 6 = .ok (.iload_n 3, 1) := by decide +kernel
theorem dX7_byDark_7 : decode cX7_byDark 7 = .ok (.iconst 5, 1) := by decide +kernel
theorem dX7_byDark_8 : decode cX7_byDark 8 = .ok (.if_icmp .ge 78, 3) := by decide +kernel
theorem dX7_byDark_11 : decode cX7_byDark 11 = .ok (.iconst (-1), 1) := by decide +kernel
theorem dX7_byDark_12 : decode cX7_byDark 12 = .ok (.istore 4, 2) := by decide +kernel
theorem dX7_byDark_14 : decode cX7_byDark 14 = .ok (.iconst 4, 1) := by decide +kernel
theorem dX7_byDark_15 : decode cX7_byDark 15 = .ok (.istore 5, 2) := by decide +kernel
theorem dX7_byDark_17 : decode cX7_byDark 17 = .ok (.iload 5, 2) := by decide +kernel
theorem dX7_byDark_19 : decode cX7_byDark 19 = .ok (.ifCond .lt 46, 3) := by decide +kernel
theorem dX7_byDark_22 : decode cX7_byDark 22 = .ok (.iload_n 2, 1) := by decide +kernel
theorem dX7_byDark_23 : decode cX7_byDark 23 = .ok (.iload 5, 2) := by decide +kernel
theorem dX7_byDark_25 : decode cX7_byDark 25 = .ok (.invokestatic 69, 3) := by decide +kernel
theorem dX7_byDark_28 : decode cX7_byDark 28 = .ok (.ifCond .ne 31, 3) := by decide +kernel
theorem dX7_byDark_31 : decode cX7_byDark 31 = .ok (.iload 4, 2) := by decide +kernel
theorem dX7_byDark_33 : decode cX7_byDark 33 = .ok (.ifCond .lt 22, 3) := by decide +kernel
theorem dX7_byDark_36 : decode cX7_byDark 36 = .ok (.aload_n 0, 1) := by decide +kernel
theorem dX7_byDark_37 : decode cX7_byDark 37 = .ok (.iconst 1, 1) := by decide +kernel
theorem dX7_byDark_38 : decode cX7_byDark 38 = .ok (.iload 5, 2) := by decide +kernel
theorem dX7_byDark_40 : decode cX7_byDark 40 = .ok (.ishl, 1) := by decide +kernel
theorem dX7_byDark_41 : decode cX7_byDark 41 = .ok (.invokevirtual 136, 3) := by decide +kernel
theorem dX7_byDark_44 : decode cX7_byDark 44 = .ok (.aload_n 0, 1) := by decide +kernel
theorem dX7_byDark_45 : decode cX7_byDark 45 = .ok (.iconst 1, 1) := by decide +kernel
theorem dX7_byDark_46 : decode cX7_byDark 46 = .ok (.iload 4, 2) := by decide +kernel
theorem dX7_byDark_48 : decode cX7_byDark 48 = .ok (.ishl, 1) := by decide +kernel
theorem dX7_byDark_49 : decode cX7_byDark 49 = .ok (.invokevirtual 136, 3) := by decide +kernel
theorem dX7_byDark_52 : decode cX7_byDark 52 = .ok (.if_icmp .gt 7, 3) := by decide +kernel
theorem dX7_byDark_55 : decode cX7_byDark 55 = .ok (.iload 5, 2) := by decide +kernel
theorem dX7_byDark_57 : decode cX7_byDark 57 = .ok (.istore 4, 2) := by decide +kernel
theorem dX7_byDark_59 : decode cX7_byDark 59 = .ok (.iinc 5 (-1), 3) := by decide +kernel
theorem dX7_byDark_62 : decode cX7_byDark 62 = .ok (.goto (-45), 3) := by decide +kernel
theorem dX7_byDark_65 : decode cX7_byDark 65 = .ok (.iload_n 2, 1) := by decide +kernel
theorem dX7_byDark_66 : decode cX7_byDark 66 = .ok (.iconst 1, 1) := by decide +kernel
theorem dX7_byDark_67 : decode cX7_byDark 67 = .ok (.iload 4, 2) := by decide +kernel
theorem dX7_byDark_69 : decode cX7_byDark 69 = .ok (.ishl, 1) := by decide +kernel
theorem dX7_byDark_70 : decode cX7_byDark 70 = .ok (.ior, 1) := by decide +kernel
theorem dX7_byDark_71 : decode cX7_byDark 71 = .ok (.istore_n 2, 1) := by decide +kernel
theorem dX7_byDark_72 : decode cX7_byDark 72 = .ok (.bipush 10, 2) := by decide +kernel
theorem dX7_byDark_74 : decode cX7_byDark 74 = .ok (.iload_n 1, 1) := by decide +kernel
theorem dX7_byDark_75 : decode cX7_byDark 75 = .ok (.imul, 1) := by decide +kernel
theorem dX7_byDark_76 : decode cX7_byDark 76 = .ok (.iload 4, 2) := by decide +kernel
theorem dX7_byDark_78 : decode cX7_byDark 78 = .ok (.iadd, 1) := by decide +kernel
theorem dX7_byDark_79 : decode cX7_byDark 79 = .ok (.istore_n 1, 1) := by decide +kernel
theorem dX7_byDark_80 : decode cX7_byDark 80 = .ok (.iinc 3 1, 3) := by decide +kernel
theorem dX7_byDark_83 : decode cX7_byDark 83 = .ok (.goto (-77), 3) := by decide +kernel
theorem dX7_byDark_86 : decode cX7_byDark 86 = .ok (.iload_n 1, 1) := by decide +kernel
theorem dX7_byDark_87 : decode cX7_byDark 87 = .ok (.ireturn, 1) := by decide +kernel
theorem dX7_count_0 : decode cX7_count 0 = .ok (.aload_n 0, 1) := by decide +kernel
theorem dX7_count_1 : decode cX7_count 1 = .ok (.invokevirtual 178, 3) := by decide +kernel
theorem dX7_count_4 : decode cX7_count 4 = .ok (.iload_n 1, 1) := by decide +kernel
theorem dX7_count_5 : decode cX7_count 5 = .ok (.tableswitch 136 0 12 #[67, 74, 81, 88, 93, 98, 103, 103, 112, 112, 121, 126, 131], 67) := by decide +kernel
theorem dX7_count_72 : decode cX7_count 72 = .ok (.aload_n 0, 1) := by decide +kernel
theorem dX7_count_73 : decode cX7_count 73 = .ok (.getfield 7, 3) := by decide +kernel
theorem dX7_count_76 : decode cX7_count 76 = .ok (.iconst 0, 1) := by decide +kernel
theorem dX7_count_77 : decode cX7_count 77 = .ok (.iaload, 1) := by decide +kernel
theorem dX7_count_78 : decode cX7_count 78 = .ok (.ireturn, 1) := by decide +kernel
theorem dX7_count_79 : decode cX7_count 79 = .ok (.aload_n 0, 1) := by decide +kernel
theorem dX7_count_80 : decode cX7_count 80 = .ok (.getfield 7, 3) := by decide +kernel
theorem dX7_count_83 : decode cX7_count 83 = .ok (.iconst 1, 1) := by decide +kernel
theorem dX7_count_84 : decode cX7_count 84 = .ok (.iaload, 1) := by decide +kernel
theorem dX7_count_85 : decode cX7_count 85 = .ok (.ireturn, 1) := by decide +kernel
theorem dX7_count_86 : decode cX7_count 86 = .ok (.aload_n 0, 1) := by decide +kernel
theorem dX7_count_87 : decode cX7_count 87 = .ok (.getfield 7, 3) := by decide +kernel
theorem dX7_count_90 : decode cX7_count 90 = .ok (.iconst 3, 1) := by decide +kernel
theorem dX7_count_91 : decode cX7_count 91 = .ok (.iaload, 1) := by decide +kernel
theorem dX7_count_92 : decode cX7_count 92 = .ok (.ireturn, 1) := by decide +kernel
theorem dX7_count_93 : decode cX7_count 93 = .ok (.aload_n 0, 1) := by decide +kernel
theorem dX7_count_94 : decode cX7_count 94 = .ok (.invokevirtual 120, 3) := by decide +kernel
theorem dX7_count_97 : decode cX7_count 97 = .ok (.ireturn, 1) := by decide +kernel
theorem dX7_count_98 : decode cX7_count 98 = .ok (.aload_n 0, 1) := by decide +kernel
theorem dX7_count_99 : decode cX7_count 99 = .ok (.invokevirtual 181, 3) := by decide +kernel
theorem dX7_count_102 : decode cX7_count 102 = .ok (.ireturn, 1) := by decide +kernel
theorem dX7_count_103 : decode cX7_count 103 = .ok (.aload_n 0, 1) := by decide +kernel
theorem dX7_count_104 : decode cX7_count 104 = .ok (.invokevirtual 184, 3) := by decide +kernel
theorem dX7_count_107 : decode cX7_count 107 = .ok (.ireturn, 1) := by decide +kernel
theorem dX7_count_108 : decode cX7_count 108 = .ok (.aload_n 0, 1) := by decide +kernel
theorem dX7_count_109 : decode cX7_count 109 = .ok (.iload_n 1, 1) := by decide +kernel
theorem dX7_count_110 : decode cX7_count 110 = .ok (.bipush 6, 2) := by decide +kernel
theorem dX7_count_112 : decode cX7_count 112 = .ok (.isub, 1) := by decide +kernel
theorem dX7_count_113 : decode cX7_count 113 = .ok (.invokevirtual 187, 3) := by decide +kernel
theorem dX7_count_116 : decode cX7_count 116 = .ok (.ireturn, 1) := by decide +kernel
theorem dX7_count_117 : decode cX7_count 117 = .ok (.aload_n 0, 1) := by decide +kernel
theorem dX7_count_118 : decode cX7_count 118 = .ok (.iload_n 1, 1) := by decide +kernel
theorem dX7_count_119 : decode cX7_count 119 = .ok (.bipush 8, 2) := by decide +kernel
theorem dX7_count_121 : decode cX7_count 121 = .ok (.isub, 1) := by decide +kernel
theorem dX7_count_122 : decode cX7_count 122 = .ok (.invokevirtual 190, 3) := by decide +kernel
theorem dX7_count_125 : decode cX7_count 125 = .ok (.ireturn, 1) := by decide +kernel
theorem dX7_count_126 : decode cX7_count 126 = .ok (.aload_n 0, 1) := by decide +kernel
theorem dX7_count_127 : decode cX7_count 127 = .ok (.invokevirtual 193, 3) := by decide +kernel
theorem dX7_count_130 : decode cX7_count 130 = .ok (.ireturn, 1) := by decide +kernel
theorem dX7_count_131 : decode cX7_count 131 = .ok (.aload_n 0, 1) := by decide +kernel
theorem dX7_count_132 : decode cX7_count 132 = .ok (.invokevirtual 196, 3) := by decide +kernel
theorem dX7_count_135 : decode cX7_count 135 = .ok (.ireturn, 1) := by decide +kernel
theorem dX7_count_136 : decode cX7_count 136 = .ok (.aload_n 0, 1) := by decide +kernel
theorem dX7_count_137 : decode cX7_count 137 = .ok (.getfield 199, 3) := by decide +kernel
theorem dX7_count_140 : decode cX7_count 140 = .ok (.ireturn, 1) := by decide +kernel
theorem dX7_count_141 : decode cX7_count 141 = .ok (.iconst (-1), 1) := by decide +kernel
theorem dX7_count_142 : decode cX7_count 142 = .ok (.ireturn, 1) := by decide +kernel
theorem dX7_isWhole_0 : decode cX7_isWhole 0 = .ok (.iconst 1, 1) := by decide +kernel
theorem dX7_isWhole_1 : decode cX7_isWhole 1 = .ok (.istore_n 2, 1) := by decide +kernel
theorem dX7_isWhole_2 : decode cX7_isWhole 2 = .ok (.iconst 0, 1) := by decide +kernel
theorem dX7_isWhole_3 : decode cX7_isWhole 3 = .ok (.istore_n 3, 1) := by decide +kernel
theorem dX7_isWhole_4 : decode cX7_isWhole 4 = .ok (.iload_n 3, 1) := by decide +kernel
theorem dX7_isWhole_5 : decode cX7_isWhole 5 = .ok (.bipush 48, 2) := by decide +kernel
theorem dX7_isWhole_7 : decode cX7_isWhole 7 = .ok (.if_icmp .ge 45, 3) := by decide +kernel
theorem dX7_isWhole_10 : decode cX7_isWhole 10 = .ok (.iload_n 2, 1) := by decide +kernel
theorem dX7_isWhole_11 : decode cX7_isWhole 11 = .ok (.ifCond .eq 33, 3) := by decide +kernel
theorem dX7_isWhole_14 : decode cX7_isWhole 14 = .ok (.aload_n 0, 1) := by decide +kernel
theorem dX7_isWhole_15 : decode cX7_isWhole 15 = .ok (.iload_n 3, 1) := by decide +kernel
theorem dX7_isWhole_16 : decode cX7_isWhole 16 = .ok (.invokevirtual 88, 3) := by decide +kernel
theorem dX7_isWhole_19 : decode cX7_isWhole 19 = .ok (.ifCond .eq 21, 3) := by decide +kernel
theorem dX7_isWhole_22 : decode cX7_isWhole 22 = .ok (.aload_n 0, 1) := by decide +kernel
theorem dX7_isWhole_23 : decode cX7_isWhole 23 = .ok (.iload_n 3, 1) := by decide +kernel
theorem dX7_isWhole_24 : decode cX7_isWhole 24 = .ok (.invokevirtual 92, 3) := by decide +kernel
theorem dX7_isWhole_27 : decode cX7_isWhole 27 = .ok (.ifCond .eq 13, 3) := by decide +kernel
theorem dX7_isWhole_30 : decode cX7_isWhole 30 = .ok (.aload_n 0, 1) := by decide +kernel
theorem dX7_isWhole_31 : decode cX7_isWhole 31 = .ok (.iload_n 3, 1) := by decide +kernel
theorem dX7_isWhole_32 : decode cX7_isWhole 32 = .ok (.invokevirtual 92, 3) := by decide +kernel
theorem dX7_isWhole_35 : decode cX7_isWhole 35 = .ok (.iload_n 1, 1) := by decide +kernel
theorem dX7_isWhole_36 : decode cX7_isWhole 36 = .ok (.iand, 1) := by decide +kernel
theorem dX7_isWhole_37 : decode cX7_isWhole 37 = .ok (.ifCond .eq 7, 3) := by decide +kernel
theorem dX7_isWhole_40 : decode cX7_isWhole 40 = .ok (.iconst 1, 1) := by decide +kernel
theorem dX7_isWhole_41 : decode cX7_isWhole 41 = .ok (.goto 4, 3) := by decide +kernel
theorem dX7_isWhole_44 : decode cX7_isWhole 44 = .ok (.iconst 0, 1) := by decide +kernel
theorem dX7_isWhole_45 : decode cX7_isWhole 45 = .ok (.istore_n 2, 1) := by decide +kernel
theorem dX7_isWhole_46 : decode cX7_isWhole 46 = .ok (.iinc 3 1, 3) := by decide +kernel
theorem dX7_isWhole_49 : decode cX7_isWhole 49 = .ok (.goto (-45), 3) := by decide +kernel
theorem dX7_isWhole_52 : decode cX7_isWhole 52 = .ok (.iload_n 2, 1) := by decide +kernel
theorem dX7_isWhole_53 : decode cX7_isWhole 53 = .ok (.ireturn, 1) := by decide +kernel
theorem dX7_parts_0 : decode cX7_parts 0 = .ok (.iconst 1, 1) := by decide +kernel
theorem dX7_parts_1 : decode cX7_parts 1 = .ok (.istore_n 3, 1) := by decide +kernel
theorem dX7_parts_2 : decode cX7_parts 2 = .ok (.iconst 0, 1) := by decide +kernel
theorem dX7_parts_3 : decode cX7_parts 3 = .ok (.istore 4, 2) := by decide +kernel
theorem dX7_parts_5 : decode cX7_parts 5 = .ok (.iload 4, 2) := by decide +kernel
theorem dX7_parts_7 : decode cX7_parts 7 = .ok (.iconst 5, 1) := by decide +kernel
theorem dX7_parts_8 : decode cX7_parts 8 = .ok (.if_icmp .ge 42, 3) := by decide +kernel
theorem dX7_parts_11 : decode cX7_parts 11 = .ok (.iload_n 3, 1) := by decide +kernel
theorem dX7_parts_12 : decode cX7_parts 12 = .ok (.iload_n 1, 1) := by decide +kernel
theorem dX7_parts_13 : decode cX7_parts 13 = .ok (.iload 4, 2) := by decide +kernel
theorem dX7_parts_15 : decode cX7_parts 15 = .ok (.invokestatic 69, 3) := by decide +kernel
theorem dX7_parts_18 : decode cX7_parts 18 = .ok (.ifCond .ne 7, 3) := by decide +kernel
theorem dX7_parts_21 : decode cX7_parts 21 = .ok (.iconst 1, 1) := by decide +kernel
theorem dX7_parts_22 : decode cX7_parts 22 = .ok (.goto 20, 3) := by decide +kernel
theorem dX7_parts_25 : decode cX7_parts 25 = .ok (.iload_n 0, 1) := by decide +kernel
theorem dX7_parts_26 : decode cX7_parts 26 = .ok (.iload 4, 2) := by decide +kernel
theorem dX7_parts_28 : decode cX7_parts 28 = .ok (.invokestatic 69, 3) := by decide +kernel
theorem dX7_parts_31 : decode cX7_parts 31 = .ok (.ifCond .eq 10, 3) := by decide +kernel
theorem dX7_parts_34 : decode cX7_parts 34 = .ok (.bipush 10, 2) := by decide +kernel
theorem dX7_parts_36 : decode cX7_parts 36 = .ok (.iload_n 2, 1) := by decide +kernel
theorem dX7_parts_37 : decode cX7_parts 37 = .ok (.isub, 1) := by decide +kernel
theorem dX7_parts_38 : decode cX7_parts 38 = .ok (.goto 4, 3) := by decide +kernel
theorem dX7_parts_41 : decode cX7_parts 41 = .ok (.iload_n 2, 1) := by decide +kernel
theorem dX7_parts_42 : decode cX7_parts 42 = .ok (.imul, 1) := by decide +kernel
theorem dX7_parts_43 : decode cX7_parts 43 = .ok (.istore_n 3, 1) := by decide +kernel
theorem dX7_parts_44 : decode cX7_parts 44 = .ok (.iinc 4 1, 3) := by decide +kernel
theorem dX7_parts_47 : decode cX7_parts 47 = .ok (.goto (-42), 3) := by decide +kernel
theorem dX7_parts_50 : decode cX7_parts 50 = .ok (.iload_n 3, 1) := by decide +kernel
theorem dX7_parts_51 : decode cX7_parts 51 = .ok (.ireturn, 1) := by decide +kernel
theorem dX7_fail_0 : decode cX7_fail 0 = .ok (.iload_n 1, 1) := by decide +kernel
theorem dX7_fail_1 : decode cX7_fail 1 = .ok (.i2l, 1) := by decide +kernel
theorem dX7_fail_2 : decode cX7_fail 2 = .ok (.lconst 0, 1) := by decide +kernel
theorem dX7_fail_3 : decode cX7_fail 3 = .ok (.ldc2_w 202, 3) := by decide +kernel
theorem dX7_fail_6 : decode cX7_fail 6 = .ok (.invokestatic 59, 3) := by decide +kernel
theorem dX7_fail_9 : decode cX7_fail 9 = .ok (.ifCond .eq 13, 3) := by decide +kernel
theorem dX7_fail_12 : decode cX7_fail 12 = .ok (.iload_n 2, 1) := by decide +kernel
theorem dX7_fail_13 : decode cX7_fail 13 = .ok (.i2l, 1) := by decide +kernel
theorem dX7_fail_14 : decode cX7_fail 14 = .ok (.lconst 0, 1) := by decide +kernel
theorem dX7_fail_15 : decode cX7_fail 15 = .ok (.lconst 1, 1) := by decide +kernel
theorem dX7_fail_16 : decode cX7_fail 16 = .ok (.invokestatic 59, 3) := by decide +kernel
theorem dX7_fail_19 : decode cX7_fail 19 = .ok (.ifCond .ne 5, 3) := by decide +kernel
theorem dX7_fail_22 : decode cX7_fail 22 = .ok (.iconst (-1), 1) := by decide +kernel
theorem dX7_fail_23 : decode cX7_fail 23 = .ok (.ireturn, 1) := by decide +kernel
theorem dX7_fail_24 : decode cX7_fail 24 = .ok (.aload_n 0, 1) := by decide +kernel
theorem dX7_fail_25 : decode cX7_fail 25 = .ok (.invokevirtual 196, 3) := by decide +kernel
theorem dX7_fail_28 : decode cX7_fail 28 = .ok (.istore_n 3, 1) := by decide +kernel
theorem dX7_fail_29 : decode cX7_fail 29 = .ok (.iconst 0, 1) := by decide +kernel
theorem dX7_fail_30 : decode cX7_fail 30 = .ok (.istore 4, 2) := by decide +kernel
theorem dX7_fail_32 : decode cX7_fail 32 = .ok (.iconst 1, 1) := by decide +kernel
theorem dX7_fail_33 : decode cX7_fail 33 = .ok (.istore 5, 2) := by decide +kernel
theorem dX7_fail_35 : decode cX7_fail 35 = .ok (.iconst 0, 1) := by decide +kernel
theorem dX7_fail_36 : decode cX7_fail 36 = .ok (.istore 6, 2) := by decide +kernel
theorem dX7_fail_38 : decode cX7_fail 38 = .ok (.iload 6, 2) := by decide +kernel
theorem dX7_fail_40 : decode cX7_fail 40 = .ok (.iload_n 3, 1) := by decide +kernel
theorem dX7_fail_41 : decode cX7_fail 41 = .ok (.invokestatic 98, 3) := by decide +kernel
theorem dX7_fail_44 : decode cX7_fail 44 = .ok (.if_icmp .ge 16, 3) := by decide +kernel
theorem dX7_fail_47 : decode cX7_fail 47 = .ok (.iload 5, 2) := by decide +kernel
theorem dX7_fail_49 : decode cX7_fail 49 = .ok (.bipush 10, 2) := by decide +kernel
theorem dX7_fail_51 : decode cX7_fail 51 = .ok (.imul, 1) := by decide +kernel
theorem dX7_fail_52 : decode cX7_fail 52 = .ok (.istore 5, 2) := by decide +kernel
theorem dX7_fail_54 : decode cX7_fail 54 = .ok (.iinc 6 1, 3) := by decide +kernel
theorem dX7_fail_57 : decode cX7_fail 57 = .ok (.goto (-19), 3) := by decide +kernel
theorem dX7_fail_60 : decode cX7_fail 60 = .ok (.iconst 0, 1) := by decide +kernel
theorem dX7_fail_61 : decode cX7_fail 61 = .ok (.istore 6, 2) := by decide +kernel
theorem dX7_fail_63 : decode cX7_fail 63 = .ok (.iload 6, 2) := by decide +kernel
theorem dX7_fail_65 : decode cX7_fail 65 = .ok (.bipush 32, 2) := by decide +kernel
theorem dX7_fail_67 : decode cX7_fail 67 = .ok (.if_icmp .ge 43, 3) := by decide +kernel
theorem dX7_fail_70 : decode cX7_fail 70 = .ok (.iload 4, 2) := by decide +kernel
theorem dX7_fail_72 : decode cX7_fail 72 = .ok (.iload 6, 2) := by decide +kernel
theorem dX7_fail_74 : decode cX7_fail 74 = .ok (.iload_n 3, 1) := by decide +kernel
theorem dX7_fail_75 : decode cX7_fail 75 = .ok (.iconst (-1), 1) := by decide +kernel
theorem dX7_fail_76 : decode cX7_fail 76 = .ok (.ixor, 1) := by decide +kernel
theorem dX7_fail_77 : decode cX7_fail 77 = .ok (.iand, 1) := by decide +kernel
theorem dX7_fail_78 : decode cX7_fail 78 = .ok (.ifCond .ne 22, 3) := by decide +kernel
theorem dX7_fail_81 : decode cX7_fail 81 = .ok (.aload_n 0, 1) := by decide +kernel
theorem dX7_fail_82 : decode cX7_fail 82 = .ok (.iload 6, 2) := by decide +kernel
theorem dX7_fail_84 : decode cX7_fail 84 = .ok (.invokevirtual 204, 3) := by decide +kernel
theorem dX7_fail_87 : decode cX7_fail 87 = .ok (.ifCond .eq 13, 3) := by decide +kernel
theorem dX7_fail_90 : decode cX7_fail 90 = .ok (.iload 6, 2) := by decide +kernel
theorem dX7_fail_92 : decode cX7_fail 92 = .ok (.iload_n 3, 1) := by decide +kernel
theorem dX7_fail_93 : decode cX7_fail 93 = .ok (.iload_n 1, 1) := by decide +kernel
theorem dX7_fail_94 : decode cX7_fail 94 = .ok (.invokestatic 207, 3) := by decide +kernel
theorem dX7_fail_97 : decode cX7_fail 97 = .ok (.goto 4, 3) := by decide +kernel
theorem dX7_fail_100 : decode cX7_fail 100 = .ok (.iconst 0, 1) := by decide +kernel
theorem dX7_fail_101 : decode cX7_fail 101 = .ok (.iadd, 1) := by decide +kernel
theorem dX7_fail_102 : decode cX7_fail 102 = .ok (.istore 4, 2) := by decide +kernel
theorem dX7_fail_104 : decode cX7_fail 104 = .ok (.iinc 6 1, 3) := by decide +kernel
theorem dX7_fail_107 : decode cX7_fail 107 = .ok (.goto (-44), 3) := by decide +kernel
theorem dX7_fail_110 : decode cX7_fail 110 = .ok (.iload 4, 2) := by decide +kernel
theorem dX7_fail_112 : decode cX7_fail 112 = .ok (.istore 6, 2) := by decide +kernel
theorem dX7_fail_114 : decode cX7_fail 114 = .ok (.iload 5, 2) := by decide +kernel
theorem dX7_fail_116 : decode cX7_fail 116 = .ok (.istore 7, 2) := by decide +kernel
theorem dX7_fail_118 : decode cX7_fail 118 = .ok (.iload 7, 2) := by decide +kernel
theorem dX7_fail_120 : decode cX7_fail 120 = .ok (.ifCond .eq 21, 3) := by decide +kernel
theorem dX7_fail_123 : decode cX7_fail 123 = .ok (.iload 6, 2) := by decide +kernel
theorem dX7_fail_125 : decode cX7_fail 125 = .ok (.iload 7, 2) := by decide +kernel
theorem dX7_fail_127 : decode cX7_fail 127 = .ok (.irem, 1) := by decide +kernel
theorem dX7_fail_128 : decode cX7_fail 128 = .ok (.istore 8, 2) := by decide +kernel
theorem dX7_fail_130 : decode cX7_fail 130 = .ok (.iload 7, 2) := by decide +kernel
theorem dX7_fail_132 : decode cX7_fail 132 = .ok (.istore 6, 2) := by decide +kernel
theorem dX7_fail_134 : decode cX7_fail 134 = .ok (.iload 8, 2) := by decide +kernel
theorem dX7_fail_136 : decode cX7_fail 136 = .ok (.istore 7, 2) := by decide +kernel
theorem dX7_fail_138 : decode cX7_fail 138 = .ok (.goto (-20), 3) := by decide +kernel
theorem dX7_fail_141 : decode cX7_fail 141 = .ok (.iload_n 2, 1) := by decide +kernel
theorem dX7_fail_142 : decode cX7_fail 142 = .ok (.ifCond .ne 8, 3) := by decide +kernel
theorem dX7_fail_145 : decode cX7_fail 145 = .ok (.iload 4, 2) := by decide +kernel
theorem dX7_fail_147 : decode cX7_fail 147 = .ok (.goto 5, 3) := by decide +kernel
theorem dX7_fail_150 : decode cX7_fail 150 = .ok (.iload 5, 2) := by decide +kernel
theorem dX7_fail_152 : decode cX7_fail 152 = .ok (.iload 6, 2) := by decide +kernel
theorem dX7_fail_154 : decode cX7_fail 154 = .ok (.idiv, 1) := by decide +kernel
theorem dX7_fail_155 : decode cX7_fail 155 = .ok (.ireturn, 1) := by decide +kernel
theorem dX7_notes_0 : decode cX7_notes 0 = .ok (.aload_n 0, 1) := by decide +kernel
theorem dX7_notes_1 : decode cX7_notes 1 = .ok (.getfield 199, 3) := by decide +kernel
theorem dX7_notes_4 : decode cX7_notes 4 = .ok (.bipush 6, 2) := by decide +kernel
theorem dX7_notes_6 : decode cX7_notes 6 = .ok (.if_icmp .ne 39, 3) := by decide +kernel
theorem dX7_notes_9 : decode cX7_notes 9 = .ok (.bipush 62, 2) := by decide +kernel
theorem dX7_notes_11 : decode cX7_notes 11 = .ok (.istore_n 1, 1) := by decide +kernel
theorem dX7_notes_12 : decode cX7_notes 12 = .ok (.iload_n 1, 1) := by decide +kernel
theorem dX7_notes_13 : decode cX7_notes 13 = .ok (.sipush 372, 3) := by decide +kernel
theorem dX7_notes_16 : decode cX7_notes 16 = .ok (.if_icmp .ge 24, 3) := by decide +kernel
theorem dX7_notes_19 : decode cX7_notes 19 = .ok (.aload_n 0, 1) := by decide +kernel
theorem dX7_notes_20 : decode cX7_notes 20 = .ok (.getfield 22, 3) := by decide +kernel
theorem dX7_notes_23 : decode cX7_notes 23 = .ok (.iload_n 1, 1) := by decide +kernel
theorem dX7_notes_24 : decode cX7_notes 24 = .ok (.bipush 62, 2) := by decide +kernel
theorem dX7_notes_26 : decode cX7_notes 26 = .ok (.isub, 1) := by decide +kernel
theorem dX7_notes_27 : decode cX7_notes 27 = .ok (.aload_n 0, 1) := by decide +kernel
theorem dX7_notes_28 : decode cX7_notes 28 = .ok (.getfield 22, 3) := by decide +kernel
theorem dX7_notes_31 : decode cX7_notes 31 = .ok (.iload_n 1, 1) := by decide +kernel
theorem dX7_notes_32 : decode cX7_notes 32 = .ok (.iaload, 1) := by decide +kernel
theorem dX7_notes_33 : decode cX7_notes 33 = .ok (.iastore, 1) := by decide +kernel
theorem dX7_notes_34 : decode cX7_notes 34 = .ok (.iinc 1 1, 3) := by decide +kernel
theorem dX7_notes_37 : decode cX7_notes 37 = .ok (.goto (-25), 3) := by decide +kernel
theorem dX7_notes_40 : decode cX7_notes 40 = .ok (.aload_n 0, 1) := by decide +kernel
theorem dX7_notes_41 : decode cX7_notes 41 = .ok (.iconst 5, 1) := by decide +kernel
theorem dX7_notes_42 : decode cX7_notes 42 = .ok (.putfield 199, 3) := by decide +kernel
theorem dX7_notes_45 : decode cX7_notes 45 = .ok (.iconst 0, 1) := by decide +kernel
theorem dX7_notes_46 : decode cX7_notes 46 = .ok (.istore_n 1, 1) := by decide +kernel
theorem dX7_notes_47 : decode cX7_notes 47 = .ok (.iload_n 1, 1) := by decide +kernel
theorem dX7_notes_48 : decode cX7_notes 48 = .ok (.bipush 62, 2) := by decide +kernel
theorem dX7_notes_50 : decode cX7_notes 50 = .ok (.if_icmp .ge 29, 3) := by decide +kernel
theorem dX7_notes_53 : decode cX7_notes 53 = .ok (.aload_n 0, 1) := by decide +kernel
theorem dX7_notes_54 : decode cX7_notes 54 = .ok (.getfield 22, 3) := by decide +kernel
theorem dX7_notes_57 : decode cX7_notes 57 = .ok (.bipush 62, 2) := by decide +kernel
theorem dX7_notes_59 : decode cX7_notes 59 = .ok (.aload_n 0, 1) := by decide +kernel
theorem dX7_notes_60 : decode cX7_notes 60 = .ok (.getfield 199, 3) := by decide +kernel
theorem dX7_notes_63 : decode cX7_notes 63 = .ok (.imul, 1) := by decide +kernel
theorem dX7_notes_64 : decode cX7_notes 64 = .ok (.iload_n 1, 1) := by decide +kernel
theorem dX7_notes_65 : decode cX7_notes 65 = .ok (.iadd, 1) := by decide +kernel
theorem dX7_notes_66 : decode cX7_notes 66 = .ok (.aload_n 0, 1) := by decide +kernel
theorem dX7_notes_67 : decode cX7_notes 67 = .ok (.getfield 7, 3) := by decide +kernel
theorem dX7_notes_70 : decode cX7_notes 70 = .ok (.iload_n 1, 1) := by decide +kernel
theorem dX7_notes_71 : decode cX7_notes 71 = .ok (.iaload, 1) := by decide +kernel
theorem dX7_notes_72 : decode cX7_notes 72 = .ok (.iastore, 1) := by decide +kernel
theorem dX7_notes_73 : decode cX7_notes 73 = .ok (.iinc 1 1, 3) := by decide +kernel
theorem dX7_notes_76 : decode cX7_notes 76 = .ok (.goto (-29), 3) := by decide +kernel
theorem dX7_notes_79 : decode cX7_notes 79 = .ok (.aload_n 0, 1) := by decide +kernel
theorem dX7_notes_80 : decode cX7_notes 80 = .ok (.dup, 1) := by decide +kernel
theorem dX7_notes_81 : decode cX7_notes 81 = .ok (.getfield 199, 3) := by decide +kernel
theorem dX7_notes_84 : decode cX7_notes 84 = .ok (.iconst 1, 1) := by decide +kernel
theorem dX7_notes_85 : decode cX7_notes 85 = .ok (.iadd, 1) := by decide +kernel
theorem dX7_notes_86 : decode cX7_notes 86 = .ok (.putfield 199, 3) := by decide +kernel
theorem dX7_notes_89 : decode cX7_notes 89 = .ok (.return_, 1) := by decide +kernel
theorem dX7_undo_0 : decode cX7_undo 0 = .ok (.aload_n 0, 1) := by decide +kernel
theorem dX7_undo_1 : decode cX7_undo 1 = .ok (.getfield 199, 3) := by decide +kernel
theorem dX7_undo_4 : decode cX7_undo 4 = .ok (.ifCond .ne 6, 3) := by decide +kernel
theorem dX7_undo_7 : decode cX7_undo 7 = .ok (.bipush (-4), 2) := by decide +kernel
theorem dX7_undo_9 : decode cX7_undo 9 = .ok (.ireturn, 1) := by decide +kernel
theorem dX7_undo_10 : decode cX7_undo 10 = .ok (.aload_n 0, 1) := by decide +kernel
theorem dX7_undo_11 : decode cX7_undo 11 = .ok (.dup, 1) := by decide +kernel
theorem dX7_undo_12 : decode cX7_undo 12 = .ok (.getfield 199, 3) := by decide +kernel
theorem dX7_undo_15 : decode cX7_undo 15 = .ok (.iconst 1, 1) := by decide +kernel
theorem dX7_undo_16 : decode cX7_undo 16 = .ok (.isub, 1) := by decide +kernel
theorem dX7_undo_17 : decode cX7_undo 17 = .ok (.putfield 199, 3) := by decide +kernel
theorem dX7_undo_20 : decode cX7_undo 20 = .ok (.iconst 0, 1) := by decide +kernel
theorem dX7_undo_21 : decode cX7_undo 21 = .ok (.istore_n 1, 1) := by decide +kernel
theorem dX7_undo_22 : decode cX7_undo 22 = .ok (.iload_n 1, 1) := by decide +kernel
theorem dX7_undo_23 : decode cX7_undo 23 = .ok (.bipush 62, 2) := by decide +kernel
theorem dX7_undo_25 : decode cX7_undo 25 = .ok (.if_icmp .ge 29, 3) := by decide +kernel
theorem dX7_undo_28 : decode cX7_undo 28 = .ok (.aload_n 0, 1) := by decide +kernel
theorem dX7_undo_29 : decode cX7_undo 29 = .ok (.getfield 7, 3) := by decide +kernel
theorem dX7_undo_32 : decode cX7_undo 32 = .ok (.iload_n 1, 1) := by decide +kernel
theorem dX7_undo_33 : decode cX7_undo 33 = .ok (.aload_n 0, 1) := by decide +kernel
theorem dX7_undo_34 : decode cX7_undo 34 = .ok (.getfield 22, 3) := by decide +kernel
theorem dX7_undo_37 : decode cX7_undo 37 = .ok (.bipush 62, 2) := by decide +kernel
theorem dX7_undo_39 : decode cX7_undo 39 = .ok (.aload_n 0, 1) := by decide +kernel
theorem dX7_undo_40 : decode cX7_undo 40 = .ok (.getfield 199, 3) := by decide +kernel
theorem dX7_undo_43 : decode cX7_undo 43 = .ok (.imul, 1) := by decide +kernel
theorem dX7_undo_44 : decode cX7_undo 44 = .ok (.iload_n 1, 1) := by decide +kernel
theorem dX7_undo_45 : decode cX7_undo 45 = .ok (.iadd, 1) := by decide +kernel
theorem dX7_undo_46 : decode cX7_undo 46 = .ok (.iaload, 1) := by decide +kernel
theorem dX7_undo_47 : decode cX7_undo 47 = .ok (.iastore, 1) := by decide +kernel
theorem dX7_undo_48 : decode cX7_undo 48 = .ok (.iinc 1 1, 3) := by decide +kernel
theorem dX7_undo_51 : decode cX7_undo 51 = .ok (.goto (-29), 3) := by decide +kernel
theorem dX7_undo_54 : decode cX7_undo 54 = .ok (.aload_n 0, 1) := by decide +kernel
theorem dX7_undo_55 : decode cX7_undo 55 = .ok (.getfield 199, 3) := by decide +kernel
theorem dX7_undo_58 : decode cX7_undo 58 = .ok (.ireturn, 1) := by decide +kernel
theorem dX7_tell_0 : decode cX7_tell 0 = .ok (.iload_n 1, 1) := by decide +kernel
theorem dX7_tell_1 : decode cX7_tell 1 = .ok (.invokestatic 130, 3) := by decide +kernel
theorem dX7_tell_4 : decode cX7_tell 4 = .ok (.ifCond .eq 27, 3) := by decide +kernel
theorem dX7_tell_7 : decode cX7_tell 7 = .ok (.iload_n 2, 1) := by decide +kernel
theorem dX7_tell_8 : decode cX7_tell 8 = .ok (.i2l, 1) := by decide +kernel
theorem dX7_tell_9 : decode cX7_tell 9 = .ok (.lconst 0, 1) := by decide +kernel
theorem dX7_tell_10 : decode cX7_tell 10 = .ok (.ldc2_w 210, 3) := by decide +kernel
theorem dX7_tell_13 : decode cX7_tell 13 = .ok (.invokestatic 59, 3) := by decide +kernel
theorem dX7_tell_16 : decode cX7_tell 16 = .ok (.ifCond .eq 15, 3) := by decide +kernel
theorem dX7_tell_19 : decode cX7_tell 19 = .ok (.iload_n 3, 1) := by decide +kernel
theorem dX7_tell_20 : decode cX7_tell 20 = .ok (.i2l, 1) := by decide +kernel
theorem dX7_tell_21 : decode cX7_tell 21 = .ok (.lconst 0, 1) := by decide +kernel
theorem dX7_tell_22 : decode cX7_tell 22 = .ok (.ldc2_w 212, 3) := by decide +kernel
theorem dX7_tell_25 : decode cX7_tell 25 = .ok (.invokestatic 59, 3) := by decide +kernel
theorem dX7_tell_28 : decode cX7_tell 28 = .ok (.ifCond .ne 5, 3) := by decide +kernel
theorem dX7_tell_31 : decode cX7_tell 31 = .ok (.iconst (-1), 1) := by decide +kernel
theorem dX7_tell_32 : decode cX7_tell 32 = .ok (.ireturn, 1) := by decide +kernel
theorem dX7_tell_33 : decode cX7_tell 33 = .ok (.aload_n 0, 1) := by decide +kernel
theorem dX7_tell_34 : decode cX7_tell 34 = .ok (.getfield 7, 3) := by decide +kernel
theorem dX7_tell_37 : decode cX7_tell 37 = .ok (.iconst 4, 1) := by decide +kernel
theorem dX7_tell_38 : decode cX7_tell 38 = .ok (.iload_n 1, 1) := by decide +kernel
theorem dX7_tell_39 : decode cX7_tell 39 = .ok (.iadd, 1) := by decide +kernel
theorem dX7_tell_40 : decode cX7_tell 40 = .ok (.iaload, 1) := by decide +kernel
theorem dX7_tell_41 : decode cX7_tell 41 = .ok (.iload_n 2, 1) := by decide +kernel
theorem dX7_tell_42 : decode cX7_tell 42 = .ok (.if_icmp .ne 19, 3) := by decide +kernel
theorem dX7_tell_45 : decode cX7_tell 45 = .ok (.aload_n 0, 1) := by decide +kernel
theorem dX7_tell_46 : decode cX7_tell 46 = .ok (.getfield 7, 3) := by decide +kernel
theorem dX7_tell_49 : decode cX7_tell 49 = .ok (.bipush 9, 2) := by decide +kernel
theorem dX7_tell_51 : decode cX7_tell 51 = .ok (.iload_n 1, 1) := by decide +kernel
theorem dX7_tell_52 : decode cX7_tell 52 = .ok (.iadd, 1) := by decide +kernel
theorem dX7_tell_53 : decode cX7_tell 53 = .ok (.iaload, 1) := by decide +kernel
theorem dX7_tell_54 : decode cX7_tell 54 = .ok (.iload_n 3, 1) := by decide +kernel
theorem dX7_tell_55 : decode cX7_tell 55 = .ok (.if_icmp .ne 6, 3) := by decide +kernel
theorem dX7_tell_58 : decode cX7_tell 58 = .ok (.bipush (-2), 2) := by decide +kernel
theorem dX7_tell_60 : decode cX7_tell 60 = .ok (.ireturn, 1) := by decide +kernel
theorem dX7_tell_61 : decode cX7_tell 61 = .ok (.aload_n 0, 1) := by decide +kernel
theorem dX7_tell_62 : decode cX7_tell 62 = .ok (.invokevirtual 214, 3) := by decide +kernel
theorem dX7_tell_65 : decode cX7_tell 65 = .ok (.aload_n 0, 1) := by decide +kernel
theorem dX7_tell_66 : decode cX7_tell 66 = .ok (.getfield 7, 3) := by decide +kernel
theorem dX7_tell_69 : decode cX7_tell 69 = .ok (.iconst 4, 1) := by decide +kernel
theorem dX7_tell_70 : decode cX7_tell 70 = .ok (.iload_n 1, 1) := by decide +kernel
theorem dX7_tell_71 : decode cX7_tell 71 = .ok (.iadd, 1) := by decide +kernel
theorem dX7_tell_72 : decode cX7_tell 72 = .ok (.iload_n 2, 1) := by decide +kernel
theorem dX7_tell_73 : decode cX7_tell 73 = .ok (.iastore, 1) := by decide +kernel
theorem dX7_tell_74 : decode cX7_tell 74 = .ok (.aload_n 0, 1) := by decide +kernel
theorem dX7_tell_75 : decode cX7_tell 75 = .ok (.getfield 7, 3) := by decide +kernel
theorem dX7_tell_78 : decode cX7_tell 78 = .ok (.bipush 9, 2) := by decide +kernel
theorem dX7_tell_80 : decode cX7_tell 80 = .ok (.iload_n 1, 1) := by decide +kernel
theorem dX7_tell_81 : decode cX7_tell 81 = .ok (.iadd, 1) := by decide +kernel
theorem dX7_tell_82 : decode cX7_tell 82 = .ok (.iload_n 3, 1) := by decide +kernel
theorem dX7_tell_83 : decode cX7_tell 83 = .ok (.iastore, 1) := by decide +kernel
theorem dX7_tell_84 : decode cX7_tell 84 = .ok (.iconst 1, 1) := by decide +kernel
theorem dX7_tell_85 : decode cX7_tell 85 = .ok (.ireturn, 1) := by decide +kernel
theorem dX7_order_0 : decode cX7_order 0 = .ok (.iload_n 1, 1) := by decide +kernel
theorem dX7_order_1 : decode cX7_order 1 = .ok (.invokestatic 172, 3) := by decide +kernel
theorem dX7_order_4 : decode cX7_order 4 = .ok (.ifCond .ne 5, 3) := by decide +kernel
theorem dX7_order_7 : decode cX7_order 7 = .ok (.iconst (-1), 1) := by decide +kernel
theorem dX7_order_8 : decode cX7_order 8 = .ok (.ireturn, 1) := by decide +kernel
theorem dX7_order_9 : decode cX7_order 9 = .ok (.aload_n 0, 1) := by decide +kernel
theorem dX7_order_10 : decode cX7_order 10 = .ok (.getfield 7, 3) := by decide +kernel
theorem dX7_order_13 : decode cX7_order 13 = .ok (.iconst 3, 1) := by decide +kernel
theorem dX7_order_14 : decode cX7_order 14 = .ok (.iaload, 1) := by decide +kernel
theorem dX7_order_15 : decode cX7_order 15 = .ok (.istore_n 2, 1) := by decide +kernel
theorem dX7_order_16 : decode cX7_order 16 = .ok (.iload_n 2, 1) := by decide +kernel
theorem dX7_order_17 : decode cX7_order 17 = .ok (.iload_n 1, 1) := by decide +kernel
theorem dX7_order_18 : decode cX7_order 18 = .ok (.if_icmp .ne 6, 3) := by decide +kernel
theorem dX7_order_21 : decode cX7_order 21 = .ok (.bipush (-2), 2) := by decide +kernel
theorem dX7_order_23 : decode cX7_order 23 = .ok (.ireturn, 1) := by decide +kernel
theorem dX7_order_24 : decode cX7_order 24 = .ok (.aload_n 0, 1) := by decide +kernel
theorem dX7_order_25 : decode cX7_order 25 = .ok (.invokevirtual 214, 3) := by decide +kernel
theorem dX7_order_28 : decode cX7_order 28 = .ok (.aload_n 0, 1) := by decide +kernel
theorem dX7_order_29 : decode cX7_order 29 = .ok (.getfield 7, 3) := by decide +kernel
theorem dX7_order_32 : decode cX7_order 32 = .ok (.iconst 3, 1) := by decide +kernel
theorem dX7_order_33 : decode cX7_order 33 = .ok (.iload_n 1, 1) := by decide +kernel
theorem dX7_order_34 : decode cX7_order 34 = .ok (.iastore, 1) := by decide +kernel
theorem dX7_order_35 : decode cX7_order 35 = .ok (.iload_n 2, 1) := by decide +kernel
theorem dX7_order_36 : decode cX7_order 36 = .ok (.ireturn, 1) := by decide +kernel
theorem dX7_put_0 : decode cX7_put 0 = .ok (.aload_n 0, 1) := by decide +kernel
theorem dX7_put_1 : decode cX7_put 1 = .ok (.iload_n 1, 1) := by decide +kernel
theorem dX7_put_2 : decode cX7_put 2 = .ok (.iload_n 2, 1) := by decide +kernel
theorem dX7_put_3 : decode cX7_put 3 = .ok (.invokevirtual 65, 3) := by decide +kernel
theorem dX7_put_6 : decode cX7_put 6 = .ok (.ifCond .eq 11, 3) := by decide +kernel
theorem dX7_put_9 : decode cX7_put 9 = .ok (.iload_n 3, 1) := by decide +kernel
theorem dX7_put_10 : decode cX7_put 10 = .ok (.i2l, 1) := by decide +kernel
theorem dX7_put_11 : decode cX7_put 11 = .ok (.invokestatic 142, 3) := by decide +kernel
theorem dX7_put_14 : decode cX7_put 14 = .ok (.ifCond .ne 5, 3) := by decide +kernel
theorem dX7_put_17 : decode cX7_put 17 = .ok (.iconst (-1), 1) := by decide +kernel
theorem dX7_put_18 : decode cX7_put 18 = .ok (.ireturn, 1) := by decide +kernel
theorem dX7_put_19 : decode cX7_put 19 = .ok (.aload_n 0, 1) := by decide +kernel
theorem dX7_put_20 : decode cX7_put 20 = .ok (.bipush 8, 2) := by decide +kernel
theorem dX7_put_22 : decode cX7_put 22 = .ok (.iload_n 2, 1) := by decide +kernel
theorem dX7_put_23 : decode cX7_put 23 = .ok (.imul, 1) := by decide +kernel
theorem dX7_put_24 : decode cX7_put 24 = .ok (.iload_n 1, 1) := by decide +kernel
theorem dX7_put_25 : decode cX7_put 25 = .ok (.iadd, 1) := by decide +kernel
theorem dX7_put_26 : decode cX7_put 26 = .ok (.invokevirtual 92, 3) := by decide +kernel
theorem dX7_put_29 : decode cX7_put 29 = .ok (.istore 4, 2) := by decide +kernel
theorem dX7_put_31 : decode cX7_put 31 = .ok (.iload 4, 2) := by decide +kernel
theorem dX7_put_33 : decode cX7_put 33 = .ok (.iload_n 3, 1) := by decide +kernel
theorem dX7_put_34 : decode cX7_put 34 = .ok (.if_icmp .ne 6, 3) := by decide +kernel
theorem dX7_put_37 : decode cX7_put 37 = .ok (.bipush (-2), 2) := by decide +kernel
theorem dX7_put_39 : decode cX7_put 39 = .ok (.ireturn, 1) := by decide +kernel
theorem dX7_put_40 : decode cX7_put 40 = .ok (.aload_n 0, 1) := by decide +kernel
theorem dX7_put_41 : decode cX7_put 41 = .ok (.invokevirtual 214, 3) := by decide +kernel
theorem dX7_put_44 : decode cX7_put 44 = .ok (.aload_n 0, 1) := by decide +kernel
theorem dX7_put_45 : decode cX7_put 45 = .ok (.getfield 7, 3) := by decide +kernel
theorem dX7_put_48 : decode cX7_put 48 = .ok (.bipush 14, 2) := by decide +kernel
theorem dX7_put_50 : decode cX7_put 50 = .ok (.bipush 8, 2) := by decide +kernel
theorem dX7_put_52 : decode cX7_put 52 = .ok (.iload_n 2, 1) := by decide +kernel
theorem dX7_put_53 : decode cX7_put 53 = .ok (.imul, 1) := by decide +kernel
theorem dX7_put_54 : decode cX7_put 54 = .ok (.iadd, 1) := by decide +kernel
theorem dX7_put_55 : decode cX7_put 55 = .ok (.iload_n 1, 1) := by decide +kernel
theorem dX7_put_56 : decode cX7_put 56 = .ok (.iadd, 1) := by decide +kernel
theorem dX7_put_57 : decode cX7_put 57 = .ok (.iload_n 3, 1) := by decide +kernel
theorem dX7_put_58 : decode cX7_put 58 = .ok (.iastore, 1) := by decide +kernel
theorem dX7_put_59 : decode cX7_put 59 = .ok (.iload 4, 2) := by decide +kernel
theorem dX7_put_61 : decode cX7_put 61 = .ok (.ireturn, 1) := by decide +kernel
theorem dX7_fill_0 : decode cX7_fill 0 = .ok (.aload_n 0, 1) := by decide +kernel
theorem dX7_fill_1 : decode cX7_fill 1 = .ok (.invokevirtual 120, 3) := by decide +kernel
theorem dX7_fill_4 : decode cX7_fill 4 = .ok (.istore_n 3, 1) := by decide +kernel
theorem dX7_fill_5 : decode cX7_fill 5 = .ok (.iload_n 1, 1) := by decide +kernel
theorem dX7_fill_6 : decode cX7_fill 6 = .ok (.i2l, 1) := by decide +kernel
theorem dX7_fill_7 : decode cX7_fill 7 = .ok (.lconst 0, 1) := by decide +kernel
theorem dX7_fill_8 : decode cX7_fill 8 = .ok (.iload_n 3, 1) := by decide +kernel
theorem dX7_fill_9 : decode cX7_fill 9 = .ok (.iconst 1, 1) := by decide +kernel
theorem dX7_fill_10 : decode cX7_fill 10 = .ok (.isub, 1) := by decide +kernel
theorem dX7_fill_11 : decode cX7_fill 11 = .ok (.i2l, 1) := by decide +kernel
theorem dX7_fill_12 : decode cX7_fill 12 = .ok (.invokestatic 59, 3) := by decide +kernel
theorem dX7_fill_15 : decode cX7_fill 15 = .ok (.ifCond .eq 11, 3) := by decide +kernel
theorem dX7_fill_18 : decode cX7_fill 18 = .ok (.iload_n 2, 1) := by decide +kernel
theorem dX7_fill_19 : decode cX7_fill 19 = .ok (.i2l, 1) := by decide +kernel
theorem dX7_fill_20 : decode cX7_fill 20 = .ok (.invokestatic 142, 3) := by decide +kernel
theorem dX7_fill_23 : decode cX7_fill 23 = .ok (.ifCond .ne 5, 3) := by decide +kernel
theorem dX7_fill_26 : decode cX7_fill 26 = .ok (.iconst (-1), 1) := by decide +kernel
theorem dX7_fill_27 : decode cX7_fill 27 = .ok (.ireturn, 1) := by decide +kernel
theorem dX7_fill_28 : decode cX7_fill 28 = .ok (.aload_n 0, 1) := by decide +kernel
theorem dX7_fill_29 : decode cX7_fill 29 = .ok (.aload_n 0, 1) := by decide +kernel
theorem dX7_fill_30 : decode cX7_fill 30 = .ok (.getfield 19, 3) := by decide +kernel
theorem dX7_fill_33 : decode cX7_fill 33 = .ok (.iload_n 1, 1) := by decide +kernel
theorem dX7_fill_34 : decode cX7_fill 34 = .ok (.iaload, 1) := by decide +kernel
theorem dX7_fill_35 : decode cX7_fill 35 = .ok (.invokevirtual 92, 3) := by decide +kernel
theorem dX7_fill_38 : decode cX7_fill 38 = .ok (.iload_n 2, 1) := by decide +kernel
theorem dX7_fill_39 : decode cX7_fill 39 = .ok (.if_icmp .ne 6, 3) := by decide +kernel
theorem dX7_fill_42 : decode cX7_fill 42 = .ok (.bipush (-2), 2) := by decide +kernel
theorem dX7_fill_44 : decode cX7_fill 44 = .ok (.ireturn, 1) := by decide +kernel
theorem dX7_fill_45 : decode cX7_fill 45 = .ok (.aload_n 0, 1) := by decide +kernel
theorem dX7_fill_46 : decode cX7_fill 46 = .ok (.invokevirtual 214, 3) := by decide +kernel
theorem dX7_fill_49 : decode cX7_fill 49 = .ok (.iconst 0, 1) := by decide +kernel
theorem dX7_fill_50 : decode cX7_fill 50 = .ok (.istore 4, 2) := by decide +kernel
theorem dX7_fill_52 : decode cX7_fill 52 = .ok (.iconst 0, 1) := by decide +kernel
theorem dX7_fill_53 : decode cX7_fill 53 = .ok (.istore 5, 2) := by decide +kernel
theorem dX7_fill_55 : decode cX7_fill 55 = .ok (.iload 5, 2) := by decide +kernel
theorem dX7_fill_57 : decode cX7_fill 57 = .ok (.bipush 48, 2) := by decide +kernel
theorem dX7_fill_59 : decode cX7_fill 59 = .ok (.if_icmp .ge 33, 3) := by decide +kernel
theorem dX7_fill_62 : decode cX7_fill 62 = .ok (.aload_n 0, 1) := by decide +kernel
theorem dX7_fill_63 : decode cX7_fill 63 = .ok (.iload 5, 2) := by decide +kernel
theorem dX7_fill_65 : decode cX7_fill 65 = .ok (.iload_n 1, 1) := by decide +kernel
theorem dX7_fill_66 : decode cX7_fill 66 = .ok (.invokevirtual 111, 3) := by decide +kernel
theorem dX7_fill_69 : decode cX7_fill 69 = .ok (.ifCond .eq 17, 3) := by decide +kernel
theorem dX7_fill_72 : decode cX7_fill 72 = .ok (.aload_n 0, 1) := by decide +kernel
theorem dX7_fill_73 : decode cX7_fill 73 = .ok (.getfield 7, 3) := by decide +kernel
theorem dX7_fill_76 : decode cX7_fill 76 = .ok (.bipush 14, 2) := by decide +kernel
theorem dX7_fill_78 : decode cX7_fill 78 = .ok (.iload 5, 2) := by decide +kernel
theorem dX7_fill_80 : decode cX7_fill 80 = .ok (.iadd, 1) := by decide +kernel
theorem dX7_fill_81 : decode cX7_fill 81 = .ok (.iload_n 2, 1) := by decide +kernel
theorem dX7_fill_82 : decode cX7_fill 82 = .ok (.iastore, 1) := by decide +kernel
theorem dX7_fill_83 : decode cX7_fill 83 = .ok (.iinc 4 1, 3) := by decide +kernel
theorem dX7_fill_86 : decode cX7_fill 86 = .ok (.iinc 5 1, 3) := by decide +kernel
theorem dX7_fill_89 : decode cX7_fill 89 = .ok (.goto (-34), 3) := by decide +kernel
theorem dX7_fill_92 : decode cX7_fill 92 = .ok (.iload 4, 2) := by decide +kernel
theorem dX7_fill_94 : decode cX7_fill 94 = .ok (.ireturn, 1) := by decide +kernel
theorem dX7_comesTo_0 : decode cX7_comesTo 0 = .ok (.aload_n 0, 1) := by decide +kernel
theorem dX7_comesTo_1 : decode cX7_comesTo 1 = .ok (.iload_n 1, 1) := by decide +kernel
theorem dX7_comesTo_2 : decode cX7_comesTo 2 = .ok (.invokevirtual 92, 3) := by decide +kernel
theorem dX7_comesTo_5 : decode cX7_comesTo 5 = .ok (.istore_n 3, 1) := by decide +kernel
theorem dX7_comesTo_6 : decode cX7_comesTo 6 = .ok (.aload_n 0, 1) := by decide +kernel
theorem dX7_comesTo_7 : decode cX7_comesTo 7 = .ok (.iload_n 2, 1) := by decide +kernel
theorem dX7_comesTo_8 : decode cX7_comesTo 8 = .ok (.invokevirtual 92, 3) := by decide +kernel
theorem dX7_comesTo_11 : decode cX7_comesTo 11 = .ok (.istore 4, 2) := by decide +kernel
theorem dX7_comesTo_13 : decode cX7_comesTo 13 = .ok (.iload_n 3, 1) := by decide +kernel
theorem dX7_comesTo_14 : decode cX7_comesTo 14 = .ok (.ifCond .eq 15, 3) := by decide +kernel
theorem dX7_comesTo_17 : decode cX7_comesTo 17 = .ok (.iload 4, 2) := by decide +kernel
theorem dX7_comesTo_19 : decode cX7_comesTo 19 = .ok (.ifCond .eq 10, 3) := by decide +kernel
theorem dX7_comesTo_22 : decode cX7_comesTo 22 = .ok (.iload_n 3, 1) := by decide +kernel
theorem dX7_comesTo_23 : decode cX7_comesTo 23 = .ok (.iload 4, 2) := by decide +kernel
theorem dX7_comesTo_25 : decode cX7_comesTo 25 = .ok (.iand, 1) := by decide +kernel
theorem dX7_comesTo_26 : decode cX7_comesTo 26 = .ok (.ifCond .eq 5, 3) := by decide +kernel
theorem dX7_comesTo_29 : decode cX7_comesTo 29 = .ok (.iconst 0, 1) := by decide +kernel
theorem dX7_comesTo_30 : decode cX7_comesTo 30 = .ok (.ireturn, 1) := by decide +kernel
theorem dX7_comesTo_31 : decode cX7_comesTo 31 = .ok (.aload_n 0, 1) := by decide +kernel
theorem dX7_comesTo_32 : decode cX7_comesTo 32 = .ok (.iload 4, 2) := by decide +kernel
theorem dX7_comesTo_34 : decode cX7_comesTo 34 = .ok (.invokevirtual 136, 3) := by decide +kernel
theorem dX7_comesTo_37 : decode cX7_comesTo 37 = .ok (.aload_n 0, 1) := by decide +kernel
theorem dX7_comesTo_38 : decode cX7_comesTo 38 = .ok (.iload_n 3, 1) := by decide +kernel
theorem dX7_comesTo_39 : decode cX7_comesTo 39 = .ok (.invokevirtual 136, 3) := by decide +kernel
theorem dX7_comesTo_42 : decode cX7_comesTo 42 = .ok (.isub, 1) := by decide +kernel
theorem dX7_comesTo_43 : decode cX7_comesTo 43 = .ok (.istore 5, 2) := by decide +kernel
theorem dX7_comesTo_45 : decode cX7_comesTo 45 = .ok (.iload 5, 2) := by decide +kernel
theorem dX7_comesTo_47 : decode cX7_comesTo 47 = .ok (.ifCond .lt 13, 3) := by decide +kernel
theorem dX7_comesTo_50 : decode cX7_comesTo 50 = .ok (.iload 5, 2) := by decide +kernel
theorem dX7_comesTo_52 : decode cX7_comesTo 52 = .ok (.ifCond .ne 13, 3) := by decide +kernel
theorem dX7_comesTo_55 : decode cX7_comesTo 55 = .ok (.iload_n 2, 1) := by decide +kernel
theorem dX7_comesTo_56 : decode cX7_comesTo 56 = .ok (.iload_n 1, 1) := by decide +kernel
theorem dX7_comesTo_57 : decode cX7_comesTo 57 = .ok (.if_icmp .ge 8, 3) := by decide +kernel
theorem dX7_comesTo_60 : decode cX7_comesTo 60 = .ok (.iload 4, 2) := by decide +kernel
theorem dX7_comesTo_62 : decode cX7_comesTo 62 = .ok (.goto 4, 3) := by decide +kernel
theorem dX7_comesTo_65 : decode cX7_comesTo 65 = .ok (.iconst 0, 1) := by decide +kernel
theorem dX7_comesTo_66 : decode cX7_comesTo 66 = .ok (.ireturn, 1) := by decide +kernel
theorem dX7_grow_0 : decode cX7_grow 0 = .ok (.iconst 0, 1) := by decide +kernel
theorem dX7_grow_1 : decode cX7_grow 1 = .ok (.istore_n 1, 1) := by decide +kernel
theorem dX7_grow_2 : decode cX7_grow 2 = .ok (.iconst 0, 1) := by decide +kernel
theorem dX7_grow_3 : decode cX7_grow 3 = .ok (.istore_n 2, 1) := by decide +kernel
theorem dX7_grow_4 : decode cX7_grow 4 = .ok (.iload_n 2, 1) := by decide +kernel
theorem dX7_grow_5 : decode cX7_grow 5 = .ok (.bipush 48, 2) := by decide +kernel
theorem dX7_grow_7 : decode cX7_grow 7 = .ok (.if_icmp .ge 96, 3) := by decide +kernel
theorem dX7_grow_10 : decode cX7_grow 10 = .ok (.aload_n 0, 1) := by decide +kernel
theorem dX7_grow_11 : decode cX7_grow 11 = .ok (.getfield 25, 3) := by decide +kernel
theorem dX7_grow_14 : decode cX7_grow 14 = .ok (.iload_n 2, 1) := by decide +kernel
theorem dX7_grow_15 : decode cX7_grow 15 = .ok (.aload_n 0, 1) := by decide +kernel
theorem dX7_grow_16 : decode cX7_grow 16 = .ok (.iload_n 2, 1) := by decide +kernel
theorem dX7_grow_17 : decode cX7_grow 17 = .ok (.invokevirtual 92, 3) := by decide +kernel
theorem dX7_grow_20 : decode cX7_grow 20 = .ok (.iastore, 1) := by decide +kernel
theorem dX7_grow_21 : decode cX7_grow 21 = .ok (.iconst 0, 1) := by decide +kernel
theorem dX7_grow_22 : decode cX7_grow 22 = .ok (.istore_n 3, 1) := by decide +kernel
theorem dX7_grow_23 : decode cX7_grow 23 = .ok (.iload_n 3, 1) := by decide +kernel
theorem dX7_grow_24 : decode cX7_grow 24 = .ok (.iconst 4, 1) := by decide +kernel
theorem dX7_grow_25 : decode cX7_grow 25 = .ok (.if_icmp .ge 50, 3) := by decide +kernel
theorem dX7_grow_28 : decode cX7_grow 28 = .ok (.aload_n 0, 1) := by decide +kernel
theorem dX7_grow_29 : decode cX7_grow 29 = .ok (.iload_n 2, 1) := by decide +kernel
theorem dX7_grow_30 : decode cX7_grow 30 = .ok (.invokevirtual 88, 3) := by decide +kernel
theorem dX7_grow_33 : decode cX7_grow 33 = .ok (.ifCond .eq 42, 3) := by decide +kernel
theorem dX7_grow_36 : decode cX7_grow 36 = .ok (.aload_n 0, 1) := by decide +kernel
theorem dX7_grow_37 : decode cX7_grow 37 = .ok (.iload_n 2, 1) := by decide +kernel
theorem dX7_grow_38 : decode cX7_grow 38 = .ok (.iload_n 3, 1) := by decide +kernel
theorem dX7_grow_39 : decode cX7_grow 39 = .ok (.invokevirtual 104, 3) := by decide +kernel
theorem dX7_grow_42 : decode cX7_grow 42 = .ok (.istore 4, 2) := by decide +kernel
theorem dX7_grow_44 : decode cX7_grow 44 = .ok (.aload_n 0, 1) := by decide +kernel
theorem dX7_grow_45 : decode cX7_grow 45 = .ok (.getfield 25, 3) := by decide +kernel
theorem dX7_grow_48 : decode cX7_grow 48 = .ok (.iload_n 2, 1) := by decide +kernel
theorem dX7_grow_49 : decode cX7_grow 49 = .ok (.dup2, 1) := by decide +kernel
theorem dX7_grow_50 : decode cX7_grow 50 = .ok (.iaload, 1) := by decide +kernel
theorem dX7_grow_51 : decode cX7_grow 51 = .ok (.iload 4, 2) := by decide +kernel
theorem dX7_grow_53 : decode cX7_grow 53 = .ok (.ifCond .lt 13, 3) := by decide +kernel
theorem dX7_grow_56 : decode cX7_grow 56 = .ok (.aload_n 0, 1) := by decide +kernel
theorem dX7_grow_57 : decode cX7_grow 57 = .ok (.iload_n 2, 1) := by decide +kernel
theorem dX7_grow_58 : decode cX7_grow 58 = .ok (.iload 4, 2) := by decide +kernel
theorem dX7_grow_60 : decode cX7_grow 60 = .ok (.invokevirtual 217, 3) := by decide +kernel
theorem dX7_grow_63 : decode cX7_grow 63 = .ok (.goto 4, 3) := by decide +kernel
theorem dX7_grow_66 : decode cX7_grow 66 = .ok (.iconst 0, 1) := by decide +kernel
theorem dX7_grow_67 : decode cX7_grow 67 = .ok (.ior, 1) := by decide +kernel
theorem dX7_grow_68 : decode cX7_grow 68 = .ok (.iastore, 1) := by decide +kernel
theorem dX7_grow_69 : decode cX7_grow 69 = .ok (.iinc 3 1, 3) := by decide +kernel
theorem dX7_grow_72 : decode cX7_grow 72 = .ok (.goto (-49), 3) := by decide +kernel
theorem dX7_grow_75 : decode cX7_grow 75 = .ok (.iload_n 1, 1) := by decide +kernel
theorem dX7_grow_76 : decode cX7_grow 76 = .ok (.aload_n 0, 1) := by decide +kernel
theorem dX7_grow_77 : decode cX7_grow 77 = .ok (.getfield 25, 3) := by decide +kernel
theorem dX7_grow_80 : decode cX7_grow 80 = .ok (.iload_n 2, 1) := by decide +kernel
theorem dX7_grow_81 : decode cX7_grow 81 = .ok (.iaload, 1) := by decide +kernel
theorem dX7_grow_82 : decode cX7_grow 82 = .ok (.aload_n 0, 1) := by decide +kernel
theorem dX7_grow_83 : decode cX7_grow 83 = .ok (.iload_n 2, 1) := by decide +kernel
theorem dX7_grow_84 : decode cX7_grow 84 = .ok (.invokevirtual 92, 3) := by decide +kernel
theorem dX7_grow_87 : decode cX7_grow 87 = .ok (.if_icmp .eq 7, 3) := by decide +kernel
theorem dX7_grow_90 : decode cX7_grow 90 = .ok (.iconst 1, 1) := by decide +kernel
theorem dX7_grow_91 : decode cX7_grow 91 = .ok (.goto 4, 3) := by decide +kernel
theorem dX7_grow_94 : decode cX7_grow 94 = .ok (.iconst 0, 1) := by decide +kernel
theorem dX7_grow_95 : decode cX7_grow 95 = .ok (.iadd, 1) := by decide +kernel
theorem dX7_grow_96 : decode cX7_grow 96 = .ok (.istore_n 1, 1) := by decide +kernel
theorem dX7_grow_97 : decode cX7_grow 97 = .ok (.iinc 2 1, 3) := by decide +kernel
theorem dX7_grow_100 : decode cX7_grow 100 = .ok (.goto (-96), 3) := by decide +kernel
theorem dX7_grow_103 : decode cX7_grow 103 = .ok (.iload_n 1, 1) := by decide +kernel
theorem dX7_grow_104 : decode cX7_grow 104 = .ok (.ifCond .ne 6, 3) := by decide +kernel
theorem dX7_grow_107 : decode cX7_grow 107 = .ok (.bipush (-2), 2) := by decide +kernel
theorem dX7_grow_109 : decode cX7_grow 109 = .ok (.ireturn, 1) := by decide +kernel
theorem dX7_grow_110 : decode cX7_grow 110 = .ok (.aload_n 0, 1) := by decide +kernel
theorem dX7_grow_111 : decode cX7_grow 111 = .ok (.invokevirtual 214, 3) := by decide +kernel
theorem dX7_grow_114 : decode cX7_grow 114 = .ok (.iconst 0, 1) := by decide +kernel
theorem dX7_grow_115 : decode cX7_grow 115 = .ok (.istore_n 2, 1) := by decide +kernel
theorem dX7_grow_116 : decode cX7_grow 116 = .ok (.iload_n 2, 1) := by decide +kernel
theorem dX7_grow_117 : decode cX7_grow 117 = .ok (.bipush 48, 2) := by decide +kernel
theorem dX7_grow_119 : decode cX7_grow 119 = .ok (.if_icmp .ge 24, 3) := by decide +kernel
theorem dX7_grow_122 : decode cX7_grow 122 = .ok (.aload_n 0, 1) := by decide +kernel
theorem dX7_grow_123 : decode cX7_grow 123 = .ok (.getfield 7, 3) := by decide +kernel
theorem dX7_grow_126 : decode cX7_grow 126 = .ok (.bipush 14, 2) := by decide +kernel
theorem dX7_grow_128 : decode cX7_grow 128 = .ok (.iload_n 2, 1) := by decide +kernel
theorem dX7_grow_129 : decode cX7_grow 129 = .ok (.iadd, 1) := by decide +kernel
theorem dX7_grow_130 : decode cX7_grow 130 = .ok (.aload_n 0, 1) := by decide +kernel
theorem dX7_grow_131 : decode cX7_grow 131 = .ok (.getfield 25, 3) := by decide +kernel
theorem dX7_grow_134 : decode cX7_grow 134 = .ok (.iload_n 2, 1) := by decide +kernel
theorem dX7_grow_135 : decode cX7_grow 135 = .ok (.iaload, 1) := by decide +kernel
theorem dX7_grow_136 : decode cX7_grow 136 = .ok (.iastore, 1) := by decide +kernel
theorem dX7_grow_137 : decode cX7_grow 137 = .ok (.iinc 2 1, 3) := by decide +kernel
theorem dX7_grow_140 : decode cX7_grow 140 = .ok (.goto (-24), 3) := by decide +kernel
theorem dX7_grow_143 : decode cX7_grow 143 = .ok (.iload_n 1, 1) := by decide +kernel
theorem dX7_grow_144 : decode cX7_grow 144 = .ok (.ireturn, 1) := by decide +kernel
theorem dX7_size_0 : decode cX7_size 0 = .ok (.iload_n 1, 1) := by decide +kernel
theorem dX7_size_1 : decode cX7_size 1 = .ok (.i2l, 1) := by decide +kernel
theorem dX7_size_2 : decode cX7_size 2 = .ok (.lconst 0, 1) := by decide +kernel
theorem dX7_size_3 : decode cX7_size 3 = .ok (.lconst 1, 1) := by decide +kernel
theorem dX7_size_4 : decode cX7_size 4 = .ok (.invokestatic 59, 3) := by decide +kernel
theorem dX7_size_7 : decode cX7_size 7 = .ok (.ifCond .eq 25, 3) := by decide +kernel
theorem dX7_size_10 : decode cX7_size 10 = .ok (.iload_n 2, 1) := by decide +kernel
theorem dX7_size_11 : decode cX7_size 11 = .ok (.i2l, 1) := by decide +kernel
theorem dX7_size_12 : decode cX7_size 12 = .ok (.lconst 1, 1) := by decide +kernel
theorem dX7_size_13 : decode cX7_size 13 = .ok (.iload_n 1, 1) := by decide +kernel
theorem dX7_size_14 : decode cX7_size 14 = .ok (.ifCond .ne 9, 3) := by decide +kernel
theorem dX7_size_17 : decode cX7_size 17 = .ok (.ldc2_w 220, 3) := by decide +kernel
theorem dX7_size_20 : decode cX7_size 20 = .ok (.goto 6, 3) := by decide +kernel
theorem dX7_size_23 : decode cX7_size 23 = .ok (.ldc2_w 222, 3) := by decide +kernel
theorem dX7_size_26 : decode cX7_size 26 = .ok (.invokestatic 59, 3) := by decide +kernel
theorem dX7_size_29 : decode cX7_size 29 = .ok (.ifCond .ne 5, 3) := by decide +kernel
theorem dX7_size_32 : decode cX7_size 32 = .ok (.iconst (-1), 1) := by decide +kernel
theorem dX7_size_33 : decode cX7_size 33 = .ok (.ireturn, 1) := by decide +kernel
theorem dX7_size_34 : decode cX7_size 34 = .ok (.aload_n 0, 1) := by decide +kernel
theorem dX7_size_35 : decode cX7_size 35 = .ok (.getfield 7, 3) := by decide +kernel
theorem dX7_size_38 : decode cX7_size 38 = .ok (.iload_n 1, 1) := by decide +kernel
theorem dX7_size_39 : decode cX7_size 39 = .ok (.iaload, 1) := by decide +kernel
theorem dX7_size_40 : decode cX7_size 40 = .ok (.istore_n 3, 1) := by decide +kernel
theorem dX7_size_41 : decode cX7_size 41 = .ok (.iload_n 3, 1) := by decide +kernel
theorem dX7_size_42 : decode cX7_size 42 = .ok (.iload_n 2, 1) := by decide +kernel
theorem dX7_size_43 : decode cX7_size 43 = .ok (.if_icmp .ne 6, 3) := by decide +kernel
theorem dX7_size_46 : decode cX7_size 46 = .ok (.bipush (-2), 2) := by decide +kernel
theorem dX7_size_48 : decode cX7_size 48 = .ok (.ireturn, 1) := by decide +kernel
theorem dX7_size_49 : decode cX7_size 49 = .ok (.aload_n 0, 1) := by decide +kernel
theorem dX7_size_50 : decode cX7_size 50 = .ok (.invokevirtual 214, 3) := by decide +kernel
theorem dX7_size_53 : decode cX7_size 53 = .ok (.aload_n 0, 1) := by decide +kernel
theorem dX7_size_54 : decode cX7_size 54 = .ok (.getfield 7, 3) := by decide +kernel
theorem dX7_size_57 : decode cX7_size 57 = .ok (.iload_n 1, 1) := by decide +kernel
theorem dX7_size_58 : decode cX7_size 58 = .ok (.iload_n 2, 1) := by decide +kernel
theorem dX7_size_59 : decode cX7_size 59 = .ok (.iastore, 1) := by decide +kernel
theorem dX7_size_60 : decode cX7_size 60 = .ok (.iconst 0, 1) := by decide +kernel
theorem dX7_size_61 : decode cX7_size 61 = .ok (.istore 4, 2) := by decide +kernel
theorem dX7_size_63 : decode cX7_size 63 = .ok (.iload 4, 2) := by decide +kernel
theorem dX7_size_65 : decode cX7_size 65 = .ok (.bipush 48, 2) := by decide +kernel
theorem dX7_size_67 : decode cX7_size 67 = .ok (.if_icmp .ge 38, 3) := by decide +kernel
theorem dX7_size_70 : decode cX7_size 70 = .ok (.aload_n 0, 1) := by decide +kernel
theorem dX7_size_71 : decode cX7_size 71 = .ok (.getfield 7, 3) := by decide +kernel
theorem dX7_size_74 : decode cX7_size 74 = .ok (.bipush 14, 2) := by decide +kernel
theorem dX7_size_76 : decode cX7_size 76 = .ok (.iload 4, 2) := by decide +kernel
theorem dX7_size_78 : decode cX7_size 78 = .ok (.iadd, 1) := by decide +kernel
theorem dX7_size_79 : decode cX7_size 79 = .ok (.aload_n 0, 1) := by decide +kernel
theorem dX7_size_80 : decode cX7_size 80 = .ok (.iload 4, 2) := by decide +kernel
theorem dX7_size_82 : decode cX7_size 82 = .ok (.invokevirtual 88, 3) := by decide +kernel
theorem dX7_size_85 : decode cX7_size 85 = .ok (.ifCond .eq 12, 3) := by decide +kernel
theorem dX7_size_88 : decode cX7_size 88 = .ok (.aload_n 0, 1) := by decide +kernel
theorem dX7_size_89 : decode cX7_size 89 = .ok (.iload 4, 2) := by decide +kernel
theorem dX7_size_91 : decode cX7_size 91 = .ok (.invokevirtual 92, 3) := by decide +kernel
theorem dX7_size_94 : decode cX7_size 94 = .ok (.goto 4, 3) := by decide +kernel
theorem dX7_size_97 : decode cX7_size 97 = .ok (.iconst 0, 1) := by decide +kernel
theorem dX7_size_98 : decode cX7_size 98 = .ok (.iastore, 1) := by decide +kernel
theorem dX7_size_99 : decode cX7_size 99 = .ok (.iinc 4 1, 3) := by decide +kernel
theorem dX7_size_102 : decode cX7_size 102 = .ok (.goto (-39), 3) := by decide +kernel
theorem dX7_size_105 : decode cX7_size 105 = .ok (.iload_n 3, 1) := by decide +kernel
theorem dX7_size_106 : decode cX7_size 106 = .ok (.ireturn, 1) := by decide +kernel
theorem dX7_drift_0 : decode cX7_drift 0 = .ok (.iload_n 1, 1) := by decide +kernel
theorem dX7_drift_1 : decode cX7_drift 1 = .ok (.i2l, 1) := by decide +kernel
theorem dX7_drift_2 : decode cX7_drift 2 = .ok (.lconst 1, 1) := by decide +kernel
theorem dX7_drift_3 : decode cX7_drift 3 = .ok (.ldc2_w 224, 3) := by decide +kernel
theorem dX7_drift_6 : decode cX7_drift 6 = .ok (.invokestatic 59, 3) := by decide +kernel
theorem dX7_drift_9 : decode cX7_drift 9 = .ok (.ifCond .ne 5, 3) := by decide +kernel
theorem dX7_drift_12 : decode cX7_drift 12 = .ok (.iconst (-1), 1) := by decide +kernel
theorem dX7_drift_13 : decode cX7_drift 13 = .ok (.ireturn, 1) := by decide +kernel
theorem dX7_drift_14 : decode cX7_drift 14 = .ok (.iconst 0, 1) := by decide +kernel
theorem dX7_drift_15 : decode cX7_drift 15 = .ok (.istore_n 2, 1) := by decide +kernel
theorem dX7_drift_16 : decode cX7_drift 16 = .ok (.iload_n 2, 1) := by decide +kernel
theorem dX7_drift_17 : decode cX7_drift 17 = .ok (.iload_n 1, 1) := by decide +kernel
theorem dX7_drift_18 : decode cX7_drift 18 = .ok (.if_icmp .ge 90, 3) := by decide +kernel
theorem dX7_drift_21 : decode cX7_drift 21 = .ok (.aload_n 0, 1) := by decide +kernel
theorem dX7_drift_22 : decode cX7_drift 22 = .ok (.invokevirtual 214, 3) := by decide +kernel
theorem dX7_drift_25 : decode cX7_drift 25 = .ok (.aload_n 0, 1) := by decide +kernel
theorem dX7_drift_26 : decode cX7_drift 26 = .ok (.getfield 7, 3) := by decide +kernel
theorem dX7_drift_29 : decode cX7_drift 29 = .ok (.iconst 2, 1) := by decide +kernel
theorem dX7_drift_30 : decode cX7_drift 30 = .ok (.iaload, 1) := by decide +kernel
theorem dX7_drift_31 : decode cX7_drift 31 = .ok (.i2l, 1) := by decide +kernel
theorem dX7_drift_32 : decode cX7_drift 32 = .ok (.ldc2_w 226, 3) := by decide +kernel
theorem dX7_drift_35 : decode cX7_drift 35 = .ok (.lmul, 1) := by decide +kernel
theorem dX7_drift_36 : decode cX7_drift 36 = .ok (.ldc2_w 228, 3) := by decide +kernel
theorem dX7_drift_39 : decode cX7_drift 39 = .ok (.ladd, 1) := by decide +kernel
theorem dX7_drift_40 : decode cX7_drift 40 = .ok (.ldc2_w 230, 3) := by decide +kernel
theorem dX7_drift_43 : decode cX7_drift 43 = .ok (.lrem, 1) := by decide +kernel
theorem dX7_drift_44 : decode cX7_drift 44 = .ok (.lstore_n 3, 1) := by decide +kernel
theorem dX7_drift_45 : decode cX7_drift 45 = .ok (.lload_n 3, 1) := by decide +kernel
theorem dX7_drift_46 : decode cX7_drift 46 = .ok (.ldc2_w 232, 3) := by decide +kernel
theorem dX7_drift_49 : decode cX7_drift 49 = .ok (.ldiv, 1) := by decide +kernel
theorem dX7_drift_50 : decode cX7_drift 50 = .ok (.l2i, 1) := by decide +kernel
theorem dX7_drift_51 : decode cX7_drift 51 = .ok (.istore 5, 2) := by decide +kernel
theorem dX7_drift_53 : decode cX7_drift 53 = .ok (.aload_n 0, 1) := by decide +kernel
theorem dX7_drift_54 : decode cX7_drift 54 = .ok (.getfield 7, 3) := by decide +kernel
theorem dX7_drift_57 : decode cX7_drift 57 = .ok (.iconst 2, 1) := by decide +kernel
theorem dX7_drift_58 : decode cX7_drift 58 = .ok (.lload_n 3, 1) := by decide +kernel
theorem dX7_drift_59 : decode cX7_drift 59 = .ok (.l2i, 1) := by decide +kernel
theorem dX7_drift_60 : decode cX7_drift 60 = .ok (.iastore, 1) := by decide +kernel
theorem dX7_drift_61 : decode cX7_drift 61 = .ok (.aload_n 0, 1) := by decide +kernel
theorem dX7_drift_62 : decode cX7_drift 62 = .ok (.getfield 7, 3) := by decide +kernel
theorem dX7_drift_65 : decode cX7_drift 65 = .ok (.bipush 14, 2) := by decide +kernel
theorem dX7_drift_67 : decode cX7_drift 67 = .ok (.bipush 8, 2) := by decide +kernel
theorem dX7_drift_69 : decode cX7_drift 69 = .ok (.iload 5, 2) := by decide +kernel
theorem dX7_drift_71 : decode cX7_drift 71 = .ok (.bipush 8, 2) := by decide +kernel
theorem dX7_drift_73 : decode cX7_drift 73 = .ok (.idiv, 1) := by decide +kernel
theorem dX7_drift_74 : decode cX7_drift 74 = .ok (.aload_n 0, 1) := by decide +kernel
theorem dX7_drift_75 : decode cX7_drift 75 = .ok (.getfield 7, 3) := by decide +kernel
theorem dX7_drift_78 : decode cX7_drift 78 = .ok (.iconst 1, 1) := by decide +kernel
theorem dX7_drift_79 : decode cX7_drift 79 = .ok (.iaload, 1) := by decide +kernel
theorem dX7_drift_80 : decode cX7_drift 80 = .ok (.irem, 1) := by decide +kernel
theorem dX7_drift_81 : decode cX7_drift 81 = .ok (.imul, 1) := by decide +kernel
theorem dX7_drift_82 : decode cX7_drift 82 = .ok (.iadd, 1) := by decide +kernel
theorem dX7_drift_83 : decode cX7_drift 83 = .ok (.iload 5, 2) := by decide +kernel
theorem dX7_drift_85 : decode cX7_drift 85 = .ok (.aload_n 0, 1) := by decide +kernel
theorem dX7_drift_86 : decode cX7_drift 86 = .ok (.getfield 7, 3) := by decide +kernel
theorem dX7_drift_89 : decode cX7_drift 89 = .ok (.iconst 0, 1) := by decide +kernel
theorem dX7_drift_90 : decode cX7_drift 90 = .ok (.iaload, 1) := by decide +kernel
theorem dX7_drift_91 : decode cX7_drift 91 = .ok (.irem, 1) := by decide +kernel
theorem dX7_drift_92 : decode cX7_drift 92 = .ok (.iadd, 1) := by decide +kernel
theorem dX7_drift_93 : decode cX7_drift 93 = .ok (.iload 5, 2) := by decide +kernel
theorem dX7_drift_95 : decode cX7_drift 95 = .ok (.bipush 64, 2) := by decide +kernel
theorem dX7_drift_97 : decode cX7_drift 97 = .ok (.idiv, 1) := by decide +kernel
theorem dX7_drift_98 : decode cX7_drift 98 = .ok (.bipush 32, 2) := by decide +kernel
theorem dX7_drift_100 : decode cX7_drift 100 = .ok (.irem, 1) := by decide +kernel
theorem dX7_drift_101 : decode cX7_drift 101 = .ok (.iastore, 1) := by decide +kernel
theorem dX7_drift_102 : decode cX7_drift 102 = .ok (.iinc 2 1, 3) := by decide +kernel
theorem dX7_drift_105 : decode cX7_drift 105 = .ok (.goto (-89), 3) := by decide +kernel
theorem dX7_drift_108 : decode cX7_drift 108 = .ok (.aload_n 0, 1) := by decide +kernel
theorem dX7_drift_109 : decode cX7_drift 109 = .ok (.invokevirtual 120, 3) := by decide +kernel
theorem dX7_drift_112 : decode cX7_drift 112 = .ok (.ireturn, 1) := by decide +kernel
theorem dX7_seed_0 : decode cX7_seed 0 = .ok (.iload_n 1, 1) := by decide +kernel
theorem dX7_seed_1 : decode cX7_seed 1 = .ok (.ifCond .ge 5, 3) := by decide +kernel
theorem dX7_seed_4 : decode cX7_seed 4 = .ok (.iconst (-1), 1) := by decide +kernel
theorem dX7_seed_5 : decode cX7_seed 5 = .ok (.ireturn, 1) := by decide +kernel
theorem dX7_seed_6 : decode cX7_seed 6 = .ok (.aload_n 0, 1) := by decide +kernel
theorem dX7_seed_7 : decode cX7_seed 7 = .ok (.getfield 7, 3) := by decide +kernel
theorem dX7_seed_10 : decode cX7_seed 10 = .ok (.iconst 2, 1) := by decide +kernel
theorem dX7_seed_11 : decode cX7_seed 11 = .ok (.iaload, 1) := by decide +kernel
theorem dX7_seed_12 : decode cX7_seed 12 = .ok (.istore_n 2, 1) := by decide +kernel
theorem dX7_seed_13 : decode cX7_seed 13 = .ok (.aload_n 0, 1) := by decide +kernel
theorem dX7_seed_14 : decode cX7_seed 14 = .ok (.getfield 7, 3) := by decide +kernel
theorem dX7_seed_17 : decode cX7_seed 17 = .ok (.iconst 2, 1) := by decide +kernel
theorem dX7_seed_18 : decode cX7_seed 18 = .ok (.iload_n 1, 1) := by decide +kernel
theorem dX7_seed_19 : decode cX7_seed 19 = .ok (.iastore, 1) := by decide +kernel
theorem dX7_seed_20 : decode cX7_seed 20 = .ok (.iload_n 2, 1) := by decide +kernel
theorem dX7_seed_21 : decode cX7_seed 21 = .ok (.ireturn, 1) := by decide +kernel
theorem dX7_type_0 : decode cX7_type 0 = .ok (.iload_n 1, 1) := by decide +kernel
theorem dX7_type_1 : decode cX7_type 1 = .ok (.i2l, 1) := by decide +kernel
theorem dX7_type_2 : decode cX7_type 2 = .ok (.ldc2_w 234, 3) := by decide +kernel
theorem dX7_type_5 : decode cX7_type 5 = .ok (.ldc2_w 236, 3) := by decide +kernel
theorem dX7_type_8 : decode cX7_type 8 = .ok (.invokestatic 59, 3) := by decide +kernel
theorem dX7_type_11 : decode cX7_type 11 = .ok (.ifCond .ne 5, 3) := by decide +kernel
theorem dX7_type_14 : decode cX7_type 14 = .ok (.iconst (-1), 1) := by decide +kernel
theorem dX7_type_15 : decode cX7_type 15 = .ok (.ireturn, 1) := by decide +kernel
theorem dX7_type_16 : decode cX7_type 16 = .ok (.aload_n 0, 1) := by decide +kernel
theorem dX7_type_17 : decode cX7_type 17 = .ok (.getfield 238, 3) := by decide +kernel
theorem dX7_type_20 : decode cX7_type 20 = .ok (.bipush 100, 2) := by decide +kernel
theorem dX7_type_22 : decode cX7_type 22 = .ok (.if_icmp .ne 6, 3) := by decide +kernel
theorem dX7_type_25 : decode cX7_type 25 = .ok (.bipush (-3), 2) := by decide +kernel
theorem dX7_type_27 : decode cX7_type 27 = .ok (.ireturn, 1) := by decide +kernel
theorem dX7_type_28 : decode cX7_type 28 = .ok (.aload_n 0, 1) := by decide +kernel
theorem dX7_type_29 : decode cX7_type 29 = .ok (.getfield 28, 3) := by decide +kernel
theorem dX7_type_32 : decode cX7_type 32 = .ok (.aload_n 0, 1) := by decide +kernel
theorem dX7_type_33 : decode cX7_type 33 = .ok (.getfield 238, 3) := by decide +kernel
theorem dX7_type_36 : decode cX7_type 36 = .ok (.iload_n 1, 1) := by decide +kernel
theorem dX7_type_37 : decode cX7_type 37 = .ok (.iastore, 1) := by decide +kernel
theorem dX7_type_38 : decode cX7_type 38 = .ok (.aload_n 0, 1) := by decide +kernel
theorem dX7_type_39 : decode cX7_type 39 = .ok (.dup, 1) := by decide +kernel
theorem dX7_type_40 : decode cX7_type 40 = .ok (.getfield 238, 3) := by decide +kernel
theorem dX7_type_43 : decode cX7_type 43 = .ok (.iconst 1, 1) := by decide +kernel
theorem dX7_type_44 : decode cX7_type 44 = .ok (.iadd, 1) := by decide +kernel
theorem dX7_type_45 : decode cX7_type 45 = .ok (.putfield 238, 3) := by decide +kernel
theorem dX7_type_48 : decode cX7_type 48 = .ok (.aload_n 0, 1) := by decide +kernel
theorem dX7_type_49 : decode cX7_type 49 = .ok (.getfield 238, 3) := by decide +kernel
theorem dX7_type_52 : decode cX7_type 52 = .ok (.ireturn, 1) := by decide +kernel
theorem dX7_here_0 : decode cX7_here 0 = .ok (.aload_n 0, 1) := by decide +kernel
theorem dX7_here_1 : decode cX7_here 1 = .ok (.getfield 241, 3) := by decide +kernel
theorem dX7_here_4 : decode cX7_here 4 = .ok (.aload_n 0, 1) := by decide +kernel
theorem dX7_here_5 : decode cX7_here 5 = .ok (.getfield 238, 3) := by decide +kernel
theorem dX7_here_8 : decode cX7_here 8 = .ok (.if_icmp .ge 30, 3) := by decide +kernel
theorem dX7_here_11 : decode cX7_here 11 = .ok (.aload_n 0, 1) := by decide +kernel
theorem dX7_here_12 : decode cX7_here 12 = .ok (.getfield 28, 3) := by decide +kernel
theorem dX7_here_15 : decode cX7_here 15 = .ok (.aload_n 0, 1) := by decide +kernel
theorem dX7_here_16 : decode cX7_here 16 = .ok (.getfield 241, 3) := by decide +kernel
theorem dX7_here_19 : decode cX7_here 19 = .ok (.iaload, 1) := by decide +kernel
theorem dX7_here_20 : decode cX7_here 20 = .ok (.bipush 32, 2) := by decide +kernel
theorem dX7_here_22 : decode cX7_here 22 = .ok (.if_icmp .ne 16, 3) := by decide +kernel
theorem dX7_here_25 : decode cX7_here 25 = .ok (.aload_n 0, 1) := by decide +kernel
theorem dX7_here_26 : decode cX7_here 26 = .ok (.dup, 1) := by decide +kernel
theorem dX7_here_27 : decode cX7_here 27 = .ok (.getfield 241, 3) := by decide +kernel
theorem dX7_here_30 : decode cX7_here 30 = .ok (.iconst 1, 1) := by decide +kernel
theorem dX7_here_31 : decode cX7_here 31 = .ok (.iadd, 1) := by decide +kernel
theorem dX7_here_32 : decode cX7_here 32 = .ok (.putfield 241, 3) := by decide +kernel
theorem dX7_here_35 : decode cX7_here 35 = .ok (.goto (-35), 3) := by decide +kernel
theorem dX7_here_38 : decode cX7_here 38 = .ok (.aload_n 0, 1) := by decide +kernel
theorem dX7_here_39 : decode cX7_here 39 = .ok (.getfield 241, 3) := by decide +kernel
theorem dX7_here_42 : decode cX7_here 42 = .ok (.aload_n 0, 1) := by decide +kernel
theorem dX7_here_43 : decode cX7_here 43 = .ok (.getfield 238, 3) := by decide +kernel
theorem dX7_here_46 : decode cX7_here 46 = .ok (.if_icmp .ge 15, 3) := by decide +kernel
theorem dX7_here_49 : decode cX7_here 49 = .ok (.aload_n 0, 1) := by decide +kernel
theorem dX7_here_50 : decode cX7_here 50 = .ok (.getfield 28, 3) := by decide +kernel
theorem dX7_here_53 : decode cX7_here 53 = .ok (.aload_n 0, 1) := by decide +kernel
theorem dX7_here_54 : decode cX7_here 54 = .ok (.getfield 241, 3) := by decide +kernel
theorem dX7_here_57 : decode cX7_here 57 = .ok (.iaload, 1) := by decide +kernel
theorem dX7_here_58 : decode cX7_here 58 = .ok (.goto 4, 3) := by decide +kernel
theorem dX7_here_61 : decode cX7_here 61 = .ok (.iconst 0, 1) := by decide +kernel
theorem dX7_here_62 : decode cX7_here 62 = .ok (.ireturn, 1) := by decide +kernel
theorem dX7_isRun_0 : decode cX7_isRun 0 = .ok (.aload_n 0, 1) := by decide +kernel
theorem dX7_isRun_1 : decode cX7_isRun 1 = .ok (.invokevirtual 244, 3) := by decide +kernel
theorem dX7_isRun_4 : decode cX7_isRun 4 = .ok (.i2l, 1) := by decide +kernel
theorem dX7_isRun_5 : decode cX7_isRun 5 = .ok (.ldc2_w 247, 3) := by decide +kernel
theorem dX7_isRun_8 : decode cX7_isRun 8 = .ok (.ldc2_w 249, 3) := by decide +kernel
theorem dX7_isRun_11 : decode cX7_isRun 11 = .ok (.invokestatic 59, 3) := by decide +kernel
theorem dX7_isRun_14 : decode cX7_isRun 14 = .ok (.ifCond .ne 38, 3) := by decide +kernel
theorem dX7_isRun_17 : decode cX7_isRun 17 = .ok (.aload_n 0, 1) := by decide +kernel
theorem dX7_isRun_18 : decode cX7_isRun 18 = .ok (.invokevirtual 244, 3) := by decide +kernel
theorem dX7_isRun_21 : decode cX7_isRun 21 = .ok (.bipush 46, 2) := by decide +kernel
theorem dX7_isRun_23 : decode cX7_isRun 23 = .ok (.if_icmp .eq 29, 3) := by decide +kernel
theorem dX7_isRun_26 : decode cX7_isRun 26 = .ok (.aload_n 0, 1) := by decide +kernel
theorem dX7_isRun_27 : decode cX7_isRun 27 = .ok (.invokevirtual 244, 3) := by decide +kernel
theorem dX7_isRun_30 : decode cX7_isRun 30 = .ok (.bipush 40, 2) := by decide +kernel
theorem dX7_isRun_32 : decode cX7_isRun 32 = .ok (.if_icmp .eq 20, 3) := by decide +kernel
theorem dX7_isRun_35 : decode cX7_isRun 35 = .ok (.aload_n 0, 1) := by decide +kernel
theorem dX7_isRun_36 : decode cX7_isRun 36 = .ok (.invokevirtual 244, 3) := by decide +kernel
theorem dX7_isRun_39 : decode cX7_isRun 39 = .ok (.i2l, 1) := by decide +kernel
theorem dX7_isRun_40 : decode cX7_isRun 40 = .ok (.ldc2_w 251, 3) := by decide +kernel
theorem dX7_isRun_43 : decode cX7_isRun 43 = .ok (.ldc2_w 253, 3) := by decide +kernel
theorem dX7_isRun_46 : decode cX7_isRun 46 = .ok (.invokestatic 59, 3) := by decide +kernel
theorem dX7_isRun_49 : decode cX7_isRun 49 = .ok (.ifCond .eq 7, 3) := by decide +kernel
theorem dX7_isRun_52 : decode cX7_isRun 52 = .ok (.iconst 1, 1) := by decide +kernel
theorem dX7_isRun_53 : decode cX7_isRun 53 = .ok (.goto 4, 3) := by decide +kernel
theorem dX7_isRun_56 : decode cX7_isRun 56 = .ok (.iconst 0, 1) := by decide +kernel
theorem dX7_isRun_57 : decode cX7_isRun 57 = .ok (.ireturn, 1) := by decide +kernel
theorem dX7_readsSet_0 : decode cX7_readsSet 0 = .ok (.aload_n 0, 1) := by decide +kernel
theorem dX7_readsSet_1 : decode cX7_readsSet 1 = .ok (.invokevirtual 244, 3) := by decide +kernel
theorem dX7_readsSet_4 : decode cX7_readsSet 4 = .ok (.istore_n 1, 1) := by decide +kernel
theorem dX7_readsSet_5 : decode cX7_readsSet 5 = .ok (.iload_n 1, 1) := by decide +kernel
theorem dX7_readsSet_6 : decode cX7_readsSet 6 = .ok (.bipush 46, 2) := by decide +kernel
theorem dX7_readsSet_8 : decode cX7_readsSet 8 = .ok (.if_icmp .eq 25, 3) := by decide +kernel
theorem dX7_readsSet_11 : decode cX7_readsSet 11 = .ok (.iload_n 1, 1) := by decide +kernel
theorem dX7_readsSet_12 : decode cX7_readsSet 12 = .ok (.bipush 40, 2) := by decide +kernel
theorem dX7_readsSet_14 : decode cX7_readsSet 14 = .ok (.if_icmp .eq 19, 3) := by decide +kernel
theorem dX7_readsSet_17 : decode cX7_readsSet 17 = .ok (.iload_n 1, 1) := by decide +kernel
theorem dX7_readsSet_18 : decode cX7_readsSet 18 = .ok (.i2l, 1) := by decide +kernel
theorem dX7_readsSet_19 : decode cX7_readsSet 19 = .ok (.ldc2_w 251, 3) := by decide +kernel
theorem dX7_readsSet_22 : decode cX7_readsSet 22 = .ok (.ldc2_w 253, 3) := by decide +kernel
theorem dX7_readsSet_25 : decode cX7_readsSet 25 = .ok (.invokestatic 59, 3) := by decide +kernel
theorem dX7_readsSet_28 : decode cX7_readsSet 28 = .ok (.ifCond .ne 5, 3) := by decide +kernel
theorem dX7_readsSet_31 : decode cX7_readsSet 31 = .ok (.iconst (-1), 1) := by decide +kernel
theorem dX7_readsSet_32 : decode cX7_readsSet 32 = .ok (.ireturn, 1) := by decide +kernel
theorem dX7_readsSet_33 : decode cX7_readsSet 33 = .ok (.aload_n 0, 1) := by decide +kernel
theorem dX7_readsSet_34 : decode cX7_readsSet 34 = .ok (.dup, 1) := by decide +kernel
theorem dX7_readsSet_35 : decode cX7_readsSet 35 = .ok (.getfield 241, 3) := by decide +kernel
theorem dX7_readsSet_38 : decode cX7_readsSet 38 = .ok (.iconst 1, 1) := by decide +kernel
theorem dX7_readsSet_39 : decode cX7_readsSet 39 = .ok (.iadd, 1) := by decide +kernel
theorem dX7_readsSet_40 : decode cX7_readsSet 40 = .ok (.putfield 241, 3) := by decide +kernel
theorem dX7_readsSet_43 : decode cX7_readsSet 43 = .ok (.iload_n 1, 1) := by decide +kernel
theorem dX7_readsSet_44 : decode cX7_readsSet 44 = .ok (.bipush 40, 2) := by decide +kernel
theorem dX7_readsSet_46 : decode cX7_readsSet 46 = .ok (.if_icmp .eq 20, 3) := by decide +kernel
theorem dX7_readsSet_49 : decode cX7_readsSet 49 = .ok (.iload_n 1, 1) := by decide +kernel
theorem dX7_readsSet_50 : decode cX7_readsSet 50 = .ok (.bipush 46, 2) := by decide +kernel
theorem dX7_readsSet_52 : decode cX7_readsSet 52 = .ok (.if_icmp .ne 7, 3) := by decide +kernel
theorem dX7_readsSet_55 : decode cX7_readsSet 55 = .ok (.iconst 0, 1) := by decide +kernel
theorem dX7_readsSet_56 : decode cX7_readsSet 56 = .ok (.goto 9, 3) := by decide +kernel
theorem dX7_readsSet_59 : decode cX7_readsSet 59 = .ok (.iconst 1, 1) := by decide +kernel
theorem dX7_readsSet_60 : decode cX7_readsSet 60 = .ok (.iload_n 1, 1) := by decide +kernel
theorem dX7_readsSet_61 : decode cX7_readsSet 61 = .ok (.bipush 97, 2) := by decide +kernel
theorem dX7_readsSet_63 : decode cX7_readsSet 63 = .ok (.isub, 1) := by decide +kernel
theorem dX7_readsSet_64 : decode cX7_readsSet 64 = .ok (.ishl, 1) := by decide +kernel
theorem dX7_readsSet_65 : decode cX7_readsSet 65 = .ok (.ireturn, 1) := by decide +kernel
theorem dX7_readsSet_66 : decode cX7_readsSet 66 = .ok (.iconst 0, 1) := by decide +kernel
theorem dX7_readsSet_67 : decode cX7_readsSet 67 = .ok (.istore_n 2, 1) := by decide +kernel
theorem dX7_readsSet_68 : decode cX7_readsSet 68 = .ok (.aload_n 0, 1) := by decide +kernel
theorem dX7_readsSet_69 : decode cX7_readsSet 69 = .ok (.invokevirtual 244, 3) := by decide +kernel
theorem dX7_readsSet_72 : decode cX7_readsSet 72 = .ok (.i2l, 1) := by decide +kernel
theorem dX7_readsSet_73 : decode cX7_readsSet 73 = .ok (.ldc2_w 251, 3) := by decide +kernel
theorem dX7_readsSet_76 : decode cX7_readsSet 76 = .ok (.ldc2_w 253, 3) := by decide +kernel
theorem dX7_readsSet_79 : decode cX7_readsSet 79 = .ok (.invokestatic 59, 3) := by decide +kernel
theorem dX7_readsSet_82 : decode cX7_readsSet 82 = .ok (.ifCond .eq 28, 3) := by decide +kernel
theorem dX7_readsSet_85 : decode cX7_readsSet 85 = .ok (.iload_n 2, 1) := by decide +kernel
theorem dX7_readsSet_86 : decode cX7_readsSet 86 = .ok (.iconst 1, 1) := by decide +kernel
theorem dX7_readsSet_87 : decode cX7_readsSet 87 = .ok (.aload_n 0, 1) := by decide +kernel
theorem dX7_readsSet_88 : decode cX7_readsSet 88 = .ok (.invokevirtual 244, 3) := by decide +kernel
theorem dX7_readsSet_91 : decode cX7_readsSet 91 = .ok (.bipush 97, 2) := by decide +kernel
theorem dX7_readsSet_93 : decode cX7_readsSet 93 = .ok (.isub, 1) := by decide +kernel
theorem dX7_readsSet_94 : decode cX7_readsSet 94 = .ok (.ishl, 1) := by decide +kernel
theorem dX7_readsSet_95 : decode cX7_readsSet 95 = .ok (.ior, 1) := by decide +kernel
theorem dX7_readsSet_96 : decode cX7_readsSet 96 = .ok (.istore_n 2, 1) := by decide +kernel
theorem dX7_readsSet_97 : decode cX7_readsSet 97 = .ok (.aload_n 0, 1) := by decide +kernel
theorem dX7_readsSet_98 : decode cX7_readsSet 98 = .ok (.dup, 1) := by decide +kernel
theorem dX7_readsSet_99 : decode cX7_readsSet 99 = .ok (.getfield 241, 3) := by decide +kernel
theorem dX7_readsSet_102 : decode cX7_readsSet 102 = .ok (.iconst 1, 1) := by decide +kernel
theorem dX7_readsSet_103 : decode cX7_readsSet 103 = .ok (.iadd, 1) := by decide +kernel
theorem dX7_readsSet_104 : decode cX7_readsSet 104 = .ok (.putfield 241, 3) := by decide +kernel
theorem dX7_readsSet_107 : decode cX7_readsSet 107 = .ok (.goto (-39), 3) := by decide +kernel
theorem dX7_readsSet_110 : decode cX7_readsSet 110 = .ok (.iload_n 2, 1) := by decide +kernel
theorem dX7_readsSet_111 : decode cX7_readsSet 111 = .ok (.ifCond .eq 12, 3) := by decide +kernel
theorem dX7_readsSet_114 : decode cX7_readsSet 114 = .ok (.aload_n 0, 1) := by decide +kernel
theorem dX7_readsSet_115 : decode cX7_readsSet 115 = .ok (.invokevirtual 244, 3) := by decide +kernel
theorem dX7_readsSet_118 : decode cX7_readsSet 118 = .ok (.bipush 41, 2) := by decide +kernel
theorem dX7_readsSet_120 : decode cX7_readsSet 120 = .ok (.if_icmp .eq 5, 3) := by decide +kernel
theorem dX7_readsSet_123 : decode cX7_readsSet 123 = .ok (.iconst (-1), 1) := by decide +kernel
theorem dX7_readsSet_124 : decode cX7_readsSet 124 = .ok (.ireturn, 1) := by decide +kernel
theorem dX7_readsSet_125 : decode cX7_readsSet 125 = .ok (.aload_n 0, 1) := by decide +kernel
theorem dX7_readsSet_126 : decode cX7_readsSet 126 = .ok (.dup, 1) := by decide +kernel
theorem dX7_readsSet_127 : decode cX7_readsSet 127 = .ok (.getfield 241, 3) := by decide +kernel
theorem dX7_readsSet_130 : decode cX7_readsSet 130 = .ok (.iconst 1, 1) := by decide +kernel
theorem dX7_readsSet_131 : decode cX7_readsSet 131 = .ok (.iadd, 1) := by decide +kernel
theorem dX7_readsSet_132 : decode cX7_readsSet 132 = .ok (.putfield 241, 3) := by decide +kernel
theorem dX7_readsSet_135 : decode cX7_readsSet 135 = .ok (.iload_n 2, 1) := by decide +kernel
theorem dX7_readsSet_136 : decode cX7_readsSet 136 = .ok (.ireturn, 1) := by decide +kernel
theorem dX7_readsRun_0 : decode cX7_readsRun 0 = .ok (.aload_n 0, 1) := by decide +kernel
theorem dX7_readsRun_1 : decode cX7_readsRun 1 = .ok (.invokevirtual 244, 3) := by decide +kernel
theorem dX7_readsRun_4 : decode cX7_readsRun 4 = .ok (.istore_n 2, 1) := by decide +kernel
theorem dX7_readsRun_5 : decode cX7_readsRun 5 = .ok (.iload_n 2, 1) := by decide +kernel
theorem dX7_readsRun_6 : decode cX7_readsRun 6 = .ok (.i2l, 1) := by decide +kernel
theorem dX7_readsRun_7 : decode cX7_readsRun 7 = .ok (.ldc2_w 247, 3) := by decide +kernel
theorem dX7_readsRun_10 : decode cX7_readsRun 10 = .ok (.ldc2_w 249, 3) := by decide +kernel
theorem dX7_readsRun_13 : decode cX7_readsRun 13 = .ok (.invokestatic 59, 3) := by decide +kernel
theorem dX7_readsRun_16 : decode cX7_readsRun 16 = .ok (.ifCond .eq 10, 3) := by decide +kernel
theorem dX7_readsRun_19 : decode cX7_readsRun 19 = .ok (.iload_n 2, 1) := by decide +kernel
theorem dX7_readsRun_20 : decode cX7_readsRun 20 = .ok (.bipush 48, 2) := by decide +kernel
theorem dX7_readsRun_22 : decode cX7_readsRun 22 = .ok (.isub, 1) := by decide +kernel
theorem dX7_readsRun_23 : decode cX7_readsRun 23 = .ok (.goto 4, 3) := by decide +kernel
theorem dX7_readsRun_26 : decode cX7_readsRun 26 = .ok (.iconst 1, 1) := by decide +kernel
theorem dX7_readsRun_27 : decode cX7_readsRun 27 = .ok (.istore_n 3, 1) := by decide +kernel
theorem dX7_readsRun_28 : decode cX7_readsRun 28 = .ok (.iload_n 3, 1) := by decide +kernel
theorem dX7_readsRun_29 : decode cX7_readsRun 29 = .ok (.iload_n 1, 1) := by decide +kernel
theorem dX7_readsRun_30 : decode cX7_readsRun 30 = .ok (.if_icmp .le 5, 3) := by decide +kernel
theorem dX7_readsRun_33 : decode cX7_readsRun 33 = .ok (.iconst 0, 1) := by decide +kernel
theorem dX7_readsRun_34 : decode cX7_readsRun 34 = .ok (.ireturn, 1) := by decide +kernel
theorem dX7_readsRun_35 : decode cX7_readsRun 35 = .ok (.aload_n 0, 1) := by decide +kernel
theorem dX7_readsRun_36 : decode cX7_readsRun 36 = .ok (.dup, 1) := by decide +kernel
theorem dX7_readsRun_37 : decode cX7_readsRun 37 = .ok (.getfield 241, 3) := by decide +kernel
theorem dX7_readsRun_40 : decode cX7_readsRun 40 = .ok (.iload_n 2, 1) := by decide +kernel
theorem dX7_readsRun_41 : decode cX7_readsRun 41 = .ok (.i2l, 1) := by decide +kernel
theorem dX7_readsRun_42 : decode cX7_readsRun 42 = .ok (.ldc2_w 247, 3) := by decide +kernel
theorem dX7_readsRun_45 : decode cX7_readsRun 45 = .ok (.ldc2_w 249, 3) := by decide +kernel
theorem dX7_readsRun_48 : decode cX7_readsRun 48 = .ok (.invokestatic 59, 3) := by decide +kernel
theorem dX7_readsRun_51 : decode cX7_readsRun 51 = .ok (.ifCond .eq 7, 3) := by decide +kernel
theorem dX7_readsRun_54 : decode cX7_readsRun 54 = .ok (.iconst 1, 1) := by decide +kernel
theorem dX7_readsRun_55 : decode cX7_readsRun 55 = .ok (.goto 4, 3) := by decide +kernel
theorem dX7_readsRun_58 : decode cX7_readsRun 58 = .ok (.iconst 0, 1) := by decide +kernel
theorem dX7_readsRun_59 : decode cX7_readsRun 59 = .ok (.iadd, 1) := by decide +kernel
theorem dX7_readsRun_60 : decode cX7_readsRun 60 = .ok (.putfield 241, 3) := by decide +kernel
theorem dX7_readsRun_63 : decode cX7_readsRun 63 = .ok (.aload_n 0, 1) := by decide +kernel
theorem dX7_readsRun_64 : decode cX7_readsRun 64 = .ok (.invokevirtual 255, 3) := by decide +kernel
theorem dX7_readsRun_67 : decode cX7_readsRun 67 = .ok (.istore 4, 2) := by decide +kernel
theorem dX7_readsRun_69 : decode cX7_readsRun 69 = .ok (.iconst 0, 1) := by decide +kernel
theorem dX7_readsRun_70 : decode cX7_readsRun 70 = .ok (.istore 5, 2) := by decide +kernel
theorem dX7_readsRun_72 : decode cX7_readsRun 72 = .ok (.iload 5, 2) := by decide +kernel
theorem dX7_readsRun_74 : decode cX7_readsRun 74 = .ok (.iload_n 3, 1) := by decide +kernel
theorem dX7_readsRun_75 : decode cX7_readsRun 75 = .ok (.if_icmp .ge 43, 3) := by decide +kernel
theorem dX7_readsRun_78 : decode cX7_readsRun 78 = .ok (.iload 4, 2) := by decide +kernel
theorem dX7_readsRun_80 : decode cX7_readsRun 80 = .ok (.ifCond .lt 38, 3) := by decide +kernel
theorem dX7_readsRun_83 : decode cX7_readsRun 83 = .ok (.aload_n 0, 1) := by decide +kernel
theorem dX7_readsRun_84 : decode cX7_readsRun 84 = .ok (.getfield 31, 3) := by decide +kernel
theorem dX7_readsRun_87 : decode cX7_readsRun 87 = .ok (.bipush 8, 2) := by decide +kernel
theorem dX7_readsRun_89 : decode cX7_readsRun 89 = .ok (.aload_n 0, 1) := by decide +kernel
theorem dX7_readsRun_90 : decode cX7_readsRun 90 = .ok (.getfield 258, 3) := by decide +kernel
theorem dX7_readsRun_93 : decode cX7_readsRun 93 = .ok (.imul, 1) := by decide +kernel
theorem dX7_readsRun_94 : decode cX7_readsRun 94 = .ok (.aload_n 0, 1) := by decide +kernel
theorem dX7_readsRun_95 : decode cX7_readsRun 95 = .ok (.getfield 261, 3) := by decide +kernel
theorem dX7_readsRun_98 : decode cX7_readsRun 98 = .ok (.iadd, 1) := by decide +kernel
theorem dX7_readsRun_99 : decode cX7_readsRun 99 = .ok (.iload 4, 2) := by decide +kernel
theorem dX7_readsRun_101 : decode cX7_readsRun 101 = .ok (.iastore, 1) := by decide +kernel
theorem dX7_readsRun_102 : decode cX7_readsRun 102 = .ok (.aload_n 0, 1) := by decide +kernel
theorem dX7_readsRun_103 : decode cX7_readsRun 103 = .ok (.dup, 1) := by decide +kernel
theorem dX7_readsRun_104 : decode cX7_readsRun 104 = .ok (.getfield 261, 3) := by decide +kernel
theorem dX7_readsRun_107 : decode cX7_readsRun 107 = .ok (.iconst 1, 1) := by decide +kernel
theorem dX7_readsRun_108 : decode cX7_readsRun 108 = .ok (.iadd, 1) := by decide +kernel
theorem dX7_readsRun_109 : decode cX7_readsRun 109 = .ok (.putfield 261, 3) := by decide +kernel
theorem dX7_readsRun_112 : decode cX7_readsRun 112 = .ok (.iinc 5 1, 3) := by decide +kernel
theorem dX7_readsRun_115 : decode cX7_readsRun 115 = .ok (.goto (-43), 3) := by decide +kernel
theorem dX7_readsRun_118 : decode cX7_readsRun 118 = .ok (.iload 4, 2) := by decide +kernel
theorem dX7_readsRun_120 : decode cX7_readsRun 120 = .ok (.ifCond .lt 7, 3) := by decide +kernel
theorem dX7_readsRun_123 : decode cX7_readsRun 123 = .ok (.iconst 1, 1) := by decide +kernel
theorem dX7_readsRun_124 : decode cX7_readsRun 124 = .ok (.goto 4, 3) := by decide +kernel
theorem dX7_readsRun_127 : decode cX7_readsRun 127 = .ok (.iconst 0, 1) := by decide +kernel
theorem dX7_readsRun_128 : decode cX7_readsRun 128 = .ok (.ireturn, 1) := by decide +kernel
theorem dX7_readsLine_0 : decode cX7_readsLine 0 = .ok (.aload_n 0, 1) := by decide +kernel
theorem dX7_readsLine_1 : decode cX7_readsLine 1 = .ok (.getfield 258, 3) := by decide +kernel
theorem dX7_readsLine_4 : decode cX7_readsLine 4 = .ok (.ifCond .ne 8, 3) := by decide +kernel
theorem dX7_readsLine_7 : decode cX7_readsLine 7 = .ok (.bipush 8, 2) := by decide +kernel
theorem dX7_readsLine_9 : decode cX7_readsLine 9 = .ok (.goto 7, 3) := by decide +kernel
theorem dX7_readsLine_12 : decode cX7_readsLine 12 = .ok (.aload_n 0, 1) := by decide +kernel
theorem dX7_readsLine_13 : decode cX7_readsLine 13 = .ok (.getfield 264, 3) := by decide +kernel
theorem dX7_readsLine_16 : decode cX7_readsLine 16 = .ok (.istore_n 1, 1) := by decide +kernel
theorem dX7_readsLine_17 : decode cX7_readsLine 17 = .ok (.iconst 1, 1) := by decide +kernel
theorem dX7_readsLine_18 : decode cX7_readsLine 18 = .ok (.istore_n 2, 1) := by decide +kernel
theorem dX7_readsLine_19 : decode cX7_readsLine 19 = .ok (.aload_n 0, 1) := by decide +kernel
theorem dX7_readsLine_20 : decode cX7_readsLine 20 = .ok (.iconst 0, 1) := by decide +kernel
theorem dX7_readsLine_21 : decode cX7_readsLine 21 = .ok (.putfield 261, 3) := by decide +kernel
theorem dX7_readsLine_24 : decode cX7_readsLine 24 = .ok (.iload_n 2, 1) := by decide +kernel
theorem dX7_readsLine_25 : decode cX7_readsLine 25 = .ok (.ifCond .eq 24, 3) := by decide +kernel
theorem dX7_readsLine_28 : decode cX7_readsLine 28 = .ok (.aload_n 0, 1) := by decide +kernel
theorem dX7_readsLine_29 : decode cX7_readsLine 29 = .ok (.invokevirtual 267, 3) := by decide +kernel
theorem dX7_readsLine_32 : decode cX7_readsLine 32 = .ok (.ifCond .eq 17, 3) := by decide +kernel
theorem dX7_readsLine_35 : decode cX7_readsLine 35 = .ok (.aload_n 0, 1) := by decide +kernel
theorem dX7_readsLine_36 : decode cX7_readsLine 36 = .ok (.iload_n 1, 1) := by decide +kernel
theorem dX7_readsLine_37 : decode cX7_readsLine 37 = .ok (.aload_n 0, 1) := by decide +kernel
theorem dX7_readsLine_38 : decode cX7_readsLine 38 = .ok (.getfield 261, 3) := by decide +kernel
theorem dX7_readsLine_41 : decode cX7_readsLine 41 = .ok (.isub, 1) := by decide +kernel
theorem dX7_readsLine_42 : decode cX7_readsLine 42 = .ok (.invokevirtual 271, 3) := by decide +kernel
theorem dX7_readsLine_45 : decode cX7_readsLine 45 = .ok (.istore_n 2, 1) := by decide +kernel
theorem dX7_readsLine_46 : decode cX7_readsLine 46 = .ok (.goto (-22), 3) := by decide +kernel
theorem dX7_readsLine_49 : decode cX7_readsLine 49 = .ok (.iload_n 2, 1) := by decide +kernel
theorem dX7_readsLine_50 : decode cX7_readsLine 50 = .ok (.ifCond .eq 32, 3) := by decide +kernel
theorem dX7_readsLine_53 : decode cX7_readsLine 53 = .ok (.aload_n 0, 1) := by decide +kernel
theorem dX7_readsLine_54 : decode cX7_readsLine 54 = .ok (.getfield 261, 3) := by decide +kernel
theorem dX7_readsLine_57 : decode cX7_readsLine 57 = .ok (.ifCond .le 25, 3) := by decide +kernel
theorem dX7_readsLine_60 : decode cX7_readsLine 60 = .ok (.aload_n 0, 1) := by decide +kernel
theorem dX7_readsLine_61 : decode cX7_readsLine 61 = .ok (.getfield 258, 3) := by decide +kernel
theorem dX7_readsLine_64 : decode cX7_readsLine 64 = .ok (.ifCond .eq 14, 3) := by decide +kernel
theorem dX7_readsLine_67 : decode cX7_readsLine 67 = .ok (.aload_n 0, 1) := by decide +kernel
theorem dX7_readsLine_68 : decode cX7_readsLine 68 = .ok (.getfield 261, 3) := by decide +kernel
theorem dX7_readsLine_71 : decode cX7_readsLine 71 = .ok (.aload_n 0, 1) := by decide +kernel
theorem dX7_readsLine_72 : decode cX7_readsLine 72 = .ok (.getfield 264, 3) := by decide +kernel
theorem dX7_readsLine_75 : decode cX7_readsLine 75 = .ok (.if_icmp .ne 7, 3) := by decide +kernel
theorem dX7_readsLine_78 : decode cX7_readsLine 78 = .ok (.iconst 1, 1) := by decide +kernel
theorem dX7_readsLine_79 : decode cX7_readsLine 79 = .ok (.goto 4, 3) := by decide +kernel
theorem dX7_readsLine_82 : decode cX7_readsLine 82 = .ok (.iconst 0, 1) := by decide +kernel
theorem dX7_readsLine_83 : decode cX7_readsLine 83 = .ok (.istore_n 2, 1) := by decide +kernel
theorem dX7_readsLine_84 : decode cX7_readsLine 84 = .ok (.aload_n 0, 1) := by decide +kernel
theorem dX7_readsLine_85 : decode cX7_readsLine 85 = .ok (.aload_n 0, 1) := by decide +kernel
theorem dX7_readsLine_86 : decode cX7_readsLine 86 = .ok (.getfield 261, 3) := by decide +kernel
theorem dX7_readsLine_89 : decode cX7_readsLine 89 = .ok (.putfield 264, 3) := by decide +kernel
theorem dX7_readsLine_92 : decode cX7_readsLine 92 = .ok (.aload_n 0, 1) := by decide +kernel
theorem dX7_readsLine_93 : decode cX7_readsLine 93 = .ok (.dup, 1) := by decide +kernel
theorem dX7_readsLine_94 : decode cX7_readsLine 94 = .ok (.getfield 258, 3) := by decide +kernel
theorem dX7_readsLine_97 : decode cX7_readsLine 97 = .ok (.iconst 1, 1) := by decide +kernel
theorem dX7_readsLine_98 : decode cX7_readsLine 98 = .ok (.iadd, 1) := by decide +kernel
theorem dX7_readsLine_99 : decode cX7_readsLine 99 = .ok (.putfield 258, 3) := by decide +kernel
theorem dX7_readsLine_102 : decode cX7_readsLine 102 = .ok (.iload_n 2, 1) := by decide +kernel
theorem dX7_readsLine_103 : decode cX7_readsLine 103 = .ok (.ireturn, 1) := by decide +kernel
theorem dX7_isText_0 : decode cX7_isText 0 = .ok (.aload_n 0, 1) := by decide +kernel
theorem dX7_isText_1 : decode cX7_isText 1 = .ok (.iconst 0, 1) := by decide +kernel
theorem dX7_isText_2 : decode cX7_isText 2 = .ok (.putfield 241, 3) := by decide +kernel
theorem dX7_isText_5 : decode cX7_isText 5 = .ok (.aload_n 0, 1) := by decide +kernel
theorem dX7_isText_6 : decode cX7_isText 6 = .ok (.iconst 0, 1) := by decide +kernel
theorem dX7_isText_7 : decode cX7_isText 7 = .ok (.putfield 258, 3) := by decide +kernel
theorem dX7_isText_10 : decode cX7_isText 10 = .ok (.aload_n 0, 1) := by decide +kernel
theorem dX7_isText_11 : decode cX7_isText 11 = .ok (.invokevirtual 274, 3) := by decide +kernel
theorem dX7_isText_14 : decode cX7_isText 14 = .ok (.istore_n 1, 1) := by decide +kernel
theorem dX7_isText_15 : decode cX7_isText 15 = .ok (.iload_n 1, 1) := by decide +kernel
theorem dX7_isText_16 : decode cX7_isText 16 = .ok (.ifCond .eq 39, 3) := by decide +kernel
theorem dX7_isText_19 : decode cX7_isText 19 = .ok (.aload_n 0, 1) := by decide +kernel
theorem dX7_isText_20 : decode cX7_isText 20 = .ok (.getfield 258, 3) := by decide +kernel
theorem dX7_isText_23 : decode cX7_isText 23 = .ok (.bipush 6, 2) := by decide +kernel
theorem dX7_isText_25 : decode cX7_isText 25 = .ok (.if_icmp .ge 30, 3) := by decide +kernel
theorem dX7_isText_28 : decode cX7_isText 28 = .ok (.aload_n 0, 1) := by decide +kernel
theorem dX7_isText_29 : decode cX7_isText 29 = .ok (.invokevirtual 244, 3) := by decide +kernel
theorem dX7_isText_32 : decode cX7_isText 32 = .ok (.bipush 47, 2) := by decide +kernel
theorem dX7_isText_34 : decode cX7_isText 34 = .ok (.if_icmp .ne 21, 3) := by decide +kernel
theorem dX7_isText_37 : decode cX7_isText 37 = .ok (.aload_n 0, 1) := by decide +kernel
theorem dX7_isText_38 : decode cX7_isText 38 = .ok (.dup, 1) := by decide +kernel
theorem dX7_isText_39 : decode cX7_isText 39 = .ok (.getfield 241, 3) := by decide +kernel
theorem dX7_isText_42 : decode cX7_isText 42 = .ok (.iconst 1, 1) := by decide +kernel
theorem dX7_isText_43 : decode cX7_isText 43 = .ok (.iadd, 1) := by decide +kernel
theorem dX7_isText_44 : decode cX7_isText 44 = .ok (.putfield 241, 3) := by decide +kernel
theorem dX7_isText_47 : decode cX7_isText 47 = .ok (.aload_n 0, 1) := by decide +kernel
theorem dX7_isText_48 : decode cX7_isText 48 = .ok (.invokevirtual 274, 3) := by decide +kernel
theorem dX7_isText_51 : decode cX7_isText 51 = .ok (.istore_n 1, 1) := by decide +kernel
theorem dX7_isText_52 : decode cX7_isText 52 = .ok (.goto (-37), 3) := by decide +kernel
theorem dX7_isText_55 : decode cX7_isText 55 = .ok (.iload_n 1, 1) := by decide +kernel
theorem dX7_isText_56 : decode cX7_isText 56 = .ok (.ifCond .eq 14, 3) := by decide +kernel
theorem dX7_isText_59 : decode cX7_isText 59 = .ok (.aload_n 0, 1) := by decide +kernel
theorem dX7_isText_60 : decode cX7_isText 60 = .ok (.invokevirtual 244, 3) := by decide +kernel
theorem dX7_isText_63 : decode cX7_isText 63 = .ok (.ifCond .ne 7, 3) := by decide +kernel
theorem dX7_isText_66 : decode cX7_isText 66 = .ok (.iconst 1, 1) := by decide +kernel
theorem dX7_isText_67 : decode cX7_isText 67 = .ok (.goto 4, 3) := by decide +kernel
theorem dX7_isText_70 : decode cX7_isText 70 = .ok (.iconst 0, 1) := by decide +kernel
theorem dX7_isText_71 : decode cX7_isText 71 = .ok (.ireturn, 1) := by decide +kernel
theorem dX7_draw_0 : decode cX7_draw 0 = .ok (.aload_n 0, 1) := by decide +kernel
theorem dX7_draw_1 : decode cX7_draw 1 = .ok (.invokevirtual 277, 3) := by decide +kernel
theorem dX7_draw_4 : decode cX7_draw 4 = .ok (.istore_n 1, 1) := by decide +kernel
theorem dX7_draw_5 : decode cX7_draw 5 = .ok (.aload_n 0, 1) := by decide +kernel
theorem dX7_draw_6 : decode cX7_draw 6 = .ok (.invokevirtual 244, 3) := by decide +kernel
theorem dX7_draw_9 : decode cX7_draw 9 = .ok (.ifCond .ne 10, 3) := by decide +kernel
theorem dX7_draw_12 : decode cX7_draw 12 = .ok (.aload_n 0, 1) := by decide +kernel
theorem dX7_draw_13 : decode cX7_draw 13 = .ok (.getfield 238, 3) := by decide +kernel
theorem dX7_draw_16 : decode cX7_draw 16 = .ok (.goto 7, 3) := by decide +kernel
theorem dX7_draw_19 : decode cX7_draw 19 = .ok (.aload_n 0, 1) := by decide +kernel
theorem dX7_draw_20 : decode cX7_draw 20 = .ok (.getfield 241, 3) := by decide +kernel
theorem dX7_draw_23 : decode cX7_draw 23 = .ok (.istore_n 2, 1) := by decide +kernel
theorem dX7_draw_24 : decode cX7_draw 24 = .ok (.aload_n 0, 1) := by decide +kernel
theorem dX7_draw_25 : decode cX7_draw 25 = .ok (.iconst 0, 1) := by decide +kernel
theorem dX7_draw_26 : decode cX7_draw 26 = .ok (.putfield 238, 3) := by decide +kernel
theorem dX7_draw_29 : decode cX7_draw 29 = .ok (.iload_n 1, 1) := by decide +kernel
theorem dX7_draw_30 : decode cX7_draw 30 = .ok (.ifCond .ne 8, 3) := by decide +kernel
theorem dX7_draw_33 : decode cX7_draw 33 = .ok (.bipush (-20), 2) := by decide +kernel
theorem dX7_draw_35 : decode cX7_draw 35 = .ok (.iload_n 2, 1) := by decide +kernel
theorem dX7_draw_36 : decode cX7_draw 36 = .ok (.isub, 1) := by decide +kernel
theorem dX7_draw_37 : decode cX7_draw 37 = .ok (.ireturn, 1) := by decide +kernel
theorem dX7_draw_38 : decode cX7_draw 38 = .ok (.aload_n 0, 1) := by decide +kernel
theorem dX7_draw_39 : decode cX7_draw 39 = .ok (.getfield 7, 3) := by decide +kernel
theorem dX7_draw_42 : decode cX7_draw 42 = .ok (.iconst 0, 1) := by decide +kernel
theorem dX7_draw_43 : decode cX7_draw 43 = .ok (.aload_n 0, 1) := by decide +kernel
theorem dX7_draw_44 : decode cX7_draw 44 = .ok (.getfield 264, 3) := by decide +kernel
theorem dX7_draw_47 : decode cX7_draw 47 = .ok (.iastore, 1) := by decide +kernel
theorem dX7_draw_48 : decode cX7_draw 48 = .ok (.aload_n 0, 1) := by decide +kernel
theorem dX7_draw_49 : decode cX7_draw 49 = .ok (.getfield 7, 3) := by decide +kernel
theorem dX7_draw_52 : decode cX7_draw 52 = .ok (.iconst 1, 1) := by decide +kernel
theorem dX7_draw_53 : decode cX7_draw 53 = .ok (.aload_n 0, 1) := by decide +kernel
theorem dX7_draw_54 : decode cX7_draw 54 = .ok (.getfield 258, 3) := by decide +kernel
theorem dX7_draw_57 : decode cX7_draw 57 = .ok (.iastore, 1) := by decide +kernel
theorem dX7_draw_58 : decode cX7_draw 58 = .ok (.aload_n 0, 1) := by decide +kernel
theorem dX7_draw_59 : decode cX7_draw 59 = .ok (.iconst 0, 1) := by decide +kernel
theorem dX7_draw_60 : decode cX7_draw 60 = .ok (.putfield 199, 3) := by decide +kernel
theorem dX7_draw_63 : decode cX7_draw 63 = .ok (.iconst 0, 1) := by decide +kernel
theorem dX7_draw_64 : decode cX7_draw 64 = .ok (.istore_n 3, 1) := by decide +kernel
theorem dX7_draw_65 : decode cX7_draw 65 = .ok (.iload_n 3, 1) := by decide +kernel
theorem dX7_draw_66 : decode cX7_draw 66 = .ok (.bipush 48, 2) := by decide +kernel
theorem dX7_draw_68 : decode cX7_draw 68 = .ok (.if_icmp .ge 36, 3) := by decide +kernel
theorem dX7_draw_71 : decode cX7_draw 71 = .ok (.aload_n 0, 1) := by decide +kernel
theorem dX7_draw_72 : decode cX7_draw 72 = .ok (.getfield 7, 3) := by decide +kernel
theorem dX7_draw_75 : decode cX7_draw 75 = .ok (.bipush 14, 2) := by decide +kernel
theorem dX7_draw_77 : decode cX7_draw 77 = .ok (.iload_n 3, 1) := by decide +kernel
theorem dX7_draw_78 : decode cX7_draw 78 = .ok (.iadd, 1) := by decide +kernel
theorem dX7_draw_79 : decode cX7_draw 79 = .ok (.aload_n 0, 1) := by decide +kernel
theorem dX7_draw_80 : decode cX7_draw 80 = .ok (.iload_n 3, 1) := by decide +kernel
theorem dX7_draw_81 : decode cX7_draw 81 = .ok (.invokevirtual 88, 3) := by decide +kernel
theorem dX7_draw_84 : decode cX7_draw 84 = .ok (.ifCond .eq 12, 3) := by decide +kernel
theorem dX7_draw_87 : decode cX7_draw 87 = .ok (.aload_n 0, 1) := by decide +kernel
theorem dX7_draw_88 : decode cX7_draw 88 = .ok (.getfield 31, 3) := by decide +kernel
theorem dX7_draw_91 : decode cX7_draw 91 = .ok (.iload_n 3, 1) := by decide +kernel
theorem dX7_draw_92 : decode cX7_draw 92 = .ok (.iaload, 1) := by decide +kernel
theorem dX7_draw_93 : decode cX7_draw 93 = .ok (.goto 4, 3) := by decide +kernel
theorem dX7_draw_96 : decode cX7_draw 96 = .ok (.iconst 0, 1) := by decide +kernel
theorem dX7_draw_97 : decode cX7_draw 97 = .ok (.iastore, 1) := by decide +kernel
theorem dX7_draw_98 : decode cX7_draw 98 = .ok (.iinc 3 1, 3) := by decide +kernel
theorem dX7_draw_101 : decode cX7_draw 101 = .ok (.goto (-36), 3) := by decide +kernel
theorem dX7_draw_104 : decode cX7_draw 104 = .ok (.aload_n 0, 1) := by decide +kernel
theorem dX7_draw_105 : decode cX7_draw 105 = .ok (.getfield 264, 3) := by decide +kernel
theorem dX7_draw_108 : decode cX7_draw 108 = .ok (.aload_n 0, 1) := by decide +kernel
theorem dX7_draw_109 : decode cX7_draw 109 = .ok (.getfield 258, 3) := by decide +kernel
theorem dX7_draw_112 : decode cX7_draw 112 = .ok (.imul, 1) := by decide +kernel
theorem dX7_draw_113 : decode cX7_draw 113 = .ok (.ireturn, 1) := by decide +kernel
theorem dX7_image_0 : decode cX7_image 0 = .ok (.iconst 0, 1) := by decide +kernel
theorem dX7_image_1 : decode cX7_image 1 = .ok (.istore_n 1, 1) := by decide +kernel
theorem dX7_image_2 : decode cX7_image 2 = .ok (.iload_n 1, 1) := by decide +kernel
theorem dX7_image_3 : decode cX7_image 3 = .ok (.bipush 62, 2) := by decide +kernel
theorem dX7_image_5 : decode cX7_image 5 = .ok (.if_icmp .ge 21, 3) := by decide +kernel
theorem dX7_image_8 : decode cX7_image 8 = .ok (.aload_n 0, 1) := by decide +kernel
theorem dX7_image_9 : decode cX7_image 9 = .ok (.getfield 34, 3) := by decide +kernel
theorem dX7_image_12 : decode cX7_image 12 = .ok (.iload_n 1, 1) := by decide +kernel
theorem dX7_image_13 : decode cX7_image 13 = .ok (.aload_n 0, 1) := by decide +kernel
theorem dX7_image_14 : decode cX7_image 14 = .ok (.getfield 7, 3) := by decide +kernel
theorem dX7_image_17 : decode cX7_image 17 = .ok (.iload_n 1, 1) := by decide +kernel
theorem dX7_image_18 : decode cX7_image 18 = .ok (.iaload, 1) := by decide +kernel
theorem dX7_image_19 : decode cX7_image 19 = .ok (.iastore, 1) := by decide +kernel
theorem dX7_image_20 : decode cX7_image 20 = .ok (.iinc 1 1, 3) := by decide +kernel
theorem dX7_image_23 : decode cX7_image 23 = .ok (.goto (-21), 3) := by decide +kernel
theorem dX7_image_26 : decode cX7_image 26 = .ok (.iconst 0, 1) := by decide +kernel
theorem dX7_image_27 : decode cX7_image 27 = .ok (.istore_n 1, 1) := by decide +kernel
theorem dX7_image_28 : decode cX7_image 28 = .ok (.iload_n 1, 1) := by decide +kernel
theorem dX7_image_29 : decode cX7_image 29 = .ok (.sipush 372, 3) := by decide +kernel
theorem dX7_image_32 : decode cX7_image 32 = .ok (.if_icmp .ge 21, 3) := by decide +kernel
theorem dX7_image_35 : decode cX7_image 35 = .ok (.aload_n 0, 1) := by decide +kernel
theorem dX7_image_36 : decode cX7_image 36 = .ok (.getfield 37, 3) := by decide +kernel
theorem dX7_image_39 : decode cX7_image 39 = .ok (.iload_n 1, 1) := by decide +kernel
theorem dX7_image_40 : decode cX7_image 40 = .ok (.aload_n 0, 1) := by decide +kernel
theorem dX7_image_41 : decode cX7_image 41 = .ok (.getfield 22, 3) := by decide +kernel
theorem dX7_image_44 : decode cX7_image 44 = .ok (.iload_n 1, 1) := by decide +kernel
theorem dX7_image_45 : decode cX7_image 45 = .ok (.iaload, 1) := by decide +kernel
theorem dX7_image_46 : decode cX7_image 46 = .ok (.iastore, 1) := by decide +kernel
theorem dX7_image_47 : decode cX7_image 47 = .ok (.iinc 1 1, 3) := by decide +kernel
theorem dX7_image_50 : decode cX7_image 50 = .ok (.goto (-22), 3) := by decide +kernel
theorem dX7_image_53 : decode cX7_image 53 = .ok (.aload_n 0, 1) := by decide +kernel
theorem dX7_image_54 : decode cX7_image 54 = .ok (.aload_n 0, 1) := by decide +kernel
theorem dX7_image_55 : decode cX7_image 55 = .ok (.getfield 199, 3) := by decide +kernel
theorem dX7_image_58 : decode cX7_image 58 = .ok (.putfield 40, 3) := by decide +kernel
theorem dX7_image_61 : decode cX7_image 61 = .ok (.iconst 1, 1) := by decide +kernel
theorem dX7_image_62 : decode cX7_image 62 = .ok (.ireturn, 1) := by decide +kernel
theorem dX7_restore_0 : decode cX7_restore 0 = .ok (.aload_n 0, 1) := by decide +kernel
theorem dX7_restore_1 : decode cX7_restore 1 = .ok (.getfield 40, 3) := by decide +kernel
theorem dX7_restore_4 : decode cX7_restore 4 = .ok (.ifCond .ge 6, 3) := by decide +kernel
theorem dX7_restore_7 : decode cX7_restore 7 = .ok (.bipush (-4), 2) := by decide +kernel
theorem dX7_restore_9 : decode cX7_restore 9 = .ok (.ireturn, 1) := by decide +kernel
theorem dX7_restore_10 : decode cX7_restore 10 = .ok (.iconst 0, 1) := by decide +kernel
theorem dX7_restore_11 : decode cX7_restore 11 = .ok (.istore_n 1, 1) := by decide +kernel
theorem dX7_restore_12 : decode cX7_restore 12 = .ok (.iload_n 1, 1) := by decide +kernel
theorem dX7_restore_13 : decode cX7_restore 13 = .ok (.bipush 62, 2) := by decide +kernel
theorem dX7_restore_15 : decode cX7_restore 15 = .ok (.if_icmp .ge 21, 3) := by decide +kernel
theorem dX7_restore_18 : decode cX7_restore 18 = .ok (.aload_n 0, 1) := by decide +kernel
theorem dX7_restore_19 : decode cX7_restore 19 = .ok (.getfield 7, 3) := by decide +kernel
theorem dX7_restore_22 : decode cX7_restore 22 = .ok (.iload_n 1, 1) := by decide +kernel
theorem dX7_restore_23 : decode cX7_restore 23 = .ok (.aload_n 0, 1) := by decide +kernel
theorem dX7_restore_24 : decode cX7_restore 24 = .ok (.getfield 34, 3) := by decide +kernel
theorem dX7_restore_27 : decode cX7_restore 27 = .ok (.iload_n 1, 1) := by decide +kernel
theorem dX7_restore_28 : decode cX7_restore 28 = .ok (.iaload, 1) := by decide +kernel
theorem dX7_restore_29 : decode cX7_restore 29 = .ok (.iastore, 1) := by decide +kernel
theorem dX7_restore_30 : decode cX7_restore 30 = .ok (.iinc 1 1, 3) := by decide +kernel
theorem dX7_restore_33 : decode cX7_restore 33 = .ok (.goto (-21), 3) := by decide +kernel
theorem dX7_restore_36 : decode cX7_restore 36 = .ok (.iconst 0, 1) := by decide +kernel
theorem dX7_restore_37 : decode cX7_restore 37 = .ok (.istore_n 1, 1) := by decide +kernel
theorem dX7_restore_38 : decode cX7_restore 38 = .ok (.iload_n 1, 1) := by decide +kernel
theorem dX7_restore_39 : decode cX7_restore 39 = .ok (.sipush 372, 3) := by decide +kernel
theorem dX7_restore_42 : decode cX7_restore 42 = .ok (.if_icmp .ge 21, 3) := by decide +kernel
theorem dX7_restore_45 : decode cX7_restore 45 = .ok (.aload_n 0, 1) := by decide +kernel
theorem dX7_restore_46 : decode cX7_restore 46 = .ok (.getfield 22, 3) := by decide +kernel
theorem dX7_restore_49 : decode cX7_restore 49 = .ok (.iload_n 1, 1) := by decide +kernel
theorem dX7_restore_50 : decode cX7_restore 50 = .ok (.aload_n 0, 1) := by decide +kernel
theorem dX7_restore_51 : decode cX7_restore 51 = .ok (.getfield 37, 3) := by decide +kernel
theorem dX7_restore_54 : decode cX7_restore 54 = .ok (.iload_n 1, 1) := by decide +kernel
theorem dX7_restore_55 : decode cX7_restore 55 = .ok (.iaload, 1) := by decide +kernel
theorem dX7_restore_56 : decode cX7_restore 56 = .ok (.iastore, 1) := by decide +kernel
theorem dX7_restore_57 : decode cX7_restore 57 = .ok (.iinc 1 1, 3) := by decide +kernel
theorem dX7_restore_60 : decode cX7_restore 60 = .ok (.goto (-22), 3) := by decide +kernel
theorem dX7_restore_63 : decode cX7_restore 63 = .ok (.aload_n 0, 1) := by decide +kernel
theorem dX7_restore_64 : decode cX7_restore 64 = .ok (.aload_n 0, 1) := by decide +kernel
theorem dX7_restore_65 : decode cX7_restore 65 = .ok (.getfield 40, 3) := by decide +kernel
theorem dX7_restore_68 : decode cX7_restore 68 = .ok (.putfield 199, 3) := by decide +kernel
theorem dX7_restore_71 : decode cX7_restore 71 = .ok (.iconst 1, 1) := by decide +kernel
theorem dX7_restore_72 : decode cX7_restore 72 = .ok (.ireturn, 1) := by decide +kernel
theorem dX7_isSheet_0 : decode cX7_isSheet 0 = .ok (.iload_n 0, 1) := by decide +kernel
theorem dX7_isSheet_1 : decode cX7_isSheet 1 = .ok (.i2l, 1) := by decide +kernel
theorem dX7_isSheet_2 : decode cX7_isSheet 2 = .ok (.lconst 0, 1) := by decide +kernel
theorem dX7_isSheet_3 : decode cX7_isSheet 3 = .ok (.ldc2_w 210, 3) := by decide +kernel
theorem dX7_isSheet_6 : decode cX7_isSheet 6 = .ok (.invokestatic 59, 3) := by decide +kernel
theorem dX7_isSheet_9 : decode cX7_isSheet 9 = .ok (.ireturn, 1) := by decide +kernel
theorem dX7_cut_0 : decode cX7_cut 0 = .ok (.iload_n 2, 1) := by decide +kernel
theorem dX7_cut_1 : decode cX7_cut 1 = .ok (.ifCond .ne 10, 3) := by decide +kernel
theorem dX7_cut_4 : decode cX7_cut 4 = .ok (.lload_n 0, 1) := by decide +kernel
theorem dX7_cut_5 : decode cX7_cut 5 = .ok (.l2i, 1) := by decide +kernel
theorem dX7_cut_6 : decode cX7_cut 6 = .ok (.i2b, 1) := by decide +kernel
theorem dX7_cut_7 : decode cX7_cut 7 = .ok (.i2l, 1) := by decide +kernel
theorem dX7_cut_8 : decode cX7_cut 8 = .ok (.goto 27, 3) := by decide +kernel
theorem dX7_cut_11 : decode cX7_cut 11 = .ok (.iload_n 2, 1) := by decide +kernel
theorem dX7_cut_12 : decode cX7_cut 12 = .ok (.iconst 1, 1) := by decide +kernel
theorem dX7_cut_13 : decode cX7_cut 13 = .ok (.if_icmp .ne 10, 3) := by decide +kernel
theorem dX7_cut_16 : decode cX7_cut 16 = .ok (.lload_n 0, 1) := by decide +kernel
theorem dX7_cut_17 : decode cX7_cut 17 = .ok (.l2i, 1) := by decide +kernel
theorem dX7_cut_18 : decode cX7_cut 18 = .ok (.i2s, 1) := by decide +kernel
theorem dX7_cut_19 : decode cX7_cut 19 = .ok (.i2l, 1) := by decide +kernel
theorem dX7_cut_20 : decode cX7_cut 20 = .ok (.goto 15, 3) := by decide +kernel
theorem dX7_cut_23 : decode cX7_cut 23 = .ok (.iload_n 2, 1) := by decide +kernel
theorem dX7_cut_24 : decode cX7_cut 24 = .ok (.iconst 2, 1) := by decide +kernel
theorem dX7_cut_25 : decode cX7_cut 25 = .ok (.if_icmp .ne 9, 3) := by decide +kernel
theorem dX7_cut_28 : decode cX7_cut 28 = .ok (.lload_n 0, 1) := by decide +kernel
theorem dX7_cut_29 : decode cX7_cut 29 = .ok (.l2i, 1) := by decide +kernel
theorem dX7_cut_30 : decode cX7_cut 30 = .ok (.i2l, 1) := by decide +kernel
theorem dX7_cut_31 : decode cX7_cut 31 = .ok (.goto 4, 3) := by decide +kernel
theorem dX7_cut_34 : decode cX7_cut 34 = .ok (.lload_n 0, 1) := by decide +kernel
theorem dX7_cut_35 : decode cX7_cut 35 = .ok (.lreturn, 1) := by decide +kernel
theorem dX7_sheet_0 : decode cX7_sheet 0 = .ok (.iload_n 1, 1) := by decide +kernel
theorem dX7_sheet_1 : decode cX7_sheet 1 = .ok (.invokestatic 280, 3) := by decide +kernel
theorem dX7_sheet_4 : decode cX7_sheet 4 = .ok (.ifCond .eq 21, 3) := by decide +kernel
theorem dX7_sheet_7 : decode cX7_sheet 7 = .ok (.iload_n 2, 1) := by decide +kernel
theorem dX7_sheet_8 : decode cX7_sheet 8 = .ok (.i2l, 1) := by decide +kernel
theorem dX7_sheet_9 : decode cX7_sheet 9 = .ok (.lconst 0, 1) := by decide +kernel
theorem dX7_sheet_10 : decode cX7_sheet 10 = .ok (.ldc2_w 210, 3) := by decide +kernel
theorem dX7_sheet_13 : decode cX7_sheet 13 = .ok (.invokestatic 59, 3) := by decide +kernel
theorem dX7_sheet_16 : decode cX7_sheet 16 = .ok (.ifCond .eq 9, 3) := by decide +kernel
theorem dX7_sheet_19 : decode cX7_sheet 19 = .ok (.iload_n 3, 1) := by decide +kernel
theorem dX7_sheet_20 : decode cX7_sheet 20 = .ok (.bipush 24, 2) := by decide +kernel
theorem dX7_sheet_22 : decode cX7_sheet 22 = .ok (.if_icmp .le 5, 3) := by decide +kernel
theorem dX7_sheet_25 : decode cX7_sheet 25 = .ok (.iconst (-1), 1) := by decide +kernel
theorem dX7_sheet_26 : decode cX7_sheet 26 = .ok (.ireturn, 1) := by decide +kernel
theorem dX7_sheet_27 : decode cX7_sheet 27 = .ok (.iload_n 3, 1) := by decide +kernel
theorem dX7_sheet_28 : decode cX7_sheet 28 = .ok (.ifCond .ge 6, 3) := by decide +kernel
theorem dX7_sheet_31 : decode cX7_sheet 31 = .ok (.bipush (-14), 2) := by decide +kernel
theorem dX7_sheet_33 : decode cX7_sheet 33 = .ok (.ireturn, 1) := by decide +kernel
theorem dX7_sheet_34 : decode cX7_sheet 34 = .ok (.aload_n 0, 1) := by decide +kernel
theorem dX7_sheet_35 : decode cX7_sheet 35 = .ok (.getfield 44, 3) := by decide +kernel
theorem dX7_sheet_38 : decode cX7_sheet 38 = .ok (.iload_n 1, 1) := by decide +kernel
theorem dX7_sheet_39 : decode cX7_sheet 39 = .ok (.iload_n 2, 1) := by decide +kernel
theorem dX7_sheet_40 : decode cX7_sheet 40 = .ok (.iastore, 1) := by decide +kernel
theorem dX7_sheet_41 : decode cX7_sheet 41 = .ok (.aload_n 0, 1) := by decide +kernel
theorem dX7_sheet_42 : decode cX7_sheet 42 = .ok (.getfield 47, 3) := by decide +kernel
theorem dX7_sheet_45 : decode cX7_sheet 45 = .ok (.iload_n 1, 1) := by decide +kernel
theorem dX7_sheet_46 : decode cX7_sheet 46 = .ok (.iload_n 3, 1) := by decide +kernel
theorem dX7_sheet_47 : decode cX7_sheet 47 = .ok (.iastore, 1) := by decide +kernel
theorem dX7_sheet_48 : decode cX7_sheet 48 = .ok (.iconst 0, 1) := by decide +kernel
theorem dX7_sheet_49 : decode cX7_sheet 49 = .ok (.istore 4, 2) := by decide +kernel
theorem dX7_sheet_51 : decode cX7_sheet 51 = .ok (.iload 4, 2) := by decide +kernel
theorem dX7_sheet_53 : decode cX7_sheet 53 = .ok (.bipush 24, 2) := by decide +kernel
theorem dX7_sheet_55 : decode cX7_sheet 55 = .ok (.if_icmp .ge 22, 3) := by decide +kernel
theorem dX7_sheet_58 : decode cX7_sheet 58 = .ok (.aload_n 0, 1) := by decide +kernel
theorem dX7_sheet_59 : decode cX7_sheet 59 = .ok (.getfield 50, 3) := by decide +kernel
theorem dX7_sheet_62 : decode cX7_sheet 62 = .ok (.bipush 24, 2) := by decide +kernel
theorem dX7_sheet_64 : decode cX7_sheet 64 = .ok (.iload_n 1, 1) := by decide +kernel
theorem dX7_sheet_65 : decode cX7_sheet 65 = .ok (.imul, 1) := by decide +kernel
theorem dX7_sheet_66 : decode cX7_sheet 66 = .ok (.iload 4, 2) := by decide +kernel
theorem dX7_sheet_68 : decode cX7_sheet 68 = .ok (.iadd, 1) := by decide +kernel
theorem dX7_sheet_69 : decode cX7_sheet 69 = .ok (.lconst 0, 1) := by decide +kernel
theorem dX7_sheet_70 : decode cX7_sheet 70 = .ok (.lastore, 1) := by decide +kernel
theorem dX7_sheet_71 : decode cX7_sheet 71 = .ok (.iinc 4 1, 3) := by decide +kernel
theorem dX7_sheet_74 : decode cX7_sheet 74 = .ok (.goto (-23), 3) := by decide +kernel
theorem dX7_sheet_77 : decode cX7_sheet 77 = .ok (.iload_n 3, 1) := by decide +kernel
theorem dX7_sheet_78 : decode cX7_sheet 78 = .ok (.ireturn, 1) := by decide +kernel
theorem dX7_drop_0 : decode cX7_drop 0 = .ok (.iload_n 1, 1) := by decide +kernel
theorem dX7_drop_1 : decode cX7_drop 1 = .ok (.invokestatic 280, 3) := by decide +kernel
theorem dX7_drop_4 : decode cX7_drop 4 = .ok (.ifCond .ne 5, 3) := by decide +kernel
theorem dX7_drop_7 : decode cX7_drop 7 = .ok (.iconst (-1), 1) := by decide +kernel
theorem dX7_drop_8 : decode cX7_drop 8 = .ok (.ireturn, 1) := by decide +kernel
theorem dX7_drop_9 : decode cX7_drop 9 = .ok (.aload_n 0, 1) := by decide +kernel
theorem dX7_drop_10 : decode cX7_drop 10 = .ok (.getfield 44, 3) := by decide +kernel
theorem dX7_drop_13 : decode cX7_drop 13 = .ok (.iload_n 1, 1) := by decide +kernel
theorem dX7_drop_14 : decode cX7_drop 14 = .ok (.iaload, 1) := by decide +kernel
theorem dX7_drop_15 : decode cX7_drop 15 = .ok (.ifCond .ge 6, 3) := by decide +kernel
theorem dX7_drop_18 : decode cX7_drop 18 = .ok (.bipush (-11), 2) := by decide +kernel
theorem dX7_drop_20 : decode cX7_drop 20 = .ok (.ireturn, 1) := by decide +kernel
theorem dX7_drop_21 : decode cX7_drop 21 = .ok (.aload_n 0, 1) := by decide +kernel
theorem dX7_drop_22 : decode cX7_drop 22 = .ok (.getfield 44, 3) := by decide +kernel
theorem dX7_drop_25 : decode cX7_drop 25 = .ok (.iload_n 1, 1) := by decide +kernel
theorem dX7_drop_26 : decode cX7_drop 26 = .ok (.iconst (-1), 1) := by decide +kernel
theorem dX7_drop_27 : decode cX7_drop 27 = .ok (.iastore, 1) := by decide +kernel
theorem dX7_drop_28 : decode cX7_drop 28 = .ok (.aload_n 0, 1) := by decide +kernel
theorem dX7_drop_29 : decode cX7_drop 29 = .ok (.getfield 47, 3) := by decide +kernel
theorem dX7_drop_32 : decode cX7_drop 32 = .ok (.iload_n 1, 1) := by decide +kernel
theorem dX7_drop_33 : decode cX7_drop 33 = .ok (.iaload, 1) := by decide +kernel
theorem dX7_drop_34 : decode cX7_drop 34 = .ok (.ireturn, 1) := by decide +kernel
theorem dX7_why_0 : decode cX7_why 0 = .ok (.aload_n 0, 1) := by decide +kernel
theorem dX7_why_1 : decode cX7_why 1 = .ok (.getfield 44, 3) := by decide +kernel
theorem dX7_why_4 : decode cX7_why 4 = .ok (.iload_n 1, 1) := by decide +kernel
theorem dX7_why_5 : decode cX7_why 5 = .ok (.iaload, 1) := by decide +kernel
theorem dX7_why_6 : decode cX7_why 6 = .ok (.ifCond .ge 6, 3) := by decide +kernel
theorem dX7_why_9 : decode cX7_why 9 = .ok (.bipush (-11), 2) := by decide +kernel
theorem dX7_why_11 : decode cX7_why 11 = .ok (.ireturn, 1) := by decide +kernel
theorem dX7_why_12 : decode cX7_why 12 = .ok (.aload_n 0, 1) := by decide +kernel
theorem dX7_why_13 : decode cX7_why 13 = .ok (.getfield 44, 3) := by decide +kernel
theorem dX7_why_16 : decode cX7_why 16 = .ok (.iload_n 1, 1) := by decide +kernel
theorem dX7_why_17 : decode cX7_why 17 = .ok (.iaload, 1) := by decide +kernel
theorem dX7_why_18 : decode cX7_why 18 = .ok (.iload_n 2, 1) := by decide +kernel
theorem dX7_why_19 : decode cX7_why 19 = .ok (.if_icmp .eq 6, 3) := by decide +kernel
theorem dX7_why_22 : decode cX7_why 22 = .ok (.bipush (-12), 2) := by decide +kernel
theorem dX7_why_24 : decode cX7_why 24 = .ok (.ireturn, 1) := by decide +kernel
theorem dX7_why_25 : decode cX7_why 25 = .ok (.iload_n 3, 1) := by decide +kernel
theorem dX7_why_26 : decode cX7_why 26 = .ok (.ifCond .lt 16, 3) := by decide +kernel
theorem dX7_why_29 : decode cX7_why 29 = .ok (.iload 4, 2) := by decide +kernel
theorem dX7_why_31 : decode cX7_why 31 = .ok (.aload_n 0, 1) := by decide +kernel
theorem dX7_why_32 : decode cX7_why 32 = .ok (.getfield 47, 3) := by decide +kernel
theorem dX7_why_35 : decode cX7_why 35 = .ok (.iload_n 1, 1) := by decide +kernel
theorem dX7_why_36 : decode cX7_why 36 = .ok (.iaload, 1) := by decide +kernel
theorem dX7_why_37 : decode cX7_why 37 = .ok (.iload_n 3, 1) := by decide +kernel
theorem dX7_why_38 : decode cX7_why 38 = .ok (.isub, 1) := by decide +kernel
theorem dX7_why_39 : decode cX7_why 39 = .ok (.if_icmp .le 8, 3) := by decide +kernel
theorem dX7_why_42 : decode cX7_why 42 = .ok (.bipush (-13), 2) := by decide +kernel
theorem dX7_why_44 : decode cX7_why 44 = .ok (.goto 4, 3) := by decide +kernel
theorem dX7_why_47 : decode cX7_why 47 = .ok (.iconst 0, 1) := by decide +kernel
theorem dX7_why_48 : decode cX7_why 48 = .ok (.ireturn, 1) := by decide +kernel
theorem dX7_item_0 : decode cX7_item 0 = .ok (.iload_n 1, 1) := by decide +kernel
theorem dX7_item_1 : decode cX7_item 1 = .ok (.invokestatic 280, 3) := by decide +kernel
theorem dX7_item_4 : decode cX7_item 4 = .ok (.ifCond .eq 15, 3) := by decide +kernel
theorem dX7_item_7 : decode cX7_item 7 = .ok (.iload_n 2, 1) := by decide +kernel
theorem dX7_item_8 : decode cX7_item 8 = .ok (.i2l, 1) := by decide +kernel
theorem dX7_item_9 : decode cX7_item 9 = .ok (.lconst 0, 1) := by decide +kernel
theorem dX7_item_10 : decode cX7_item 10 = .ok (.ldc2_w 210, 3) := by decide +kernel
theorem dX7_item_13 : decode cX7_item 13 = .ok (.invokestatic 59, 3) := by decide +kernel
theorem dX7_item_16 : decode cX7_item 16 = .ok (.ifCond .ne 5, 3) := by decide +kernel
theorem dX7_item_19 : decode cX7_item 19 = .ok (.iconst (-1), 1) := by decide +kernel
theorem dX7_item_20 : decode cX7_item 20 = .ok (.ireturn, 1) := by decide +kernel
theorem dX7_item_21 : decode cX7_item 21 = .ok (.aload_n 0, 1) := by decide +kernel
theorem dX7_item_22 : decode cX7_item 22 = .ok (.iload_n 1, 1) := by decide +kernel
theorem dX7_item_23 : decode cX7_item 23 = .ok (.iload_n 2, 1) := by decide +kernel
theorem dX7_item_24 : decode cX7_item 24 = .ok (.iload_n 3, 1) := by decide +kernel
theorem dX7_item_25 : decode cX7_item 25 = .ok (.iconst 1, 1) := by decide +kernel
theorem dX7_item_26 : decode cX7_item 26 = .ok (.invokevirtual 283, 3) := by decide +kernel
theorem dX7_item_29 : decode cX7_item 29 = .ok (.istore 6, 2) := by decide +kernel
theorem dX7_item_31 : decode cX7_item 31 = .ok (.iload 6, 2) := by decide +kernel
theorem dX7_item_33 : decode cX7_item 33 = .ok (.ifCond .ge 6, 3) := by decide +kernel
theorem dX7_item_36 : decode cX7_item 36 = .ok (.iload 6, 2) := by decide +kernel
theorem dX7_item_38 : decode cX7_item 38 = .ok (.ireturn, 1) := by decide +kernel
theorem dX7_item_39 : decode cX7_item 39 = .ok (.aload_n 0, 1) := by decide +kernel
theorem dX7_item_40 : decode cX7_item 40 = .ok (.getfield 50, 3) := by decide +kernel
theorem dX7_item_43 : decode cX7_item 43 = .ok (.bipush 24, 2) := by decide +kernel
theorem dX7_item_45 : decode cX7_item 45 = .ok (.iload_n 1, 1) := by decide +kernel
theorem dX7_item_46 : decode cX7_item 46 = .ok (.imul, 1) := by decide +kernel
theorem dX7_item_47 : decode cX7_item 47 = .ok (.iload_n 3, 1) := by decide +kernel
theorem dX7_item_48 : decode cX7_item 48 = .ok (.iadd, 1) := by decide +kernel
theorem dX7_item_49 : decode cX7_item 49 = .ok (.lload 4, 2) := by decide +kernel
theorem dX7_item_51 : decode cX7_item 51 = .ok (.iload_n 2, 1) := by decide +kernel
theorem dX7_item_52 : decode cX7_item 52 = .ok (.invokestatic 286, 3) := by decide +kernel
theorem dX7_item_55 : decode cX7_item 55 = .ok (.lastore, 1) := by decide +kernel
theorem dX7_item_56 : decode cX7_item 56 = .ok (.iconst 1, 1) := by decide +kernel
theorem dX7_item_57 : decode cX7_item 57 = .ok (.ireturn, 1) := by decide +kernel
theorem dX7_copy_0 : decode cX7_copy 0 = .ok (.iload_n 1, 1) := by decide +kernel
theorem dX7_copy_1 : decode cX7_copy 1 = .ok (.invokestatic 280, 3) := by decide +kernel
theorem dX7_copy_4 : decode cX7_copy 4 = .ok (.ifCond .eq 10, 3) := by decide +kernel
theorem dX7_copy_7 : decode cX7_copy 7 = .ok (.iload_n 3, 1) := by decide +kernel
theorem dX7_copy_8 : decode cX7_copy 8 = .ok (.invokestatic 280, 3) := by decide +kernel
theorem dX7_copy_11 : decode cX7_copy 11 = .ok (.ifCond .ne 5, 3) := by decide +kernel
theorem dX7_copy_14 : decode cX7_copy 14 = .ok (.iconst (-1), 1) := by decide +kernel
theorem dX7_copy_15 : decode cX7_copy 15 = .ok (.ireturn, 1) := by decide +kernel
theorem dX7_copy_16 : decode cX7_copy 16 = .ok (.aload_n 0, 1) := by decide +kernel
theorem dX7_copy_17 : decode cX7_copy 17 = .ok (.getfield 44, 3) := by decide +kernel
theorem dX7_copy_20 : decode cX7_copy 20 = .ok (.iload_n 1, 1) := by decide +kernel
theorem dX7_copy_21 : decode cX7_copy 21 = .ok (.iaload, 1) := by decide +kernel
theorem dX7_copy_22 : decode cX7_copy 22 = .ok (.ifCond .lt 12, 3) := by decide +kernel
theorem dX7_copy_25 : decode cX7_copy 25 = .ok (.aload_n 0, 1) := by decide +kernel
theorem dX7_copy_26 : decode cX7_copy 26 = .ok (.getfield 44, 3) := by decide +kernel
theorem dX7_copy_29 : decode cX7_copy 29 = .ok (.iload_n 3, 1) := by decide +kernel
theorem dX7_copy_30 : decode cX7_copy 30 = .ok (.iaload, 1) := by decide +kernel
theorem dX7_copy_31 : decode cX7_copy 31 = .ok (.ifCond .ge 6, 3) := by decide +kernel
theorem dX7_copy_34 : decode cX7_copy 34 = .ok (.bipush (-11), 2) := by decide +kernel
theorem dX7_copy_36 : decode cX7_copy 36 = .ok (.ireturn, 1) := by decide +kernel
theorem dX7_copy_37 : decode cX7_copy 37 = .ok (.aload_n 0, 1) := by decide +kernel
theorem dX7_copy_38 : decode cX7_copy 38 = .ok (.getfield 44, 3) := by decide +kernel
theorem dX7_copy_41 : decode cX7_copy 41 = .ok (.iload_n 1, 1) := by decide +kernel
theorem dX7_copy_42 : decode cX7_copy 42 = .ok (.iaload, 1) := by decide +kernel
theorem dX7_copy_43 : decode cX7_copy 43 = .ok (.aload_n 0, 1) := by decide +kernel
theorem dX7_copy_44 : decode cX7_copy 44 = .ok (.getfield 44, 3) := by decide +kernel
theorem dX7_copy_47 : decode cX7_copy 47 = .ok (.iload_n 3, 1) := by decide +kernel
theorem dX7_copy_48 : decode cX7_copy 48 = .ok (.iaload, 1) := by decide +kernel
theorem dX7_copy_49 : decode cX7_copy 49 = .ok (.if_icmp .eq 6, 3) := by decide +kernel
theorem dX7_copy_52 : decode cX7_copy 52 = .ok (.bipush (-12), 2) := by decide +kernel
theorem dX7_copy_54 : decode cX7_copy 54 = .ok (.ireturn, 1) := by decide +kernel
theorem dX7_copy_55 : decode cX7_copy 55 = .ok (.iload 5, 2) := by decide +kernel
theorem dX7_copy_57 : decode cX7_copy 57 = .ok (.ifCond .lt 47, 3) := by decide +kernel
theorem dX7_copy_60 : decode cX7_copy 60 = .ok (.iload_n 2, 1) := by decide +kernel
theorem dX7_copy_61 : decode cX7_copy 61 = .ok (.ifCond .lt 43, 3) := by decide +kernel
theorem dX7_copy_64 : decode cX7_copy 64 = .ok (.iload 4, 2) := by decide +kernel
theorem dX7_copy_66 : decode cX7_copy 66 = .ok (.ifCond .lt 38, 3) := by decide +kernel
theorem dX7_copy_69 : decode cX7_copy 69 = .ok (.iload_n 2, 1) := by decide +kernel
theorem dX7_copy_70 : decode cX7_copy 70 = .ok (.i2l, 1) := by decide +kernel
theorem dX7_copy_71 : decode cX7_copy 71 = .ok (.iload 5, 2) := by decide +kernel
theorem dX7_copy_73 : decode cX7_copy 73 = .ok (.i2l, 1) := by decide +kernel
theorem dX7_copy_74 : decode cX7_copy 74 = .ok (.ladd, 1) := by decide +kernel
theorem dX7_copy_75 : decode cX7_copy 75 = .ok (.aload_n 0, 1) := by decide +kernel
theorem dX7_copy_76 : decode cX7_copy 76 = .ok (.getfield 47, 3) := by decide +kernel
theorem dX7_copy_79 : decode cX7_copy 79 = .ok (.iload_n 1, 1) := by decide +kernel
theorem dX7_copy_80 : decode cX7_copy 80 = .ok (.iaload, 1) := by decide +kernel
theorem dX7_copy_81 : decode cX7_copy 81 = .ok (.i2l, 1) := by decide +kernel
theorem dX7_copy_82 : decode cX7_copy 82 = .ok (.lcmp, 1) := by decide +kernel
theorem dX7_copy_83 : decode cX7_copy 83 = .ok (.ifCond .gt 21, 3) := by decide +kernel
theorem dX7_copy_86 : decode cX7_copy 86 = .ok (.iload 4, 2) := by decide +kernel
theorem dX7_copy_88 : decode cX7_copy 88 = .ok (.i2l, 1) := by decide +kernel
theorem dX7_copy_89 : decode cX7_copy 89 = .ok (.iload 5, 2) := by decide +kernel
theorem dX7_copy_91 : decode cX7_copy 91 = .ok (.i2l, 1) := by decide +kernel
theorem dX7_copy_92 : decode cX7_copy 92 = .ok (.ladd, 1) := by decide +kernel
theorem dX7_copy_93 : decode cX7_copy 93 = .ok (.aload_n 0, 1) := by decide +kernel
theorem dX7_copy_94 : decode cX7_copy 94 = .ok (.getfield 47, 3) := by decide +kernel
theorem dX7_copy_97 : decode cX7_copy 97 = .ok (.iload_n 3, 1) := by decide +kernel
theorem dX7_copy_98 : decode cX7_copy 98 = .ok (.iaload, 1) := by decide +kernel
theorem dX7_copy_99 : decode cX7_copy 99 = .ok (.i2l, 1) := by decide +kernel
theorem dX7_copy_100 : decode cX7_copy 100 = .ok (.lcmp, 1) := by decide +kernel
theorem dX7_copy_101 : decode cX7_copy 101 = .ok (.ifCond .le 6, 3) := by decide +kernel
theorem dX7_copy_104 : decode cX7_copy 104 = .ok (.bipush (-13), 2) := by decide +kernel
theorem dX7_copy_106 : decode cX7_copy 106 = .ok (.ireturn, 1) := by decide +kernel
theorem dX7_copy_107 : decode cX7_copy 107 = .ok (.iconst 0, 1) := by decide +kernel
theorem dX7_copy_108 : decode cX7_copy 108 = .ok (.istore 6, 2) := by decide +kernel
theorem dX7_copy_110 : decode cX7_copy 110 = .ok (.iload 6, 2) := by decide +kernel
theorem dX7_copy_112 : decode cX7_copy 112 = .ok (.iload 5, 2) := by decide +kernel
theorem dX7_copy_114 : decode cX7_copy 114 = .ok (.if_icmp .ge 30, 3) := by decide +kernel
theorem dX7_copy_117 : decode cX7_copy 117 = .ok (.aload_n 0, 1) := by decide +kernel
theorem dX7_copy_118 : decode cX7_copy 118 = .ok (.getfield 54, 3) := by decide +kernel
theorem dX7_copy_121 : decode cX7_copy 121 = .ok (.iload 6, 2) := by decide +kernel
theorem dX7_copy_123 : decode cX7_copy 123 = .ok (.aload_n 0, 1) := by decide +kernel
theorem dX7_copy_124 : decode cX7_copy 124 = .ok (.getfield 50, 3) := by decide +kernel
theorem dX7_copy_127 : decode cX7_copy 127 = .ok (.bipush 24, 2) := by decide +kernel
theorem dX7_copy_129 : decode cX7_copy 129 = .ok (.iload_n 1, 1) := by decide +kernel
theorem dX7_copy_130 : decode cX7_copy 130 = .ok (.imul, 1) := by decide +kernel
theorem dX7_copy_131 : decode cX7_copy 131 = .ok (.iload_n 2, 1) := by decide +kernel
theorem dX7_copy_132 : decode cX7_copy 132 = .ok (.iadd, 1) := by decide +kernel
theorem dX7_copy_133 : decode cX7_copy 133 = .ok (.iload 6, 2) := by decide +kernel
theorem dX7_copy_135 : decode cX7_copy 135 = .ok (.iadd, 1) := by decide +kernel
theorem dX7_copy_136 : decode cX7_copy 136 = .ok (.laload, 1) := by decide +kernel
theorem dX7_copy_137 : decode cX7_copy 137 = .ok (.lastore, 1) := by decide +kernel
theorem dX7_copy_138 : decode cX7_copy 138 = .ok (.iinc 6 1, 3) := by decide +kernel
theorem dX7_copy_141 : decode cX7_copy 141 = .ok (.goto (-31), 3) := by decide +kernel
theorem dX7_copy_144 : decode cX7_copy 144 = .ok (.iconst 0, 1) := by decide +kernel
theorem dX7_copy_145 : decode cX7_copy 145 = .ok (.istore 6, 2) := by decide +kernel
theorem dX7_copy_147 : decode cX7_copy 147 = .ok (.iload 6, 2) := by decide +kernel
theorem dX7_copy_149 : decode cX7_copy 149 = .ok (.iload 5, 2) := by decide +kernel
theorem dX7_copy_151 : decode cX7_copy 151 = .ok (.if_icmp .ge 31, 3) := by decide +kernel
theorem dX7_copy_154 : decode cX7_copy 154 = .ok (.aload_n 0, 1) := by decide +kernel
theorem dX7_copy_155 : decode cX7_copy 155 = .ok (.getfield 50, 3) := by decide +kernel
theorem dX7_copy_158 : decode cX7_copy 158 = .ok (.bipush 24, 2) := by decide +kernel
theorem dX7_copy_160 : decode cX7_copy 160 = .ok (.iload_n 3, 1) := by decide +kernel
theorem dX7_copy_161 : decode cX7_copy 161 = .ok (.imul, 1) := by decide +kernel
theorem dX7_copy_162 : decode cX7_copy 162 = .ok (.iload 4, 2) := by decide +kernel
theorem dX7_copy_164 : decode cX7_copy 164 = .ok (.iadd, 1) := by decide +kernel
theorem dX7_copy_165 : decode cX7_copy 165 = .ok (.iload 6, 2) := by decide +kernel
theorem dX7_copy_167 : decode cX7_copy 167 = .ok (.iadd, 1) := by decide +kernel
theorem dX7_copy_168 : decode cX7_copy 168 = .ok (.aload_n 0, 1) := by decide +kernel
theorem dX7_copy_169 : decode cX7_copy 169 = .ok (.getfield 54, 3) := by decide +kernel
theorem dX7_copy_172 : decode cX7_copy 172 = .ok (.iload 6, 2) := by decide +kernel
theorem dX7_copy_174 : decode cX7_copy 174 = .ok (.laload, 1) := by decide +kernel
theorem dX7_copy_175 : decode cX7_copy 175 = .ok (.lastore, 1) := by decide +kernel
theorem dX7_copy_176 : decode cX7_copy 176 = .ok (.iinc 6 1, 3) := by decide +kernel
theorem dX7_copy_179 : decode cX7_copy 179 = .ok (.goto (-32), 3) := by decide +kernel
theorem dX7_copy_182 : decode cX7_copy 182 = .ok (.iload 5, 2) := by decide +kernel
theorem dX7_copy_184 : decode cX7_copy 184 = .ok (.ireturn, 1) := by decide +kernel
theorem dX7_isSo_0 : decode cX7_isSo 0 = .ok (.iconst 1, 1) := by decide +kernel
theorem dX7_isSo_1 : decode cX7_isSo 1 = .ok (.istore 5, 2) := by decide +kernel
theorem dX7_isSo_3 : decode cX7_isSo 3 = .ok (.iconst 0, 1) := by decide +kernel
theorem dX7_isSo_4 : decode cX7_isSo 4 = .ok (.istore 6, 2) := by decide +kernel
theorem dX7_isSo_6 : decode cX7_isSo 6 = .ok (.iload 6, 2) := by decide +kernel
theorem dX7_isSo_8 : decode cX7_isSo 8 = .ok (.iload 4, 2) := by decide +kernel
theorem dX7_isSo_10 : decode cX7_isSo 10 = .ok (.if_icmp .ge 63, 3) := by decide +kernel
theorem dX7_isSo_13 : decode cX7_isSo 13 = .ok (.iload 5, 2) := by decide +kernel
theorem dX7_isSo_15 : decode cX7_isSo 15 = .ok (.ifCond .eq 58, 3) := by decide +kernel
theorem dX7_isSo_18 : decode cX7_isSo 18 = .ok (.aload_n 0, 1) := by decide +kernel
theorem dX7_isSo_19 : decode cX7_isSo 19 = .ok (.aload_n 0, 1) := by decide +kernel
theorem dX7_isSo_20 : decode cX7_isSo 20 = .ok (.getfield 50, 3) := by decide +kernel
theorem dX7_isSo_23 : decode cX7_isSo 23 = .ok (.iload_n 3, 1) := by decide +kernel
theorem dX7_isSo_24 : decode cX7_isSo 24 = .ok (.iconst 2, 1) := by decide +kernel
theorem dX7_isSo_25 : decode cX7_isSo 25 = .ok (.iload 6, 2) := by decide +kernel
theorem dX7_isSo_27 : decode cX7_isSo 27 = .ok (.imul, 1) := by decide +kernel
theorem dX7_isSo_28 : decode cX7_isSo 28 = .ok (.iadd, 1) := by decide +kernel
theorem dX7_isSo_29 : decode cX7_isSo 29 = .ok (.laload, 1) := by decide +kernel
theorem dX7_isSo_30 : decode cX7_isSo 30 = .ok (.l2i, 1) := by decide +kernel
theorem dX7_isSo_31 : decode cX7_isSo 31 = .ok (.aload_n 0, 1) := by decide +kernel
theorem dX7_isSo_32 : decode cX7_isSo 32 = .ok (.getfield 7, 3) := by decide +kernel
theorem dX7_isSo_35 : decode cX7_isSo 35 = .ok (.iconst 3, 1) := by decide +kernel
theorem dX7_isSo_36 : decode cX7_isSo 36 = .ok (.iaload, 1) := by decide +kernel
theorem dX7_isSo_37 : decode cX7_isSo 37 = .ok (.iload_n 1, 1) := by decide +kernel
theorem dX7_isSo_38 : decode cX7_isSo 38 = .ok (.iload_n 2, 1) := by decide +kernel
theorem dX7_isSo_39 : decode cX7_isSo 39 = .ok (.invokevirtual 80, 3) := by decide +kernel
theorem dX7_isSo_42 : decode cX7_isSo 42 = .ok (.i2l, 1) := by decide +kernel
theorem dX7_isSo_43 : decode cX7_isSo 43 = .ok (.aload_n 0, 1) := by decide +kernel
theorem dX7_isSo_44 : decode cX7_isSo 44 = .ok (.getfield 50, 3) := by decide +kernel
theorem dX7_isSo_47 : decode cX7_isSo 47 = .ok (.iload_n 3, 1) := by decide +kernel
theorem dX7_isSo_48 : decode cX7_isSo 48 = .ok (.iconst 2, 1) := by decide +kernel
theorem dX7_isSo_49 : decode cX7_isSo 49 = .ok (.iload 6, 2) := by decide +kernel
theorem dX7_isSo_51 : decode cX7_isSo 51 = .ok (.imul, 1) := by decide +kernel
theorem dX7_isSo_52 : decode cX7_isSo 52 = .ok (.iadd, 1) := by decide +kernel
theorem dX7_isSo_53 : decode cX7_isSo 53 = .ok (.iconst 1, 1) := by decide +kernel
theorem dX7_isSo_54 : decode cX7_isSo 54 = .ok (.iadd, 1) := by decide +kernel
theorem dX7_isSo_55 : decode cX7_isSo 55 = .ok (.laload, 1) := by decide +kernel
theorem dX7_isSo_56 : decode cX7_isSo 56 = .ok (.lcmp, 1) := by decide +kernel
theorem dX7_isSo_57 : decode cX7_isSo 57 = .ok (.ifCond .ne 7, 3) := by decide +kernel
theorem dX7_isSo_60 : decode cX7_isSo 60 = .ok (.iconst 1, 1) := by decide +kernel
theorem dX7_isSo_61 : decode cX7_isSo 61 = .ok (.goto 4, 3) := by decide +kernel
theorem dX7_isSo_64 : decode cX7_isSo 64 = .ok (.iconst 0, 1) := by decide +kernel
theorem dX7_isSo_65 : decode cX7_isSo 65 = .ok (.istore 5, 2) := by decide +kernel
theorem dX7_isSo_67 : decode cX7_isSo 67 = .ok (.iinc 6 1, 3) := by decide +kernel
theorem dX7_isSo_70 : decode cX7_isSo 70 = .ok (.goto (-64), 3) := by decide +kernel
theorem dX7_isSo_73 : decode cX7_isSo 73 = .ok (.iload 5, 2) := by decide +kernel
theorem dX7_isSo_75 : decode cX7_isSo 75 = .ok (.ireturn, 1) := by decide +kernel
theorem dX7_seen_0 : decode cX7_seen 0 = .ok (.iload_n 1, 1) := by decide +kernel
theorem dX7_seen_1 : decode cX7_seen 1 = .ok (.invokestatic 130, 3) := by decide +kernel
theorem dX7_seen_4 : decode cX7_seen 4 = .ok (.ifCond .eq 35, 3) := by decide +kernel
theorem dX7_seen_7 : decode cX7_seen 7 = .ok (.iload_n 2, 1) := by decide +kernel
theorem dX7_seen_8 : decode cX7_seen 8 = .ok (.invokestatic 280, 3) := by decide +kernel
theorem dX7_seen_11 : decode cX7_seen 11 = .ok (.ifCond .eq 28, 3) := by decide +kernel
theorem dX7_seen_14 : decode cX7_seen 14 = .ok (.iload_n 3, 1) := by decide +kernel
theorem dX7_seen_15 : decode cX7_seen 15 = .ok (.i2l, 1) := by decide +kernel
theorem dX7_seen_16 : decode cX7_seen 16 = .ok (.lconst 0, 1) := by decide +kernel
theorem dX7_seen_17 : decode cX7_seen 17 = .ok (.ldc2_w 210, 3) := by decide +kernel
theorem dX7_seen_20 : decode cX7_seen 20 = .ok (.invokestatic 59, 3) := by decide +kernel
theorem dX7_seen_23 : decode cX7_seen 23 = .ok (.ifCond .eq 16, 3) := by decide +kernel
theorem dX7_seen_26 : decode cX7_seen 26 = .ok (.iload 5, 2) := by decide +kernel
theorem dX7_seen_28 : decode cX7_seen 28 = .ok (.i2l, 1) := by decide +kernel
theorem dX7_seen_29 : decode cX7_seen 29 = .ok (.lconst 1, 1) := by decide +kernel
theorem dX7_seen_30 : decode cX7_seen 30 = .ok (.ldc2_w 222, 3) := by decide +kernel
theorem dX7_seen_33 : decode cX7_seen 33 = .ok (.invokestatic 59, 3) := by decide +kernel
theorem dX7_seen_36 : decode cX7_seen 36 = .ok (.ifCond .ne 5, 3) := by decide +kernel
theorem dX7_seen_39 : decode cX7_seen 39 = .ok (.iconst (-1), 1) := by decide +kernel
theorem dX7_seen_40 : decode cX7_seen 40 = .ok (.ireturn, 1) := by decide +kernel
theorem dX7_seen_41 : decode cX7_seen 41 = .ok (.aload_n 0, 1) := by decide +kernel
theorem dX7_seen_42 : decode cX7_seen 42 = .ok (.iload_n 2, 1) := by decide +kernel
theorem dX7_seen_43 : decode cX7_seen 43 = .ok (.iload_n 3, 1) := by decide +kernel
theorem dX7_seen_44 : decode cX7_seen 44 = .ok (.iload 4, 2) := by decide +kernel
theorem dX7_seen_46 : decode cX7_seen 46 = .ok (.iconst 2, 1) := by decide +kernel
theorem dX7_seen_47 : decode cX7_seen 47 = .ok (.iload 5, 2) := by decide +kernel
theorem dX7_seen_49 : decode cX7_seen 49 = .ok (.imul, 1) := by decide +kernel
theorem dX7_seen_50 : decode cX7_seen 50 = .ok (.invokevirtual 283, 3) := by decide +kernel
theorem dX7_seen_53 : decode cX7_seen 53 = .ok (.istore 6, 2) := by decide +kernel
theorem dX7_seen_55 : decode cX7_seen 55 = .ok (.iload 6, 2) := by decide +kernel
theorem dX7_seen_57 : decode cX7_seen 57 = .ok (.ifCond .ge 6, 3) := by decide +kernel
theorem dX7_seen_60 : decode cX7_seen 60 = .ok (.iload 6, 2) := by decide +kernel
theorem dX7_seen_62 : decode cX7_seen 62 = .ok (.ireturn, 1) := by decide +kernel
theorem dX7_seen_63 : decode cX7_seen 63 = .ok (.bipush 24, 2) := by decide +kernel
theorem dX7_seen_65 : decode cX7_seen 65 = .ok (.iload_n 2, 1) := by decide +kernel
theorem dX7_seen_66 : decode cX7_seen 66 = .ok (.imul, 1) := by decide +kernel
theorem dX7_seen_67 : decode cX7_seen 67 = .ok (.iload 4, 2) := by decide +kernel
theorem dX7_seen_69 : decode cX7_seen 69 = .ok (.iadd, 1) := by decide +kernel
theorem dX7_seen_70 : decode cX7_seen 70 = .ok (.istore 7, 2) := by decide +kernel
theorem dX7_seen_72 : decode cX7_seen 72 = .ok (.iconst 0, 1) := by decide +kernel
theorem dX7_seen_73 : decode cX7_seen 73 = .ok (.istore 8, 2) := by decide +kernel
theorem dX7_seen_75 : decode cX7_seen 75 = .ok (.iload 8, 2) := by decide +kernel
theorem dX7_seen_77 : decode cX7_seen 77 = .ok (.iload 5, 2) := by decide +kernel
theorem dX7_seen_79 : decode cX7_seen 79 = .ok (.if_icmp .ge 30, 3) := by decide +kernel
theorem dX7_seen_82 : decode cX7_seen 82 = .ok (.aload_n 0, 1) := by decide +kernel
theorem dX7_seen_83 : decode cX7_seen 83 = .ok (.getfield 50, 3) := by decide +kernel
theorem dX7_seen_86 : decode cX7_seen 86 = .ok (.iload 7, 2) := by decide +kernel
theorem dX7_seen_88 : decode cX7_seen 88 = .ok (.iconst 2, 1) := by decide +kernel
theorem dX7_seen_89 : decode cX7_seen 89 = .ok (.iload 8, 2) := by decide +kernel
theorem dX7_seen_91 : decode cX7_seen 91 = .ok (.imul, 1) := by decide +kernel
theorem dX7_seen_92 : decode cX7_seen 92 = .ok (.iadd, 1) := by decide +kernel
theorem dX7_seen_93 : decode cX7_seen 93 = .ok (.laload, 1) := by decide +kernel
theorem dX7_seen_94 : decode cX7_seen 94 = .ok (.invokestatic 142, 3) := by decide +kernel
theorem dX7_seen_97 : decode cX7_seen 97 = .ok (.ifCond .ne 6, 3) := by decide +kernel
theorem dX7_seen_100 : decode cX7_seen 100 = .ok (.bipush (-2), 2) := by decide +kernel
theorem dX7_seen_102 : decode cX7_seen 102 = .ok (.ireturn, 1) := by decide +kernel
theorem dX7_seen_103 : decode cX7_seen 103 = .ok (.iinc 8 1, 3) := by decide +kernel
theorem dX7_seen_106 : decode cX7_seen 106 = .ok (.goto (-31), 3) := by decide +kernel
theorem dX7_seen_109 : decode cX7_seen 109 = .ok (.iconst 0, 1) := by decide +kernel
theorem dX7_seen_110 : decode cX7_seen 110 = .ok (.istore 8, 2) := by decide +kernel
theorem dX7_seen_112 : decode cX7_seen 112 = .ok (.iconst 0, 1) := by decide +kernel
theorem dX7_seen_113 : decode cX7_seen 113 = .ok (.istore 9, 2) := by decide +kernel
theorem dX7_seen_115 : decode cX7_seen 115 = .ok (.iload 9, 2) := by decide +kernel
theorem dX7_seen_117 : decode cX7_seen 117 = .ok (.iconst 4, 1) := by decide +kernel
theorem dX7_seen_118 : decode cX7_seen 118 = .ok (.if_icmp .ge 36, 3) := by decide +kernel
theorem dX7_seen_121 : decode cX7_seen 121 = .ok (.iload 8, 2) := by decide +kernel
theorem dX7_seen_123 : decode cX7_seen 123 = .ok (.aload_n 0, 1) := by decide +kernel
theorem dX7_seen_124 : decode cX7_seen 124 = .ok (.iload_n 1, 1) := by decide +kernel
theorem dX7_seen_125 : decode cX7_seen 125 = .ok (.iload 9, 2) := by decide +kernel
theorem dX7_seen_127 : decode cX7_seen 127 = .ok (.iload 7, 2) := by decide +kernel
theorem dX7_seen_129 : decode cX7_seen 129 = .ok (.iload 5, 2) := by decide +kernel
theorem dX7_seen_131 : decode cX7_seen 131 = .ok (.invokevirtual 290, 3) := by decide +kernel
theorem dX7_seen_134 : decode cX7_seen 134 = .ok (.ifCond .eq 10, 3) := by decide +kernel
theorem dX7_seen_137 : decode cX7_seen 137 = .ok (.iconst 1, 1) := by decide +kernel
theorem dX7_seen_138 : decode cX7_seen 138 = .ok (.iload 9, 2) := by decide +kernel
theorem dX7_seen_140 : decode cX7_seen 140 = .ok (.ishl, 1) := by decide +kernel
theorem dX7_seen_141 : decode cX7_seen 141 = .ok (.goto 4, 3) := by decide +kernel
theorem dX7_seen_144 : decode cX7_seen 144 = .ok (.iconst 0, 1) := by decide +kernel
theorem dX7_seen_145 : decode cX7_seen 145 = .ok (.ior, 1) := by decide +kernel
theorem dX7_seen_146 : decode cX7_seen 146 = .ok (.istore 8, 2) := by decide +kernel
theorem dX7_seen_148 : decode cX7_seen 148 = .ok (.iinc 9 1, 3) := by decide +kernel
theorem dX7_seen_151 : decode cX7_seen 151 = .ok (.goto (-36), 3) := by decide +kernel
theorem dX7_seen_154 : decode cX7_seen 154 = .ok (.iload 8, 2) := by decide +kernel
theorem dX7_seen_156 : decode cX7_seen 156 = .ok (.ireturn, 1) := by decide +kernel
theorem dX7_film_0 : decode cX7_film 0 = .ok (.iload_n 1, 1) := by decide +kernel
theorem dX7_film_1 : decode cX7_film 1 = .ok (.i2l, 1) := by decide +kernel
theorem dX7_film_2 : decode cX7_film 2 = .ok (.lconst 0, 1) := by decide +kernel
theorem dX7_film_3 : decode cX7_film 3 = .ok (.aload_n 0, 1) := by decide +kernel
theorem dX7_film_4 : decode cX7_film 4 = .ok (.getfield 7, 3) := by decide +kernel
theorem dX7_film_7 : decode cX7_film 7 = .ok (.iconst 1, 1) := by decide +kernel
theorem dX7_film_8 : decode cX7_film 8 = .ok (.iaload, 1) := by decide +kernel
theorem dX7_film_9 : decode cX7_film 9 = .ok (.iconst 1, 1) := by decide +kernel
theorem dX7_film_10 : decode cX7_film 10 = .ok (.isub, 1) := by decide +kernel
theorem dX7_film_11 : decode cX7_film 11 = .ok (.i2l, 1) := by decide +kernel
theorem dX7_film_12 : decode cX7_film 12 = .ok (.invokestatic 59, 3) := by decide +kernel
theorem dX7_film_15 : decode cX7_film 15 = .ok (.ifCond .eq 22, 3) := by decide +kernel
theorem dX7_film_18 : decode cX7_film 18 = .ok (.iload_n 2, 1) := by decide +kernel
theorem dX7_film_19 : decode cX7_film 19 = .ok (.invokestatic 280, 3) := by decide +kernel
theorem dX7_film_22 : decode cX7_film 22 = .ok (.ifCond .eq 15, 3) := by decide +kernel
theorem dX7_film_25 : decode cX7_film 25 = .ok (.iload_n 3, 1) := by decide +kernel
theorem dX7_film_26 : decode cX7_film 26 = .ok (.i2l, 1) := by decide +kernel
theorem dX7_film_27 : decode cX7_film 27 = .ok (.lconst 0, 1) := by decide +kernel
theorem dX7_film_28 : decode cX7_film 28 = .ok (.ldc2_w 210, 3) := by decide +kernel
theorem dX7_film_31 : decode cX7_film 31 = .ok (.invokestatic 59, 3) := by decide +kernel
theorem dX7_film_34 : decode cX7_film 34 = .ok (.ifCond .ne 5, 3) := by decide +kernel
theorem dX7_film_37 : decode cX7_film 37 = .ok (.iconst (-1), 1) := by decide +kernel
theorem dX7_film_38 : decode cX7_film 38 = .ok (.ireturn, 1) := by decide +kernel
theorem dX7_film_39 : decode cX7_film 39 = .ok (.aload_n 0, 1) := by decide +kernel
theorem dX7_film_40 : decode cX7_film 40 = .ok (.iload_n 2, 1) := by decide +kernel
theorem dX7_film_41 : decode cX7_film 41 = .ok (.iload_n 3, 1) := by decide +kernel
theorem dX7_film_42 : decode cX7_film 42 = .ok (.iload 4, 2) := by decide +kernel
theorem dX7_film_44 : decode cX7_film 44 = .ok (.aload_n 0, 1) := by decide +kernel
theorem dX7_film_45 : decode cX7_film 45 = .ok (.getfield 7, 3) := by decide +kernel
theorem dX7_film_48 : decode cX7_film 48 = .ok (.iconst 0, 1) := by decide +kernel
theorem dX7_film_49 : decode cX7_film 49 = .ok (.iaload, 1) := by decide +kernel
theorem dX7_film_50 : decode cX7_film 50 = .ok (.invokevirtual 283, 3) := by decide +kernel
theorem dX7_film_53 : decode cX7_film 53 = .ok (.istore 5, 2) := by decide +kernel
theorem dX7_film_55 : decode cX7_film 55 = .ok (.iload 5, 2) := by decide +kernel
theorem dX7_film_57 : decode cX7_film 57 = .ok (.ifCond .ge 6, 3) := by decide +kernel
theorem dX7_film_60 : decode cX7_film 60 = .ok (.iload 5, 2) := by decide +kernel
theorem dX7_film_62 : decode cX7_film 62 = .ok (.ireturn, 1) := by decide +kernel
theorem dX7_film_63 : decode cX7_film 63 = .ok (.iconst 0, 1) := by decide +kernel
theorem dX7_film_64 : decode cX7_film 64 = .ok (.istore 6, 2) := by decide +kernel
theorem dX7_film_66 : decode cX7_film 66 = .ok (.iload 6, 2) := by decide +kernel
theorem dX7_film_68 : decode cX7_film 68 = .ok (.aload_n 0, 1) := by decide +kernel
theorem dX7_film_69 : decode cX7_film 69 = .ok (.getfield 7, 3) := by decide +kernel
theorem dX7_film_72 : decode cX7_film 72 = .ok (.iconst 0, 1) := by decide +kernel
theorem dX7_film_73 : decode cX7_film 73 = .ok (.iaload, 1) := by decide +kernel
theorem dX7_film_74 : decode cX7_film 74 = .ok (.if_icmp .ge 44, 3) := by decide +kernel
theorem dX7_film_77 : decode cX7_film 77 = .ok (.aload_n 0, 1) := by decide +kernel
theorem dX7_film_78 : decode cX7_film 78 = .ok (.getfield 50, 3) := by decide +kernel
theorem dX7_film_81 : decode cX7_film 81 = .ok (.bipush 24, 2) := by decide +kernel
theorem dX7_film_83 : decode cX7_film 83 = .ok (.iload_n 2, 1) := by decide +kernel
theorem dX7_film_84 : decode cX7_film 84 = .ok (.imul, 1) := by decide +kernel
theorem dX7_film_85 : decode cX7_film 85 = .ok (.iload 4, 2) := by decide +kernel
theorem dX7_film_87 : decode cX7_film 87 = .ok (.iadd, 1) := by decide +kernel
theorem dX7_film_88 : decode cX7_film 88 = .ok (.iload 6, 2) := by decide +kernel
theorem dX7_film_90 : decode cX7_film 90 = .ok (.iadd, 1) := by decide +kernel
theorem dX7_film_91 : decode cX7_film 91 = .ok (.aload_n 0, 1) := by decide +kernel
theorem dX7_film_92 : decode cX7_film 92 = .ok (.aload_n 0, 1) := by decide +kernel
theorem dX7_film_93 : decode cX7_film 93 = .ok (.bipush 8, 2) := by decide +kernel
theorem dX7_film_95 : decode cX7_film 95 = .ok (.iload_n 1, 1) := by decide +kernel
theorem dX7_film_96 : decode cX7_film 96 = .ok (.imul, 1) := by decide +kernel
theorem dX7_film_97 : decode cX7_film 97 = .ok (.iload 6, 2) := by decide +kernel
theorem dX7_film_99 : decode cX7_film 99 = .ok (.iadd, 1) := by decide +kernel
theorem dX7_film_100 : decode cX7_film 100 = .ok (.invokevirtual 92, 3) := by decide +kernel
theorem dX7_film_103 : decode cX7_film 103 = .ok (.invokevirtual 84, 3) := by decide +kernel
theorem dX7_film_106 : decode cX7_film 106 = .ok (.i2l, 1) := by decide +kernel
theorem dX7_film_107 : decode cX7_film 107 = .ok (.iload_n 3, 1) := by decide +kernel
theorem dX7_film_108 : decode cX7_film 108 = .ok (.invokestatic 286, 3) := by decide +kernel
theorem dX7_film_111 : decode cX7_film 111 = .ok (.lastore, 1) := by decide +kernel
theorem dX7_film_112 : decode cX7_film 112 = .ok (.iinc 6 1, 3) := by decide +kernel
theorem dX7_film_115 : decode cX7_film 115 = .ok (.goto (-49), 3) := by decide +kernel
theorem dX7_film_118 : decode cX7_film 118 = .ok (.aload_n 0, 1) := by decide +kernel
theorem dX7_film_119 : decode cX7_film 119 = .ok (.getfield 7, 3) := by decide +kernel
theorem dX7_film_122 : decode cX7_film 122 = .ok (.iconst 0, 1) := by decide +kernel
theorem dX7_film_123 : decode cX7_film 123 = .ok (.iaload, 1) := by decide +kernel
theorem dX7_film_124 : decode cX7_film 124 = .ok (.ireturn, 1) := by decide +kernel
end
section
theorem dL_law_0 : decode cL_law 0 = .ok (.new 7, 3) := by decide +kernel
theorem dL_law_3 : decode cL_law 3 = .ok (.dup, 1) := by decide +kernel
theorem dL_law_4 : decode cL_law 4 = .ok (.invokespecial 9, 3) := by decide +kernel
theorem dL_law_7 : decode cL_law 7 = .ok (.astore_n 1, 1) := by decide +kernel
theorem dL_law_8 : decode cL_law 8 = .ok (.new 10, 3) := by decide +kernel
theorem dL_law_11 : decode cL_law 11 = .ok (.dup, 1) := by decide +kernel
theorem dL_law_12 : decode cL_law 12 = .ok (.invokespecial 12, 3) := by decide +kernel
theorem dL_law_15 : decode cL_law 15 = .ok (.astore_n 2, 1) := by decide +kernel
theorem dL_law_16 : decode cL_law 16 = .ok (.iconst 0, 1) := by decide +kernel
theorem dL_law_17 : decode cL_law 17 = .ok (.istore_n 3, 1) := by decide +kernel
theorem dL_law_18 : decode cL_law 18 = .ok (.iload_n 3, 1) := by decide +kernel
theorem dL_law_19 : decode cL_law 19 = .ok (.aload_n 0, 1) := by decide +kernel
theorem dL_law_20 : decode cL_law 20 = .ok (.arraylength, 1) := by decide +kernel
theorem dL_law_21 : decode cL_law 21 = .ok (.bipush 6, 2) := by decide +kernel
theorem dL_law_23 : decode cL_law 23 = .ok (.isub, 1) := by decide +kernel
theorem dL_law_24 : decode cL_law 24 = .ok (.if_icmp .gt 1079, 3) := by decide +kernel
theorem dL_law_27 : decode cL_law 27 = .ok (.aload_n 0, 1) := by decide +kernel
theorem dL_law_28 : decode cL_law 28 = .ok (.iload_n 3, 1) := by decide +kernel
theorem dL_law_29 : decode cL_law 29 = .ok (.iaload, 1) := by decide +kernel
theorem dL_law_30 : decode cL_law 30 = .ok (.bipush 31, 2) := by decide +kernel
theorem dL_law_32 : decode cL_law 32 = .ok (.iand, 1) := by decide +kernel
theorem dL_law_33 : decode cL_law 33 = .ok (.tableswitch 1064 0 26 #[123, 156, 189, 232, 265, 288, 301, 324, 367, 390, 433, 466, 479, 512, 535, 548, 571, 614, 677, 710, 723, 736, 799, 852, 895, 918, 1001], 123) := by decide +kernel
theorem dL_law_156 : decode cL_law 156 = .ok (.aload_n 1, 1) := by decide +kernel
theorem dL_law_157 : decode cL_law 157 = .ok (.aload_n 0, 1) := by decide +kernel
theorem dL_law_158 : decode cL_law 158 = .ok (.iload_n 3, 1) := by decide +kernel
theorem dL_law_159 : decode cL_law 159 = .ok (.iconst 1, 1) := by decide +kernel
theorem dL_law_160 : decode cL_law 160 = .ok (.iadd, 1) := by decide +kernel
theorem dL_law_161 : decode cL_law 161 = .ok (.iaload, 1) := by decide +kernel
theorem dL_law_162 : decode cL_law 162 = .ok (.aload_n 0, 1) := by decide +kernel
theorem dL_law_163 : decode cL_law 163 = .ok (.iload_n 3, 1) := by decide +kernel
theorem dL_law_164 : decode cL_law 164 = .ok (.iconst 2, 1) := by decide +kernel
theorem dL_law_165 : decode cL_law 165 = .ok (.iadd, 1) := by decide +kernel
theorem dL_law_166 : decode cL_law 166 = .ok (.iaload, 1) := by decide +kernel
theorem dL_law_167 : decode cL_law 167 = .ok (.invokevirtual 13, 3) := by decide +kernel
theorem dL_law_170 : decode cL_law 170 = .ok (.aload_n 2, 1) := by decide +kernel
theorem dL_law_171 : decode cL_law 171 = .ok (.aload_n 0, 1) := by decide +kernel
theorem dL_law_172 : decode cL_law 172 = .ok (.iload_n 3, 1) := by decide +kernel
theorem dL_law_173 : decode cL_law 173 = .ok (.iconst 1, 1) := by decide +kernel
theorem dL_law_174 : decode cL_law 174 = .ok (.iadd, 1) := by decide +kernel
theorem dL_law_175 : decode cL_law 175 = .ok (.iaload, 1) := by decide +kernel
theorem dL_law_176 : decode cL_law 176 = .ok (.aload_n 0, 1) := by decide +kernel
theorem dL_law_177 : decode cL_law 177 = .ok (.iload_n 3, 1) := by decide +kernel
theorem dL_law_178 : decode cL_law 178 = .ok (.iconst 2, 1) := by decide +kernel
theorem dL_law_179 : decode cL_law 179 = .ok (.iadd, 1) := by decide +kernel
theorem dL_law_180 : decode cL_law 180 = .ok (.iaload, 1) := by decide +kernel
theorem dL_law_181 : decode cL_law 181 = .ok (.invokevirtual 17, 3) := by decide +kernel
theorem dL_law_184 : decode cL_law 184 = .ok (.if_icmp .eq 913, 3) := by decide +kernel
theorem dL_law_187 : decode cL_law 187 = .ok (.iconst 0, 1) := by decide +kernel
theorem dL_law_188 : decode cL_law 188 = .ok (.ireturn, 1) := by decide +kernel
theorem dL_law_189 : decode cL_law 189 = .ok (.aload_n 1, 1) := by decide +kernel
theorem dL_law_190 : decode cL_law 190 = .ok (.aload_n 0, 1) := by decide +kernel
theorem dL_law_191 : decode cL_law 191 = .ok (.iload_n 3, 1) := by decide +kernel
theorem dL_law_192 : decode cL_law 192 = .ok (.iconst 1, 1) := by decide +kernel
theorem dL_law_193 : decode cL_law 193 = .ok (.iadd, 1) := by decide +kernel
theorem dL_law_194 : decode cL_law 194 = .ok (.iaload, 1) := by decide +kernel
theorem dL_law_195 : decode cL_law 195 = .ok (.aload_n 0, 1) := by decide +kernel
theorem dL_law_196 : decode cL_law 196 = .ok (.iload_n 3, 1) := by decide +kernel
theorem dL_law_197 : decode cL_law 197 = .ok (.iconst 2, 1) := by decide +kernel
theorem dL_law_198 : decode cL_law 198 = .ok (.iadd, 1) := by decide +kernel
theorem dL_law_199 : decode cL_law 199 = .ok (.iaload, 1) := by decide +kernel
theorem dL_law_200 : decode cL_law 200 = .ok (.invokevirtual 18, 3) := by decide +kernel
theorem dL_law_203 : decode cL_law 203 = .ok (.aload_n 2, 1) := by decide +kernel
theorem dL_law_204 : decode cL_law 204 = .ok (.aload_n 0, 1) := by decide +kernel
theorem dL_law_205 : decode cL_law 205 = .ok (.iload_n 3, 1) := by decide +kernel
theorem dL_law_206 : decode cL_law 206 = .ok (.iconst 1, 1) := by decide +kernel
theorem dL_law_207 : decode cL_law 207 = .ok (.iadd, 1) := by decide +kernel
theorem dL_law_208 : decode cL_law 208 = .ok (.iaload, 1) := by decide +kernel
theorem dL_law_209 : decode cL_law 209 = .ok (.aload_n 0, 1) := by decide +kernel
theorem dL_law_210 : decode cL_law 210 = .ok (.iload_n 3, 1) := by decide +kernel
theorem dL_law_211 : decode cL_law 211 = .ok (.iconst 2, 1) := by decide +kernel
theorem dL_law_212 : decode cL_law 212 = .ok (.iadd, 1) := by decide +kernel
theorem dL_law_213 : decode cL_law 213 = .ok (.iaload, 1) := by decide +kernel
theorem dL_law_214 : decode cL_law 214 = .ok (.invokevirtual 21, 3) := by decide +kernel
theorem dL_law_217 : decode cL_law 217 = .ok (.if_icmp .eq 880, 3) := by decide +kernel
theorem dL_law_220 : decode cL_law 220 = .ok (.iconst 0, 1) := by decide +kernel
theorem dL_law_221 : decode cL_law 221 = .ok (.ireturn, 1) := by decide +kernel
theorem dL_law_222 : decode cL_law 222 = .ok (.aload_n 1, 1) := by decide +kernel
theorem dL_law_223 : decode cL_law 223 = .ok (.aload_n 0, 1) := by decide +kernel
theorem dL_law_224 : decode cL_law 224 = .ok (.iload_n 3, 1) := by decide +kernel
theorem dL_law_225 : decode cL_law 225 = .ok (.iconst 1, 1) := by decide +kernel
theorem dL_law_226 : decode cL_law 226 = .ok (.iadd, 1) := by decide +kernel
theorem dL_law_227 : decode cL_law 227 = .ok (.iaload, 1) := by decide +kernel
theorem dL_law_228 : decode cL_law 228 = .ok (.aload_n 0, 1) := by decide +kernel
theorem dL_law_229 : decode cL_law 229 = .ok (.iload_n 3, 1) := by decide +kernel
theorem dL_law_230 : decode cL_law 230 = .ok (.iconst 2, 1) := by decide +kernel
theorem dL_law_231 : decode cL_law 231 = .ok (.iadd, 1) := by decide +kernel
theorem dL_law_232 : decode cL_law 232 = .ok (.iaload, 1) := by decide +kernel
theorem dL_law_233 : decode cL_law 233 = .ok (.aload_n 0, 1) := by decide +kernel
theorem dL_law_234 : decode cL_law 234 = .ok (.iload_n 3, 1) := by decide +kernel
theorem dL_law_235 : decode cL_law 235 = .ok (.iconst 3, 1) := by decide +kernel
theorem dL_law_236 : decode cL_law 236 = .ok (.iadd, 1) := by decide +kernel
theorem dL_law_237 : decode cL_law 237 = .ok (.iaload, 1) := by decide +kernel
theorem dL_law_238 : decode cL_law 238 = .ok (.invokevirtual 22, 3) := by decide +kernel
theorem dL_law_241 : decode cL_law 241 = .ok (.aload_n 2, 1) := by decide +kernel
theorem dL_law_242 : decode cL_law 242 = .ok (.aload_n 0, 1) := by decide +kernel
theorem dL_law_243 : decode cL_law 243 = .ok (.iload_n 3, 1) := by decide +kernel
theorem dL_law_244 : decode cL_law 244 = .ok (.iconst 1, 1) := by decide +kernel
theorem dL_law_245 : decode cL_law 245 = .ok (.iadd, 1) := by decide +kernel
theorem dL_law_246 : decode cL_law 246 = .ok (.iaload, 1) := by decide +kernel
theorem dL_law_247 : decode cL_law 247 = .ok (.aload_n 0, 1) := by decide +kernel
theorem dL_law_248 : decode cL_law 248 = .ok (.iload_n 3, 1) := by decide +kernel
theorem dL_law_249 : decode cL_law 249 = .ok (.iconst 2, 1) := by decide +kernel
theorem dL_law_250 : decode cL_law 250 = .ok (.iadd, 1) := by decide +kernel
theorem dL_law_251 : decode cL_law 251 = .ok (.iaload, 1) := by decide +kernel
theorem dL_law_252 : decode cL_law 252 = .ok (.aload_n 0, 1) := by decide +kernel
theorem dL_law_253 : decode cL_law 253 = .ok (.iload_n 3, 1) := by decide +kernel
theorem dL_law_254 : decode cL_law 254 = .ok (.iconst 3, 1) := by decide +kernel
theorem dL_law_255 : decode cL_law 255 = .ok (.iadd, 1) := by decide +kernel
theorem dL_law_256 : decode cL_law 256 = .ok (.iaload, 1) := by decide +kernel
theorem dL_law_257 : decode cL_law 257 = .ok (.invokevirtual 26, 3) := by decide +kernel
theorem dL_law_260 : decode cL_law 260 = .ok (.if_icmp .eq 837, 3) := by decide +kernel
theorem dL_law_263 : decode cL_law 263 = .ok (.iconst 0, 1) := by decide +kernel
theorem dL_law_264 : decode cL_law 264 = .ok (.ireturn, 1) := by decide +kernel
theorem dL_law_265 : decode cL_law 265 = .ok (.aload_n 1, 1) := by decide +kernel
theorem dL_law_266 : decode cL_law 266 = .ok (.aload_n 0, 1) := by decide +kernel
theorem dL_law_267 : decode cL_law 267 = .ok (.iload_n 3, 1) := by decide +kernel
theorem dL_law_268 : decode cL_law 268 = .ok (.iconst 1, 1) := by decide +kernel
theorem dL_law_269 : decode cL_law 269 = .ok (.iadd, 1) := by decide +kernel
theorem dL_law_270 : decode cL_law 270 = .ok (.iaload, 1) := by decide +kernel
theorem dL_law_271 : decode cL_law 271 = .ok (.aload_n 0, 1) := by decide +kernel
theorem dL_law_272 : decode cL_law 272 = .ok (.iload_n 3, 1) := by decide +kernel
theorem dL_law_273 : decode cL_law 273 = .ok (.iconst 2, 1) := by decide +kernel
theorem dL_law_274 : decode cL_law 274 = .ok (.iadd, 1) := by decide +kernel
theorem dL_law_275 : decode cL_law 275 = .ok (.iaload, 1) := by decide +kernel
theorem dL_law_276 : decode cL_law 276 = .ok (.invokevirtual 27, 3) := by decide +kernel
theorem dL_law_279 : decode cL_law 279 = .ok (.aload_n 2, 1) := by decide +kernel
theorem dL_law_280 : decode cL_law 280 = .ok (.aload_n 0, 1) := by decide +kernel
theorem dL_law_281 : decode cL_law 281 = .ok (.iload_n 3, 1) := by decide +kernel
theorem dL_law_282 : decode cL_law 282 = .ok (.iconst 1, 1) := by decide +kernel
theorem dL_law_283 : decode cL_law 283 = .ok (.iadd, 1) := by decide +kernel
theorem dL_law_284 : decode cL_law 284 = .ok (.iaload, 1) := by decide +kernel
theorem dL_law_285 : decode cL_law 285 = .ok (.aload_n 0, 1) := by decide +kernel
theorem dL_law_286 : decode cL_law 286 = .ok (.iload_n 3, 1) := by decide +kernel
theorem dL_law_287 : decode cL_law 287 = .ok (.iconst 2, 1) := by decide +kernel
theorem dL_law_288 : decode cL_law 288 = .ok (.iadd, 1) := by decide +kernel
theorem dL_law_289 : decode cL_law 289 = .ok (.iaload, 1) := by decide +kernel
theorem dL_law_290 : decode cL_law 290 = .ok (.invokevirtual 30, 3) := by decide +kernel
theorem dL_law_293 : decode cL_law 293 = .ok (.if_icmp .eq 804, 3) := by decide +kernel
theorem dL_law_296 : decode cL_law 296 = .ok (.iconst 0, 1) := by decide +kernel
theorem dL_law_297 : decode cL_law 297 = .ok (.ireturn, 1) := by decide +kernel
theorem dL_law_298 : decode cL_law 298 = .ok (.aload_n 1, 1) := by decide +kernel
theorem dL_law_299 : decode cL_law 299 = .ok (.aload_n 0, 1) := by decide +kernel
theorem dL_law_300 : decode cL_law 300 = .ok (.iload_n 3, 1) := by decide +kernel
theorem dL_law_301 : decode cL_law 301 = .ok (.iconst 1, 1) := by decide +kernel
theorem dL_law_302 : decode cL_law 302 = .ok (.iadd, 1) := by decide +kernel
theorem dL_law_303 : decode cL_law 303 = .ok (.iaload, 1) := by decide +kernel
theorem dL_law_304 : decode cL_law 304 = .ok (.invokevirtual 31, 3) := by decide +kernel
theorem dL_law_307 : decode cL_law 307 = .ok (.aload_n 2, 1) := by decide +kernel
theorem dL_law_308 : decode cL_law 308 = .ok (.aload_n 0, 1) := by decide +kernel
theorem dL_law_309 : decode cL_law 309 = .ok (.iload_n 3, 1) := by decide +kernel
theorem dL_law_310 : decode cL_law 310 = .ok (.iconst 1, 1) := by decide +kernel
theorem dL_law_311 : decode cL_law 311 = .ok (.iadd, 1) := by decide +kernel
theorem dL_law_312 : decode cL_law 312 = .ok (.iaload, 1) := by decide +kernel
theorem dL_law_313 : decode cL_law 313 = .ok (.invokevirtual 35, 3) := by decide +kernel
theorem dL_law_316 : decode cL_law 316 = .ok (.if_icmp .eq 781, 3) := by decide +kernel
theorem dL_law_319 : decode cL_law 319 = .ok (.iconst 0, 1) := by decide +kernel
theorem dL_law_320 : decode cL_law 320 = .ok (.ireturn, 1) := by decide +kernel
theorem dL_law_321 : decode cL_law 321 = .ok (.aload_n 1, 1) := by decide +kernel
theorem dL_law_322 : decode cL_law 322 = .ok (.invokevirtual 36, 3) := by decide +kernel
theorem dL_law_325 : decode cL_law 325 = .ok (.aload_n 2, 1) := by decide +kernel
theorem dL_law_326 : decode cL_law 326 = .ok (.invokevirtual 40, 3) := by decide +kernel
theorem dL_law_329 : decode cL_law 329 = .ok (.if_icmp .eq 768, 3) := by decide +kernel
theorem dL_law_332 : decode cL_law 332 = .ok (.iconst 0, 1) := by decide +kernel
theorem dL_law_333 : decode cL_law 333 = .ok (.ireturn, 1) := by decide +kernel
theorem dL_law_334 : decode cL_law 334 = .ok (.aload_n 1, 1) := by decide +kernel
theorem dL_law_335 : decode cL_law 335 = .ok (.aload_n 0, 1) := by decide +kernel
theorem dL_law_336 : decode cL_law 336 = .ok (.iload_n 3, 1) := by decide +kernel
theorem dL_law_337 : decode cL_law 337 = .ok (.iconst 1, 1) := by decide +kernel
theorem dL_law_338 : decode cL_law 338 = .ok (.iadd, 1) := by decide +kernel
theorem dL_law_339 : decode cL_law 339 = .ok (.iaload, 1) := by decide +kernel
theorem dL_law_340 : decode cL_law 340 = .ok (.invokevirtual 41, 3) := by decide +kernel
theorem dL_law_343 : decode cL_law 343 = .ok (.aload_n 2, 1) := by decide +kernel
theorem dL_law_344 : decode cL_law 344 = .ok (.aload_n 0, 1) := by decide +kernel
theorem dL_law_345 : decode cL_law 345 = .ok (.iload_n 3, 1) := by decide +kernel
theorem dL_law_346 : decode cL_law 346 = .ok (.iconst 1, 1) := by decide +kernel
theorem dL_law_347 : decode cL_law 347 = .ok (.iadd, 1) := by decide +kernel
theorem dL_law_348 : decode cL_law 348 = .ok (.iaload, 1) := by decide +kernel
theorem dL_law_349 : decode cL_law 349 = .ok (.invokevirtual 44, 3) := by decide +kernel
theorem dL_law_352 : decode cL_law 352 = .ok (.if_icmp .eq 745, 3) := by decide +kernel
theorem dL_law_355 : decode cL_law 355 = .ok (.iconst 0, 1) := by decide +kernel
theorem dL_law_356 : decode cL_law 356 = .ok (.ireturn, 1) := by decide +kernel
theorem dL_law_357 : decode cL_law 357 = .ok (.aload_n 1, 1) := by decide +kernel
theorem dL_law_358 : decode cL_law 358 = .ok (.aload_n 0, 1) := by decide +kernel
theorem dL_law_359 : decode cL_law 359 = .ok (.iload_n 3, 1) := by decide +kernel
theorem dL_law_360 : decode cL_law 360 = .ok (.iconst 1, 1) := by decide +kernel
theorem dL_law_361 : decode cL_law 361 = .ok (.iadd, 1) := by decide +kernel
theorem dL_law_362 : decode cL_law 362 = .ok (.iaload, 1) := by decide +kernel
theorem dL_law_363 : decode cL_law 363 = .ok (.aload_n 0, 1) := by decide +kernel
theorem dL_law_364 : decode cL_law 364 = .ok (.iload_n 3, 1) := by decide +kernel
theorem dL_law_365 : decode cL_law 365 = .ok (.iconst 2, 1) := by decide +kernel
theorem dL_law_366 : decode cL_law 366 = .ok (.iadd, 1) := by decide +kernel
theorem dL_law_367 : decode cL_law 367 = .ok (.iaload, 1) := by decide +kernel
theorem dL_law_368 : decode cL_law 368 = .ok (.aload_n 0, 1) := by decide +kernel
theorem dL_law_369 : decode cL_law 369 = .ok (.iload_n 3, 1) := by decide +kernel
theorem dL_law_370 : decode cL_law 370 = .ok (.iconst 3, 1) := by decide +kernel
theorem dL_law_371 : decode cL_law 371 = .ok (.iadd, 1) := by decide +kernel
theorem dL_law_372 : decode cL_law 372 = .ok (.iaload, 1) := by decide +kernel
theorem dL_law_373 : decode cL_law 373 = .ok (.invokevirtual 45, 3) := by decide +kernel
theorem dL_law_376 : decode cL_law 376 = .ok (.aload_n 2, 1) := by decide +kernel
theorem dL_law_377 : decode cL_law 377 = .ok (.aload_n 0, 1) := by decide +kernel
theorem dL_law_378 : decode cL_law 378 = .ok (.iload_n 3, 1) := by decide +kernel
theorem dL_law_379 : decode cL_law 379 = .ok (.iconst 1, 1) := by decide +kernel
theorem dL_law_380 : decode cL_law 380 = .ok (.iadd, 1) := by decide +kernel
theorem dL_law_381 : decode cL_law 381 = .ok (.iaload, 1) := by decide +kernel
theorem dL_law_382 : decode cL_law 382 = .ok (.aload_n 0, 1) := by decide +kernel
theorem dL_law_383 : decode cL_law 383 = .ok (.iload_n 3, 1) := by decide +kernel
theorem dL_law_384 : decode cL_law 384 = .ok (.iconst 2, 1) := by decide +kernel
theorem dL_law_385 : decode cL_law 385 = .ok (.iadd, 1) := by decide +kernel
theorem dL_law_386 : decode cL_law 386 = .ok (.iaload, 1) := by decide +kernel
theorem dL_law_387 : decode cL_law 387 = .ok (.aload_n 0, 1) := by decide +kernel
theorem dL_law_388 : decode cL_law 388 = .ok (.iload_n 3, 1) := by decide +kernel
theorem dL_law_389 : decode cL_law 389 = .ok (.iconst 3, 1) := by decide +kernel
theorem dL_law_390 : decode cL_law 390 = .ok (.iadd, 1) := by decide +kernel
theorem dL_law_391 : decode cL_law 391 = .ok (.iaload, 1) := by decide +kernel
theorem dL_law_392 : decode cL_law 392 = .ok (.invokevirtual 48, 3) := by decide +kernel
theorem dL_law_395 : decode cL_law 395 = .ok (.if_icmp .eq 702, 3) := by decide +kernel
theorem dL_law_398 : decode cL_law 398 = .ok (.iconst 0, 1) := by decide +kernel
theorem dL_law_399 : decode cL_law 399 = .ok (.ireturn, 1) := by decide +kernel
theorem dL_law_400 : decode cL_law 400 = .ok (.aload_n 1, 1) := by decide +kernel
theorem dL_law_401 : decode cL_law 401 = .ok (.aload_n 0, 1) := by decide +kernel
theorem dL_law_402 : decode cL_law 402 = .ok (.iload_n 3, 1) := by decide +kernel
theorem dL_law_403 : decode cL_law 403 = .ok (.iconst 1, 1) := by decide +kernel
theorem dL_law_404 : decode cL_law 404 = .ok (.iadd, 1) := by decide +kernel
theorem dL_law_405 : decode cL_law 405 = .ok (.iaload, 1) := by decide +kernel
theorem dL_law_406 : decode cL_law 406 = .ok (.invokevirtual 49, 3) := by decide +kernel
theorem dL_law_409 : decode cL_law 409 = .ok (.aload_n 2, 1) := by decide +kernel
theorem dL_law_410 : decode cL_law 410 = .ok (.aload_n 0, 1) := by decide +kernel
theorem dL_law_411 : decode cL_law 411 = .ok (.iload_n 3, 1) := by decide +kernel
theorem dL_law_412 : decode cL_law 412 = .ok (.iconst 1, 1) := by decide +kernel
theorem dL_law_413 : decode cL_law 413 = .ok (.iadd, 1) := by decide +kernel
theorem dL_law_414 : decode cL_law 414 = .ok (.iaload, 1) := by decide +kernel
theorem dL_law_415 : decode cL_law 415 = .ok (.invokevirtual 52, 3) := by decide +kernel
theorem dL_law_418 : decode cL_law 418 = .ok (.if_icmp .eq 679, 3) := by decide +kernel
theorem dL_law_421 : decode cL_law 421 = .ok (.iconst 0, 1) := by decide +kernel
theorem dL_law_422 : decode cL_law 422 = .ok (.ireturn, 1) := by decide +kernel
theorem dL_law_423 : decode cL_law 423 = .ok (.aload_n 1, 1) := by decide +kernel
theorem dL_law_424 : decode cL_law 424 = .ok (.aload_n 0, 1) := by decide +kernel
theorem dL_law_425 : decode cL_law 425 = .ok (.iload_n 3, 1) := by decide +kernel
theorem dL_law_426 : decode cL_law 426 = .ok (.iconst 1, 1) := by decide +kernel
theorem dL_law_427 : decode cL_law 427 = .ok (.iadd, 1) := by decide +kernel
theorem dL_law_428 : decode cL_law 428 = .ok (.iaload, 1) := by decide +kernel
theorem dL_law_429 : decode cL_law 429 = .ok (.aload_n 0, 1) := by decide +kernel
theorem dL_law_430 : decode cL_law 430 = .ok (.iload_n 3, 1) := by decide +kernel
theorem dL_law_431 : decode cL_law 431 = .ok (.iconst 2, 1) := by decide +kernel
theorem dL_law_432 : decode cL_law 432 = .ok (.iadd, 1) := by decide +kernel
theorem dL_law_433 : decode cL_law 433 = .ok (.iaload, 1) := by decide +kernel
theorem dL_law_434 : decode cL_law 434 = .ok (.aload_n 0, 1) := by decide +kernel
theorem dL_law_435 : decode cL_law 435 = .ok (.iload_n 3, 1) := by decide +kernel
theorem dL_law_436 : decode cL_law 436 = .ok (.iconst 3, 1) := by decide +kernel
theorem dL_law_437 : decode cL_law 437 = .ok (.iadd, 1) := by decide +kernel
theorem dL_law_438 : decode cL_law 438 = .ok (.iaload, 1) := by decide +kernel
theorem dL_law_439 : decode cL_law 439 = .ok (.invokevirtual 53, 3) := by decide +kernel
theorem dL_law_442 : decode cL_law 442 = .ok (.aload_n 2, 1) := by decide +kernel
theorem dL_law_443 : decode cL_law 443 = .ok (.aload_n 0, 1) := by decide +kernel
theorem dL_law_444 : decode cL_law 444 = .ok (.iload_n 3, 1) := by decide +kernel
theorem dL_law_445 : decode cL_law 445 = .ok (.iconst 1, 1) := by decide +kernel
theorem dL_law_446 : decode cL_law 446 = .ok (.iadd, 1) := by decide +kernel
theorem dL_law_447 : decode cL_law 447 = .ok (.iaload, 1) := by decide +kernel
theorem dL_law_448 : decode cL_law 448 = .ok (.aload_n 0, 1) := by decide +kernel
theorem dL_law_449 : decode cL_law 449 = .ok (.iload_n 3, 1) := by decide +kernel
theorem dL_law_450 : decode cL_law 450 = .ok (.iconst 2, 1) := by decide +kernel
theorem dL_law_451 : decode cL_law 451 = .ok (.iadd, 1) := by decide +kernel
theorem dL_law_452 : decode cL_law 452 = .ok (.iaload, 1) := by decide +kernel
theorem dL_law_453 : decode cL_law 453 = .ok (.aload_n 0, 1) := by decide +kernel
theorem dL_law_454 : decode cL_law 454 = .ok (.iload_n 3, 1) := by decide +kernel
theorem dL_law_455 : decode cL_law 455 = .ok (.iconst 3, 1) := by decide +kernel
theorem dL_law_456 : decode cL_law 456 = .ok (.iadd, 1) := by decide +kernel
theorem dL_law_457 : decode cL_law 457 = .ok (.iaload, 1) := by decide +kernel
theorem dL_law_458 : decode cL_law 458 = .ok (.invokevirtual 56, 3) := by decide +kernel
theorem dL_law_461 : decode cL_law 461 = .ok (.if_icmp .eq 636, 3) := by decide +kernel
theorem dL_law_464 : decode cL_law 464 = .ok (.iconst 0, 1) := by decide +kernel
theorem dL_law_465 : decode cL_law 465 = .ok (.ireturn, 1) := by decide +kernel
theorem dL_law_466 : decode cL_law 466 = .ok (.aload_n 1, 1) := by decide +kernel
theorem dL_law_467 : decode cL_law 467 = .ok (.aload_n 0, 1) := by decide +kernel
theorem dL_law_468 : decode cL_law 468 = .ok (.iload_n 3, 1) := by decide +kernel
theorem dL_law_469 : decode cL_law 469 = .ok (.iconst 1, 1) := by decide +kernel
theorem dL_law_470 : decode cL_law 470 = .ok (.iadd, 1) := by decide +kernel
theorem dL_law_471 : decode cL_law 471 = .ok (.iaload, 1) := by decide +kernel
theorem dL_law_472 : decode cL_law 472 = .ok (.aload_n 0, 1) := by decide +kernel
theorem dL_law_473 : decode cL_law 473 = .ok (.iload_n 3, 1) := by decide +kernel
theorem dL_law_474 : decode cL_law 474 = .ok (.iconst 2, 1) := by decide +kernel
theorem dL_law_475 : decode cL_law 475 = .ok (.iadd, 1) := by decide +kernel
theorem dL_law_476 : decode cL_law 476 = .ok (.iaload, 1) := by decide +kernel
theorem dL_law_477 : decode cL_law 477 = .ok (.invokevirtual 57, 3) := by decide +kernel
theorem dL_law_480 : decode cL_law 480 = .ok (.aload_n 2, 1) := by decide +kernel
theorem dL_law_481 : decode cL_law 481 = .ok (.aload_n 0, 1) := by decide +kernel
theorem dL_law_482 : decode cL_law 482 = .ok (.iload_n 3, 1) := by decide +kernel
theorem dL_law_483 : decode cL_law 483 = .ok (.iconst 1, 1) := by decide +kernel
theorem dL_law_484 : decode cL_law 484 = .ok (.iadd, 1) := by decide +kernel
theorem dL_law_485 : decode cL_law 485 = .ok (.iaload, 1) := by decide +kernel
theorem dL_law_486 : decode cL_law 486 = .ok (.aload_n 0, 1) := by decide +kernel
theorem dL_law_487 : decode cL_law 487 = .ok (.iload_n 3, 1) := by decide +kernel
theorem dL_law_488 : decode cL_law 488 = .ok (.iconst 2, 1) := by decide +kernel
theorem dL_law_489 : decode cL_law 489 = .ok (.iadd, 1) := by decide +kernel
theorem dL_law_490 : decode cL_law 490 = .ok (.iaload, 1) := by decide +kernel
theorem dL_law_491 : decode cL_law 491 = .ok (.invokevirtual 60, 3) := by decide +kernel
theorem dL_law_494 : decode cL_law 494 = .ok (.if_icmp .eq 603, 3) := by decide +kernel
theorem dL_law_497 : decode cL_law 497 = .ok (.iconst 0, 1) := by decide +kernel
theorem dL_law_498 : decode cL_law 498 = .ok (.ireturn, 1) := by decide +kernel
theorem dL_law_499 : decode cL_law 499 = .ok (.aload_n 1, 1) := by decide +kernel
theorem dL_law_500 : decode cL_law 500 = .ok (.invokevirtual 61, 3) := by decide +kernel
theorem dL_law_503 : decode cL_law 503 = .ok (.aload_n 2, 1) := by decide +kernel
theorem dL_law_504 : decode cL_law 504 = .ok (.invokevirtual 64, 3) := by decide +kernel
theorem dL_law_507 : decode cL_law 507 = .ok (.if_icmp .eq 590, 3) := by decide +kernel
theorem dL_law_510 : decode cL_law 510 = .ok (.iconst 0, 1) := by decide +kernel
theorem dL_law_511 : decode cL_law 511 = .ok (.ireturn, 1) := by decide +kernel
theorem dL_law_512 : decode cL_law 512 = .ok (.aload_n 1, 1) := by decide +kernel
theorem dL_law_513 : decode cL_law 513 = .ok (.aload_n 0, 1) := by decide +kernel
theorem dL_law_514 : decode cL_law 514 = .ok (.iload_n 3, 1) := by decide +kernel
theorem dL_law_515 : decode cL_law 515 = .ok (.iconst 1, 1) := by decide +kernel
theorem dL_law_516 : decode cL_law 516 = .ok (.iadd, 1) := by decide +kernel
theorem dL_law_517 : decode cL_law 517 = .ok (.iaload, 1) := by decide +kernel
theorem dL_law_518 : decode cL_law 518 = .ok (.aload_n 0, 1) := by decide +kernel
theorem dL_law_519 : decode cL_law 519 = .ok (.iload_n 3, 1) := by decide +kernel
theorem dL_law_520 : decode cL_law 520 = .ok (.iconst 2, 1) := by decide +kernel
theorem dL_law_521 : decode cL_law 521 = .ok (.iadd, 1) := by decide +kernel
theorem dL_law_522 : decode cL_law 522 = .ok (.iaload, 1) := by decide +kernel
theorem dL_law_523 : decode cL_law 523 = .ok (.invokevirtual 65, 3) := by decide +kernel
theorem dL_law_526 : decode cL_law 526 = .ok (.aload_n 2, 1) := by decide +kernel
theorem dL_law_527 : decode cL_law 527 = .ok (.aload_n 0, 1) := by decide +kernel
theorem dL_law_528 : decode cL_law 528 = .ok (.iload_n 3, 1) := by decide +kernel
theorem dL_law_529 : decode cL_law 529 = .ok (.iconst 1, 1) := by decide +kernel
theorem dL_law_530 : decode cL_law 530 = .ok (.iadd, 1) := by decide +kernel
theorem dL_law_531 : decode cL_law 531 = .ok (.iaload, 1) := by decide +kernel
theorem dL_law_532 : decode cL_law 532 = .ok (.aload_n 0, 1) := by decide +kernel
theorem dL_law_533 : decode cL_law 533 = .ok (.iload_n 3, 1) := by decide +kernel
theorem dL_law_534 : decode cL_law 534 = .ok (.iconst 2, 1) := by decide +kernel
theorem dL_law_535 : decode cL_law 535 = .ok (.iadd, 1) := by decide +kernel
theorem dL_law_536 : decode cL_law 536 = .ok (.iaload, 1) := by decide +kernel
theorem dL_law_537 : decode cL_law 537 = .ok (.invokevirtual 68, 3) := by decide +kernel
theorem dL_law_540 : decode cL_law 540 = .ok (.if_icmp .eq 557, 3) := by decide +kernel
theorem dL_law_543 : decode cL_law 543 = .ok (.iconst 0, 1) := by decide +kernel
theorem dL_law_544 : decode cL_law 544 = .ok (.ireturn, 1) := by decide +kernel
theorem dL_law_545 : decode cL_law 545 = .ok (.aload_n 1, 1) := by decide +kernel
theorem dL_law_546 : decode cL_law 546 = .ok (.aload_n 0, 1) := by decide +kernel
theorem dL_law_547 : decode cL_law 547 = .ok (.iload_n 3, 1) := by decide +kernel
theorem dL_law_548 : decode cL_law 548 = .ok (.iconst 1, 1) := by decide +kernel
theorem dL_law_549 : decode cL_law 549 = .ok (.iadd, 1) := by decide +kernel
theorem dL_law_550 : decode cL_law 550 = .ok (.iaload, 1) := by decide +kernel
theorem dL_law_551 : decode cL_law 551 = .ok (.invokevirtual 69, 3) := by decide +kernel
theorem dL_law_554 : decode cL_law 554 = .ok (.aload_n 2, 1) := by decide +kernel
theorem dL_law_555 : decode cL_law 555 = .ok (.aload_n 0, 1) := by decide +kernel
theorem dL_law_556 : decode cL_law 556 = .ok (.iload_n 3, 1) := by decide +kernel
theorem dL_law_557 : decode cL_law 557 = .ok (.iconst 1, 1) := by decide +kernel
theorem dL_law_558 : decode cL_law 558 = .ok (.iadd, 1) := by decide +kernel
theorem dL_law_559 : decode cL_law 559 = .ok (.iaload, 1) := by decide +kernel
theorem dL_law_560 : decode cL_law 560 = .ok (.invokevirtual 72, 3) := by decide +kernel
theorem dL_law_563 : decode cL_law 563 = .ok (.if_icmp .eq 534, 3) := by decide +kernel
theorem dL_law_566 : decode cL_law 566 = .ok (.iconst 0, 1) := by decide +kernel
theorem dL_law_567 : decode cL_law 567 = .ok (.ireturn, 1) := by decide +kernel
theorem dL_law_568 : decode cL_law 568 = .ok (.aload_n 1, 1) := by decide +kernel
theorem dL_law_569 : decode cL_law 569 = .ok (.invokevirtual 73, 3) := by decide +kernel
theorem dL_law_572 : decode cL_law 572 = .ok (.aload_n 2, 1) := by decide +kernel
theorem dL_law_573 : decode cL_law 573 = .ok (.invokevirtual 76, 3) := by decide +kernel
theorem dL_law_576 : decode cL_law 576 = .ok (.if_icmp .eq 521, 3) := by decide +kernel
theorem dL_law_579 : decode cL_law 579 = .ok (.iconst 0, 1) := by decide +kernel
theorem dL_law_580 : decode cL_law 580 = .ok (.ireturn, 1) := by decide +kernel
theorem dL_law_581 : decode cL_law 581 = .ok (.aload_n 1, 1) := by decide +kernel
theorem dL_law_582 : decode cL_law 582 = .ok (.aload_n 0, 1) := by decide +kernel
theorem dL_law_583 : decode cL_law 583 = .ok (.iload_n 3, 1) := by decide +kernel
theorem dL_law_584 : decode cL_law 584 = .ok (.iconst 1, 1) := by decide +kernel
theorem dL_law_585 : decode cL_law 585 = .ok (.iadd, 1) := by decide +kernel
theorem dL_law_586 : decode cL_law 586 = .ok (.iaload, 1) := by decide +kernel
theorem dL_law_587 : decode cL_law 587 = .ok (.invokevirtual 77, 3) := by decide +kernel
theorem dL_law_590 : decode cL_law 590 = .ok (.aload_n 2, 1) := by decide +kernel
theorem dL_law_591 : decode cL_law 591 = .ok (.aload_n 0, 1) := by decide +kernel
theorem dL_law_592 : decode cL_law 592 = .ok (.iload_n 3, 1) := by decide +kernel
theorem dL_law_593 : decode cL_law 593 = .ok (.iconst 1, 1) := by decide +kernel
theorem dL_law_594 : decode cL_law 594 = .ok (.iadd, 1) := by decide +kernel
theorem dL_law_595 : decode cL_law 595 = .ok (.iaload, 1) := by decide +kernel
theorem dL_law_596 : decode cL_law 596 = .ok (.invokevirtual 80, 3) := by decide +kernel
theorem dL_law_599 : decode cL_law 599 = .ok (.if_icmp .eq 498, 3) := by decide +kernel
theorem dL_law_602 : decode cL_law 602 = .ok (.iconst 0, 1) := by decide +kernel
theorem dL_law_603 : decode cL_law 603 = .ok (.ireturn, 1) := by decide +kernel
theorem dL_law_604 : decode cL_law 604 = .ok (.aload_n 1, 1) := by decide +kernel
theorem dL_law_605 : decode cL_law 605 = .ok (.aload_n 0, 1) := by decide +kernel
theorem dL_law_606 : decode cL_law 606 = .ok (.iload_n 3, 1) := by decide +kernel
theorem dL_law_607 : decode cL_law 607 = .ok (.iconst 1, 1) := by decide +kernel
theorem dL_law_608 : decode cL_law 608 = .ok (.iadd, 1) := by decide +kernel
theorem dL_law_609 : decode cL_law 609 = .ok (.iaload, 1) := by decide +kernel
theorem dL_law_610 : decode cL_law 610 = .ok (.aload_n 0, 1) := by decide +kernel
theorem dL_law_611 : decode cL_law 611 = .ok (.iload_n 3, 1) := by decide +kernel
theorem dL_law_612 : decode cL_law 612 = .ok (.iconst 2, 1) := by decide +kernel
theorem dL_law_613 : decode cL_law 613 = .ok (.iadd, 1) := by decide +kernel
theorem dL_law_614 : decode cL_law 614 = .ok (.iaload, 1) := by decide +kernel
theorem dL_law_615 : decode cL_law 615 = .ok (.aload_n 0, 1) := by decide +kernel
theorem dL_law_616 : decode cL_law 616 = .ok (.iload_n 3, 1) := by decide +kernel
theorem dL_law_617 : decode cL_law 617 = .ok (.iconst 3, 1) := by decide +kernel
theorem dL_law_618 : decode cL_law 618 = .ok (.iadd, 1) := by decide +kernel
theorem dL_law_619 : decode cL_law 619 = .ok (.iaload, 1) := by decide +kernel
theorem dL_law_620 : decode cL_law 620 = .ok (.invokevirtual 81, 3) := by decide +kernel
theorem dL_law_623 : decode cL_law 623 = .ok (.aload_n 2, 1) := by decide +kernel
theorem dL_law_624 : decode cL_law 624 = .ok (.aload_n 0, 1) := by decide +kernel
theorem dL_law_625 : decode cL_law 625 = .ok (.iload_n 3, 1) := by decide +kernel
theorem dL_law_626 : decode cL_law 626 = .ok (.iconst 1, 1) := by decide +kernel
theorem dL_law_627 : decode cL_law 627 = .ok (.iadd, 1) := by decide +kernel
theorem dL_law_628 : decode cL_law 628 = .ok (.iaload, 1) := by decide +kernel
theorem dL_law_629 : decode cL_law 629 = .ok (.aload_n 0, 1) := by decide +kernel
theorem dL_law_630 : decode cL_law 630 = .ok (.iload_n 3, 1) := by decide +kernel
theorem dL_law_631 : decode cL_law 631 = .ok (.iconst 2, 1) := by decide +kernel
theorem dL_law_632 : decode cL_law 632 = .ok (.iadd, 1) := by decide +kernel
theorem dL_law_633 : decode cL_law 633 = .ok (.iaload, 1) := by decide +kernel
theorem dL_law_634 : decode cL_law 634 = .ok (.aload_n 0, 1) := by decide +kernel
theorem dL_law_635 : decode cL_law 635 = .ok (.iload_n 3, 1) := by decide +kernel
theorem dL_law_636 : decode cL_law 636 = .ok (.iconst 3, 1) := by decide +kernel
theorem dL_law_637 : decode cL_law 637 = .ok (.iadd, 1) := by decide +kernel
theorem dL_law_638 : decode cL_law 638 = .ok (.iaload, 1) := by decide +kernel
theorem dL_law_639 : decode cL_law 639 = .ok (.invokevirtual 84, 3) := by decide +kernel
theorem dL_law_642 : decode cL_law 642 = .ok (.if_icmp .eq 455, 3) := by decide +kernel
theorem dL_law_645 : decode cL_law 645 = .ok (.iconst 0, 1) := by decide +kernel
theorem dL_law_646 : decode cL_law 646 = .ok (.ireturn, 1) := by decide +kernel
theorem dL_law_647 : decode cL_law 647 = .ok (.aload_n 1, 1) := by decide +kernel
theorem dL_law_648 : decode cL_law 648 = .ok (.aload_n 0, 1) := by decide +kernel
theorem dL_law_649 : decode cL_law 649 = .ok (.iload_n 3, 1) := by decide +kernel
theorem dL_law_650 : decode cL_law 650 = .ok (.iconst 1, 1) := by decide +kernel
theorem dL_law_651 : decode cL_law 651 = .ok (.iadd, 1) := by decide +kernel
theorem dL_law_652 : decode cL_law 652 = .ok (.iaload, 1) := by decide +kernel
theorem dL_law_653 : decode cL_law 653 = .ok (.aload_n 0, 1) := by decide +kernel
theorem dL_law_654 : decode cL_law 654 = .ok (.iload_n 3, 1) := by decide +kernel
theorem dL_law_655 : decode cL_law 655 = .ok (.iconst 2, 1) := by decide +kernel
theorem dL_law_656 : decode cL_law 656 = .ok (.iadd, 1) := by decide +kernel
theorem dL_law_657 : decode cL_law 657 = .ok (.iaload, 1) := by decide +kernel
theorem dL_law_658 : decode cL_law 658 = .ok (.aload_n 0, 1) := by decide +kernel
theorem dL_law_659 : decode cL_law 659 = .ok (.iload_n 3, 1) := by decide +kernel
theorem dL_law_660 : decode cL_law 660 = .ok (.iconst 3, 1) := by decide +kernel
theorem dL_law_661 : decode cL_law 661 = .ok (.iadd, 1) := by decide +kernel
theorem dL_law_662 : decode cL_law 662 = .ok (.iaload, 1) := by decide +kernel
theorem dL_law_663 : decode cL_law 663 = .ok (.aload_n 0, 1) := by decide +kernel
theorem dL_law_664 : decode cL_law 664 = .ok (.iload_n 3, 1) := by decide +kernel
theorem dL_law_665 : decode cL_law 665 = .ok (.iconst 4, 1) := by decide +kernel
theorem dL_law_666 : decode cL_law 666 = .ok (.iadd, 1) := by decide +kernel
theorem dL_law_667 : decode cL_law 667 = .ok (.iaload, 1) := by decide +kernel
theorem dL_law_668 : decode cL_law 668 = .ok (.aload_n 0, 1) := by decide +kernel
theorem dL_law_669 : decode cL_law 669 = .ok (.iload_n 3, 1) := by decide +kernel
theorem dL_law_670 : decode cL_law 670 = .ok (.iconst 5, 1) := by decide +kernel
theorem dL_law_671 : decode cL_law 671 = .ok (.iadd, 1) := by decide +kernel
theorem dL_law_672 : decode cL_law 672 = .ok (.iaload, 1) := by decide +kernel
theorem dL_law_673 : decode cL_law 673 = .ok (.invokevirtual 85, 3) := by decide +kernel
theorem dL_law_676 : decode cL_law 676 = .ok (.aload_n 2, 1) := by decide +kernel
theorem dL_law_677 : decode cL_law 677 = .ok (.aload_n 0, 1) := by decide +kernel
theorem dL_law_678 : decode cL_law 678 = .ok (.iload_n 3, 1) := by decide +kernel
theorem dL_law_679 : decode cL_law 679 = .ok (.iconst 1, 1) := by decide +kernel
theorem dL_law_680 : decode cL_law 680 = .ok (.iadd, 1) := by decide +kernel
theorem dL_law_681 : decode cL_law 681 = .ok (.iaload, 1) := by decide +kernel
theorem dL_law_682 : decode cL_law 682 = .ok (.aload_n 0, 1) := by decide +kernel
theorem dL_law_683 : decode cL_law 683 = .ok (.iload_n 3, 1) := by decide +kernel
theorem dL_law_684 : decode cL_law 684 = .ok (.iconst 2, 1) := by decide +kernel
theorem dL_law_685 : decode cL_law 685 = .ok (.iadd, 1) := by decide +kernel
theorem dL_law_686 : decode cL_law 686 = .ok (.iaload, 1) := by decide +kernel
theorem dL_law_687 : decode cL_law 687 = .ok (.aload_n 0, 1) := by decide +kernel
theorem dL_law_688 : decode cL_law 688 = .ok (.iload_n 3, 1) := by decide +kernel
theorem dL_law_689 : decode cL_law 689 = .ok (.iconst 3, 1) := by decide +kernel
theorem dL_law_690 : decode cL_law 690 = .ok (.iadd, 1) := by decide +kernel
theorem dL_law_691 : decode cL_law 691 = .ok (.iaload, 1) := by decide +kernel
theorem dL_law_692 : decode cL_law 692 = .ok (.aload_n 0, 1) := by decide +kernel
theorem dL_law_693 : decode cL_law 693 = .ok (.iload_n 3, 1) := by decide +kernel
theorem dL_law_694 : decode cL_law 694 = .ok (.iconst 4, 1) := by decide +kernel
theorem dL_law_695 : decode cL_law 695 = .ok (.iadd, 1) := by decide +kernel
theorem dL_law_696 : decode cL_law 696 = .ok (.iaload, 1) := by decide +kernel
theorem dL_law_697 : decode cL_law 697 = .ok (.aload_n 0, 1) := by decide +kernel
theorem dL_law_698 : decode cL_law 698 = .ok (.iload_n 3, 1) := by decide +kernel
theorem dL_law_699 : decode cL_law 699 = .ok (.iconst 5, 1) := by decide +kernel
theorem dL_law_700 : decode cL_law 700 = .ok (.iadd, 1) := by decide +kernel
theorem dL_law_701 : decode cL_law 701 = .ok (.iaload, 1) := by decide +kernel
theorem dL_law_702 : decode cL_law 702 = .ok (.invokevirtual 89, 3) := by decide +kernel
theorem dL_law_705 : decode cL_law 705 = .ok (.if_icmp .eq 392, 3) := by decide +kernel
theorem dL_law_708 : decode cL_law 708 = .ok (.iconst 0, 1) := by decide +kernel
theorem dL_law_709 : decode cL_law 709 = .ok (.ireturn, 1) := by decide +kernel
theorem dL_law_710 : decode cL_law 710 = .ok (.aload_n 1, 1) := by decide +kernel
theorem dL_law_711 : decode cL_law 711 = .ok (.aload_n 0, 1) := by decide +kernel
theorem dL_law_712 : decode cL_law 712 = .ok (.iload_n 3, 1) := by decide +kernel
theorem dL_law_713 : decode cL_law 713 = .ok (.iconst 1, 1) := by decide +kernel
theorem dL_law_714 : decode cL_law 714 = .ok (.iadd, 1) := by decide +kernel
theorem dL_law_715 : decode cL_law 715 = .ok (.iaload, 1) := by decide +kernel
theorem dL_law_716 : decode cL_law 716 = .ok (.aload_n 0, 1) := by decide +kernel
theorem dL_law_717 : decode cL_law 717 = .ok (.iload_n 3, 1) := by decide +kernel
theorem dL_law_718 : decode cL_law 718 = .ok (.iconst 2, 1) := by decide +kernel
theorem dL_law_719 : decode cL_law 719 = .ok (.iadd, 1) := by decide +kernel
theorem dL_law_720 : decode cL_law 720 = .ok (.iaload, 1) := by decide +kernel
theorem dL_law_721 : decode cL_law 721 = .ok (.invokevirtual 90, 3) := by decide +kernel
theorem dL_law_724 : decode cL_law 724 = .ok (.aload_n 2, 1) := by decide +kernel
theorem dL_law_725 : decode cL_law 725 = .ok (.aload_n 0, 1) := by decide +kernel
theorem dL_law_726 : decode cL_law 726 = .ok (.iload_n 3, 1) := by decide +kernel
theorem dL_law_727 : decode cL_law 727 = .ok (.iconst 1, 1) := by decide +kernel
theorem dL_law_728 : decode cL_law 728 = .ok (.iadd, 1) := by decide +kernel
theorem dL_law_729 : decode cL_law 729 = .ok (.iaload, 1) := by decide +kernel
theorem dL_law_730 : decode cL_law 730 = .ok (.aload_n 0, 1) := by decide +kernel
theorem dL_law_731 : decode cL_law 731 = .ok (.iload_n 3, 1) := by decide +kernel
theorem dL_law_732 : decode cL_law 732 = .ok (.iconst 2, 1) := by decide +kernel
theorem dL_law_733 : decode cL_law 733 = .ok (.iadd, 1) := by decide +kernel
theorem dL_law_734 : decode cL_law 734 = .ok (.iaload, 1) := by decide +kernel
theorem dL_law_735 : decode cL_law 735 = .ok (.invokevirtual 93, 3) := by decide +kernel
theorem dL_law_738 : decode cL_law 738 = .ok (.if_icmp .eq 359, 3) := by decide +kernel
theorem dL_law_741 : decode cL_law 741 = .ok (.iconst 0, 1) := by decide +kernel
theorem dL_law_742 : decode cL_law 742 = .ok (.ireturn, 1) := by decide +kernel
theorem dL_law_743 : decode cL_law 743 = .ok (.aload_n 1, 1) := by decide +kernel
theorem dL_law_744 : decode cL_law 744 = .ok (.invokevirtual 94, 3) := by decide +kernel
theorem dL_law_747 : decode cL_law 747 = .ok (.aload_n 2, 1) := by decide +kernel
theorem dL_law_748 : decode cL_law 748 = .ok (.invokevirtual 97, 3) := by decide +kernel
theorem dL_law_751 : decode cL_law 751 = .ok (.if_icmp .eq 346, 3) := by decide +kernel
theorem dL_law_754 : decode cL_law 754 = .ok (.iconst 0, 1) := by decide +kernel
theorem dL_law_755 : decode cL_law 755 = .ok (.ireturn, 1) := by decide +kernel
theorem dL_law_756 : decode cL_law 756 = .ok (.aload_n 1, 1) := by decide +kernel
theorem dL_law_757 : decode cL_law 757 = .ok (.invokevirtual 98, 3) := by decide +kernel
theorem dL_law_760 : decode cL_law 760 = .ok (.aload_n 2, 1) := by decide +kernel
theorem dL_law_761 : decode cL_law 761 = .ok (.invokevirtual 101, 3) := by decide +kernel
theorem dL_law_764 : decode cL_law 764 = .ok (.if_icmp .eq 333, 3) := by decide +kernel
theorem dL_law_767 : decode cL_law 767 = .ok (.iconst 0, 1) := by decide +kernel
theorem dL_law_768 : decode cL_law 768 = .ok (.ireturn, 1) := by decide +kernel
theorem dL_law_769 : decode cL_law 769 = .ok (.aload_n 1, 1) := by decide +kernel
theorem dL_law_770 : decode cL_law 770 = .ok (.aload_n 0, 1) := by decide +kernel
theorem dL_law_771 : decode cL_law 771 = .ok (.iload_n 3, 1) := by decide +kernel
theorem dL_law_772 : decode cL_law 772 = .ok (.iconst 1, 1) := by decide +kernel
theorem dL_law_773 : decode cL_law 773 = .ok (.iadd, 1) := by decide +kernel
theorem dL_law_774 : decode cL_law 774 = .ok (.iaload, 1) := by decide +kernel
theorem dL_law_775 : decode cL_law 775 = .ok (.aload_n 0, 1) := by decide +kernel
theorem dL_law_776 : decode cL_law 776 = .ok (.iload_n 3, 1) := by decide +kernel
theorem dL_law_777 : decode cL_law 777 = .ok (.iconst 2, 1) := by decide +kernel
theorem dL_law_778 : decode cL_law 778 = .ok (.iadd, 1) := by decide +kernel
theorem dL_law_779 : decode cL_law 779 = .ok (.iaload, 1) := by decide +kernel
theorem dL_law_780 : decode cL_law 780 = .ok (.aload_n 0, 1) := by decide +kernel
theorem dL_law_781 : decode cL_law 781 = .ok (.iload_n 3, 1) := by decide +kernel
theorem dL_law_782 : decode cL_law 782 = .ok (.iconst 3, 1) := by decide +kernel
theorem dL_law_783 : decode cL_law 783 = .ok (.iadd, 1) := by decide +kernel
theorem dL_law_784 : decode cL_law 784 = .ok (.iaload, 1) := by decide +kernel
theorem dL_law_785 : decode cL_law 785 = .ok (.aload_n 0, 1) := by decide +kernel
theorem dL_law_786 : decode cL_law 786 = .ok (.iload_n 3, 1) := by decide +kernel
theorem dL_law_787 : decode cL_law 787 = .ok (.iconst 4, 1) := by decide +kernel
theorem dL_law_788 : decode cL_law 788 = .ok (.iadd, 1) := by decide +kernel
theorem dL_law_789 : decode cL_law 789 = .ok (.iaload, 1) := by decide +kernel
theorem dL_law_790 : decode cL_law 790 = .ok (.aload_n 0, 1) := by decide +kernel
theorem dL_law_791 : decode cL_law 791 = .ok (.iload_n 3, 1) := by decide +kernel
theorem dL_law_792 : decode cL_law 792 = .ok (.iconst 5, 1) := by decide +kernel
theorem dL_law_793 : decode cL_law 793 = .ok (.iadd, 1) := by decide +kernel
theorem dL_law_794 : decode cL_law 794 = .ok (.iaload, 1) := by decide +kernel
theorem dL_law_795 : decode cL_law 795 = .ok (.invokevirtual 102, 3) := by decide +kernel
theorem dL_law_798 : decode cL_law 798 = .ok (.aload_n 2, 1) := by decide +kernel
theorem dL_law_799 : decode cL_law 799 = .ok (.aload_n 0, 1) := by decide +kernel
theorem dL_law_800 : decode cL_law 800 = .ok (.iload_n 3, 1) := by decide +kernel
theorem dL_law_801 : decode cL_law 801 = .ok (.iconst 1, 1) := by decide +kernel
theorem dL_law_802 : decode cL_law 802 = .ok (.iadd, 1) := by decide +kernel
theorem dL_law_803 : decode cL_law 803 = .ok (.iaload, 1) := by decide +kernel
theorem dL_law_804 : decode cL_law 804 = .ok (.aload_n 0, 1) := by decide +kernel
theorem dL_law_805 : decode cL_law 805 = .ok (.iload_n 3, 1) := by decide +kernel
theorem dL_law_806 : decode cL_law 806 = .ok (.iconst 2, 1) := by decide +kernel
theorem dL_law_807 : decode cL_law 807 = .ok (.iadd, 1) := by decide +kernel
theorem dL_law_808 : decode cL_law 808 = .ok (.iaload, 1) := by decide +kernel
theorem dL_law_809 : decode cL_law 809 = .ok (.aload_n 0, 1) := by decide +kernel
theorem dL_law_810 : decode cL_law 810 = .ok (.iload_n 3, 1) := by decide +kernel
theorem dL_law_811 : decode cL_law 811 = .ok (.iconst 3, 1) := by decide +kernel
theorem dL_law_812 : decode cL_law 812 = .ok (.iadd, 1) := by decide +kernel
theorem dL_law_813 : decode cL_law 813 = .ok (.iaload, 1) := by decide +kernel
theorem dL_law_814 : decode cL_law 814 = .ok (.aload_n 0, 1) := by decide +kernel
theorem dL_law_815 : decode cL_law 815 = .ok (.iload_n 3, 1) := by decide +kernel
theorem dL_law_816 : decode cL_law 816 = .ok (.iconst 4, 1) := by decide +kernel
theorem dL_law_817 : decode cL_law 817 = .ok (.iadd, 1) := by decide +kernel
theorem dL_law_818 : decode cL_law 818 = .ok (.iaload, 1) := by decide +kernel
theorem dL_law_819 : decode cL_law 819 = .ok (.aload_n 0, 1) := by decide +kernel
theorem dL_law_820 : decode cL_law 820 = .ok (.iload_n 3, 1) := by decide +kernel
theorem dL_law_821 : decode cL_law 821 = .ok (.iconst 5, 1) := by decide +kernel
theorem dL_law_822 : decode cL_law 822 = .ok (.iadd, 1) := by decide +kernel
theorem dL_law_823 : decode cL_law 823 = .ok (.iaload, 1) := by decide +kernel
theorem dL_law_824 : decode cL_law 824 = .ok (.invokevirtual 105, 3) := by decide +kernel
theorem dL_law_827 : decode cL_law 827 = .ok (.if_icmp .eq 270, 3) := by decide +kernel
theorem dL_law_830 : decode cL_law 830 = .ok (.iconst 0, 1) := by decide +kernel
theorem dL_law_831 : decode cL_law 831 = .ok (.ireturn, 1) := by decide +kernel
theorem dL_law_832 : decode cL_law 832 = .ok (.aload_n 1, 1) := by decide +kernel
theorem dL_law_833 : decode cL_law 833 = .ok (.aload_n 0, 1) := by decide +kernel
theorem dL_law_834 : decode cL_law 834 = .ok (.iload_n 3, 1) := by decide +kernel
theorem dL_law_835 : decode cL_law 835 = .ok (.iconst 1, 1) := by decide +kernel
theorem dL_law_836 : decode cL_law 836 = .ok (.iadd, 1) := by decide +kernel
theorem dL_law_837 : decode cL_law 837 = .ok (.iaload, 1) := by decide +kernel
theorem dL_law_838 : decode cL_law 838 = .ok (.aload_n 0, 1) := by decide +kernel
theorem dL_law_839 : decode cL_law 839 = .ok (.iload_n 3, 1) := by decide +kernel
theorem dL_law_840 : decode cL_law 840 = .ok (.iconst 2, 1) := by decide +kernel
theorem dL_law_841 : decode cL_law 841 = .ok (.iadd, 1) := by decide +kernel
theorem dL_law_842 : decode cL_law 842 = .ok (.iaload, 1) := by decide +kernel
theorem dL_law_843 : decode cL_law 843 = .ok (.aload_n 0, 1) := by decide +kernel
theorem dL_law_844 : decode cL_law 844 = .ok (.iload_n 3, 1) := by decide +kernel
theorem dL_law_845 : decode cL_law 845 = .ok (.iconst 3, 1) := by decide +kernel
theorem dL_law_846 : decode cL_law 846 = .ok (.iadd, 1) := by decide +kernel
theorem dL_law_847 : decode cL_law 847 = .ok (.iaload, 1) := by decide +kernel
theorem dL_law_848 : decode cL_law 848 = .ok (.aload_n 0, 1) := by decide +kernel
theorem dL_law_849 : decode cL_law 849 = .ok (.iload_n 3, 1) := by decide +kernel
theorem dL_law_850 : decode cL_law 850 = .ok (.iconst 4, 1) := by decide +kernel
theorem dL_law_851 : decode cL_law 851 = .ok (.iadd, 1) := by decide +kernel
theorem dL_law_852 : decode cL_law 852 = .ok (.iaload, 1) := by decide +kernel
theorem dL_law_853 : decode cL_law 853 = .ok (.invokevirtual 106, 3) := by decide +kernel
theorem dL_law_856 : decode cL_law 856 = .ok (.aload_n 2, 1) := by decide +kernel
theorem dL_law_857 : decode cL_law 857 = .ok (.aload_n 0, 1) := by decide +kernel
theorem dL_law_858 : decode cL_law 858 = .ok (.iload_n 3, 1) := by decide +kernel
theorem dL_law_859 : decode cL_law 859 = .ok (.iconst 1, 1) := by decide +kernel
theorem dL_law_860 : decode cL_law 860 = .ok (.iadd, 1) := by decide +kernel
theorem dL_law_861 : decode cL_law 861 = .ok (.iaload, 1) := by decide +kernel
theorem dL_law_862 : decode cL_law 862 = .ok (.aload_n 0, 1) := by decide +kernel
theorem dL_law_863 : decode cL_law 863 = .ok (.iload_n 3, 1) := by decide +kernel
theorem dL_law_864 : decode cL_law 864 = .ok (.iconst 2, 1) := by decide +kernel
theorem dL_law_865 : decode cL_law 865 = .ok (.iadd, 1) := by decide +kernel
theorem dL_law_866 : decode cL_law 866 = .ok (.iaload, 1) := by decide +kernel
theorem dL_law_867 : decode cL_law 867 = .ok (.aload_n 0, 1) := by decide +kernel
theorem dL_law_868 : decode cL_law 868 = .ok (.iload_n 3, 1) := by decide +kernel
theorem dL_law_869 : decode cL_law 869 = .ok (.iconst 3, 1) := by decide +kernel
theorem dL_law_870 : decode cL_law 870 = .ok (.iadd, 1) := by decide +kernel
theorem dL_law_871 : decode cL_law 871 = .ok (.iaload, 1) := by decide +kernel
theorem dL_law_872 : decode cL_law 872 = .ok (.aload_n 0, 1) := by decide +kernel
theorem dL_law_873 : decode cL_law 873 = .ok (.iload_n 3, 1) := by decide +kernel
theorem dL_law_874 : decode cL_law 874 = .ok (.iconst 4, 1) := by decide +kernel
theorem dL_law_875 : decode cL_law 875 = .ok (.iadd, 1) := by decide +kernel
theorem dL_law_876 : decode cL_law 876 = .ok (.iaload, 1) := by decide +kernel
theorem dL_law_877 : decode cL_law 877 = .ok (.invokevirtual 110, 3) := by decide +kernel
theorem dL_law_880 : decode cL_law 880 = .ok (.if_icmp .eq 217, 3) := by decide +kernel
theorem dL_law_883 : decode cL_law 883 = .ok (.iconst 0, 1) := by decide +kernel
theorem dL_law_884 : decode cL_law 884 = .ok (.ireturn, 1) := by decide +kernel
theorem dL_law_885 : decode cL_law 885 = .ok (.aload_n 1, 1) := by decide +kernel
theorem dL_law_886 : decode cL_law 886 = .ok (.aload_n 0, 1) := by decide +kernel
theorem dL_law_887 : decode cL_law 887 = .ok (.iload_n 3, 1) := by decide +kernel
theorem dL_law_888 : decode cL_law 888 = .ok (.iconst 1, 1) := by decide +kernel
theorem dL_law_889 : decode cL_law 889 = .ok (.iadd, 1) := by decide +kernel
theorem dL_law_890 : decode cL_law 890 = .ok (.iaload, 1) := by decide +kernel
theorem dL_law_891 : decode cL_law 891 = .ok (.aload_n 0, 1) := by decide +kernel
theorem dL_law_892 : decode cL_law 892 = .ok (.iload_n 3, 1) := by decide +kernel
theorem dL_law_893 : decode cL_law 893 = .ok (.iconst 2, 1) := by decide +kernel
theorem dL_law_894 : decode cL_law 894 = .ok (.iadd, 1) := by decide +kernel
theorem dL_law_895 : decode cL_law 895 = .ok (.iaload, 1) := by decide +kernel
theorem dL_law_896 : decode cL_law 896 = .ok (.aload_n 0, 1) := by decide +kernel
theorem dL_law_897 : decode cL_law 897 = .ok (.iload_n 3, 1) := by decide +kernel
theorem dL_law_898 : decode cL_law 898 = .ok (.iconst 3, 1) := by decide +kernel
theorem dL_law_899 : decode cL_law 899 = .ok (.iadd, 1) := by decide +kernel
theorem dL_law_900 : decode cL_law 900 = .ok (.iaload, 1) := by decide +kernel
theorem dL_law_901 : decode cL_law 901 = .ok (.invokevirtual 111, 3) := by decide +kernel
theorem dL_law_904 : decode cL_law 904 = .ok (.aload_n 2, 1) := by decide +kernel
theorem dL_law_905 : decode cL_law 905 = .ok (.aload_n 0, 1) := by decide +kernel
theorem dL_law_906 : decode cL_law 906 = .ok (.iload_n 3, 1) := by decide +kernel
theorem dL_law_907 : decode cL_law 907 = .ok (.iconst 1, 1) := by decide +kernel
theorem dL_law_908 : decode cL_law 908 = .ok (.iadd, 1) := by decide +kernel
theorem dL_law_909 : decode cL_law 909 = .ok (.iaload, 1) := by decide +kernel
theorem dL_law_910 : decode cL_law 910 = .ok (.aload_n 0, 1) := by decide +kernel
theorem dL_law_911 : decode cL_law 911 = .ok (.iload_n 3, 1) := by decide +kernel
theorem dL_law_912 : decode cL_law 912 = .ok (.iconst 2, 1) := by decide +kernel
theorem dL_law_913 : decode cL_law 913 = .ok (.iadd, 1) := by decide +kernel
theorem dL_law_914 : decode cL_law 914 = .ok (.iaload, 1) := by decide +kernel
theorem dL_law_915 : decode cL_law 915 = .ok (.aload_n 0, 1) := by decide +kernel
theorem dL_law_916 : decode cL_law 916 = .ok (.iload_n 3, 1) := by decide +kernel
theorem dL_law_917 : decode cL_law 917 = .ok (.iconst 3, 1) := by decide +kernel
theorem dL_law_918 : decode cL_law 918 = .ok (.iadd, 1) := by decide +kernel
theorem dL_law_919 : decode cL_law 919 = .ok (.iaload, 1) := by decide +kernel
theorem dL_law_920 : decode cL_law 920 = .ok (.invokevirtual 114, 3) := by decide +kernel
theorem dL_law_923 : decode cL_law 923 = .ok (.if_icmp .eq 174, 3) := by decide +kernel
theorem dL_law_926 : decode cL_law 926 = .ok (.iconst 0, 1) := by decide +kernel
theorem dL_law_927 : decode cL_law 927 = .ok (.ireturn, 1) := by decide +kernel
theorem dL_law_928 : decode cL_law 928 = .ok (.aload_n 1, 1) := by decide +kernel
theorem dL_law_929 : decode cL_law 929 = .ok (.aload_n 0, 1) := by decide +kernel
theorem dL_law_930 : decode cL_law 930 = .ok (.iload_n 3, 1) := by decide +kernel
theorem dL_law_931 : decode cL_law 931 = .ok (.iconst 1, 1) := by decide +kernel
theorem dL_law_932 : decode cL_law 932 = .ok (.iadd, 1) := by decide +kernel
theorem dL_law_933 : decode cL_law 933 = .ok (.iaload, 1) := by decide +kernel
theorem dL_law_934 : decode cL_law 934 = .ok (.invokevirtual 115, 3) := by decide +kernel
theorem dL_law_937 : decode cL_law 937 = .ok (.aload_n 2, 1) := by decide +kernel
theorem dL_law_938 : decode cL_law 938 = .ok (.aload_n 0, 1) := by decide +kernel
theorem dL_law_939 : decode cL_law 939 = .ok (.iload_n 3, 1) := by decide +kernel
theorem dL_law_940 : decode cL_law 940 = .ok (.iconst 1, 1) := by decide +kernel
theorem dL_law_941 : decode cL_law 941 = .ok (.iadd, 1) := by decide +kernel
theorem dL_law_942 : decode cL_law 942 = .ok (.iaload, 1) := by decide +kernel
theorem dL_law_943 : decode cL_law 943 = .ok (.invokevirtual 118, 3) := by decide +kernel
theorem dL_law_946 : decode cL_law 946 = .ok (.if_icmp .eq 151, 3) := by decide +kernel
theorem dL_law_949 : decode cL_law 949 = .ok (.iconst 0, 1) := by decide +kernel
theorem dL_law_950 : decode cL_law 950 = .ok (.ireturn, 1) := by decide +kernel
theorem dL_law_951 : decode cL_law 951 = .ok (.aload_n 1, 1) := by decide +kernel
theorem dL_law_952 : decode cL_law 952 = .ok (.aload_n 0, 1) := by decide +kernel
theorem dL_law_953 : decode cL_law 953 = .ok (.iload_n 3, 1) := by decide +kernel
theorem dL_law_954 : decode cL_law 954 = .ok (.iconst 1, 1) := by decide +kernel
theorem dL_law_955 : decode cL_law 955 = .ok (.iadd, 1) := by decide +kernel
theorem dL_law_956 : decode cL_law 956 = .ok (.iaload, 1) := by decide +kernel
theorem dL_law_957 : decode cL_law 957 = .ok (.aload_n 0, 1) := by decide +kernel
theorem dL_law_958 : decode cL_law 958 = .ok (.iload_n 3, 1) := by decide +kernel
theorem dL_law_959 : decode cL_law 959 = .ok (.iconst 2, 1) := by decide +kernel
theorem dL_law_960 : decode cL_law 960 = .ok (.iadd, 1) := by decide +kernel
theorem dL_law_961 : decode cL_law 961 = .ok (.iaload, 1) := by decide +kernel
theorem dL_law_962 : decode cL_law 962 = .ok (.aload_n 0, 1) := by decide +kernel
theorem dL_law_963 : decode cL_law 963 = .ok (.iload_n 3, 1) := by decide +kernel
theorem dL_law_964 : decode cL_law 964 = .ok (.iconst 3, 1) := by decide +kernel
theorem dL_law_965 : decode cL_law 965 = .ok (.iadd, 1) := by decide +kernel
theorem dL_law_966 : decode cL_law 966 = .ok (.iaload, 1) := by decide +kernel
theorem dL_law_967 : decode cL_law 967 = .ok (.aload_n 0, 1) := by decide +kernel
theorem dL_law_968 : decode cL_law 968 = .ok (.iload_n 3, 1) := by decide +kernel
theorem dL_law_969 : decode cL_law 969 = .ok (.iconst 4, 1) := by decide +kernel
theorem dL_law_970 : decode cL_law 970 = .ok (.iadd, 1) := by decide +kernel
theorem dL_law_971 : decode cL_law 971 = .ok (.iaload, 1) := by decide +kernel
theorem dL_law_972 : decode cL_law 972 = .ok (.i2l, 1) := by decide +kernel
theorem dL_law_973 : decode cL_law 973 = .ok (.bipush 32, 2) := by decide +kernel
theorem dL_law_975 : decode cL_law 975 = .ok (.lshl, 1) := by decide +kernel
theorem dL_law_976 : decode cL_law 976 = .ok (.aload_n 0, 1) := by decide +kernel
theorem dL_law_977 : decode cL_law 977 = .ok (.iload_n 3, 1) := by decide +kernel
theorem dL_law_978 : decode cL_law 978 = .ok (.iconst 5, 1) := by decide +kernel
theorem dL_law_979 : decode cL_law 979 = .ok (.iadd, 1) := by decide +kernel
theorem dL_law_980 : decode cL_law 980 = .ok (.iaload, 1) := by decide +kernel
theorem dL_law_981 : decode cL_law 981 = .ok (.i2l, 1) := by decide +kernel
theorem dL_law_982 : decode cL_law 982 = .ok (.ldc2_w 119, 3) := by decide +kernel
theorem dL_law_985 : decode cL_law 985 = .ok (.land, 1) := by decide +kernel
theorem dL_law_986 : decode cL_law 986 = .ok (.lor, 1) := by decide +kernel
theorem dL_law_987 : decode cL_law 987 = .ok (.invokevirtual 121, 3) := by decide +kernel
theorem dL_law_990 : decode cL_law 990 = .ok (.aload_n 2, 1) := by decide +kernel
theorem dL_law_991 : decode cL_law 991 = .ok (.aload_n 0, 1) := by decide +kernel
theorem dL_law_992 : decode cL_law 992 = .ok (.iload_n 3, 1) := by decide +kernel
theorem dL_law_993 : decode cL_law 993 = .ok (.iconst 1, 1) := by decide +kernel
theorem dL_law_994 : decode cL_law 994 = .ok (.iadd, 1) := by decide +kernel
theorem dL_law_995 : decode cL_law 995 = .ok (.iaload, 1) := by decide +kernel
theorem dL_law_996 : decode cL_law 996 = .ok (.aload_n 0, 1) := by decide +kernel
theorem dL_law_997 : decode cL_law 997 = .ok (.iload_n 3, 1) := by decide +kernel
theorem dL_law_998 : decode cL_law 998 = .ok (.iconst 2, 1) := by decide +kernel
theorem dL_law_999 : decode cL_law 999 = .ok (.iadd, 1) := by decide +kernel
theorem dL_law_1000 : decode cL_law 1000 = .ok (.iaload, 1) := by decide +kernel
theorem dL_law_1001 : decode cL_law 1001 = .ok (.aload_n 0, 1) := by decide +kernel
theorem dL_law_1002 : decode cL_law 1002 = .ok (.iload_n 3, 1) := by decide +kernel
theorem dL_law_1003 : decode cL_law 1003 = .ok (.iconst 3, 1) := by decide +kernel
theorem dL_law_1004 : decode cL_law 1004 = .ok (.iadd, 1) := by decide +kernel
theorem dL_law_1005 : decode cL_law 1005 = .ok (.iaload, 1) := by decide +kernel
theorem dL_law_1006 : decode cL_law 1006 = .ok (.aload_n 0, 1) := by decide +kernel
theorem dL_law_1007 : decode cL_law 1007 = .ok (.iload_n 3, 1) := by decide +kernel
theorem dL_law_1008 : decode cL_law 1008 = .ok (.iconst 4, 1) := by decide +kernel
theorem dL_law_1009 : decode cL_law 1009 = .ok (.iadd, 1) := by decide +kernel
theorem dL_law_1010 : decode cL_law 1010 = .ok (.iaload, 1) := by decide +kernel
theorem dL_law_1011 : decode cL_law 1011 = .ok (.i2l, 1) := by decide +kernel
theorem dL_law_1012 : decode cL_law 1012 = .ok (.bipush 32, 2) := by decide +kernel
theorem dL_law_1014 : decode cL_law 1014 = .ok (.lshl, 1) := by decide +kernel
theorem dL_law_1015 : decode cL_law 1015 = .ok (.aload_n 0, 1) := by decide +kernel
theorem dL_law_1016 : decode cL_law 1016 = .ok (.iload_n 3, 1) := by decide +kernel
theorem dL_law_1017 : decode cL_law 1017 = .ok (.iconst 5, 1) := by decide +kernel
theorem dL_law_1018 : decode cL_law 1018 = .ok (.iadd, 1) := by decide +kernel
theorem dL_law_1019 : decode cL_law 1019 = .ok (.iaload, 1) := by decide +kernel
theorem dL_law_1020 : decode cL_law 1020 = .ok (.i2l, 1) := by decide +kernel
theorem dL_law_1021 : decode cL_law 1021 = .ok (.ldc2_w 119, 3) := by decide +kernel
theorem dL_law_1024 : decode cL_law 1024 = .ok (.land, 1) := by decide +kernel
theorem dL_law_1025 : decode cL_law 1025 = .ok (.lor, 1) := by decide +kernel
theorem dL_law_1026 : decode cL_law 1026 = .ok (.invokevirtual 125, 3) := by decide +kernel
theorem dL_law_1029 : decode cL_law 1029 = .ok (.if_icmp .eq 68, 3) := by decide +kernel
theorem dL_law_1032 : decode cL_law 1032 = .ok (.iconst 0, 1) := by decide +kernel
theorem dL_law_1033 : decode cL_law 1033 = .ok (.ireturn, 1) := by decide +kernel
theorem dL_law_1034 : decode cL_law 1034 = .ok (.aload_n 1, 1) := by decide +kernel
theorem dL_law_1035 : decode cL_law 1035 = .ok (.aload_n 0, 1) := by decide +kernel
theorem dL_law_1036 : decode cL_law 1036 = .ok (.iload_n 3, 1) := by decide +kernel
theorem dL_law_1037 : decode cL_law 1037 = .ok (.iconst 1, 1) := by decide +kernel
theorem dL_law_1038 : decode cL_law 1038 = .ok (.iadd, 1) := by decide +kernel
theorem dL_law_1039 : decode cL_law 1039 = .ok (.iaload, 1) := by decide +kernel
theorem dL_law_1040 : decode cL_law 1040 = .ok (.aload_n 0, 1) := by decide +kernel
theorem dL_law_1041 : decode cL_law 1041 = .ok (.iload_n 3, 1) := by decide +kernel
theorem dL_law_1042 : decode cL_law 1042 = .ok (.iconst 2, 1) := by decide +kernel
theorem dL_law_1043 : decode cL_law 1043 = .ok (.iadd, 1) := by decide +kernel
theorem dL_law_1044 : decode cL_law 1044 = .ok (.iaload, 1) := by decide +kernel
theorem dL_law_1045 : decode cL_law 1045 = .ok (.aload_n 0, 1) := by decide +kernel
theorem dL_law_1046 : decode cL_law 1046 = .ok (.iload_n 3, 1) := by decide +kernel
theorem dL_law_1047 : decode cL_law 1047 = .ok (.iconst 3, 1) := by decide +kernel
theorem dL_law_1048 : decode cL_law 1048 = .ok (.iadd, 1) := by decide +kernel
theorem dL_law_1049 : decode cL_law 1049 = .ok (.iaload, 1) := by decide +kernel
theorem dL_law_1050 : decode cL_law 1050 = .ok (.aload_n 0, 1) := by decide +kernel
theorem dL_law_1051 : decode cL_law 1051 = .ok (.iload_n 3, 1) := by decide +kernel
theorem dL_law_1052 : decode cL_law 1052 = .ok (.iconst 4, 1) := by decide +kernel
theorem dL_law_1053 : decode cL_law 1053 = .ok (.iadd, 1) := by decide +kernel
theorem dL_law_1054 : decode cL_law 1054 = .ok (.iaload, 1) := by decide +kernel
theorem dL_law_1055 : decode cL_law 1055 = .ok (.aload_n 0, 1) := by decide +kernel
theorem dL_law_1056 : decode cL_law 1056 = .ok (.iload_n 3, 1) := by decide +kernel
theorem dL_law_1057 : decode cL_law 1057 = .ok (.iconst 5, 1) := by decide +kernel
theorem dL_law_1058 : decode cL_law 1058 = .ok (.iadd, 1) := by decide +kernel
theorem dL_law_1059 : decode cL_law 1059 = .ok (.iaload, 1) := by decide +kernel
theorem dL_law_1060 : decode cL_law 1060 = .ok (.invokevirtual 126, 3) := by decide +kernel
theorem dL_law_1063 : decode cL_law 1063 = .ok (.aload_n 2, 1) := by decide +kernel
theorem dL_law_1064 : decode cL_law 1064 = .ok (.aload_n 0, 1) := by decide +kernel
theorem dL_law_1065 : decode cL_law 1065 = .ok (.iload_n 3, 1) := by decide +kernel
theorem dL_law_1066 : decode cL_law 1066 = .ok (.iconst 1, 1) := by decide +kernel
theorem dL_law_1067 : decode cL_law 1067 = .ok (.iadd, 1) := by decide +kernel
theorem dL_law_1068 : decode cL_law 1068 = .ok (.iaload, 1) := by decide +kernel
theorem dL_law_1069 : decode cL_law 1069 = .ok (.aload_n 0, 1) := by decide +kernel
theorem dL_law_1070 : decode cL_law 1070 = .ok (.iload_n 3, 1) := by decide +kernel
theorem dL_law_1071 : decode cL_law 1071 = .ok (.iconst 2, 1) := by decide +kernel
theorem dL_law_1072 : decode cL_law 1072 = .ok (.iadd, 1) := by decide +kernel
theorem dL_law_1073 : decode cL_law 1073 = .ok (.iaload, 1) := by decide +kernel
theorem dL_law_1074 : decode cL_law 1074 = .ok (.aload_n 0, 1) := by decide +kernel
theorem dL_law_1075 : decode cL_law 1075 = .ok (.iload_n 3, 1) := by decide +kernel
theorem dL_law_1076 : decode cL_law 1076 = .ok (.iconst 3, 1) := by decide +kernel
theorem dL_law_1077 : decode cL_law 1077 = .ok (.iadd, 1) := by decide +kernel
theorem dL_law_1078 : decode cL_law 1078 = .ok (.iaload, 1) := by decide +kernel
theorem dL_law_1079 : decode cL_law 1079 = .ok (.aload_n 0, 1) := by decide +kernel
theorem dL_law_1080 : decode cL_law 1080 = .ok (.iload_n 3, 1) := by decide +kernel
theorem dL_law_1081 : decode cL_law 1081 = .ok (.iconst 4, 1) := by decide +kernel
theorem dL_law_1082 : decode cL_law 1082 = .ok (.iadd, 1) := by decide +kernel
theorem dL_law_1083 : decode cL_law 1083 = .ok (.iaload, 1) := by decide +kernel
theorem dL_law_1084 : decode cL_law 1084 = .ok (.aload_n 0, 1) := by decide +kernel
theorem dL_law_1085 : decode cL_law 1085 = .ok (.iload_n 3, 1) := by decide +kernel
theorem dL_law_1086 : decode cL_law 1086 = .ok (.iconst 5, 1) := by decide +kernel
theorem dL_law_1087 : decode cL_law 1087 = .ok (.iadd, 1) := by decide +kernel
theorem dL_law_1088 : decode cL_law 1088 = .ok (.iaload, 1) := by decide +kernel
theorem dL_law_1089 : decode cL_law 1089 = .ok (.invokevirtual 129, 3) := by decide +kernel
theorem dL_law_1092 : decode cL_law 1092 = .ok (.if_icmp .eq 5, 3) := by decide +kernel
theorem dL_law_1095 : decode cL_law 1095 = .ok (.iconst 0, 1) := by decide +kernel
theorem dL_law_1096 : decode cL_law 1096 = .ok (.ireturn, 1) := by decide +kernel
theorem dL_law_1097 : decode cL_law 1097 = .ok (.iinc 3 6, 3) := by decide +kernel
theorem dL_law_1100 : decode cL_law 1100 = .ok (.goto (-1082), 3) := by decide +kernel
theorem dL_law_1103 : decode cL_law 1103 = .ok (.iconst 1, 1) := by decide +kernel
theorem dL_law_1104 : decode cL_law 1104 = .ok (.ireturn, 1) := by decide +kernel
end
section
/-! A flat memory: places 0 .. 4 are read only (the script, four tables), places from 5 on are made by the run, one behind the other. What stands in place p at index k: an int, a long, or a place (or none). -/
abbrev pk_Sh : Type := (FieldType × Nat) ⊕ Nat
abbrev pk_M : Type := List pk_Sh × (Nat → Nat → Int32) × (Nat → Nat → Int64) × (Nat → Nat → Option Nat)
abbrev pk_T : Type := Launch × va_G × (FieldType → ClassId) × Nat × (Nat → Nat)
def pk_isN : Cond → Bool
  | .fieldLinkNest .. => true
  | .methodLinkNest .. => true
  | .arrayOver (.object _) => true
  | _ => false
/-- the tables' words that stay -/
def pk_tbl : List Cond := lw_tbl.filter (fun w => goodWord w || pk_isN w)
theorem pk_tb {w : Cond} (h : w ∈ lw_tbl) (hg : (goodWord w || pk_isN w) = true) : w ∈ pk_tbl := List.mem_filter.mpr ⟨h, hg⟩
def pk_I (M : pk_M) (p k : Nat) : Int32 := M.2.1 p k
def pk_J (M : pk_M) (p k : Nat) : Int64 := M.2.2.1 p k
def pk_P (M : pk_M) (p k : Nat) : Option Nat := M.2.2.2 p k
def pk_S (M : pk_M) (p : Nat) : Option pk_Sh := M.1[p]?
def pk_sI (M : pk_M) (p k : Nat) (x : Int32) : pk_M := (M.1, fun q j => if q = p ∧ j = k then x else M.2.1 q j, M.2.2.1, M.2.2.2)
def pk_sJ (M : pk_M) (p k : Nat) (x : Int64) : pk_M := (M.1, M.2.1, fun q j => if q = p ∧ j = k then x else M.2.2.1 q j, M.2.2.2)
def pk_sP (M : pk_M) (p k : Nat) (x : Option Nat) : pk_M := (M.1, M.2.1, M.2.2.1, fun q j => if q = p ∧ j = k then x else M.2.2.2 q j)
def pk_cI (M : pk_M) (a i p k n : Nat) : pk_M := (M.1, fun q j => if q = p ∧ k ≤ j ∧ j < k + n then M.2.1 a (i + (j - k)) else M.2.1 q j, M.2.2.1, M.2.2.2)
def pk_cJ (M : pk_M) (a i p k n : Nat) : pk_M := (M.1, M.2.1, fun q j => if q = p ∧ k ≤ j ∧ j < k + n then M.2.2.1 a (i + (j - k)) else M.2.2.1 q j, M.2.2.2)
def pk_nw (M : pk_M) (z : pk_Sh) : pk_M := (M.1 ++ [z], fun q j => if q = M.1.length then 0 else M.2.1 q j, fun q j => if q = M.1.length then 0 else M.2.2.1 q j, fun q j => if q = M.1.length then none else M.2.2.2 q j)
def pk_ga (Γ : pk_T) (k : Nat) : Nat := if k < 5 then Γ.2.2.2.2 k else Γ.2.2.2.1 + (k - 5)
def pk_gv (Γ : pk_T) : Value → Value
  | .ref k => .ref (pk_ga Γ k)
  | v => v
def pk_A (Γ : pk_T) : Nat → Prop := fun q => Γ.2.2.2.1 ≤ q
def pk_fty (ci k : Nat) : FieldType := match ci with
  | 0 => tyX0 k
  | 1 => tyX1 k
  | 2 => tyX2 k
  | 3 => tyX3 k
  | 4 => tyX4 k
  | 5 => tyX5 k
  | 6 => tyX6 k
  | _ => tyX7 k
def pk_fn (ci : Nat) : Nat := match ci with
  | 0 => 7
  | 1 => 1
  | 2 => 2
  | 3 => 4
  | 4 => 7
  | 5 => 7
  | 6 => 12
  | _ => 21
def pk_isRef : FieldType → Bool
  | .array _ => true
  | .object _ => true
  | _ => false
def pk_fld (Γ : pk_T) (M : pk_M) (p ci k : Nat) : Value := if pk_isRef (pk_fty ci k) then va_rf ((M.2.2.2 p k).map (pk_ga Γ)) else .int (M.2.1 p k)
def pk_arr (Γ : pk_T) (M : pk_M) (p : Nat) (ty : FieldType) : (Nat → Int32) ⊕ (Nat → Int64) ⊕ (Nat → UInt32) ⊕ (Nat → UInt64) ⊕ (Nat → Option Nat) := match ty with
  | .long => .inr (.inl (M.2.2.1 p))
  | .object _ => .inr (.inr (.inr (.inr (fun j => (M.2.2.2 p j).map (pk_ga Γ)))))
  | _ => .inl (M.2.1 p)
def pk_cell (Γ : pk_T) (M : pk_M) (p : Nat) (z : pk_Sh) : va_E := match z with
  | .inl (ty, n) => .inl (Γ.2.2.1 ty, n, pk_arr Γ M p ty)
  | .inr ci => .inr (ci, (List.range (pk_fn ci)).map (pk_fld Γ M p ci))
def pk_w (Γ : pk_T) (M : pk_M) : va_W := (M.1.drop 5).mapIdx (fun i z => (Γ.2.2.2.1 + i, pk_cell Γ M (i + 5) z))
theorem pk_w_get (Γ : pk_T) (M : pk_M) (i : Nat) : (pk_w Γ M)[i]? = (M.1[i + 5]?).map (fun z => (Γ.2.2.2.1 + i, pk_cell Γ M (i + 5) z)) := by
  unfold pk_w
  rw [List.getElem?_mapIdx, List.getElem?_drop, Nat.add_comm 5 i]
theorem pk_w_at {Γ : pk_T} {M : pk_M} {p : Nat} {z : pk_Sh} (hp : 5 ≤ p) (hz : pk_S M p = some z) : (pk_w Γ M)[p - 5]? = some (pk_ga Γ p, pk_cell Γ M p z) := by
  have h : p - 5 + 5 = p := by omega
  rw [pk_w_get, h, show M.1[p]? = some z from hz]
  simp [pk_ga, Nat.not_lt.mpr hp]
/-- the same shapes, and the same contents but in place p -/
def pk_off (p : Nat) (M M1 : pk_M) : Prop := M1.1 = M.1 ∧ ∀ q, q ≠ p → M1.2.1 q = M.2.1 q ∧ M1.2.2.1 q = M.2.2.1 q ∧ M1.2.2.2 q = M.2.2.2 q
theorem pk_cell_off {Γ : pk_T} {M M1 : pk_M} {p q : Nat} (h : pk_off p M M1) (hq : q ≠ p) (z : pk_Sh) : pk_cell Γ M1 q z = pk_cell Γ M q z := by
  obtain ⟨-, h⟩ := h
  obtain ⟨h1, h2, h3⟩ := h q hq
  rcases z with ⟨ty, n⟩ | ci
  · simp only [pk_cell, pk_arr, h1, h2, h3]
  · have e : pk_fld Γ M1 q ci = pk_fld Γ M q ci := by
      funext k
      simp only [pk_fld, h1, h3]
    simp only [pk_cell, e]
theorem pk_w_set {Γ : pk_T} {M M1 : pk_M} {p : Nat} {z : pk_Sh} (h : pk_off p M M1) (hp : 5 ≤ p) (hz : pk_S M p = some z) : pk_w Γ M1 = (pk_w Γ M).set (p - 5) (pk_ga Γ p, pk_cell Γ M1 p z) := by
  apply List.ext_getElem?
  intro i
  by_cases hi : i = p - 5
  · subst hi
    have hl : p - 5 < (pk_w Γ M).length := (List.getElem?_eq_some_iff.mp (pk_w_at (Γ := Γ) hp hz)).1
    rw [List.getElem?_set_self hl, pk_w_at (z := z) hp (by show M1.1[p]? = _; rw [h.1]; exact hz)]
  · rw [List.getElem?_set_ne (fun e => hi e.symm), pk_w_get, pk_w_get, h.1]
    have hne : i + 5 ≠ p := by omega
    cases M.1[i + 5]? with
    | none => rfl
    | some z' => simp [pk_cell_off h hne]
theorem pk_off_sI (M : pk_M) (p k : Nat) (x : Int32) : pk_off p M (pk_sI M p k x) := ⟨rfl, fun q hq => ⟨by funext j; simp [pk_sI, hq], rfl, rfl⟩⟩
theorem pk_off_sJ (M : pk_M) (p k : Nat) (x : Int64) : pk_off p M (pk_sJ M p k x) := ⟨rfl, fun q hq => ⟨rfl, by funext j; simp [pk_sJ, hq], rfl⟩⟩
theorem pk_off_sP (M : pk_M) (p k : Nat) (x : Option Nat) : pk_off p M (pk_sP M p k x) := ⟨rfl, fun q hq => ⟨rfl, rfl, by funext j; simp [pk_sP, hq]⟩⟩
theorem pk_off_cI (M : pk_M) (a i p k n : Nat) : pk_off p M (pk_cI M a i p k n) := ⟨rfl, fun q hq => ⟨by funext j; simp [pk_cI, hq], rfl, rfl⟩⟩
theorem pk_off_cJ (M : pk_M) (a i p k n : Nat) : pk_off p M (pk_cJ M a i p k n) := ⟨rfl, fun q hq => ⟨rfl, by funext j; simp [pk_cJ, hq], rfl⟩⟩
theorem pk_cell_nw {Γ : pk_T} {M : pk_M} {z z' : pk_Sh} {q : Nat} (hq : q < M.1.length) : pk_cell Γ (pk_nw M z) q z' = pk_cell Γ M q z' := by
  have hn : q ≠ M.1.length := Nat.ne_of_lt hq
  rcases z' with ⟨ty, n⟩ | ci
  · simp only [pk_cell, pk_arr, pk_nw, hn, if_false]
  · have e : pk_fld Γ (pk_nw M z) q ci = pk_fld Γ M q ci := by
      funext k
      simp only [pk_fld, pk_nw, hn, if_false]
    simp only [pk_cell, e]
theorem pk_w_nw {Γ : pk_T} {M : pk_M} {z : pk_Sh} (h5 : 5 ≤ M.1.length) : pk_w Γ (pk_nw M z) = pk_w Γ M ++ [(pk_ga Γ M.1.length, pk_cell Γ (pk_nw M z) M.1.length z)] := by
  have hl : (pk_w Γ M).length = M.1.length - 5 := by simp [pk_w]
  apply List.ext_getElem?
  intro i
  rw [pk_w_get]
  show ((M.1 ++ [z])[i + 5]?).map _ = _
  by_cases hi : i + 5 < M.1.length
  · rw [List.getElem?_append_left hi, List.getElem?_append_left (by omega), pk_w_get]
    cases M.1[i + 5]? with
    | none => rfl
    | some z' => simp [pk_cell_nw hi]
  · rw [List.getElem?_append_right (by omega), List.getElem?_append_right (by omega), hl]
    by_cases he : i + 5 = M.1.length
    · have e1 : i + 5 - M.1.length = 0 := by omega
      have e2 : i - (M.1.length - 5) = 0 := by omega
      have e3 : M.1.length - 5 = i := by omega
      rw [e1, e2, ← he]
      simp [pk_ga, Nat.not_lt.mpr (by omega : 5 ≤ i + 5)]
    · have e1 : i + 5 - M.1.length ≠ 0 := by omega
      have e2 : i - (M.1.length - 5) ≠ 0 := by omega
      obtain ⟨x, hx⟩ := Nat.exists_eq_succ_of_ne_zero e1
      obtain ⟨y, hy⟩ := Nat.exists_eq_succ_of_ne_zero e2
      rw [hx, hy]
      rfl
/-- the cells are apart, and from the base on -/
theorem pk_w_D (Γ : pk_T) (M : pk_M) : va_D (pk_A Γ) (pk_w Γ M) := by
  have key : ∀ (i : Nat) (q : Nat × va_E), (pk_w Γ M)[i]? = some q → q.1 = Γ.2.2.2.1 + i := by
    intro i q h
    rw [pk_w_get] at h
    cases hz : M.1[i + 5]? with
    | none => rw [hz] at h; cases h
    | some z => rw [hz] at h; cases h; rfl
  refine ⟨fun i j a b hi hj hab => ?_, fun k q hk => ?_⟩
  · have h1 := key i a hi
    have h2 := key j b hj
    omega
  · show Γ.2.2.2.1 ≤ q.1
    rw [key k q hk]
    omega
/-- the tables and their places -/
def pk_st : List (String × Nat) := [("FIRST_TONES", 1), ("SIDE_X", 2), ("SIDE_Y", 3), ("ORDERS_BEHIND", 4)]
def pk_tys (Γ : pk_T) : List (ClassId × FieldType) := [(Γ.2.2.1 .int, .int), (Γ.2.2.1 .boolean, .boolean), (Γ.2.2.1 .long, .long), (Γ.2.2.1 (.object RX4), .object RX4), (Γ.2.2.1 (.object RX3), .object RX3)]
/-- the memory M is what the heap H holds, seen from a machine U -/
def pk_R (Γ : pk_T) (M : pk_M) (U : State) (H : Heap) : Prop :=
  5 ≤ M.1.length ∧ H.size = Γ.2.2.2.1 + (M.1.length - 5) ∧ va_P Γ.2.1 vwCl (pk_w Γ M) H ∧ va_K Γ.2.1 vwCl (pk_tys Γ) U ∧
  (∀ k, k < 5 → ∃ N, pk_S M k = some (.inl (.int, N)) ∧ va_T .int (pk_ga Γ k) N (fun j => .int (M.2.1 k j)) (pk_A Γ) U H) ∧
  (∀ q ∈ pk_st, va_Z RX6 q.1 "[I" (.ref (pk_ga Γ q.2)) (pk_A Γ) U H)
theorem pk_R.moved {Γ : pk_T} {M : pk_M} {u U : State} {H : Heap} (hvm : u.vm.Alike U.vm) (h : pk_R Γ M u H) : pk_R Γ M U H := by
  obtain ⟨h1, h2, h3, h4, h5, h6⟩ := h
  refine ⟨h1, h2, h3, h4.moved hvm, fun k hk => ?_, fun q hq => (h6 q hq).moved hvm⟩
  obtain ⟨N, e1, e2⟩ := h5 k hk
  exact ⟨N, e1, e2.moved hvm⟩
/-- a changed world: the same shapes or more, what is below the base stays -/
theorem pk_R.to {Γ : pk_T} {M M1 : pk_M} {U : State} {H H1 : Heap} (h : pk_R Γ M U H) (hl : 5 ≤ M1.1.length) (hz : H1.size = Γ.2.2.2.1 + (M1.1.length - 5)) (hP : va_P Γ.2.1 vwCl (pk_w Γ M1) H1)
    (ho : ∀ k, k < 5 → pk_S M1 k = pk_S M k ∧ M1.2.1 k = M.2.1 k) (hk : ∀ q : Nat, q < H.size → ¬ pk_A Γ q → H1[q]? = H[q]?) : pk_R Γ M1 U H1 := by
  obtain ⟨h1, h2, h3, h4, h5, h6⟩ := h
  refine ⟨hl, hz, hP, h4, fun k hk5 => ?_, fun q hq => (h6 q hq).kept hk⟩
  obtain ⟨N, e1, e2⟩ := h5 k hk5
  exact ⟨N, by rw [(ho k hk5).1]; exact e1, by rw [(ho k hk5).2]; exact e2.kept hk⟩
end
section
/-! The judgement: from the frame at pc, with the memory M, locals ls, stack st, the machine comes to the end that κ names. -/
abbrev pk_K : Type := String × Nat × Option FieldType × Bool × Room × Array Value × (List Frame → State → State → Prop)
def pk_C (Γ : pk_T) (κ : pk_K) (cc : ByteArray) (p : Program) (s : State) (m : MethodId) (meth : Method) (c : Code) : Prop :=
  p.tables.exec = Jvm.exec ∧ c.code = cc ∧ c.maxLocals = κ.2.1 ∧ meth.sig.returnType = κ.2.2.1 ∧ meth.locks = false ∧ s.vm.findClass κ.1 = some m.cls ∧ (κ.2.2.2.1 = true → meth.name = "<init>") ∧ (∀ w ∈ pk_tbl, w.before κ.2.2.2.2.2.1 s = true) ∧ Γ.2.2.2.1 ≤ s.heap.size
def pk_L (Γ : pk_T) (n : Nat) (ls : List (Option Value)) (arr : Array Slot) : Prop := ls.length = n ∧ arr.size = n ∧ lv_wf arr ∧ ∀ (k : Nat) (v : Value), ls[k]? = some (some v) → arr[k]? = some (.val (pk_gv Γ v))
def pk_G (Γ : pk_T) (κ : pk_K) (cc : ByteArray) (M : pk_M) (ls : List (Option Value)) (st : List Value) (pc cu su : Nat) : Prop :=
  ∀ (p : Program) (e : Env) (s : State) (m : MethodId) (below : List Frame) (meth : Method) (c : Code) (H : Heap) (locs : List Loc) (arr : Array Slot),
    pk_C Γ κ cc p s m meth c → H.size = s.heap.size + cu → pk_R Γ M s H → va_S (pk_A Γ) s.heap H locs → pk_L Γ κ.2.1 ls arr →
    W p Γ.1 e κ.2.2.2.2.1 s m κ.2.2.2.2.2.1 below meth c H locs cu su (κ.2.2.2.2.2.2 below s) (F0 m pc arr (st.map (pk_gv Γ)))
def pk_ok (ls : List (Option Value)) (i : Nat) : Bool := match i with
  | 0 => true
  | j + 1 => match ls[j]? with
    | some (some (.long _)) => false
    | some (some (.double _)) => false
    | _ => true
def pk_prs (Γ : pk_T) (ls : List (Option Value)) : List (Nat × Value) := (List.range ls.length).filterMap (fun k => match ls[k]? with
  | some (some v) => some (k, pk_gv Γ v)
  | _ => none)
theorem pk_prs_mem {Γ : pk_T} {ls : List (Option Value)} {q : Nat × Value} : q ∈ pk_prs Γ ls ↔ ∃ v, ls[q.1]? = some (some v) ∧ q.2 = pk_gv Γ v := by
  unfold pk_prs
  rw [List.mem_filterMap]
  constructor
  · rintro ⟨k, hk, h⟩
    cases hv : ls[k]? with
    | none => rw [hv] at h; cases h
    | some o =>
      cases o with
      | none => rw [hv] at h; cases h
      | some v => rw [hv] at h; cases h; exact ⟨v, hv, rfl⟩
  · rintro ⟨v, hv, e⟩
    refine ⟨q.1, List.mem_range.mpr (List.getElem?_eq_some_iff.mp hv).1, ?_⟩
    rw [hv]
    show some (q.1, pk_gv Γ v) = some q
    rw [← e]
theorem pk_L.has {Γ : pk_T} {n : Nat} {ls : List (Option Value)} {arr : Array Slot} (h : pk_L Γ n ls arr) : lv_has arr n (pk_prs Γ ls) := by
  refine ⟨h.2.1, h.2.2.1, fun q hq => ?_⟩
  obtain ⟨v, hv, e⟩ := pk_prs_mem.mp hq
  rw [e]
  exact h.2.2.2 q.1 v hv
theorem pk_gv_cat (Γ : pk_T) (v : Value) : (pk_gv Γ v).category = v.category := by cases v <;> rfl
theorem pk_L.set1 {Γ : pk_T} {n i : Nat} {ls : List (Option Value)} {arr arr' : Array Slot} {v : Value} (h : pk_L Γ n ls arr) (hok : pk_ok ls i = true) (hi : i < ls.length)
    (h' : lv_has arr' n ((i, pk_gv Γ v) :: (pk_prs Γ ls).filter (fun q => !(q.1 == i) && !(q.1 + 1 == i && q.2.category == 2)))) : pk_L Γ n (ls.set i (some v)) arr' := by
  refine ⟨by rw [List.length_set]; exact h.1, h'.1, h'.2.1, fun k w hk => ?_⟩
  by_cases hki : k = i
  · subst hki
    rw [List.getElem?_set_self hi] at hk
    cases hk
    exact h'.2.2 _ List.mem_cons_self
  · rw [List.getElem?_set_ne (fun e => hki e.symm)] at hk
    refine h'.2.2 (k, pk_gv Γ w) (List.mem_cons_of_mem _ (List.mem_filter.mpr ⟨pk_prs_mem.mpr ⟨w, hk, rfl⟩, ?_⟩))
    have hk1 : (k == i) = false := by simp [hki]
    show (!(k == i) && !(k + 1 == i && (pk_gv Γ w).category == 2)) = true
    rw [hk1, pk_gv_cat]
    by_cases hks : k + 1 = i
    · subst hks
      simp only [pk_ok, hk] at hok
      cases w <;> first | exact absurd hok Bool.false_ne_true | simp [Value.category]
    · simp [hks]
section PkA
variable {Γ : pk_T} {κ : pk_K} {cc : ByteArray} {M : pk_M} {ls : List (Option Value)} {st : List Value} {pc cu su : Nat}
theorem pk_iconst {n : Int} {v : Int32} (hd : decode cc pc = .ok (.iconst n, 1)) (hv : Int32.ofInt n = v) (k : pk_G Γ κ cc M ls (.int v :: st) (pc + 1) cu su) : pk_G Γ κ cc M ls st pc cu su := by
  intro p e s m below meth c H locs arr C hz hR hS hL
  exact lv_iconst C.1 C.2.1 hd hv (k p e s m below meth c H locs arr C hz hR hS hL)
theorem pk_bipush {n : Int} {v : Int32} (hd : decode cc pc = .ok (.bipush n, 2)) (hv : (Int8.ofInt n).toInt32 = v) (k : pk_G Γ κ cc M ls (.int v :: st) (pc + 2) cu su) : pk_G Γ κ cc M ls st pc cu su := by
  intro p e s m below meth c H locs arr C hz hR hS hL
  exact lv_bipush C.1 C.2.1 hd hv (k p e s m below meth c H locs arr C hz hR hS hL)
theorem pk_sipush {n : Int} {v : Int32} (hd : decode cc pc = .ok (.sipush n, 3)) (hv : (Int16.ofInt n).toInt32 = v) (k : pk_G Γ κ cc M ls (.int v :: st) (pc + 3) cu su) : pk_G Γ κ cc M ls st pc cu su := by
  intro p e s m below meth c H locs arr C hz hR hS hL
  exact lv_sipush C.1 C.2.1 hd hv (k p e s m below meth c H locs arr C hz hR hS hL)
theorem pk_lconst {n : Fin 2} {v : Int64} (hd : decode cc pc = .ok (.lconst n, 1)) (hv : Int64.ofNat (n : Nat) = v) (k : pk_G Γ κ cc M ls (.long v :: st) (pc + 1) cu su) : pk_G Γ κ cc M ls st pc cu su := by
  intro p e s m below meth c H locs arr C hz hR hS hL
  exact lv_lconst C.1 C.2.1 hd hv (k p e s m below meth c H locs arr C hz hR hS hL)
theorem pk_iload_n {i : Fin 4} {x : Int32} (hd : decode cc pc = .ok (.iload_n i, 1)) (hl : ls[(i : Nat)]? = some (some (.int x))) (k : pk_G Γ κ cc M ls (.int x :: st) (pc + 1) cu su) : pk_G Γ κ cc M ls st pc cu su := by
  intro p e s m below meth c H locs arr C hz hR hS hL
  exact lv_iload_n C.1 C.2.1 hd rfl (hL.2.2.2 _ _ hl) (k p e s m below meth c H locs arr C hz hR hS hL)
theorem pk_iload {i : Nat} {x : Int32} (hd : decode cc pc = .ok (.iload i, 2)) (hl : ls[i]? = some (some (.int x))) (k : pk_G Γ κ cc M ls (.int x :: st) (pc + 2) cu su) : pk_G Γ κ cc M ls st pc cu su := by
  intro p e s m below meth c H locs arr C hz hR hS hL
  exact lv_iload C.1 C.2.1 hd (hL.2.2.2 _ _ hl) (k p e s m below meth c H locs arr C hz hR hS hL)
theorem pk_lload_n {i : Fin 4} {x : Int64} (hd : decode cc pc = .ok (.lload_n i, 1)) (hl : ls[(i : Nat)]? = some (some (.long x))) (k : pk_G Γ κ cc M ls (.long x :: st) (pc + 1) cu su) : pk_G Γ κ cc M ls st pc cu su := by
  intro p e s m below meth c H locs arr C hz hR hS hL
  exact lv_lload_n C.1 C.2.1 hd rfl (hL.2.2.2 _ _ hl) (k p e s m below meth c H locs arr C hz hR hS hL)
theorem pk_lload {i : Nat} {x : Int64} (hd : decode cc pc = .ok (.lload i, 2)) (hl : ls[i]? = some (some (.long x))) (k : pk_G Γ κ cc M ls (.long x :: st) (pc + 2) cu su) : pk_G Γ κ cc M ls st pc cu su := by
  intro p e s m below meth c H locs arr C hz hR hS hL
  exact lv_lload C.1 C.2.1 hd (hL.2.2.2 _ _ hl) (k p e s m below meth c H locs arr C hz hR hS hL)
theorem pk_aload_n {i : Fin 4} {x : Nat} (hd : decode cc pc = .ok (.aload_n i, 1)) (hl : ls[(i : Nat)]? = some (some (.ref x))) (k : pk_G Γ κ cc M ls (.ref x :: st) (pc + 1) cu su) : pk_G Γ κ cc M ls st pc cu su := by
  intro p e s m below meth c H locs arr C hz hR hS hL
  exact lv_aload_n C.1 C.2.1 hd rfl (hL.2.2.2 _ _ hl) (k p e s m below meth c H locs arr C hz hR hS hL)
theorem pk_aload {i : Nat} {x : Nat} (hd : decode cc pc = .ok (.aload i, 2)) (hl : ls[i]? = some (some (.ref x))) (k : pk_G Γ κ cc M ls (.ref x :: st) (pc + 2) cu su) : pk_G Γ κ cc M ls st pc cu su := by
  intro p e s m below meth c H locs arr C hz hR hS hL
  exact lv_aload C.1 C.2.1 hd (hL.2.2.2 _ _ hl) (k p e s m below meth c H locs arr C hz hR hS hL)
theorem pk_istore_n {i : Fin 4} {x : Int32} (hd : decode cc pc = .ok (.istore_n i, 1)) (hok : pk_ok ls (i : Nat) = true) (hi : Nat.blt (i : Nat) ls.length = true) (k : pk_G Γ κ cc M (ls.set (i : Nat) (some (.int x))) st (pc + 1) cu su) : pk_G Γ κ cc M ls (.int x :: st) pc cu su := by
  intro p e s m below meth c H locs arr C hz hR hS hL
  have hi' : (i : Nat) < ls.length := Nat.le_of_ble_eq_true hi
  exact lv_istore_n C.1 C.2.1 hd rfl hL.has (by rw [← hL.1]; exact hi') rfl (fun arr' h => k p e s m below meth c H locs arr' C hz hR hS (hL.set1 hok hi' h))
theorem pk_istore {i : Nat} {x : Int32} (hd : decode cc pc = .ok (.istore i, 2)) (hok : pk_ok ls i = true) (hi : Nat.blt i ls.length = true) (k : pk_G Γ κ cc M (ls.set i (some (.int x))) st (pc + 2) cu su) : pk_G Γ κ cc M ls (.int x :: st) pc cu su := by
  intro p e s m below meth c H locs arr C hz hR hS hL
  have hi' : i < ls.length := Nat.le_of_ble_eq_true hi
  exact lv_istore C.1 C.2.1 hd hL.has (by rw [← hL.1]; exact hi') rfl (fun arr' h => k p e s m below meth c H locs arr' C hz hR hS (hL.set1 hok hi' h))
theorem pk_astore_n {i : Fin 4} {x : Nat} (hd : decode cc pc = .ok (.astore_n i, 1)) (hok : pk_ok ls (i : Nat) = true) (hi : Nat.blt (i : Nat) ls.length = true) (k : pk_G Γ κ cc M (ls.set (i : Nat) (some (.ref x))) st (pc + 1) cu su) : pk_G Γ κ cc M ls (.ref x :: st) pc cu su := by
  intro p e s m below meth c H locs arr C hz hR hS hL
  have hi' : (i : Nat) < ls.length := Nat.le_of_ble_eq_true hi
  exact lv_astore_n C.1 C.2.1 hd rfl hL.has (by rw [← hL.1]; exact hi') rfl (fun arr' h => k p e s m below meth c H locs arr' C hz hR hS (hL.set1 hok hi' h))
theorem pk_astore {i : Nat} {x : Nat} (hd : decode cc pc = .ok (.astore i, 2)) (hok : pk_ok ls i = true) (hi : Nat.blt i ls.length = true) (k : pk_G Γ κ cc M (ls.set i (some (.ref x))) st (pc + 2) cu su) : pk_G Γ κ cc M ls (.ref x :: st) pc cu su := by
  intro p e s m below meth c H locs arr C hz hR hS hL
  have hi' : i < ls.length := Nat.le_of_ble_eq_true hi
  exact lv_astore C.1 C.2.1 hd hL.has (by rw [← hL.1]; exact hi') rfl (fun arr' h => k p e s m below meth c H locs arr' C hz hR hS (hL.set1 hok hi' h))
theorem pk_iinc {i : Nat} {n : Int} {x v : Int32} (hd : decode cc pc = .ok (.iinc i n, 3)) (hl : ls[i]? = some (some (.int x))) (hv : x + Int32.ofInt n = v) (hok : pk_ok ls i = true) (k : pk_G Γ κ cc M (ls.set i (some (.int v))) st (pc + 3) cu su) : pk_G Γ κ cc M ls st pc cu su := by
  intro p e s m below meth c H locs arr C hz hR hS hL
  have hi' : i < ls.length := (List.getElem?_eq_some_iff.mp hl).1
  have hm : (i, pk_gv Γ (.int x)) ∈ pk_prs Γ ls := pk_prs_mem.mpr ⟨_, hl, rfl⟩
  obtain ⟨j, hj⟩ := List.getElem?_of_mem hm
  exact lv_iinc C.1 C.2.1 hd hL.has (k := j) hj hv (by rw [← hL.1]; exact hi') rfl (fun arr' h => k p e s m below meth c H locs arr' C hz hR hS (hL.set1 (v := .int v) hok hi' h))
theorem pk_iadd {x y : Int32} (hd : decode cc pc = .ok (.iadd, 1)) (k : pk_G Γ κ cc M ls (.int (x + y) :: st) (pc + 1) cu su) : pk_G Γ κ cc M ls (.int y :: .int x :: st) pc cu su := by
  intro p e s m below meth c H locs arr C hz hR hS hL
  exact lv_iadd C.1 C.2.1 hd (k p e s m below meth c H locs arr C hz hR hS hL)
theorem pk_isub {x y : Int32} (hd : decode cc pc = .ok (.isub, 1)) (k : pk_G Γ κ cc M ls (.int (x - y) :: st) (pc + 1) cu su) : pk_G Γ κ cc M ls (.int y :: .int x :: st) pc cu su := by
  intro p e s m below meth c H locs arr C hz hR hS hL
  exact lv_isub C.1 C.2.1 hd (k p e s m below meth c H locs arr C hz hR hS hL)
theorem pk_imul {x y : Int32} (hd : decode cc pc = .ok (.imul, 1)) (k : pk_G Γ κ cc M ls (.int (x * y) :: st) (pc + 1) cu su) : pk_G Γ κ cc M ls (.int y :: .int x :: st) pc cu su := by
  intro p e s m below meth c H locs arr C hz hR hS hL
  exact lv_imul C.1 C.2.1 hd (k p e s m below meth c H locs arr C hz hR hS hL)
theorem pk_iand {x y : Int32} (hd : decode cc pc = .ok (.iand, 1)) (k : pk_G Γ κ cc M ls (.int (x &&& y) :: st) (pc + 1) cu su) : pk_G Γ κ cc M ls (.int y :: .int x :: st) pc cu su := by
  intro p e s m below meth c H locs arr C hz hR hS hL
  exact lv_iand C.1 C.2.1 hd (k p e s m below meth c H locs arr C hz hR hS hL)
theorem pk_ior {x y : Int32} (hd : decode cc pc = .ok (.ior, 1)) (k : pk_G Γ κ cc M ls (.int (x ||| y) :: st) (pc + 1) cu su) : pk_G Γ κ cc M ls (.int y :: .int x :: st) pc cu su := by
  intro p e s m below meth c H locs arr C hz hR hS hL
  exact lv_ior C.1 C.2.1 hd (k p e s m below meth c H locs arr C hz hR hS hL)
theorem pk_ixor {x y : Int32} (hd : decode cc pc = .ok (.ixor, 1)) (k : pk_G Γ κ cc M ls (.int (x ^^^ y) :: st) (pc + 1) cu su) : pk_G Γ κ cc M ls (.int y :: .int x :: st) pc cu su := by
  intro p e s m below meth c H locs arr C hz hR hS hL
  exact lv_ixor C.1 C.2.1 hd (k p e s m below meth c H locs arr C hz hR hS hL)
end PkA
end
section
section PkB
variable {Γ : pk_T} {κ : pk_K} {cc : ByteArray} {M : pk_M} {ls : List (Option Value)} {st : List Value} {pc cu su : Nat}
theorem pk_ladd {x y : Int64} (hd : decode cc pc = .ok (.ladd, 1)) (k : pk_G Γ κ cc M ls (.long (x + y) :: st) (pc + 1) cu su) : pk_G Γ κ cc M ls (.long y :: .long x :: st) pc cu su := by
  intro p e s m below meth c H locs arr C hz hR hS hL
  exact lv_ladd C.1 C.2.1 hd (k p e s m below meth c H locs arr C hz hR hS hL)
theorem pk_lmul {x y : Int64} (hd : decode cc pc = .ok (.lmul, 1)) (k : pk_G Γ κ cc M ls (.long (x * y) :: st) (pc + 1) cu su) : pk_G Γ κ cc M ls (.long y :: .long x :: st) pc cu su := by
  intro p e s m below meth c H locs arr C hz hR hS hL
  exact lv_lmul C.1 C.2.1 hd (k p e s m below meth c H locs arr C hz hR hS hL)
theorem pk_land {x y : Int64} (hd : decode cc pc = .ok (.land, 1)) (k : pk_G Γ κ cc M ls (.long (x &&& y) :: st) (pc + 1) cu su) : pk_G Γ κ cc M ls (.long y :: .long x :: st) pc cu su := by
  intro p e s m below meth c H locs arr C hz hR hS hL
  exact lv_land C.1 C.2.1 hd (k p e s m below meth c H locs arr C hz hR hS hL)
theorem pk_lor {x y : Int64} (hd : decode cc pc = .ok (.lor, 1)) (k : pk_G Γ κ cc M ls (.long (x ||| y) :: st) (pc + 1) cu su) : pk_G Γ κ cc M ls (.long y :: .long x :: st) pc cu su := by
  intro p e s m below meth c H locs arr C hz hR hS hL
  exact lv_lor C.1 C.2.1 hd (k p e s m below meth c H locs arr C hz hR hS hL)
theorem pk_idiv {x y : Int32} (hd : decode cc pc = .ok (.idiv, 1)) (hne : ¬ y = 0) (k : pk_G Γ κ cc M ls (.int (x / y) :: st) (pc + 1) cu su) : pk_G Γ κ cc M ls (.int y :: .int x :: st) pc cu su := by
  intro p e s m below meth c H locs arr C hz hR hS hL
  exact lv_idiv C.1 C.2.1 hd hne (k p e s m below meth c H locs arr C hz hR hS hL)
theorem pk_ldiv {x y : Int64} (hd : decode cc pc = .ok (.ldiv, 1)) (hne : ¬ y = 0) (k : pk_G Γ κ cc M ls (.long (x / y) :: st) (pc + 1) cu su) : pk_G Γ κ cc M ls (.long y :: .long x :: st) pc cu su := by
  intro p e s m below meth c H locs arr C hz hR hS hL
  exact lv_ldiv C.1 C.2.1 hd hne (k p e s m below meth c H locs arr C hz hR hS hL)
theorem pk_lrem {x y : Int64} (hd : decode cc pc = .ok (.lrem, 1)) (hne : ¬ y = 0) (k : pk_G Γ κ cc M ls (.long (x - x / y * y) :: st) (pc + 1) cu su) : pk_G Γ κ cc M ls (.long y :: .long x :: st) pc cu su := by
  intro p e s m below meth c H locs arr C hz hR hS hL
  exact lv_lrem C.1 C.2.1 hd hne (k p e s m below meth c H locs arr C hz hR hS hL)
theorem pk_irem {x y : Int32} (hd : decode cc pc = .ok (.irem, 1)) (hne : ¬ y = 0) (k : pk_G Γ κ cc M ls (.int (x % y) :: st) (pc + 1) cu su) : pk_G Γ κ cc M ls (.int y :: .int x :: st) pc cu su := by
  intro p e s m below meth c H locs arr C hz hR hS hL
  exact lv_irem C.1 C.2.1 hd hne (by rw [irem_eq_mod]; exact k p e s m below meth c H locs arr C hz hR hS hL)
theorem pk_ishl {x y : Int32} (hd : decode cc pc = .ok (.ishl, 1)) (k : pk_G Γ κ cc M ls (.int (x <<< (y &&& 31)) :: st) (pc + 1) cu su) : pk_G Γ κ cc M ls (.int y :: .int x :: st) pc cu su := by
  intro p e s m below meth c H locs arr C hz hR hS hL
  exact lv_ishl C.1 C.2.1 hd (k p e s m below meth c H locs arr C hz hR hS hL)
theorem pk_ishr {x y : Int32} (hd : decode cc pc = .ok (.ishr, 1)) (k : pk_G Γ κ cc M ls (.int (x >>> (y &&& 31)) :: st) (pc + 1) cu su) : pk_G Γ κ cc M ls (.int y :: .int x :: st) pc cu su := by
  intro p e s m below meth c H locs arr C hz hR hS hL
  exact lv_ishr C.1 C.2.1 hd (k p e s m below meth c H locs arr C hz hR hS hL)
theorem pk_iushr {x y v : Int32} (hd : decode cc pc = .ok (.iushr, 1)) (hv : (x.toUInt32 >>> (y.toUInt32 &&& Int32.toUInt32 31)).toInt32 = v) (k : pk_G Γ κ cc M ls (.int v :: st) (pc + 1) cu su) : pk_G Γ κ cc M ls (.int y :: .int x :: st) pc cu su := by
  intro p e s m below meth c H locs arr C hz hR hS hL
  exact lv_iushr C.1 C.2.1 hd hv (k p e s m below meth c H locs arr C hz hR hS hL)
theorem pk_lshl {x v : Int64} {y : Int32} (hd : decode cc pc = .ok (.lshl, 1)) (hv : x <<< (y.toInt64 &&& 63) = v) (k : pk_G Γ κ cc M ls (.long v :: st) (pc + 1) cu su) : pk_G Γ κ cc M ls (.int y :: .long x :: st) pc cu su := by
  intro p e s m below meth c H locs arr C hz hR hS hL
  exact lv_lshl C.1 C.2.1 hd hv (k p e s m below meth c H locs arr C hz hR hS hL)
theorem pk_i2l {x : Int32} (hd : decode cc pc = .ok (.i2l, 1)) (k : pk_G Γ κ cc M ls (.long x.toInt64 :: st) (pc + 1) cu su) : pk_G Γ κ cc M ls (.int x :: st) pc cu su := by
  intro p e s m below meth c H locs arr C hz hR hS hL
  exact lv_i2l C.1 C.2.1 hd rfl (k p e s m below meth c H locs arr C hz hR hS hL)
theorem pk_l2i {x : Int64} (hd : decode cc pc = .ok (.l2i, 1)) (k : pk_G Γ κ cc M ls (.int x.toInt32 :: st) (pc + 1) cu su) : pk_G Γ κ cc M ls (.long x :: st) pc cu su := by
  intro p e s m below meth c H locs arr C hz hR hS hL
  exact lv_l2i C.1 C.2.1 hd rfl (k p e s m below meth c H locs arr C hz hR hS hL)
theorem pk_i2b {x : Int32} (hd : decode cc pc = .ok (.i2b, 1)) (k : pk_G Γ κ cc M ls (.int x.toInt8.toInt32 :: st) (pc + 1) cu su) : pk_G Γ κ cc M ls (.int x :: st) pc cu su := by
  intro p e s m below meth c H locs arr C hz hR hS hL
  exact lv_i2b C.1 C.2.1 hd rfl (k p e s m below meth c H locs arr C hz hR hS hL)
theorem pk_i2s {x : Int32} (hd : decode cc pc = .ok (.i2s, 1)) (k : pk_G Γ κ cc M ls (.int x.toInt16.toInt32 :: st) (pc + 1) cu su) : pk_G Γ κ cc M ls (.int x :: st) pc cu su := by
  intro p e s m below meth c H locs arr C hz hR hS hL
  exact lv_i2s C.1 C.2.1 hd rfl (k p e s m below meth c H locs arr C hz hR hS hL)
theorem pk_lcmp {x y : Int64} (hd : decode cc pc = .ok (.lcmp, 1)) (k : pk_G Γ κ cc M ls (.int (lg_cmp x y) :: st) (pc + 1) cu su) : pk_G Γ κ cc M ls (.long y :: .long x :: st) pc cu su := by
  intro p e s m below meth c H locs arr C hz hR hS hL
  exact W.lcmp C.1 C.2.1 hd (k p e s m below meth c H locs arr C hz hR hS hL)
theorem pk_dup {va : Value} (hd : decode cc pc = .ok (.dup, 1)) (hc : va.category = 1) (k : pk_G Γ κ cc M ls (va :: va :: st) (pc + 1) cu su) : pk_G Γ κ cc M ls (va :: st) pc cu su := by
  intro p e s m below meth c H locs arr C hz hR hS hL
  exact lv_dup C.1 C.2.1 hd ((pk_gv_cat Γ va).trans hc) (k p e s m below meth c H locs arr C hz hR hS hL)
theorem pk_pop {va : Value} (hd : decode cc pc = .ok (.pop, 1)) (hc : va.category = 1) (k : pk_G Γ κ cc M ls (st) (pc + 1) cu su) : pk_G Γ κ cc M ls (va :: st) pc cu su := by
  intro p e s m below meth c H locs arr C hz hR hS hL
  exact lv_pop C.1 C.2.1 hd ((pk_gv_cat Γ va).trans hc) (k p e s m below meth c H locs arr C hz hR hS hL)
theorem pk_dup2 {va vb : Value} (hd : decode cc pc = .ok (.dup2, 1)) (hc : va.category = 1) (hc2 : vb.category = 1) (k : pk_G Γ κ cc M ls (va :: vb :: va :: vb :: st) (pc + 1) cu su) : pk_G Γ κ cc M ls (va :: vb :: st) pc cu su := by
  intro p e s m below meth c H locs arr C hz hR hS hL
  exact lv_dup2_11 C.1 C.2.1 hd ((pk_gv_cat Γ va).trans hc) ((pk_gv_cat Γ vb).trans hc2) (k p e s m below meth c H locs arr C hz hR hS hL)
theorem pk_if_eq {x : Int32} {off : Int} {tgt : Nat} (hd : decode cc pc = .ok (.ifCond .eq off, 3)) (ht : (pc : Int) + off = (tgt : Int)) (kt : x = 0 → pk_G Γ κ cc M ls st tgt cu su) (kf : ¬ x = 0 → pk_G Γ κ cc M ls st (pc + 3) cu su) : pk_G Γ κ cc M ls (.int x :: st) pc cu su := by
  intro p e s m below meth c H locs arr C hz hR hS hL
  exact lv_if_eq C.1 C.2.1 hd ht (fun h => kt h p e s m below meth c H locs arr C hz hR hS hL) (fun h => kf h p e s m below meth c H locs arr C hz hR hS hL)
theorem pk_icmp_eq {x y : Int32} {off : Int} {tgt : Nat} (hd : decode cc pc = .ok (.if_icmp .eq off, 3)) (ht : (pc : Int) + off = (tgt : Int)) (kt : x = y → pk_G Γ κ cc M ls st tgt cu su) (kf : ¬ x = y → pk_G Γ κ cc M ls st (pc + 3) cu su) : pk_G Γ κ cc M ls (.int y :: .int x :: st) pc cu su := by
  intro p e s m below meth c H locs arr C hz hR hS hL
  exact lv_icmp_eq C.1 C.2.1 hd ht (fun h => kt h p e s m below meth c H locs arr C hz hR hS hL) (fun h => kf h p e s m below meth c H locs arr C hz hR hS hL)
theorem pk_if_ne {x : Int32} {off : Int} {tgt : Nat} (hd : decode cc pc = .ok (.ifCond .ne off, 3)) (ht : (pc : Int) + off = (tgt : Int)) (kt : ¬ x = 0 → pk_G Γ κ cc M ls st tgt cu su) (kf : x = 0 → pk_G Γ κ cc M ls st (pc + 3) cu su) : pk_G Γ κ cc M ls (.int x :: st) pc cu su := by
  intro p e s m below meth c H locs arr C hz hR hS hL
  exact lv_if_ne C.1 C.2.1 hd ht (fun h => kt h p e s m below meth c H locs arr C hz hR hS hL) (fun h => kf h p e s m below meth c H locs arr C hz hR hS hL)
theorem pk_icmp_ne {x y : Int32} {off : Int} {tgt : Nat} (hd : decode cc pc = .ok (.if_icmp .ne off, 3)) (ht : (pc : Int) + off = (tgt : Int)) (kt : ¬ x = y → pk_G Γ κ cc M ls st tgt cu su) (kf : x = y → pk_G Γ κ cc M ls st (pc + 3) cu su) : pk_G Γ κ cc M ls (.int y :: .int x :: st) pc cu su := by
  intro p e s m below meth c H locs arr C hz hR hS hL
  exact lv_icmp_ne C.1 C.2.1 hd ht (fun h => kt h p e s m below meth c H locs arr C hz hR hS hL) (fun h => kf h p e s m below meth c H locs arr C hz hR hS hL)
theorem pk_if_lt {x : Int32} {off : Int} {tgt : Nat} (hd : decode cc pc = .ok (.ifCond .lt off, 3)) (ht : (pc : Int) + off = (tgt : Int)) (kt : x < 0 → pk_G Γ κ cc M ls st tgt cu su) (kf : ¬ x < 0 → pk_G Γ κ cc M ls st (pc + 3) cu su) : pk_G Γ κ cc M ls (.int x :: st) pc cu su := by
  intro p e s m below meth c H locs arr C hz hR hS hL
  exact lv_if_lt C.1 C.2.1 hd ht (fun h => kt h p e s m below meth c H locs arr C hz hR hS hL) (fun h => kf h p e s m below meth c H locs arr C hz hR hS hL)
theorem pk_icmp_lt {x y : Int32} {off : Int} {tgt : Nat} (hd : decode cc pc = .ok (.if_icmp .lt off, 3)) (ht : (pc : Int) + off = (tgt : Int)) (kt : x < y → pk_G Γ κ cc M ls st tgt cu su) (kf : ¬ x < y → pk_G Γ κ cc M ls st (pc + 3) cu su) : pk_G Γ κ cc M ls (.int y :: .int x :: st) pc cu su := by
  intro p e s m below meth c H locs arr C hz hR hS hL
  exact lv_icmp_lt C.1 C.2.1 hd ht (fun h => kt h p e s m below meth c H locs arr C hz hR hS hL) (fun h => kf h p e s m below meth c H locs arr C hz hR hS hL)
theorem pk_if_ge {x : Int32} {off : Int} {tgt : Nat} (hd : decode cc pc = .ok (.ifCond .ge off, 3)) (ht : (pc : Int) + off = (tgt : Int)) (kt : 0 ≤ x → pk_G Γ κ cc M ls st tgt cu su) (kf : ¬ 0 ≤ x → pk_G Γ κ cc M ls st (pc + 3) cu su) : pk_G Γ κ cc M ls (.int x :: st) pc cu su := by
  intro p e s m below meth c H locs arr C hz hR hS hL
  exact lv_if_ge C.1 C.2.1 hd ht (fun h => kt h p e s m below meth c H locs arr C hz hR hS hL) (fun h => kf h p e s m below meth c H locs arr C hz hR hS hL)
theorem pk_icmp_ge {x y : Int32} {off : Int} {tgt : Nat} (hd : decode cc pc = .ok (.if_icmp .ge off, 3)) (ht : (pc : Int) + off = (tgt : Int)) (kt : y ≤ x → pk_G Γ κ cc M ls st tgt cu su) (kf : ¬ y ≤ x → pk_G Γ κ cc M ls st (pc + 3) cu su) : pk_G Γ κ cc M ls (.int y :: .int x :: st) pc cu su := by
  intro p e s m below meth c H locs arr C hz hR hS hL
  exact lv_icmp_ge C.1 C.2.1 hd ht (fun h => kt h p e s m below meth c H locs arr C hz hR hS hL) (fun h => kf h p e s m below meth c H locs arr C hz hR hS hL)
theorem pk_if_gt {x : Int32} {off : Int} {tgt : Nat} (hd : decode cc pc = .ok (.ifCond .gt off, 3)) (ht : (pc : Int) + off = (tgt : Int)) (kt : 0 < x → pk_G Γ κ cc M ls st tgt cu su) (kf : ¬ 0 < x → pk_G Γ κ cc M ls st (pc + 3) cu su) : pk_G Γ κ cc M ls (.int x :: st) pc cu su := by
  intro p e s m below meth c H locs arr C hz hR hS hL
  exact lv_if_gt C.1 C.2.1 hd ht (fun h => kt h p e s m below meth c H locs arr C hz hR hS hL) (fun h => kf h p e s m below meth c H locs arr C hz hR hS hL)
theorem pk_icmp_gt {x y : Int32} {off : Int} {tgt : Nat} (hd : decode cc pc = .ok (.if_icmp .gt off, 3)) (ht : (pc : Int) + off = (tgt : Int)) (kt : y < x → pk_G Γ κ cc M ls st tgt cu su) (kf : ¬ y < x → pk_G Γ κ cc M ls st (pc + 3) cu su) : pk_G Γ κ cc M ls (.int y :: .int x :: st) pc cu su := by
  intro p e s m below meth c H locs arr C hz hR hS hL
  exact lv_icmp_gt C.1 C.2.1 hd ht (fun h => kt h p e s m below meth c H locs arr C hz hR hS hL) (fun h => kf h p e s m below meth c H locs arr C hz hR hS hL)
theorem pk_if_le {x : Int32} {off : Int} {tgt : Nat} (hd : decode cc pc = .ok (.ifCond .le off, 3)) (ht : (pc : Int) + off = (tgt : Int)) (kt : x ≤ 0 → pk_G Γ κ cc M ls st tgt cu su) (kf : ¬ x ≤ 0 → pk_G Γ κ cc M ls st (pc + 3) cu su) : pk_G Γ κ cc M ls (.int x :: st) pc cu su := by
  intro p e s m below meth c H locs arr C hz hR hS hL
  exact lv_if_le C.1 C.2.1 hd ht (fun h => kt h p e s m below meth c H locs arr C hz hR hS hL) (fun h => kf h p e s m below meth c H locs arr C hz hR hS hL)
theorem pk_icmp_le {x y : Int32} {off : Int} {tgt : Nat} (hd : decode cc pc = .ok (.if_icmp .le off, 3)) (ht : (pc : Int) + off = (tgt : Int)) (kt : x ≤ y → pk_G Γ κ cc M ls st tgt cu su) (kf : ¬ x ≤ y → pk_G Γ κ cc M ls st (pc + 3) cu su) : pk_G Γ κ cc M ls (.int y :: .int x :: st) pc cu su := by
  intro p e s m below meth c H locs arr C hz hR hS hL
  exact lv_icmp_le C.1 C.2.1 hd ht (fun h => kt h p e s m below meth c H locs arr C hz hR hS hL) (fun h => kf h p e s m below meth c H locs arr C hz hR hS hL)
theorem pk_goto {off : Int} {tgt : Nat} (hd : decode cc pc = .ok (.goto off, 3)) (ht : (pc : Int) + off = (tgt : Int)) (k : pk_G Γ κ cc M ls st tgt cu su) : pk_G Γ κ cc M ls st pc cu su := by
  intro p e s m below meth c H locs arr C hz hR hS hL
  exact lv_goto C.1 C.2.1 hd ht (k p e s m below meth c H locs arr C hz hR hS hL)
theorem pk_swOut {dflt lo hi : Int} {offs : Array Int} {len : Nat} {x : Int32} {tgt : Nat} (hd : decode cc pc = .ok (.tableswitch dflt lo hi offs, len)) (h : x.toInt < lo ∨ hi < x.toInt) (ht : (pc : Int) + dflt = (tgt : Int)) (k : pk_G Γ κ cc M ls st tgt cu su) : pk_G Γ κ cc M ls (.int x :: st) pc cu su := by
  intro p e s m below meth c H locs arr C hz hR hS hL
  exact lv_tableOut C.1 C.2.1 hd h ht (k p e s m below meth c H locs arr C hz hR hS hL)
theorem pk_swIn {dflt lo hi : Int} {offs : Array Int} {len : Nat} {x : Int32} {off : Int} {tgt : Nat} {tgt : Nat} (hd : decode cc pc = .ok (.tableswitch dflt lo hi offs, len)) (h1 : ¬ x.toInt < lo) (h2 : ¬ hi < x.toInt) (ho : offs[(x.toInt - lo).toNat]? = some off) (ht : (pc : Int) + off = (tgt : Int)) (k : pk_G Γ κ cc M ls st tgt cu su) : pk_G Γ κ cc M ls (.int x :: st) pc cu su := by
  intro p e s m below meth c H locs arr C hz hR hS hL
  exact lv_tableIn C.1 C.2.1 hd h1 h2 ho ht (k p e s m below meth c H locs arr C hz hR hS hL)
theorem pk_ldc {idx : Nat} {v : Int32} (hd : decode cc pc = .ok (.ldc idx, 2)) (hw : Cond.constant κ.1 idx v ∈ pk_tbl) (k : pk_G Γ κ cc M ls (.int v :: st) (pc + 2) cu su) : pk_G Γ κ cc M ls st pc cu su := by
  intro p e s m below meth c H locs arr C hz hR hS hL
  exact lv_ldc C.1 C.2.1 C.2.2.2.2.2.1 (C.2.2.2.2.2.2.2.1 _ hw) hd (k p e s m below meth c H locs arr C hz hR hS hL)
theorem pk_ldc2 {idx : Nat} {v : Int64} (hd : decode cc pc = .ok (.ldc2_w idx, 3)) (hw : Cond.constantLong κ.1 idx v ∈ pk_tbl) (k : pk_G Γ κ cc M ls (.long v :: st) (pc + 3) cu su) : pk_G Γ κ cc M ls st pc cu su := by
  intro p e s m below meth c H locs arr C hz hR hS hL
  exact lv_ldc2 C.1 C.2.1 C.2.2.2.2.2.1 (C.2.2.2.2.2.2.2.1 _ hw) hd (k p e s m below meth c H locs arr C hz hR hS hL)
theorem pk_L.set2 {n i : Nat} {arr arr' : Array Slot} {v : Value} (h : pk_L Γ n ls arr) (hok : pk_ok ls i = true) (hi : i + 1 < ls.length)
    (h' : lv_has arr' n ((i, pk_gv Γ v) :: (pk_prs Γ ls).filter (fun q => !(q.1 == i) && (!(q.1 == i + 1) && !(q.1 + 1 == i && q.2.category == 2))))) : pk_L Γ n ((ls.set i (some v)).set (i + 1) none) arr' := by
  refine ⟨by rw [List.length_set, List.length_set]; exact h.1, h'.1, h'.2.1, fun k w hk => ?_⟩
  by_cases hk1 : k = i + 1
  · subst hk1
    rw [List.getElem?_set_self (by rw [List.length_set]; exact hi)] at hk
    cases hk
  · rw [List.getElem?_set_ne (fun e => hk1 e.symm)] at hk
    by_cases hki : k = i
    · subst hki
      rw [List.getElem?_set_self (by omega)] at hk
      cases hk
      exact h'.2.2 _ List.mem_cons_self
    · rw [List.getElem?_set_ne (fun e => hki e.symm)] at hk
      refine h'.2.2 (k, pk_gv Γ w) (List.mem_cons_of_mem _ (List.mem_filter.mpr ⟨pk_prs_mem.mpr ⟨w, hk, rfl⟩, ?_⟩))
      have hk2 : (k == i) = false := by simp [hki]
      have hk3 : (k == i + 1) = false := by simp [hk1]
      show (!(k == i) && (!(k == i + 1) && !(k + 1 == i && (pk_gv Γ w).category == 2))) = true
      rw [hk2, hk3, pk_gv_cat]
      by_cases hks : k + 1 = i
      · subst hks
        simp only [pk_ok, hk] at hok
        cases w <;> first | exact absurd hok Bool.false_ne_true | simp [Value.category]
      · simp [hks]
theorem pk_lstore_n {i : Fin 4} {x : Int64} (hd : decode cc pc = .ok (.lstore_n i, 1)) (hok : pk_ok ls (i : Nat) = true) (hi : Nat.blt ((i : Nat) + 1) ls.length = true) (k : pk_G Γ κ cc M ((ls.set (i : Nat) (some (.long x))).set ((i : Nat) + 1) none) st (pc + 1) cu su) : pk_G Γ κ cc M ls (.long x :: st) pc cu su := by
  intro p e s m below meth c H locs arr C hz hR hS hL
  have hi' : (i : Nat) + 1 < ls.length := Nat.le_of_ble_eq_true hi
  exact lv_lstore_n C.1 C.2.1 hd rfl hL.has (by rw [← hL.1]; exact hi') rfl (fun arr' h => k p e s m below meth c H locs arr' C hz hR hS (hL.set2 hok hi' h))
theorem pk_lstore {i : Nat} {x : Int64} (hd : decode cc pc = .ok (.lstore i, 2)) (hok : pk_ok ls i = true) (hi : Nat.blt (i + 1) ls.length = true) (k : pk_G Γ κ cc M ((ls.set i (some (.long x))).set (i + 1) none) st (pc + 2) cu su) : pk_G Γ κ cc M ls (.long x :: st) pc cu su := by
  intro p e s m below meth c H locs arr C hz hR hS hL
  have hi' : i + 1 < ls.length := Nat.le_of_ble_eq_true hi
  exact lv_lstore C.1 C.2.1 hd hL.has (by rw [← hL.1]; exact hi') rfl (fun arr' h => k p e s m below meth c H locs arr' C hz hR hS (hL.set2 hok hi' h))
/-- fewer is known of the locals -/
theorem pk_less {ls' : List (Option Value)} (hl : ls'.length = ls.length) (h : ∀ (k : Nat) (v : Value), ls'[k]? = some (some v) → ls[k]? = some (some v)) (k : pk_G Γ κ cc M ls' st pc cu su) : pk_G Γ κ cc M ls st pc cu su := by
  intro p e s m below meth c H locs arr C hz hR hS hL
  exact k p e s m below meth c H locs arr C hz hR hS ⟨hl.trans hL.1, hL.2.1, hL.2.2.1, fun j v hj => hL.2.2.2 j v (h j v hj)⟩
end PkB
end
section
/-! Steps that read and write the memory. -/
def pk_cls (ci : Nat) : String := match ci with
  | 0 => RX0
  | 1 => RX1
  | 2 => RX2
  | 3 => RX3
  | 4 => RX4
  | 5 => RX5
  | 6 => RX6
  | _ => RX7
def pk_tab (ci : Nat) : u_T := match ci with
  | 0 => TX0
  | 1 => TX1
  | 2 => TX2
  | 3 => TX3
  | 4 => TX4
  | 5 => TX5
  | 6 => TX6
  | _ => TX7
theorem pk_clq {ci : Nat} (h : ci < 8) : vwCl[ci]? = some (pk_cls ci, pk_tab ci, pk_fn ci) := by
  match ci, h with
  | 0, _ => rfl
  | 1, _ => rfl
  | 2, _ => rfl
  | 3, _ => rfl
  | 4, _ => rfl
  | 5, _ => rfl
  | 6, _ => rfl
  | 7, _ => rfl
theorem pk_lq (ws : List Cond) (h1 : ws.filter k2_isCode = []) (h2 : (ws.filter (fun w => !k2_isCode w)).all (fun w => decide (w ∈ lw_tbl) && goodWord w) = true) : ∀ w ∈ ws, w ∈ pk_tbl := by
  intro w hw
  have hc : ¬ k2_isCode w = true := by
    intro h
    have h3 : w ∈ ws.filter k2_isCode := List.mem_filter.mpr ⟨hw, h⟩
    rw [h1] at h3
    cases h3
  have h3 := List.all_eq_true.mp h2 w (List.mem_filter.mpr ⟨hw, by simpa using hc⟩)
  simp only [Bool.and_eq_true, decide_eq_true_eq] at h3
  exact pk_tb h3.1 (by rw [h3.2]; rfl)
theorem pk_lays0 : ∀ w ∈ u_ws RX0 TX0 7, w ∈ pk_tbl := pk_lq (u_ws RX0 TX0 7) (by decide +kernel) (by decide +kernel)
theorem pk_lays1 : ∀ w ∈ u_ws RX1 TX1 1, w ∈ pk_tbl := pk_lq (u_ws RX1 TX1 1) (by decide +kernel) (by decide +kernel)
theorem pk_lays2 : ∀ w ∈ u_ws RX2 TX2 2, w ∈ pk_tbl := pk_lq (u_ws RX2 TX2 2) (by decide +kernel) (by decide +kernel)
theorem pk_lays3 : ∀ w ∈ u_ws RX3 TX3 4, w ∈ pk_tbl := pk_lq (u_ws RX3 TX3 4) (by decide +kernel) (by decide +kernel)
theorem pk_lays4 : ∀ w ∈ u_ws RX4 TX4 7, w ∈ pk_tbl := pk_lq (u_ws RX4 TX4 7) (by decide +kernel) (by decide +kernel)
theorem pk_lays5 : ∀ w ∈ u_ws RX5 TX5 7, w ∈ pk_tbl := pk_lq (u_ws RX5 TX5 7) (by decide +kernel) (by decide +kernel)
theorem pk_lays6 : ∀ w ∈ u_ws RX6 TX6 12, w ∈ pk_tbl := pk_lq (u_ws RX6 TX6 12) (by decide +kernel) (by decide +kernel)
theorem pk_lays7 : ∀ w ∈ u_ws RX7 TX7 21, w ∈ pk_tbl := pk_lq (u_ws RX7 TX7 21) (by decide +kernel) (by decide +kernel)
theorem pk_lays {ci : Nat} (h : ci < 8) : ∀ w ∈ u_ws (pk_cls ci) (pk_tab ci) (pk_fn ci), w ∈ pk_tbl := by
  match ci, h with
  | 0, _ => exact pk_lays0
  | 1, _ => exact pk_lays1
  | 2, _ => exact pk_lays2
  | 3, _ => exact pk_lays3
  | 4, _ => exact pk_lays4
  | 5, _ => exact pk_lays5
  | 6, _ => exact pk_lays6
  | 7, _ => exact pk_lays7
theorem pk_tyok {ci : Nat} (h : ci < 8) : ∀ k, k < pk_fn ci → parseFieldDescriptor (pk_tab ci k).2.2.1 = some (pk_fty ci k) := by
  match ci, h with
  | 0, _ => exact tyX0_ok
  | 1, _ => exact tyX1_ok
  | 2, _ => exact tyX2_ok
  | 3, _ => exact tyX3_ok
  | 4, _ => exact tyX4_ok
  | 5, _ => exact tyX5_ok
  | 6, _ => exact tyX6_ok
  | 7, _ => exact tyX7_ok
theorem pk_nm {ci : Nat} (h : ci < 8) : ∀ a, a < pk_fn ci → ∀ b, b < pk_fn ci → a ≠ b → (pk_tab ci a).2.1 ≠ (pk_tab ci b).2.1 := by
  match ci, h with
  | 0, _ => exact nmX0
  | 1, _ => exact nmX1
  | 2, _ => exact nmX2
  | 3, _ => exact nmX3
  | 4, _ => exact nmX4
  | 5, _ => exact nmX5
  | 6, _ => exact nmX6
  | 7, _ => exact nmX7
theorem pk_dv {ci : Nat} (h : ci < 8) : ∀ j, j < pk_fn ci → defaultValue (pk_fty ci j) = if pk_isRef (pk_fty ci j) then .null else .int 0 := by
  match ci, h with
  | 0, _ => decide +kernel
  | 1, _ => decide +kernel
  | 2, _ => decide +kernel
  | 3, _ => decide +kernel
  | 4, _ => decide +kernel
  | 5, _ => decide +kernel
  | 6, _ => decide +kernel
  | 7, _ => decide +kernel
/-- the word by which an own method names a field -/
def pk_FL (own : String) (idx ci kf : Nat) : Prop := ci < 8 ∧ kf < pk_fn ci ∧
  (Cond.fieldLink own idx (pk_tab ci kf).1 (pk_tab ci kf).2.1 (pk_tab ci kf).2.2.1 ∈ pk_tbl ∨ ∃ host, Cond.fieldLinkNest own idx (pk_tab ci kf).1 (pk_tab ci kf).2.1 (pk_tab ci kf).2.2.1 host ∈ pk_tbl)
theorem pk_R.obj {Γ : pk_T} {M : pk_M} {U : State} {H : Heap} {q ci : Nat} (h : pk_R Γ M U H) (hs : pk_S M q = some (.inr ci)) : 5 ≤ q := by
  rcases Nat.lt_or_ge q 5 with h5 | h5
  · obtain ⟨N, e, -⟩ := h.2.2.2.2.1 q h5
    rw [hs] at e
    cases e
  · exact h5
theorem pk_fs_get (f : Nat → Value) {n k : Nat} (hk : k < n) : ((List.range n).map f)[k]? = some (f k) := by
  simp [List.getElem?_map, List.getElem?_range hk]
theorem pk_fs_set {f g : Nat → Value} {n k : Nat} {v : Value} (ho : ∀ j, j ≠ k → g j = f j) (hv : g k = v) : ((List.range n).map f).set k v = (List.range n).map g := by
  apply List.ext_getElem?
  intro i
  by_cases hi : i = k
  · subst hi
    by_cases hl : i < n
    · rw [List.getElem?_set_self (by simpa using hl), pk_fs_get g hl, hv]
    · rw [List.getElem?_eq_none (by simpa using hl), List.getElem?_eq_none (by simpa using hl)]
  · rw [List.getElem?_set_ne (fun e => hi e.symm)]
    by_cases hl : i < n
    · rw [pk_fs_get f hl, pk_fs_get g hl, ho i hi]
    · rw [List.getElem?_eq_none (by simpa using hl), List.getElem?_eq_none (by simpa using hl)]
theorem pk_Wsz {p : Program} {l : Launch} {e : Env} {R : Room} {s : State} {m : MethodId} {args : Array Value} {below : List Frame} {meth : Method} {c : Code} {H : Heap} {locs : List Loc} {cells slots : Nat} {Q : State → Prop} {g : JFrame}
    (k : H.size ≤ s.heap.size + cells → W p l e R s m args below meth c H locs cells slots Q g) : W p l e R s m args below meth c H locs cells slots Q g := by
  intro T hT X
  have h := X.same.2.2.1
  have h2 : T.heap.size ≤ s.heap.size + cells := h
  rw [hT] at h2
  exact k h2 T hT X
theorem pk_Stay {A : Nat → Prop} {H0 H H1 : Heap} {locs locs1 : List Loc} (h : va_S A H0 H locs) (h1 : va_S A H H1 locs1) : va_S A H0 H1 locs1 :=
  ⟨Nat.le_trans h.1 h1.1, fun q hq hA => (h1.2.1 q (Nat.lt_of_lt_of_le hq h.1) hA).trans (h.2.1 q hq hA), h1.2.2⟩
theorem pk_S0 {A : Nat → Prop} {H0 H : Heap} {locs : List Loc} (h : va_S A H0 H locs) : va_S A H H locs := ⟨Nat.le_refl _, fun _ _ _ => rfl, h.2.2⟩
section PkH
variable {Γ : pk_T} {κ : pk_K} {cc : ByteArray} {M : pk_M} {ls : List (Option Value)} {st : List Value} {pc cu su : Nat}
/-- behind a write into place q -/
theorem pk_fin {M1 : pk_M} {q : Nat} {z : pk_Sh} {ev : va_E} {p : Program} {e : Env} {s : State} {m : MethodId} {below : List Frame} {meth : Method} {c : Code} {H H1 : Heap} {locs locs1 : List Loc} {arr : Array Slot}
    (C : pk_C Γ κ cc p s m meth c) (hz : H.size = s.heap.size + cu) (hR : pk_R Γ M s H) (hS : va_S (pk_A Γ) s.heap H locs) (hL : pk_L Γ κ.2.1 ls arr)
    (hoff : pk_off q M M1) (hq : 5 ≤ q) (hs : pk_S M q = some z) (hP1 : va_P Γ.2.1 vwCl ((pk_w Γ M).set (q - 5) (pk_ga Γ q, ev)) H1) (he : ev = pk_cell Γ M1 q z) (hS1 : va_S (pk_A Γ) H H1 locs1)
    (k : pk_G Γ κ cc M1 ls st pc cu su) : W p Γ.1 e κ.2.2.2.2.1 s m κ.2.2.2.2.2.1 below meth c H1 locs1 cu su (κ.2.2.2.2.2.2 below s) (F0 m pc arr (st.map (pk_gv Γ))) := by
  refine pk_Wsz (fun hle => ?_)
  have hsz : H1.size = H.size := by have := hS1.1; omega
  have hlen : M1.1.length = M.1.length := by rw [hoff.1]
  refine k p e s m below meth c H1 locs1 arr C (by omega) (hR.to (by rw [hlen]; exact hR.1) (by rw [hsz, hlen]; exact hR.2.1) (by rw [pk_w_set hoff hq hs, ← he]; exact hP1) (fun j hj => ⟨by show M1.1[j]? = M.1[j]?; rw [hoff.1], (hoff.2 j (by omega)).1⟩) (fun j hj hA => hS1.2.1 j hj hA)) (pk_Stay hS hS1) hL
theorem pk_get0 {idx ci kf q : Nat} {v : Value} (hd : decode cc pc = .ok (.getfield idx, 3)) (hw : pk_FL κ.1 idx ci kf) (hs : pk_S M q = some (.inr ci)) (hv : pk_fld Γ M q ci kf = pk_gv Γ v) (k : pk_G Γ κ cc M ls (v :: st) (pc + 3) cu su) : pk_G Γ κ cc M ls (.ref q :: st) pc cu su := by
  intro p e s m below meth c H locs arr C hz hR hS hL
  obtain ⟨h8, hk, hw⟩ := hw
  have hq := hR.obj hs
  have hat := pk_w_at (Γ := Γ) hq hs
  have hfs := pk_fs_get (pk_fld Γ M q ci) hk
  rw [hv] at hfs
  rcases hw with hw | ⟨host, hw⟩
  · exact va_get C.1 C.2.1 C.2.2.2.2.2.2.2.1 (pk_lays h8) C.2.2.2.2.2.1 hR.2.2.2.1 hR.2.2.1 (q - 5) hat (pk_clq h8) kf hk (C.2.2.2.2.2.2.2.1 _ hw) (fun _ h => h) hfs hd (k p e s m below meth c H locs arr C hz hR hS hL)
  · exact va_getN C.1 C.2.1 C.2.2.2.2.2.2.2.1 (pk_lays h8) C.2.2.2.2.2.1 hR.2.2.2.1 hR.2.2.1 (q - 5) hat (pk_clq h8) kf hk (C.2.2.2.2.2.2.2.1 _ hw) (fun _ h => h) hfs hd (k p e s m below meth c H locs arr C hz hR hS hL)
theorem pk_getI {idx ci kf q : Nat} (hd : decode cc pc = .ok (.getfield idx, 3)) (hw : pk_FL κ.1 idx ci kf) (hr : pk_isRef (pk_fty ci kf) = false) (hs : pk_S M q = some (.inr ci)) (k : pk_G Γ κ cc M ls (.int (pk_I M q kf) :: st) (pc + 3) cu su) : pk_G Γ κ cc M ls (.ref q :: st) pc cu su :=
  pk_get0 hd hw hs (by simp only [pk_fld, hr]; rfl) k
theorem pk_getP {idx ci kf q r : Nat} (hd : decode cc pc = .ok (.getfield idx, 3)) (hw : pk_FL κ.1 idx ci kf) (hr : pk_isRef (pk_fty ci kf) = true) (hs : pk_S M q = some (.inr ci)) (hp : pk_P M q kf = some r) (k : pk_G Γ κ cc M ls (.ref r :: st) (pc + 3) cu su) : pk_G Γ κ cc M ls (.ref q :: st) pc cu su :=
  pk_get0 (v := .ref r) hd hw hs (by simp only [pk_fld, hr, show M.2.2.2 q kf = some r from hp]; rfl) k
theorem pk_putI {idx ci kf q : Nat} {x : Int32} (hd : decode cc pc = .ok (.putfield idx, 3)) (hw : pk_FL κ.1 idx ci kf) (hr : pk_isRef (pk_fty ci kf) = false) (hfin : (pk_tab ci kf).2.2.2 = false) (hn : narrow (pk_fty ci kf) (.int x) = .int x) (hf : fits (pk_fty ci kf) (.int x) = true) (hs : pk_S M q = some (.inr ci)) (k : pk_G Γ κ cc (pk_sI M q kf x) ls st (pc + 3) cu su) : pk_G Γ κ cc M ls (.int x :: .ref q :: st) pc cu su := by
  intro p e s m below meth c H locs arr C hz hR hS hL
  obtain ⟨h8, hk, hw⟩ := hw
  have hq := hR.obj hs
  have hat := pk_w_at (Γ := Γ) hq hs
  have he : (.inr (ci, ((List.range (pk_fn ci)).map (pk_fld Γ M q ci)).set kf (.int x)) : va_E) = pk_cell Γ (pk_sI M q kf x) q (.inr ci) := by
    rw [pk_fs_set (g := pk_fld Γ (pk_sI M q kf x) q ci)]
    · rfl
    · intro j hj
      simp [pk_fld, pk_sI, hj]
    · simp [pk_fld, pk_sI, hr]
  rcases hw with hw | ⟨host, hw⟩
  · exact va_put (H0 := H) C.1 C.2.1 C.2.2.2.2.2.2.2.1 (pk_lays h8) (pk_fty ci) (pk_tyok h8) (pk_nm h8) C.2.2.2.2.2.1 hR.2.2.2.1 hR.2.2.1 (pk_w_D Γ M) (pk_S0 hS) (q - 5) hat (pk_clq h8) kf hk (C.2.2.2.2.2.2.2.1 _ hw) (fun _ h => h) hfin (pk_tyok h8 kf hk) hn hf (by simpa using hk) hd (fun H1 locs1 hP1 _ hS1 => pk_fin C hz hR hS hL (pk_off_sI M q kf x) hq hs hP1 he hS1 k)
  · exact va_putN (H0 := H) C.1 C.2.1 C.2.2.2.2.2.2.2.1 (pk_lays h8) (pk_fty ci) (pk_tyok h8) (pk_nm h8) C.2.2.2.2.2.1 hR.2.2.2.1 hR.2.2.1 (pk_w_D Γ M) (pk_S0 hS) (q - 5) hat (pk_clq h8) kf hk (C.2.2.2.2.2.2.2.1 _ hw) (fun _ h => h) hfin (pk_tyok h8 kf hk) hn hf (by simpa using hk) hd (fun H1 locs1 hP1 _ hS1 => pk_fin C hz hR hS hL (pk_off_sI M q kf x) hq hs hP1 he hS1 k)
theorem pk_putF {idx ci kf q r : Nat} (hd : decode cc pc = .ok (.putfield idx, 3)) (h8 : ci < 8) (hk : kf < pk_fn ci) (hw : Cond.fieldLink κ.1 idx (pk_tab ci kf).1 (pk_tab ci kf).2.1 (pk_tab ci kf).2.2.1 ∈ pk_tbl) (hr : pk_isRef (pk_fty ci kf) = true) (hfin : (pk_tab ci kf).2.2.2 = true) (hini : κ.2.2.2.1 = true) (hdecl : (pk_tab ci kf).1 = κ.1) (hs : pk_S M q = some (.inr ci)) (k : pk_G Γ κ cc (pk_sP M q kf (some r)) ls st (pc + 3) cu su) : pk_G Γ κ cc M ls (.ref r :: .ref q :: st) pc cu su := by
  intro p e s m below meth c H locs arr C hz hR hS hL
  have hq := hR.obj hs
  have hat := pk_w_at (Γ := Γ) hq hs
  have he : (.inr (ci, ((List.range (pk_fn ci)).map (pk_fld Γ M q ci)).set kf (.ref (pk_ga Γ r))) : va_E) = pk_cell Γ (pk_sP M q kf (some r)) q (.inr ci) := by
    rw [pk_fs_set (g := pk_fld Γ (pk_sP M q kf (some r)) q ci)]
    · rfl
    · intro j hj
      simp [pk_fld, pk_sP, hj]
    · simp [pk_fld, pk_sP, hr, va_rf]
  have hnf : narrow (pk_fty ci kf) (.ref (pk_ga Γ r)) = .ref (pk_ga Γ r) ∧ fits (pk_fty ci kf) (.ref (pk_ga Γ r)) = true := by
    cases ht : pk_fty ci kf <;> first | (rw [ht] at hr; cases hr; done) | exact ⟨rfl, rfl⟩
  exact va_putF (H0 := H) C.1 C.2.1 C.2.2.2.2.2.2.2.1 (pk_lays h8) (pk_fty ci) (pk_tyok h8) (pk_nm h8) C.2.2.2.2.2.1 hR.2.2.2.1 hR.2.2.1 (pk_w_D Γ M) (pk_S0 hS) (q - 5) hat (pk_clq h8) kf hk (C.2.2.2.2.2.2.2.1 _ hw) (fun _ h => h) hfin (C.2.2.2.2.2.2.1 hini) hdecl (pk_tyok h8 kf hk) hnf.1 hnf.2 (by simpa using hk) hd (fun H1 locs1 hP1 _ hS1 => pk_fin C hz hR hS hL (pk_off_sP M q kf (some r)) hq hs hP1 he hS1 k)
theorem pk_iald {q N : Nat} {i : Int32} (hd : decode cc pc = .ok (.iaload, 1)) (hs : pk_S M q = some (.inl (.int, N))) (hin : vp_in i N) (k : pk_G Γ κ cc M ls (.int (pk_I M q i.toNatClampNeg) :: st) (pc + 1) cu su) : pk_G Γ κ cc M ls (.int i :: .ref q :: st) pc cu su := by
  intro p e s m below meth c H locs arr C hz hR hS hL
  rcases Nat.lt_or_ge q 5 with h5 | h5
  · obtain ⟨N', e1, cell, g1, g2, g3, g4, g5, g6, g7⟩ := hR.2.2.2.2.1 q h5
    rw [hs] at e1
    cases e1
    have hlt : i.toNatClampNeg < N := Nat.not_le.mp fun z => hin (Or.inr z)
    exact W.iald C.1 C.2.1 g1 g2 g3 (fun z => hin (z.imp id (fun z => Nat.le_trans g4 z))) (g6 _ hlt) rfl rfl hd (k p e s m below meth c H locs arr C hz hR hS hL)
  · exact va_iald C.1 C.2.1 hR.2.2.2.1 hR.2.2.1 (q - 5) 0 (pk_w_at (Γ := Γ) h5 hs) rfl hin hd (k p e s m below meth c H locs arr C hz hR hS hL)
theorem pk_iast {q N : Nat} {i x : Int32} (hd : decode cc pc = .ok (.iastore, 1)) (hs : pk_S M q = some (.inl (.int, N))) (hq : 5 ≤ q) (hin : vp_in i N) (k : pk_G Γ κ cc (pk_sI M q i.toNatClampNeg x) ls st (pc + 1) cu su) : pk_G Γ κ cc M ls (.int x :: .int i :: .ref q :: st) pc cu su := by
  intro p e s m below meth c H locs arr C hz hR hS hL
  refine va_iast (H0 := H) C.1 C.2.1 hR.2.2.2.1 hR.2.2.1 (pk_w_D Γ M) (pk_S0 hS) (q - 5) 0 (pk_w_at (Γ := Γ) hq hs) rfl hin hd (fun H1 locs1 hP1 _ hS1 => pk_fin C hz hR hS hL (pk_off_sI M q i.toNatClampNeg x) hq hs hP1 ?_ hS1 k)
  have hf : upd (M.2.1 q) i.toNatClampNeg x = (pk_sI M q i.toNatClampNeg x).2.1 q := by
    funext j
    by_cases hj : j = i.toNatClampNeg <;> simp [upd, pk_sI, hj]
  simp only [pk_cell, pk_arr, hf]
theorem pk_zald {q N : Nat} {i : Int32} (hd : decode cc pc = .ok (.baload, 1)) (hs : pk_S M q = some (.inl (.boolean, N))) (hq : 5 ≤ q) (hin : vp_in i N) (k : pk_G Γ κ cc M ls (.int (pk_I M q i.toNatClampNeg) :: st) (pc + 1) cu su) : pk_G Γ κ cc M ls (.int i :: .ref q :: st) pc cu su := by
  intro p e s m below meth c H locs arr C hz hR hS hL
  exact va_zald C.1 C.2.1 hR.2.2.2.1 hR.2.2.1 (q - 5) 1 (pk_w_at (Γ := Γ) hq hs) rfl hin hd (k p e s m below meth c H locs arr C hz hR hS hL)
theorem pk_zast {q N : Nat} {i x : Int32} (hd : decode cc pc = .ok (.bastore, 1)) (hs : pk_S M q = some (.inl (.boolean, N))) (hq : 5 ≤ q) (hin : vp_in i N) (hx : vp_nar .boolean x = x) (k : pk_G Γ κ cc (pk_sI M q i.toNatClampNeg x) ls st (pc + 1) cu su) : pk_G Γ κ cc M ls (.int x :: .int i :: .ref q :: st) pc cu su := by
  intro p e s m below meth c H locs arr C hz hR hS hL
  refine va_zast (H0 := H) C.1 C.2.1 hR.2.2.2.1 hR.2.2.1 (pk_w_D Γ M) (pk_S0 hS) (q - 5) 1 (pk_w_at (Γ := Γ) hq hs) rfl hin hd (fun H1 locs1 hP1 _ hS1 => pk_fin C hz hR hS hL (pk_off_sI M q i.toNatClampNeg x) hq hs hP1 ?_ hS1 k)
  have hf : upd (M.2.1 q) i.toNatClampNeg (vp_nar .boolean x) = (pk_sI M q i.toNatClampNeg x).2.1 q := by
    rw [hx]
    funext j
    by_cases hj : j = i.toNatClampNeg <;> simp [upd, pk_sI, hj]
  simp only [pk_cell, pk_arr, hf]
theorem pk_lald {q N : Nat} {i : Int32} (hd : decode cc pc = .ok (.laload, 1)) (hs : pk_S M q = some (.inl (.long, N))) (hq : 5 ≤ q) (hin : vp_in i N) (k : pk_G Γ κ cc M ls (.long (pk_J M q i.toNatClampNeg) :: st) (pc + 1) cu su) : pk_G Γ κ cc M ls (.int i :: .ref q :: st) pc cu su := by
  intro p e s m below meth c H locs arr C hz hR hS hL
  exact va_lald C.1 C.2.1 hR.2.2.2.1 hR.2.2.1 (q - 5) 2 (pk_w_at (Γ := Γ) hq hs) rfl hin hd (k p e s m below meth c H locs arr C hz hR hS hL)
theorem pk_last {q N : Nat} {i : Int32} {x : Int64} (hd : decode cc pc = .ok (.lastore, 1)) (hs : pk_S M q = some (.inl (.long, N))) (hq : 5 ≤ q) (hin : vp_in i N) (k : pk_G Γ κ cc (pk_sJ M q i.toNatClampNeg x) ls st (pc + 1) cu su) : pk_G Γ κ cc M ls (.long x :: .int i :: .ref q :: st) pc cu su := by
  intro p e s m below meth c H locs arr C hz hR hS hL
  refine va_last (H0 := H) C.1 C.2.1 hR.2.2.2.1 hR.2.2.1 (pk_w_D Γ M) (pk_S0 hS) (q - 5) 2 (pk_w_at (Γ := Γ) hq hs) rfl hin hd (fun H1 locs1 hP1 _ hS1 => pk_fin C hz hR hS hL (pk_off_sJ M q i.toNatClampNeg x) hq hs hP1 ?_ hS1 k)
  have hf : vp_updL (M.2.2.1 q) i.toNatClampNeg x = (pk_sJ M q i.toNatClampNeg x).2.2.1 q := by
    funext j
    by_cases hj : j = i.toNatClampNeg <;> simp [vp_updL, pk_sJ, hj]
  simp only [pk_cell, pk_arr, hf]
/-- the two kinds of arrays of places -/
def pk_tq (t0 : Nat) (C : String) : Prop := (t0 = 3 ∧ C = RX4) ∨ (t0 = 4 ∧ C = RX3)
theorem pk_aald {q N r t0 : Nat} {C0 : String} {i : Int32} (hd : decode cc pc = .ok (.aaload, 1)) (ht : pk_tq t0 C0) (hs : pk_S M q = some (.inl (.object C0, N))) (hq : 5 ≤ q) (hin : vp_in i N) (hp : pk_P M q i.toNatClampNeg = some r) (k : pk_G Γ κ cc M ls (.ref r :: st) (pc + 1) cu su) : pk_G Γ κ cc M ls (.int i :: .ref q :: st) pc cu su := by
  intro p e s m below meth c H locs arr C hz hR hS hL
  have ht' : (pk_tys Γ)[t0]? = some (Γ.2.2.1 (.object C0), .object C0) := by
    rcases ht with ⟨rfl, rfl⟩ | ⟨rfl, rfl⟩ <;> rfl
  refine va_aldq C.1 C.2.1 hR.2.2.2.1 hR.2.2.1 (q - 5) t0 (pk_w_at (Γ := Γ) hq hs) ht' hin hd ?_
  have e1 : va_rf ((M.2.2.2 q i.toNatClampNeg).map (pk_ga Γ)) = .ref (pk_ga Γ r) := by
    rw [show M.2.2.2 q i.toNatClampNeg = some r from hp]
    rfl
  rw [e1]
  exact k p e s m below meth c H locs arr C hz hR hS hL
theorem pk_aast {q N r t0 ci : Nat} {C0 : String} {i : Int32} (hd : decode cc pc = .ok (.aastore, 1)) (ht : pk_tq t0 C0) (hs : pk_S M q = some (.inl (.object C0, N))) (hq : 5 ≤ q) (hin : vp_in i N) (h8 : ci < 8) (hc : pk_cls ci = C0) (hr : pk_S M r = some (.inr ci)) (k : pk_G Γ κ cc (pk_sP M q i.toNatClampNeg (some r)) ls st (pc + 1) cu su) : pk_G Γ κ cc M ls (.ref r :: .int i :: .ref q :: st) pc cu su := by
  intro p e s m below meth c H locs arr C hz hR hS hL
  have ht' : (pk_tys Γ)[t0]? = some (Γ.2.2.1 (.object C0), .object C0) := by
    rcases ht with ⟨rfl, rfl⟩ | ⟨rfl, rfl⟩ <;> rfl
  subst hc
  refine va_astq (H0 := H) (r := (pk_cls ci, pk_tab ci, pk_fn ci)) C.1 C.2.1 hR.2.2.2.1 hR.2.2.1 (pk_w_D Γ M) (pk_S0 hS) (q - 5) t0 (r - 5) ci (pk_w_at (Γ := Γ) hq hs) ht' (pk_w_at (Γ := Γ) (hR.obj hr) hr) (pk_clq h8) hin hd (fun H1 locs1 hP1 _ hS1 => pk_fin C hz hR hS hL (pk_off_sP M q i.toNatClampNeg (some r)) hq hs hP1 ?_ hS1 k)
  have hf : va_up (fun j => (M.2.2.2 q j).map (pk_ga Γ)) i.toNatClampNeg (some (pk_ga Γ r)) = fun j => ((pk_sP M q i.toNatClampNeg (some r)).2.2.2 q j).map (pk_ga Γ) := by
    funext j
    by_cases hj : j = i.toNatClampNeg <;> simp [va_up, pk_sP, hj]
  simp only [pk_cell, pk_arr, hf]
theorem pk_alen {q N : Nat} (hd : decode cc pc = .ok (.arraylength, 1)) (hq : q < 5) (hs : pk_S M q = some (.inl (.int, N))) (k : pk_G Γ κ cc M ls (.int (Int32.ofNat N) :: st) (pc + 1) cu su) : pk_G Γ κ cc M ls (.ref q :: st) pc cu su := by
  intro p e s m below meth c H locs arr C hz hR hS hL
  obtain ⟨N', e1, cell, g1, g2, g3, g4, g5, g6, g7⟩ := hR.2.2.2.2.1 q hq
  rw [hs] at e1
  cases e1
  exact W.alen C.1 C.2.1 g1 g2 g5 rfl rfl hd (k p e s m below meth c H locs arr C hz hR hS hL)
theorem pk_gets {idx q : Nat} {nm : String} (hd : decode cc pc = .ok (.getstatic idx, 3)) (hm : (nm, q) ∈ pk_st) (hw : Cond.fieldLink κ.1 idx RX6 nm "[I" ∈ pk_tbl ∨ ∃ host, Cond.fieldLinkNest κ.1 idx RX6 nm "[I" host ∈ pk_tbl) (k : pk_G Γ κ cc M ls (.ref q :: st) (pc + 3) cu su) : pk_G Γ κ cc M ls st pc cu su := by
  intro p e s m below meth c H locs arr C hz hR hS hL
  have hZ := hR.2.2.2.2.2 (nm, q) hm
  have hZ0 : va_Z RX6 nm "[I" (.ref (pk_ga Γ q)) (pk_A Γ) s s.heap := hZ.kept (fun a _ hA => (hS.2.1 a (Nat.lt_of_lt_of_le (Nat.not_le.mp hA) C.2.2.2.2.2.2.2.2) hA).symm)
  rcases hw with hw | ⟨host, hw⟩
  · exact va_gets C.1 C.2.1 hZ0 hS C.2.2.2.2.2.1 (C.2.2.2.2.2.2.2.1 _ hw) (fun _ h => h) hd (k p e s m below meth c H locs arr C hz hR hS hL)
  · exact va_getsN C.1 C.2.1 hZ0 hS C.2.2.2.2.2.1 (C.2.2.2.2.2.2.2.1 _ hw) (fun _ h => h) hd (k p e s m below meth c H locs arr C hz hR hS hL)
end PkH
end
section
/-! Contracts over the flat memory; entry, return, calls. -/
theorem pk_isN_use {w : Cond} (h : pk_isN w = true) {A : Array Value} {U : State} (hZ : va_Nw w U) : w.before A U = true := by
  unfold pk_isN at h
  split at h
  · exact va_Nw.use rfl hZ
  · exact va_Nw.use rfl hZ
  · exact hZ
  · cases h
theorem pk_isN_of {w : Cond} (h : pk_isN w = true) {A : Array Value} {U : State} (hZ : w.before A U = true) : va_Nw w U := by
  unfold pk_isN at h
  split at h
  · exact va_Nw.of rfl hZ
  · exact va_Nw.of rfl hZ
  · exact hZ
  · cases h
def pk_gws : List Cond := lw_tbl.filter goodWord
def pk_U (Γ : pk_T) (M : pk_M) (U : State) : Prop := pk_R Γ M U U.heap ∧ ∀ w ∈ pk_tbl, pk_isN w = true → va_Nw w U
theorem pk_isN_warm {w : Cond} (h : pk_isN w = true) {s U : State} (hW : s.WarmedH U.vm) (hZ : va_Nw w s) : va_Nw w U := by
  unfold pk_isN at h
  split at h
  · exact hZ.warmF hW
  · exact hZ.warmM hW
  · exact va_AO.moved hW.alike hZ
  · cases h
theorem pk_isN_same {w : Cond} (h : pk_isN w = true) {s U : State} (hW : s.vm = U.vm) (hZ : va_Nw w s) : va_Nw w U := by
  unfold pk_isN at h
  split at h
  · exact hZ.same rfl hW
  · exact hZ.same rfl hW
  · exact va_AO.moved (by rw [hW]; exact Vm.Alike.refl _) hZ
  · cases h
def pk_rm (d mc ms : Nat) : Room := { frames := d, cells := mc, slots := ms, locals := 40 * d }
def pk_Q (Γ : pk_T) (mc : Nat) (Φ : Option Value → pk_M → Prop) : Array Value → State → Outcome → State → Prop := fun _ st o t =>
  ∃ (v : Option Value) (M' : pk_M), o = .returned (v.map (pk_gv Γ)) ∧ Φ v M' ∧ pk_R Γ M' t t.heap ∧ t.heap.size = st.heap.size + mc ∧ va_F (pk_A Γ) st t
abbrev pk_kq (Γ : pk_T) (own : String) (nL : Nat) (ret : Option FieldType) (ini : Bool) (d mc ms : Nat) (ar : Array Value) (Φ : Option Value → pk_M → Prop) : pk_K :=
  (own, nL, ret, ini, pk_rm d mc ms, ar, fun below s => MQ below (pk_Q Γ mc Φ) ar s mc ms (pk_A Γ))
def pk_E (Γ : pk_T) (y : MethodName) (cc : ByteArray) (nL : Nat) (ret : Option FieldType) (d mc ms : Nat) (M : pk_M) (av : List Value) (Φ : Option Value → pk_M → Prop) : Prop :=
  Met Γ.1 y (.code y cc nL ret :: pk_gws) (pk_rm d mc ms) (va_Pc (av.map (pk_gv Γ)) (fun U => pk_U Γ M U)) (pk_Q Γ mc Φ) mc ms (pk_A Γ)
def pk_sl : List Value → List (Option Value)
  | [] => []
  | v :: vs => if v.category = 2 then some v :: none :: pk_sl vs else some v :: pk_sl vs
def pk_ent (nL : Nat) (av : List Value) : List (Option Value) := pk_sl av ++ List.replicate (nL - (pk_sl av).length) none
theorem pk_sl_len (Γ : pk_T) (av : List Value) : (lg_sl (av.map (pk_gv Γ))).length = (pk_sl av).length := by
  induction av with
  | nil => rfl
  | cons v vs ih =>
    simp only [lg_sl, List.map_cons, List.flatMap_cons, pk_gv_cat, pk_sl] at ih ⊢
    by_cases h : v.category = 2
    · simp only [h, if_true, List.length_append, List.length_cons, List.length_nil, ih]
      omega
    · simp only [h, if_false, List.length_append, List.length_cons, List.length_nil, ih]
      omega
theorem pk_sl_at (Γ : pk_T) (av : List Value) : ∀ (k : Nat) (v : Value), (pk_sl av)[k]? = some (some v) → (lg_sl (av.map (pk_gv Γ)))[k]? = some (.val (pk_gv Γ v)) := by
  induction av with
  | nil => intro k v h; simp [pk_sl] at h
  | cons u vs ih =>
    intro k v h
    have e : lg_sl ((u :: vs).map (pk_gv Γ)) = (if u.category = 2 then [.val (pk_gv Γ u), .second] else [.val (pk_gv Γ u)]) ++ lg_sl (vs.map (pk_gv Γ)) := by
      simp only [lg_sl, List.map_cons, List.flatMap_cons, pk_gv_cat]
    rw [e]
    by_cases hc : u.category = 2
    · simp only [pk_sl, hc, if_true] at h ⊢
      match k, h with
      | 0, h => cases h; rfl
      | 1, h => cases h
      | k + 2, h => exact ih k v h
    · simp only [pk_sl, hc, if_false] at h ⊢
      match k, h with
      | 0, h => cases h; rfl
      | k + 1, h => exact ih k v h
section PkE
variable {Γ : pk_T} {κ : pk_K} {cc : ByteArray} {M : pk_M} {ls : List (Option Value)} {st : List Value} {pc cu su : Nat}
theorem pk_meth {y : MethodName} {own : String} {nL : Nat} {ret : Option FieldType} {ini : Bool} {d mc ms : Nat} {av : List Value} {Φ : Option Value → pk_M → Prop} (ls0 : List (Option Value)) (hy : plainName y.cls = true) (ho : y.cls = own) (hi : (y.name == "<init>") = ini) (hl : Nat.ble (pk_sl av).length nL = true) (he : pk_ent nL av = ls0)
    (body : pk_G Γ (pk_kq Γ own nL ret ini d mc ms (av.map (pk_gv Γ)).toArray Φ) cc M ls0 [] 0 0 0) : pk_E Γ y cc nL ret d mc ms M av Φ := by
  refine Met.ofW (cc := cc) (maxL := nL) (ret := ret) hy rfl ?_
  intro p e s m args below meth c s₁ B hml hv
  obtain ⟨rfl, hR, hN⟩ := hv
  have hts := atoms_spec (ws := .code y cc nL ret :: pk_gws) B.pre
  subst ho; subst he
  have hwords : ∀ w ∈ pk_tbl, w.before (av.map (pk_gv Γ)).toArray s = true := by
    intro w hw
    obtain ⟨hw1, hw2⟩ := List.mem_filter.mp hw
    by_cases hg : goodWord w = true
    · exact hts w (List.mem_cons_of_mem _ (List.mem_filter.mpr ⟨hw1, hg⟩))
    · rw [Bool.or_eq_true] at hw2
      have hn := hw2.resolve_left hg
      exact pk_isN_use hn (hN w hw hn)
  have hl' : (pk_sl av).length ≤ nL := Nat.le_of_ble_eq_true hl
  rw [lg_entry_eq]
  refine body p e s m below meth c s.heap [] _ ⟨B.exec, B.bytes, hml, B.returns, B.notSynchronized, findClass_of_methodNamed B.named, fun h => ?_, hwords, ?_⟩ (by omega) hR va_S.rf ⟨?_, ?_, ?_, ?_⟩
  · rw [(name_of_methodNamed B.named B.method).1]
    have h2 : (y.name == "<init>") = true := hi.trans h
    exact eq_of_beq h2
  · rw [hR.2.1]
    exact Nat.le_add_right _ _
  · show (pk_ent nL av).length = nL
    simp only [pk_ent, List.length_append, List.length_replicate]
    omega
  · exact (lv_entry (av.map (pk_gv Γ)) (n := nL) (by rw [pk_sl_len]; exact hl')).1
  · exact (lv_entry (av.map (pk_gv Γ)) (n := nL) (by rw [pk_sl_len]; exact hl')).2.1
  · intro k v hk
    show ((lg_sl (av.map (pk_gv Γ)) ++ _).toArray)[k]? = _
    rw [List.getElem?_toArray]
    by_cases hk2 : k < (pk_sl av).length
    · rw [List.getElem?_append_left (by rw [pk_sl_len]; exact hk2)]
      simp only [pk_ent] at hk
      rw [List.getElem?_append_left hk2] at hk
      exact pk_sl_at Γ av k v hk
    · simp only [pk_ent] at hk
      rw [List.getElem?_append_right (by omega)] at hk
      obtain ⟨h1, h2⟩ := List.getElem?_eq_some_iff.mp hk
      rw [List.getElem_replicate] at h2
      cases h2
theorem pk_reti {own : String} {nL : Nat} {ty : FieldType} {ini : Bool} {d mc ms : Nat} {ar : Array Value} {Φ : Option Value → pk_M → Prop} {v : Int32} (hd : decode cc pc = .ok (.ireturn, 1)) (hn : narrow ty (.int v) = .int v) (hΦ : Φ (some (.int v)) M) : pk_G Γ (pk_kq Γ own nL (some ty) ini d mc ms ar Φ) cc M ls [.int v] pc mc ms := by
  intro p e s m below meth c H locs arr C hz hR hS hL
  exact W.zret C.1 C.2.1 C.2.2.2.1 hn (fun t ht hW => ⟨some (.int v), M, rfl, hΦ, by rw [ht]; exact hR.moved hW.alike, by rw [ht]; exact hz, hS.F ht⟩) hS.2.2 hd C.2.2.2.2.1
theorem pk_retl {own : String} {nL : Nat} {ini : Bool} {d mc ms : Nat} {ar : Array Value} {Φ : Option Value → pk_M → Prop} {v : Int64} (hd : decode cc pc = .ok (.lreturn, 1)) (hΦ : Φ (some (.long v)) M) : pk_G Γ (pk_kq Γ own nL (some .long) ini d mc ms ar Φ) cc M ls [.long v] pc mc ms := by
  intro p e s m below meth c H locs arr C hz hR hS hL
  exact W.lret C.1 C.2.1 C.2.2.2.1 (fun t ht hW => ⟨some (.long v), M, rfl, hΦ, by rw [ht]; exact hR.moved hW.alike, by rw [ht]; exact hz, hS.F ht⟩) hS.2.2 hd C.2.2.2.2.1
theorem pk_retv {own : String} {nL : Nat} {ini : Bool} {d mc ms : Nat} {ar : Array Value} {Φ : Option Value → pk_M → Prop} (hd : decode cc pc = .ok (.return_, 1)) (hΦ : Φ none M) : pk_G Γ (pk_kq Γ own nL none ini d mc ms ar Φ) cc M ls [] pc mc ms := by
  intro p e s m below meth c H locs arr C hz hR hS hL
  exact W.vret C.1 C.2.1 C.2.2.2.1 (fun t ht hW => ⟨none, M, rfl, hΦ, by rw [ht]; exact hR.moved hW.alike, by rw [ht]; exact hz, hS.F ht⟩) hS.2.2 hd C.2.2.2.2.1
/-- behind a call -/
theorem pk_back {mc ms : Nat} {rest : List Value} {Φ : Option Value → pk_M → Prop} {a : Array Value} {st0 : List Value} {p : Program} {e : Env} {s : State} {m : MethodId} {below : List Frame} {meth : Method} {c : Code} {H : Heap} {locs : List Loc} {arr : Array Slot}
    (C : pk_C Γ κ cc p s m meth c) (hz : H.size = s.heap.size + cu) (hS : va_S (pk_A Γ) s.heap H locs) (hL : pk_L Γ κ.2.1 ls arr)
    (hr : va_Run p Γ.1 e κ.2.2.2.2.1 s m κ.2.2.2.2.2.1 below meth c H locs cu su mc ms (F0 m pc arr st0) (rest.map (pk_gv Γ)) (pk_Q Γ mc Φ a) (pk_A Γ))
    (k : ∀ (v : Option Value) (M' : pk_M), Φ v M' → pk_G Γ κ cc M' ls (v.toList ++ rest) (pc + 3) (cu + mc) (su + ms)) : W p Γ.1 e κ.2.2.2.2.1 s m κ.2.2.2.2.2.1 below meth c H locs cu su (κ.2.2.2.2.2.2 below s) (F0 m pc arr st0) := by
  intro T hT X
  obtain ⟨v, st₀, t, T', L, h0, X', hL', e1, e2, ⟨v', M', hv, hΦ, hR', hsz, hF⟩, go⟩ := hr T hT X
  have hv' : v = v'.map (pk_gv Γ) := Outcome.returned.inj hv
  subst hv'
  rw [h0] at hsz
  have halike : t.vm.Alike s.vm := by rw [← e2]; exact X'.warmed.alike.symm
  have hS1 : va_S (pk_A Γ) s.heap t.heap (locs ++ L) := by
    obtain ⟨f1, f2⟩ := hF
    rw [h0] at f1 f2
    refine ⟨Nat.le_trans hS.1 f1, fun q hq hA => (f2 q (Nat.lt_of_lt_of_le hq hS.1) hA).trans (hS.2.1 q hq hA), fun q hq => ?_⟩
    rcases List.mem_append.mp hq with h | h
    · exact hS.2.2 q h
    · exact hL' q h
  obtain ⟨t2, a1, b1⟩ := k v' M' hΦ p e s m below meth c t.heap (locs ++ L) arr C (by omega) (hR'.moved halike) hS1 hL T' e1 X'
  refine ⟨t2, go t2 ?_, b1⟩
  have e3 : (v'.map (pk_gv Γ)).toList ++ rest.map (pk_gv Γ) = (v'.toList ++ rest).map (pk_gv Γ) := by cases v' <;> rfl
  rw [e3]
  exact a1
/-- what the tables say of a method that is called -/
def pk_YW (y : MethodName) (cc' : ByteArray) (nL' : Nat) (ret' : Option FieldType) (n : Nat) : Prop :=
  Cond.code y cc' nL' ret' ∈ pk_tbl ∧ Cond.initialized y.cls ∈ pk_tbl ∧ (y.cls ≠ "java/lang/invoke/MethodHandle" ∧ y.cls ≠ "java/lang/invoke/VarHandle") ∧ (parseMethodDescriptor y.desc).map (fun d => d.parameters.length) = some n ∧ nL' ≤ 21
def pk_ML (own : String) (idx : Nat) (y : MethodName) : Prop := Cond.methodLink own idx y ∈ pk_tbl ∨ ∃ host, Cond.methodLinkNest own idx y host ∈ pk_tbl
theorem pk_arity {y : MethodName} {n : Nat} (h : (parseMethodDescriptor y.desc).map (fun d => d.parameters.length) = some n) : ∀ sig, parseMethodDescriptor y.desc = some sig → n = sig.parameters.length := by
  intro sig hs
  rw [hs] at h
  exact (Option.some.inj h).symm
theorem pk_cw {y : MethodName} {cc' : ByteArray} {nL' : Nat} {ret' : Option FieldType} {n d' mc ms : Nat} {p : Program} {s : State} {m : MethodId} {meth : Method} {c : Code} (C : pk_C Γ κ cc p s m meth c) (hY : pk_YW y cc' nL' ret' n) (h1 : Nat.ble (d' + 1) κ.2.2.2.2.1.frames = true) (h2 : Nat.ble (40 * (d' + 1)) κ.2.2.2.2.1.locals = true) :
    (∀ w ∈ (Cond.code y cc' nL' ret' :: pk_gws), ∀ (a' : Array Value) (U : State), s.WarmedH U.vm → w.before a' U = true) ∧ (pk_rm d' mc ms).frames + 1 ≤ κ.2.2.2.2.1.frames ∧ 8 + (nL' + 11) + (pk_rm d' mc ms).locals ≤ κ.2.2.2.2.1.locals := by
  refine ⟨fun w hw a' U hW => ?_, Nat.le_of_ble_eq_true h1, ?_⟩
  · rcases List.mem_cons.mp hw with rfl | hw
    · exact word_at hW (Or.inl (by rfl)) (C.2.2.2.2.2.2.2.1 _ hY.1)
    · obtain ⟨h3, h4⟩ := List.mem_filter.mp hw
      exact word_at hW (good_of_word h4) (C.2.2.2.2.2.2.2.1 _ (pk_tb h3 (by rw [h4]; rfl)))
  · have h3 := Nat.le_of_ble_eq_true h2
    have h4 := hY.2.2.2.2
    show 8 + (nL' + 11) + 40 * d' ≤ _
    omega
theorem pk_pc {av : List Value} {p : Program} {s : State} {m : MethodId} {meth : Method} {c : Code} {H : Heap} (C : pk_C Γ κ cc p s m meth c) (hR : pk_R Γ M s H) : FrameBlind (va_Pc (av.map (pk_gv Γ)) (fun U => pk_U Γ M U)) ∧ ∀ U : State, U.heap = H → s.WarmedH U.vm → va_Pc (av.map (pk_gv Γ)) (fun U => pk_U Γ M U) (av.map (pk_gv Γ)).toArray U := by
  refine ⟨fun a U g mk q => ?_, fun U hU hW => ⟨rfl, by rw [hU]; exact hR.moved hW.alike, fun w hw hn => ?_⟩⟩
  · obtain ⟨q1, q2, q3⟩ := q
    exact ⟨q1, pk_R.moved (u := U) (U := U.calling g mk a) (Vm.Alike.refl U.vm) q2, fun w hw hn => pk_isN_same (s := U) hn rfl (q3 w hw hn)⟩
  · exact pk_isN_warm hn hW (pk_isN_of hn (C.2.2.2.2.2.2.2.1 w hw))
theorem pk_callS {y : MethodName} {cc' : ByteArray} {nL' : Nat} {ret' : Option FieldType} {n d' mc ms idx : Nat} {As rest : List Value} {Φ : Option Value → pk_M → Prop} (hd : decode cc pc = .ok (.invokestatic idx, 3)) (hM : pk_ML κ.1 idx y) (hY : pk_YW y cc' nL' ret' n) (hs : Cond.static y ∈ pk_tbl) (hE : pk_E Γ y cc' nL' ret' d' mc ms M As Φ) (hst : st = As.reverse ++ rest) (hn : As.length = n)
    (h1 : Nat.ble (d' + 1) κ.2.2.2.2.1.frames = true) (h2 : Nat.ble (40 * (d' + 1)) κ.2.2.2.2.1.locals = true) (h3 : Nat.ble (cu + mc) κ.2.2.2.2.1.cells = true) (h4 : Nat.ble (su + ms) κ.2.2.2.2.1.slots = true) (h5 : Nat.ble ((rest.map fun v => v.category).sum) 8 = true)
    (k : ∀ (v : Option Value) (M' : pk_M), Φ v M' → pk_G Γ κ cc M' ls (v.toList ++ rest) (pc + 3) (cu + mc) (su + ms)) : pk_G Γ κ cc M ls st pc cu su := by
  intro p e s m below meth c H locs arr C hz hR hS hL
  obtain ⟨w1, w2, w3⟩ := pk_cw (d' := d') (mc := mc) (ms := ms) C hY h1 h2
  obtain ⟨b1, b2⟩ := pk_pc (av := As) C hR
  have hcat : ((rest.map (pk_gv Γ)).map fun v => v.category).sum ≤ 8 := by
    rw [List.map_map, show ((fun v : Value => v.category) ∘ pk_gv Γ) = (fun v : Value => v.category) from funext (pk_gv_cat Γ)]
    exact Nat.le_of_ble_eq_true h5
  have hst' : (st.map (pk_gv Γ)) = (As.map (pk_gv Γ)).reverse ++ rest.map (pk_gv Γ) := by rw [hst, List.map_append, List.map_reverse]
  refine pk_back (a := (As.map (pk_gv Γ)).toArray) C hz hS hL ?_ k
  rcases hM with hM | ⟨host, hM⟩
  · exact va_runS (As := As.map (pk_gv Γ)) (rest := rest.map (pk_gv Γ)) ⟨C.1, C.2.1, C.2.2.1, C.2.2.2.2.2.1, C.2.2.2.2.2.2.2.1⟩ hE ⟨⟨rfl, rfl, w2, w3, w1, List.mem_cons_self, C.2.2.2.2.2.2.2.1 _ hY.1, C.2.2.2.2.2.2.2.1 _ hY.2.1, hY.2.2.1, pk_arity hY.2.2.2.1, C.2.2.2.2.2.2.2.1 _ hM⟩, C.2.2.2.2.2.2.2.1 _ hs⟩ ⟨b1, b2⟩ rfl (by rw [List.length_map]; exact hn) (by show arr.size = _; rw [hL.2.1]) hst' (lv_room hcat) hd ⟨Nat.le_of_ble_eq_true h3, Nat.le_of_ble_eq_true h4⟩
  · exact va_runSN (As := As.map (pk_gv Γ)) (rest := rest.map (pk_gv Γ)) ⟨C.1, C.2.1, C.2.2.1, C.2.2.2.2.2.1, C.2.2.2.2.2.2.2.1⟩ hE ⟨⟨⟨rfl, rfl, w2, w3, w1, List.mem_cons_self⟩, C.2.2.2.2.2.2.2.1 _ hY.1, C.2.2.2.2.2.2.2.1 _ hY.2.1, hY.2.2.1, pk_arity hY.2.2.2.1, C.2.2.2.2.2.2.2.1 _ hM⟩, C.2.2.2.2.2.2.2.1 _ hs, trivial⟩ ⟨b1, b2⟩ rfl (by rw [List.length_map]; exact hn) (by show arr.size = _; rw [hL.2.1]) hst' (lv_room hcat) hd ⟨Nat.le_of_ble_eq_true h3, Nat.le_of_ble_eq_true h4⟩
theorem pk_callI {y : MethodName} {cc' : ByteArray} {nL' n d' mc ms idx b : Nat} {As rest : List Value} {Φ : Option Value → pk_M → Prop} (hd : decode cc pc = .ok (.invokespecial idx, 3)) (hM : pk_ML κ.1 idx y) (hY : pk_YW y cc' nL' none n) (hs : Cond.instanceMethod y ∈ pk_tbl) (hi : y.name = "<init>") (hE : pk_E Γ y cc' nL' none d' mc ms M (.ref b :: As) Φ) (hst : st = As.reverse ++ .ref b :: rest) (hn : As.length = n)
    (h1 : Nat.ble (d' + 1) κ.2.2.2.2.1.frames = true) (h2 : Nat.ble (40 * (d' + 1)) κ.2.2.2.2.1.locals = true) (h3 : Nat.ble (cu + mc) κ.2.2.2.2.1.cells = true) (h4 : Nat.ble (su + ms) κ.2.2.2.2.1.slots = true) (h5 : Nat.ble ((rest.map fun v => v.category).sum) 8 = true)
    (k : ∀ (v : Option Value) (M' : pk_M), Φ v M' → pk_G Γ κ cc M' ls (v.toList ++ rest) (pc + 3) (cu + mc) (su + ms)) : pk_G Γ κ cc M ls st pc cu su := by
  intro p e s m below meth c H locs arr C hz hR hS hL
  obtain ⟨w1, w2, w3⟩ := pk_cw (d' := d') (mc := mc) (ms := ms) C hY h1 h2
  obtain ⟨b1, b2⟩ := pk_pc (av := .ref b :: As) C hR
  have hcat : ((rest.map (pk_gv Γ)).map fun v => v.category).sum ≤ 8 := by
    rw [List.map_map, show ((fun v : Value => v.category) ∘ pk_gv Γ) = (fun v : Value => v.category) from funext (pk_gv_cat Γ)]
    exact Nat.le_of_ble_eq_true h5
  have hst' : (st.map (pk_gv Γ)) = (As.map (pk_gv Γ)).reverse ++ .ref (pk_ga Γ b) :: rest.map (pk_gv Γ) := by rw [hst, List.map_append, List.map_reverse]; rfl
  refine pk_back (a := (Value.ref (pk_ga Γ b) :: As.map (pk_gv Γ)).toArray) C hz hS hL ?_ k
  rcases hM with hM | ⟨host, hM⟩
  · exact va_runI (As := As.map (pk_gv Γ)) (rest := rest.map (pk_gv Γ)) ⟨C.1, C.2.1, C.2.2.1, C.2.2.2.2.2.1, C.2.2.2.2.2.2.2.1⟩ hE ⟨⟨rfl, rfl, w2, w3, w1, List.mem_cons_self, C.2.2.2.2.2.2.2.1 _ hY.1, C.2.2.2.2.2.2.2.1 _ hY.2.1, hY.2.2.1, pk_arity hY.2.2.2.1, C.2.2.2.2.2.2.2.1 _ hM⟩, hi, C.2.2.2.2.2.2.2.1 _ hs⟩ ⟨b1, b2⟩ rfl (by rw [List.length_map]; exact hn) (by show arr.size = _; rw [hL.2.1]) hst' (lv_room hcat) hd ⟨Nat.le_of_ble_eq_true h3, Nat.le_of_ble_eq_true h4⟩
  · exact va_runIN (As := As.map (pk_gv Γ)) (rest := rest.map (pk_gv Γ)) ⟨C.1, C.2.1, C.2.2.1, C.2.2.2.2.2.1, C.2.2.2.2.2.2.2.1⟩ hE ⟨⟨⟨rfl, rfl, w2, w3, w1, List.mem_cons_self⟩, C.2.2.2.2.2.2.2.1 _ hY.1, C.2.2.2.2.2.2.2.1 _ hY.2.1, hY.2.2.1, pk_arity hY.2.2.2.1, C.2.2.2.2.2.2.2.1 _ hM⟩, hi, C.2.2.2.2.2.2.2.1 _ hs⟩ ⟨b1, b2⟩ rfl (by rw [List.length_map]; exact hn) (by show arr.size = _; rw [hL.2.1]) hst' (lv_room hcat) hd ⟨Nat.le_of_ble_eq_true h3, Nat.le_of_ble_eq_true h4⟩
theorem pk_callV {y : MethodName} {cc' : ByteArray} {nL' : Nat} {ret' : Option FieldType} {n d' mc ms idx b ci : Nat} {As rest : List Value} {Φ : Option Value → pk_M → Prop} (hd : decode cc pc = .ok (.invokevirtual idx, 3)) (hM : pk_ML κ.1 idx y) (hY : pk_YW y cc' nL' ret' n) (hs : Cond.instanceMethod y ∈ pk_tbl ∧ Cond.selects (pk_cls ci) y y ∈ pk_tbl ∧ ci < 8) (hb : pk_S M b = some (.inr ci)) (hE : pk_E Γ y cc' nL' ret' d' mc ms M (.ref b :: As) Φ) (hst : st = As.reverse ++ .ref b :: rest) (hn : As.length = n)
    (h1 : Nat.ble (d' + 1) κ.2.2.2.2.1.frames = true) (h2 : Nat.ble (40 * (d' + 1)) κ.2.2.2.2.1.locals = true) (h3 : Nat.ble (cu + mc) κ.2.2.2.2.1.cells = true) (h4 : Nat.ble (su + ms) κ.2.2.2.2.1.slots = true) (h5 : Nat.ble ((rest.map fun v => v.category).sum) 8 = true)
    (k : ∀ (v : Option Value) (M' : pk_M), Φ v M' → pk_G Γ κ cc M' ls (v.toList ++ rest) (pc + 3) (cu + mc) (su + ms)) : pk_G Γ κ cc M ls st pc cu su := by
  intro p e s m below meth c H locs arr C hz hR hS hL
  obtain ⟨w1, w2, w3⟩ := pk_cw (d' := d') (mc := mc) (ms := ms) C hY h1 h2
  obtain ⟨b1, b2⟩ := pk_pc (av := .ref b :: As) C hR
  have hcat : ((rest.map (pk_gv Γ)).map fun v => v.category).sum ≤ 8 := by
    rw [List.map_map, show ((fun v : Value => v.category) ∘ pk_gv Γ) = (fun v : Value => v.category) from funext (pk_gv_cat Γ)]
    exact Nat.le_of_ble_eq_true h5
  have hst' : (st.map (pk_gv Γ)) = (As.map (pk_gv Γ)).reverse ++ .ref (pk_ga Γ b) :: rest.map (pk_gv Γ) := by rw [hst, List.map_append, List.map_reverse]; rfl
  have hrecv := va_recv hR.2.2.2.1 hR.2.2.1 (pk_clq hs.2.2) (pk_w_at (Γ := Γ) (hR.obj hb) hb)
  refine pk_back (a := (Value.ref (pk_ga Γ b) :: As.map (pk_gv Γ)).toArray) C hz hS hL ?_ k
  rcases hM with hM | ⟨host, hM⟩
  · exact va_runV (As := As.map (pk_gv Γ)) (rest := rest.map (pk_gv Γ)) (C := pk_cls ci) ⟨C.1, C.2.1, C.2.2.1, C.2.2.2.2.2.1, C.2.2.2.2.2.2.2.1⟩ hE ⟨⟨rfl, rfl, w2, w3, w1, List.mem_cons_self, C.2.2.2.2.2.2.2.1 _ hY.1, C.2.2.2.2.2.2.2.1 _ hY.2.1, hY.2.2.1, pk_arity hY.2.2.2.1, C.2.2.2.2.2.2.2.1 _ hM⟩, C.2.2.2.2.2.2.2.1 _ hs.1, C.2.2.2.2.2.2.2.1 _ hs.2.1⟩ ⟨b1, hrecv, b2⟩ rfl (by rw [List.length_map]; exact hn) (by show arr.size = _; rw [hL.2.1]) hst' (lv_room hcat) hd ⟨Nat.le_of_ble_eq_true h3, Nat.le_of_ble_eq_true h4⟩
  · exact va_runVN (As := As.map (pk_gv Γ)) (rest := rest.map (pk_gv Γ)) (C := pk_cls ci) ⟨C.1, C.2.1, C.2.2.1, C.2.2.2.2.2.1, C.2.2.2.2.2.2.2.1⟩ hE ⟨⟨⟨rfl, rfl, w2, w3, w1, List.mem_cons_self⟩, C.2.2.2.2.2.2.2.1 _ hY.1, C.2.2.2.2.2.2.2.1 _ hY.2.1, hY.2.2.1, pk_arity hY.2.2.2.1, C.2.2.2.2.2.2.2.1 _ hM⟩, C.2.2.2.2.2.2.2.1 _ hs.1, C.2.2.2.2.2.2.2.1 _ hs.2.1⟩ ⟨b1, hrecv, b2⟩ rfl (by rw [List.length_map]; exact hn) (by show arr.size = _; rw [hL.2.1]) hst' (lv_room hcat) hd ⟨Nat.le_of_ble_eq_true h3, Nat.le_of_ble_eq_true h4⟩
end PkE
end
section
/-! Making cells; copying arrays; the first constructor. -/
theorem pk_arr_nw_int (Γ : pk_T) (M : pk_M) (n : Nat) (cA : ClassId) : vp_cell cA (n, pk_arr Γ (pk_nw M (.inl (.int, n))) M.1.length .int) = arrV cA n (fun _ => defaultValue .int) := by
  simp only [pk_arr, pk_nw, if_true]
  rfl
theorem pk_arr_nw_bool (Γ : pk_T) (M : pk_M) (n : Nat) (cA : ClassId) : vp_cell cA (n, pk_arr Γ (pk_nw M (.inl (.boolean, n))) M.1.length .boolean) = arrV cA n (fun _ => defaultValue .boolean) := by
  simp only [pk_arr, pk_nw, if_true]
  rfl
theorem pk_arr_nw_long (Γ : pk_T) (M : pk_M) (n : Nat) (cA : ClassId) : vp_cell cA (n, pk_arr Γ (pk_nw M (.inl (.long, n))) M.1.length .long) = arrV cA n (fun _ => defaultValue .long) := by
  simp only [pk_arr, pk_nw, if_true]
  rfl
section PkN
variable {Γ : pk_T} {κ : pk_K} {cc : ByteArray} {M : pk_M} {ls : List (Option Value)} {st : List Value} {pc cu su : Nat}
/-- behind the making of a cell: it lies at the next place -/
theorem pk_made {z : pk_Sh} {ev : va_E} {a n : Nat} {p : Program} {e : Env} {s : State} {m : MethodId} {below : List Frame} {meth : Method} {c : Code} {H H1 : Heap} {locs : List Loc} {arr : Array Slot}
    (C : pk_C Γ κ cc p s m meth c) (hz : H.size = s.heap.size + cu) (hR : pk_R Γ M s H) (hS : va_S (pk_A Γ) s.heap H locs) (hL : pk_L Γ κ.2.1 ls arr)
    (hP1 : va_P Γ.2.1 vwCl (pk_w Γ M ++ [(a, ev)]) H1) (hD1 : va_D (pk_A Γ) (pk_w Γ M ++ [(a, ev)])) (he : ev = pk_cell Γ (pk_nw M z) M.1.length z) (hS1 : va_S (pk_A Γ) H H1 locs)
    (k : pk_G Γ κ cc (pk_nw M z) ls (.ref M.1.length :: st) pc (cu + 1) n) : W p Γ.1 e κ.2.2.2.2.1 s m κ.2.2.2.2.2.1 below meth c H1 locs (cu + 1) n (κ.2.2.2.2.2.2 below s) (F0 m pc arr (.ref a :: st.map (pk_gv Γ))) := by
  refine pk_Wsz (fun hle => ?_)
  have hlen : (pk_w Γ M).length = M.1.length - 5 := by simp [pk_w]
  have hlast : (pk_w Γ M ++ [(a, ev)])[M.1.length - 5]? = some (a, ev) := by
    rw [List.getElem?_append_right (by omega), hlen, Nat.sub_self]
    rfl
  have hlt : a < H1.size := (hP1 _ _ hlast).lt
  have hge : Γ.2.2.2.1 ≤ a := hD1.2 _ _ hlast
  have hsz := hR.2.1
  have h5 := hR.1
  have ha : a = pk_ga Γ M.1.length := by
    have e0 : pk_ga Γ M.1.length = Γ.2.2.2.1 + (M.1.length - 5) := by simp [pk_ga, Nat.not_lt.mpr h5]
    rw [e0]
    rcases Nat.lt_or_ge a (Γ.2.2.2.1 + (M.1.length - 5)) with hlt2 | hge2
    · exfalso
      have hi : a - Γ.2.2.2.1 < (pk_w Γ M).length := by omega
      obtain ⟨x, hx⟩ : ∃ x, (pk_w Γ M)[a - Γ.2.2.2.1]? = some x := ⟨_, List.getElem?_eq_getElem hi⟩
      have hx2 : (pk_w Γ M ++ [(a, ev)])[a - Γ.2.2.2.1]? = some x := by rw [List.getElem?_append_left hi]; exact hx
      have hxa : x.1 = a := by
        rw [pk_w_get] at hx
        cases hz' : M.1[a - Γ.2.2.2.1 + 5]? with
        | none => rw [hz'] at hx; cases hx
        | some z' =>
          rw [hz'] at hx
          cases hx
          show Γ.2.2.2.1 + (a - Γ.2.2.2.1) = a
          omega
      have := hD1.1 _ _ x (a, ev) hx2 hlast hxa
      omega
    · omega
  have hsz1 : H1.size = H.size + 1 := by
    have e0 : pk_ga Γ M.1.length = Γ.2.2.2.1 + (M.1.length - 5) := by simp [pk_ga, Nat.not_lt.mpr h5]
    omega
  have hl1 : (pk_nw M z).1.length = M.1.length + 1 := by simp [pk_nw]
  subst ha
  refine k p e s m below meth c H1 locs arr C (by omega) (hR.to (by omega) (by rw [hl1, hsz1]; omega) (by rw [pk_w_nw h5, ← he]; exact hP1) (fun j hj => ⟨?_, ?_⟩) (fun j hj hA => hS1.2.1 j hj hA)) (pk_Stay hS hS1) hL
  · show (M.1 ++ [z])[j]? = M.1[j]?
    rw [List.getElem?_append_left (by omega)]
  · funext i
    have : j ≠ M.1.length := by omega
    simp [pk_nw, this]
theorem pk_new {idx ci : Nat} (hd : decode cc pc = .ok (.new idx, 3)) (h8 : ci < 8) (hw1 : Cond.classLink κ.1 idx (pk_cls ci) ∈ pk_tbl) (hw2 : Cond.instantiable (pk_cls ci) (pk_fn ci) ∈ pk_tbl) (hw3 : Cond.initialized (pk_cls ci) ∈ pk_tbl) (h3 : Nat.ble (cu + 1) κ.2.2.2.2.1.cells = true) (h4 : Nat.ble (su + pk_fn ci) κ.2.2.2.2.1.slots = true)
    (k : pk_G Γ κ cc (pk_nw M (.inr ci)) ls (.ref M.1.length :: st) (pc + 3) (cu + 1) (su + pk_fn ci)) : pk_G Γ κ cc M ls st pc cu su := by
  intro p e s m below meth c H locs arr C hz hR hS hL
  refine va_new (H0 := H) (ci := ci) (fs := (List.range (pk_fn ci)).map (pk_fld Γ (pk_nw M (.inr ci)) M.1.length ci)) C.1 C.2.1 C.2.2.2.2.2.2.2.1 (pk_lays h8) (pk_fty ci) (pk_tyok h8) C.2.2.2.2.2.1 (C.2.2.2.2.2.2.2.1 _ hw1) (C.2.2.2.2.2.2.2.1 _ hw2) (C.2.2.2.2.2.2.2.1 _ hw3) hR.2.2.2.1 hR.2.2.1 (pk_w_D Γ M) (pk_S0 hS) (fun q hq => ?_) (pk_clq h8) (fun j hj => ?_) (Nat.le_of_ble_eq_true h3) (Nat.le_of_ble_eq_true h4) hd (fun a H1 hP1 hD1 hS1 => pk_made C hz hR hS hL hP1 hD1 rfl hS1 k)
  · show Γ.2.2.2.1 ≤ q
    have := hR.2.1
    omega
  · rw [pk_dv h8 j hj]
    simp only [vp_V, List.getD_eq_getElem?_getD, pk_fs_get _ hj, Option.getD_some, pk_fld, pk_nw, if_true]
    rfl
theorem pk_newa {atype : ArrayType} {ty : FieldType} {n : Int32} {N t0 : Nat} (hd : decode cc pc = .ok (.newarray atype, 2)) (hty : newarray.typeOf atype = ty) (ht : (ty = .int ∧ t0 = 0) ∨ (ty = .boolean ∧ t0 = 1) ∨ (ty = .long ∧ t0 = 2)) (hw : Cond.arrayClass (newarray.typeOf atype) ∈ pk_tbl) (hn : ¬ n < 0) (hN : n.toNatClampNeg = N) (hb : N ≤ 60000) (h3 : Nat.ble (cu + 1) κ.2.2.2.2.1.cells = true) (h4 : Nat.ble (su + N) κ.2.2.2.2.1.slots = true)
    (k : pk_G Γ κ cc (pk_nw M (.inl (ty, N))) ls (.ref M.1.length :: st) (pc + 2) (cu + 1) (su + N)) : pk_G Γ κ cc M ls (.int n :: st) pc cu su := by
  intro p e s m below meth c H locs arr C hz hR hS hL
  have hA : ∀ q, H.size ≤ q → pk_A Γ q := fun q hq => by
    show Γ.2.2.2.1 ≤ q
    have := hR.2.1
    omega
  have hK := hR.2.2.2.1
  rcases ht with ⟨rfl, rfl⟩ | ⟨rfl, rfl⟩ | ⟨rfl, rfl⟩
  · refine va_newa (H0 := H) (atype := atype) (a0 := (N, pk_arr Γ (pk_nw M (.inl (.int, N))) M.1.length .int)) C.1 C.2.1 (C.2.2.2.2.2.2.2.1 _ hw) hty hK hR.2.2.1 (pk_w_D Γ M) (pk_S0 hS) hA (pk_arr_nw_int Γ M N) hn hN (by show N * 4 ≤ _; omega) (Nat.le_of_ble_eq_true h3) (Nat.le_of_ble_eq_true h4) hd (fun a cA H1 hK1 hP1 hD1 hS1 => ?_)
    have e1 : cA = Γ.2.2.1 .int := Option.some.inj ((hK1.2 5 _ rfl).2.symm.trans (hK.2 0 _ rfl).2)
    exact pk_made C hz hR hS hL hP1 hD1 (by rw [e1]; rfl) hS1 k
  · refine va_newa (H0 := H) (atype := atype) (a0 := (N, pk_arr Γ (pk_nw M (.inl (.boolean, N))) M.1.length .boolean)) C.1 C.2.1 (C.2.2.2.2.2.2.2.1 _ hw) hty hK hR.2.2.1 (pk_w_D Γ M) (pk_S0 hS) hA (pk_arr_nw_bool Γ M N) hn hN (by show N * 1 ≤ _; omega) (Nat.le_of_ble_eq_true h3) (Nat.le_of_ble_eq_true h4) hd (fun a cA H1 hK1 hP1 hD1 hS1 => ?_)
    have e1 : cA = Γ.2.2.1 .boolean := Option.some.inj ((hK1.2 5 _ rfl).2.symm.trans (hK.2 1 _ rfl).2)
    exact pk_made C hz hR hS hL hP1 hD1 (by rw [e1]; rfl) hS1 k
  · refine va_newa (H0 := H) (atype := atype) (a0 := (N, pk_arr Γ (pk_nw M (.inl (.long, N))) M.1.length .long)) C.1 C.2.1 (C.2.2.2.2.2.2.2.1 _ hw) hty hK hR.2.2.1 (pk_w_D Γ M) (pk_S0 hS) hA (pk_arr_nw_long Γ M N) hn hN (by show N * 8 ≤ _; omega) (Nat.le_of_ble_eq_true h3) (Nat.le_of_ble_eq_true h4) hd (fun a cA H1 hK1 hP1 hD1 hS1 => ?_)
    have e1 : cA = Γ.2.2.1 .long := Option.some.inj ((hK1.2 5 _ rfl).2.symm.trans (hK.2 2 _ rfl).2)
    exact pk_made C hz hR hS hL hP1 hD1 (by rw [e1]; rfl) hS1 k
theorem pk_newq {idx N t0 : Nat} {C0 : String} {n : Int32} (hd : decode cc pc = .ok (.anewarray idx, 3)) (ht : pk_tq t0 C0) (hw1 : Cond.classLink κ.1 idx C0 ∈ pk_tbl) (hw2 : Cond.arrayOver (.object C0) ∈ pk_tbl) (hn : ¬ n < 0) (hN : n.toNatClampNeg = N) (hb : N ≤ 60000) (h3 : Nat.ble (cu + 1) κ.2.2.2.2.1.cells = true) (h4 : Nat.ble (su + N) κ.2.2.2.2.1.slots = true)
    (k : pk_G Γ κ cc (pk_nw M (.inl (.object C0, N))) ls (.ref M.1.length :: st) (pc + 3) (cu + 1) (su + N)) : pk_G Γ κ cc M ls (.int n :: st) pc cu su := by
  intro p e s m below meth c H locs arr C hz hR hS hL
  have hA : ∀ q, H.size ≤ q → pk_A Γ q := fun q hq => by
    show Γ.2.2.2.1 ≤ q
    have := hR.2.1
    omega
  have hK := hR.2.2.2.1
  refine va_newq (H0 := H) (C := C0) C.1 C.2.1 C.2.2.2.2.2.1 (C.2.2.2.2.2.2.2.1 _ hw1) (va_AO.of (C.2.2.2.2.2.2.2.1 _ hw2)) hK hR.2.2.1 (pk_w_D Γ M) (pk_S0 hS) hA hn hN (by omega) (Nat.le_of_ble_eq_true h3) (Nat.le_of_ble_eq_true h4) hd (fun a cA H1 hK1 hP1 hD1 hS1 => ?_)
  have ht' : (pk_tys Γ)[t0]? = some (Γ.2.2.1 (.object C0), .object C0) := by
    rcases ht with ⟨rfl, rfl⟩ | ⟨rfl, rfl⟩ <;> rfl
  obtain ⟨k1, c1, -, -, -, f1⟩ := (hK1.2 5 _ rfl).2
  obtain ⟨k2, c2, -, -, -, f2⟩ := (hK.2 t0 _ ht').2
  have e1 : cA = Γ.2.2.1 (.object C0) := Option.some.inj (f1.symm.trans f2)
  refine pk_made C hz hR hS hL hP1 hD1 ?_ hS1 k
  rw [e1]
  simp only [pk_cell, pk_arr, pk_nw, if_true]
  rfl
theorem pk_objInit {idx a : Nat} (hd : decode cc pc = .ok (.invokespecial idx, 3)) (hw1 : Cond.methodLink κ.1 idx objectInit ∈ pk_tbl) (hw2 : Cond.instanceMethod objectInit ∈ pk_tbl) (hw3 : Cond.code objectInit ⟨#[0xb1]⟩ 1 none ∈ pk_tbl) (h1 : Nat.ble 1 κ.2.2.2.2.1.frames = true) (h2 : Nat.ble 20 κ.2.2.2.2.1.locals = true) (h5 : Nat.ble ((st.map fun v => v.category).sum) 8 = true)
    (k : pk_G Γ κ cc M ls st (pc + 3) cu su) : pk_G Γ κ cc M ls (.ref a :: st) pc cu su := by
  intro p e s m below meth c H locs arr C hz hR hS hL
  have hcat : ((st.map (pk_gv Γ)).map fun v => v.category).sum ≤ 8 := by
    rw [List.map_map, show ((fun v : Value => v.category) ∘ pk_gv Γ) = (fun v : Value => v.category) from funext (pk_gv_cat Γ)]
    exact Nat.le_of_ble_eq_true h5
  have hloc := Nat.le_of_ble_eq_true h2
  exact W.objInit C.1 C.2.1 C.2.2.2.2.2.1 (C.2.2.2.2.2.2.2.1 _ hw1) (C.2.2.2.2.2.2.2.1 _ hw2) (C.2.2.2.2.2.2.2.1 _ hw3) rfl (by show arr.size = _; rw [hL.2.1, C.2.2.1]) rfl hd (Nat.le_of_ble_eq_true h1) (by show 2 * 0 + _ + 12 ≤ _; omega) (k p e s m below meth c H locs arr C hz hR hS hL)
theorem pk_copyI {idx a0 a n0 n1 : Nat} {sp dp n : Int32} (hd : decode cc pc = .ok (.invokestatic idx, 3)) (hw1 : Cond.methodLink κ.1 idx arraycopyName ∈ pk_tbl) (hw2 : Cond.native arraycopyName ∈ pk_tbl) (hw3 : Cond.static arraycopyName ∈ pk_tbl) (hw4 : Cond.initialized "java/lang/System" ∈ pk_tbl) (hs0 : pk_S M a0 = some (.inl (.int, n0))) (hs1 : pk_S M a = some (.inl (.int, n1))) (hq0 : 5 ≤ a0) (hq1 : 5 ≤ a) (g1 : ¬ sp < 0) (g2 : ¬ dp < 0) (g3 : ¬ n < 0) (g4 : sp.toNatClampNeg + n.toNatClampNeg ≤ n0) (g5 : dp.toNatClampNeg + n.toNatClampNeg ≤ n1)
    (h1 : Nat.ble 1 κ.2.2.2.2.1.frames = true) (h2 : Nat.ble ((st.map fun v => v.category).sum + (nativeFrameWords "java/lang/System" "arraycopy" 5 + 11)) κ.2.2.2.2.1.locals = true)
    (k : pk_G Γ κ cc (pk_cI M a0 sp.toNatClampNeg a dp.toNatClampNeg n.toNatClampNeg) ls st (pc + 3) cu su) : pk_G Γ κ cc M ls (.int n :: .int dp :: .ref a :: .int sp :: .ref a0 :: st) pc cu su := by
  intro p e s m below meth c H locs arr C hz hR hS hL
  refine va_copyi (H0 := H) C.1 C.2.1 (by rw [C.2.2.1, hL.2.1]) C.2.2.2.2.2.1 (C.2.2.2.2.2.2.2.1 _ hw1) (C.2.2.2.2.2.2.2.1 _ hw2) (C.2.2.2.2.2.2.2.1 _ hw3) (C.2.2.2.2.2.2.2.1 _ hw4) hR.2.2.2.1 hR.2.2.1 (pk_w_D Γ M) (pk_S0 hS) (a0 - 5) (a - 5) 0 0 (pk_w_at (Γ := Γ) hq0 hs0) (pk_w_at (Γ := Γ) hq1 hs1) rfl rfl rfl g1 g2 g3 g4 g5 (fun _ _ => rfl) (Nat.le_of_ble_eq_true h1) ?_ hd (fun H1 locs1 hP1 _ hS1 => pk_fin C hz hR hS hL (pk_off_cI M a0 _ a _ _) hq1 hs1 hP1 ?_ hS1 k)
  · rw [List.map_map, show ((fun v : Value => v.category) ∘ pk_gv Γ) = (fun v : Value => v.category) from funext (pk_gv_cat Γ)]
    exact Nat.le_of_ble_eq_true h2
  · have hf : va_cpy (M.2.1 a0) (M.2.1 a) sp.toNatClampNeg dp.toNatClampNeg n.toNatClampNeg = (pk_cI M a0 sp.toNatClampNeg a dp.toNatClampNeg n.toNatClampNeg).2.1 a := by
      funext j
      simp [va_cpy, pk_cI]
    simp only [pk_cell, pk_arr, hf]
theorem pk_copyJ {idx a0 a n0 n1 : Nat} {sp dp n : Int32} (hd : decode cc pc = .ok (.invokestatic idx, 3)) (hw1 : Cond.methodLink κ.1 idx arraycopyName ∈ pk_tbl) (hw2 : Cond.native arraycopyName ∈ pk_tbl) (hw3 : Cond.static arraycopyName ∈ pk_tbl) (hw4 : Cond.initialized "java/lang/System" ∈ pk_tbl) (hs0 : pk_S M a0 = some (.inl (.long, n0))) (hs1 : pk_S M a = some (.inl (.long, n1))) (hq0 : 5 ≤ a0) (hq1 : 5 ≤ a) (g1 : ¬ sp < 0) (g2 : ¬ dp < 0) (g3 : ¬ n < 0) (g4 : sp.toNatClampNeg + n.toNatClampNeg ≤ n0) (g5 : dp.toNatClampNeg + n.toNatClampNeg ≤ n1)
    (h1 : Nat.ble 1 κ.2.2.2.2.1.frames = true) (h2 : Nat.ble ((st.map fun v => v.category).sum + (nativeFrameWords "java/lang/System" "arraycopy" 5 + 11)) κ.2.2.2.2.1.locals = true)
    (k : pk_G Γ κ cc (pk_cJ M a0 sp.toNatClampNeg a dp.toNatClampNeg n.toNatClampNeg) ls st (pc + 3) cu su) : pk_G Γ κ cc M ls (.int n :: .int dp :: .ref a :: .int sp :: .ref a0 :: st) pc cu su := by
  intro p e s m below meth c H locs arr C hz hR hS hL
  refine va_copyl (H0 := H) C.1 C.2.1 (by rw [C.2.2.1, hL.2.1]) C.2.2.2.2.2.1 (C.2.2.2.2.2.2.2.1 _ hw1) (C.2.2.2.2.2.2.2.1 _ hw2) (C.2.2.2.2.2.2.2.1 _ hw3) (C.2.2.2.2.2.2.2.1 _ hw4) hR.2.2.2.1 hR.2.2.1 (pk_w_D Γ M) (pk_S0 hS) (a0 - 5) (a - 5) 2 2 (pk_w_at (Γ := Γ) hq0 hs0) (pk_w_at (Γ := Γ) hq1 hs1) rfl rfl rfl g1 g2 g3 g4 g5 (fun _ _ => rfl) (Nat.le_of_ble_eq_true h1) ?_ hd (fun H1 locs1 hP1 _ hS1 => pk_fin C hz hR hS hL (pk_off_cJ M a0 _ a _ _) hq1 hs1 hP1 ?_ hS1 k)
  · rw [List.map_map, show ((fun v : Value => v.category) ∘ pk_gv Γ) = (fun v : Value => v.category) from funext (pk_gv_cat Γ)]
    exact Nat.le_of_ble_eq_true h2
  · have hf : va_cpy (M.2.2.1 a0) (M.2.2.1 a) sp.toNatClampNeg dp.toNatClampNeg n.toNatClampNeg = (pk_cJ M a0 sp.toNatClampNeg a dp.toNatClampNeg n.toNatClampNeg).2.2.1 a := by
      funext j
      simp [va_cpy, pk_cJ]
    simp only [pk_cell, pk_arr, hf]
end PkN
end
